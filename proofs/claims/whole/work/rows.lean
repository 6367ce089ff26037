section
def lw_okq (q : MethodName × Nat) : Prop := (q.1.cls ≠ "java/lang/invoke/MethodHandle" ∧ q.1.cls ≠ "java/lang/invoke/VarHandle") ∧ Cond.instantiable q.1.cls q.2 ∈ tables_1 ∧ Cond.privateMethod q.1 ∈ tables_1 ∧ Cond.instanceMethod q.1 ∈ tables_1
theorem lw_p0 : lw_okq (⟨"ToldFacts", "deskAt", "(I)LToldFacts$Desk;"⟩, 6) := ⟨⟨by decide +kernel, by decide +kernel⟩, List.mem_of_getElem? (i := 10) (by decide +kernel), List.mem_of_getElem? (i := 122) (by decide +kernel), List.mem_of_getElem? (i := 123) (by decide +kernel)⟩
theorem lw_p1 : lw_okq (⟨"ToldFacts$FactSet", "clear", "()V"⟩, 1) := ⟨⟨by decide +kernel, by decide +kernel⟩, List.mem_of_getElem? (i := 56) (by decide +kernel), List.mem_of_getElem? (i := 130) (by decide +kernel), List.mem_of_getElem? (i := 131) (by decide +kernel)⟩
theorem lw_p2 : lw_okq (⟨"ToldFacts", "tellReplacing", "(LToldFacts$Desk;IJLToldFacts$FactSet;)I"⟩, 6) := ⟨⟨by decide +kernel, by decide +kernel⟩, List.mem_of_getElem? (i := 10) (by decide +kernel), List.mem_of_getElem? (i := 138) (by decide +kernel), List.mem_of_getElem? (i := 139) (by decide +kernel)⟩
theorem lw_p3 : lw_okq (⟨"ToldFacts$Desk", "nextNumber", "()I"⟩, 6) := ⟨⟨by decide +kernel, by decide +kernel⟩, List.mem_of_getElem? (i := 89) (by decide +kernel), List.mem_of_getElem? (i := 142) (by decide +kernel), List.mem_of_getElem? (i := 143) (by decide +kernel)⟩
theorem lw_p4 : lw_okq (⟨"ToldFacts$Desk", "nextTime", "()I"⟩, 6) := ⟨⟨by decide +kernel, by decide +kernel⟩, List.mem_of_getElem? (i := 89) (by decide +kernel), List.mem_of_getElem? (i := 146) (by decide +kernel), List.mem_of_getElem? (i := 147) (by decide +kernel)⟩
theorem lw_p5 : lw_okq (⟨"ToldFacts$Facts", "append", "(IIJILToldFacts$FactSet;)I"⟩, 8) := ⟨⟨by decide +kernel, by decide +kernel⟩, List.mem_of_getElem? (i := 20) (by decide +kernel), List.mem_of_getElem? (i := 150) (by decide +kernel), List.mem_of_getElem? (i := 151) (by decide +kernel)⟩
theorem lw_p6 : lw_okq (⟨"ToldFacts$FactSet", "has", "(I)Z"⟩, 1) := ⟨⟨by decide +kernel, by decide +kernel⟩, List.mem_of_getElem? (i := 56) (by decide +kernel), List.mem_of_getElem? (i := 154) (by decide +kernel), List.mem_of_getElem? (i := 155) (by decide +kernel)⟩
theorem lw_p7 : lw_okq (⟨"ToldFacts$Desk", "hear", "(I)V"⟩, 6) := ⟨⟨by decide +kernel, by decide +kernel⟩, List.mem_of_getElem? (i := 89) (by decide +kernel), List.mem_of_getElem? (i := 161) (by decide +kernel), List.mem_of_getElem? (i := 162) (by decide +kernel)⟩
theorem lw_p8 : lw_okq (⟨"ToldFacts$FactSet", "add", "(I)V"⟩, 1) := ⟨⟨by decide +kernel, by decide +kernel⟩, List.mem_of_getElem? (i := 56) (by decide +kernel), List.mem_of_getElem? (i := 165) (by decide +kernel), List.mem_of_getElem? (i := 166) (by decide +kernel)⟩
theorem lw_p9 : lw_okq (⟨"ToldFacts$Facts", "withNumber", "(I)I"⟩, 8) := ⟨⟨by decide +kernel, by decide +kernel⟩, List.mem_of_getElem? (i := 20) (by decide +kernel), List.mem_of_getElem? (i := 173) (by decide +kernel), List.mem_of_getElem? (i := 174) (by decide +kernel)⟩
theorem lw_p10 : lw_okq (⟨"ToldFacts$Facts", "standsAmong", "(LToldFacts$FactSet;I)Z"⟩, 8) := ⟨⟨by decide +kernel, by decide +kernel⟩, List.mem_of_getElem? (i := 20) (by decide +kernel), List.mem_of_getElem? (i := 177) (by decide +kernel), List.mem_of_getElem? (i := 178) (by decide +kernel)⟩
theorem lw_p11 : lw_okq (⟨"ToldFacts$Desk", "learnFrom", "(LToldFacts$Desk;)V"⟩, 6) := ⟨⟨by decide +kernel, by decide +kernel⟩, List.mem_of_getElem? (i := 89) (by decide +kernel), List.mem_of_getElem? (i := 186) (by decide +kernel), List.mem_of_getElem? (i := 187) (by decide +kernel)⟩
theorem lw_p12 : lw_okq (⟨"ToldFacts$FactSet", "addAll", "(LToldFacts$FactSet;)V"⟩, 1) := ⟨⟨by decide +kernel, by decide +kernel⟩, List.mem_of_getElem? (i := 56) (by decide +kernel), List.mem_of_getElem? (i := 190) (by decide +kernel), List.mem_of_getElem? (i := 191) (by decide +kernel)⟩
theorem lw_p13 : lw_okq (⟨"ToldFacts$Facts", "countConflicts", "(LToldFacts$FactSet;)I"⟩, 8) := ⟨⟨by decide +kernel, by decide +kernel⟩, List.mem_of_getElem? (i := 20) (by decide +kernel), List.mem_of_getElem? (i := 197) (by decide +kernel), List.mem_of_getElem? (i := 198) (by decide +kernel)⟩
theorem lw_p14 : lw_okq (⟨"ToldFacts$Facts", "isFirstOfSpot", "(I)Z"⟩, 8) := ⟨⟨by decide +kernel, by decide +kernel⟩, List.mem_of_getElem? (i := 20) (by decide +kernel), List.mem_of_getElem? (i := 201) (by decide +kernel), List.mem_of_getElem? (i := 202) (by decide +kernel)⟩
theorem lw_p15 : lw_okq (⟨"ToldFacts$Facts", "isConflictFrom", "(ILToldFacts$FactSet;)Z"⟩, 8) := ⟨⟨by decide +kernel, by decide +kernel⟩, List.mem_of_getElem? (i := 20) (by decide +kernel), List.mem_of_getElem? (i := 205) (by decide +kernel), List.mem_of_getElem? (i := 206) (by decide +kernel)⟩
def lw_privs_1 : List (MethodName × Nat) := [(⟨"ToldFacts", "deskAt", "(I)LToldFacts$Desk;"⟩, 6), (⟨"ToldFacts$FactSet", "clear", "()V"⟩, 1), (⟨"ToldFacts", "tellReplacing", "(LToldFacts$Desk;IJLToldFacts$FactSet;)I"⟩, 6), (⟨"ToldFacts$Desk", "nextNumber", "()I"⟩, 6), (⟨"ToldFacts$Desk", "nextTime", "()I"⟩, 6), (⟨"ToldFacts$Facts", "append", "(IIJILToldFacts$FactSet;)I"⟩, 8), (⟨"ToldFacts$FactSet", "has", "(I)Z"⟩, 1), (⟨"ToldFacts$Desk", "hear", "(I)V"⟩, 6), (⟨"ToldFacts$FactSet", "add", "(I)V"⟩, 1), (⟨"ToldFacts$Facts", "withNumber", "(I)I"⟩, 8), (⟨"ToldFacts$Facts", "standsAmong", "(LToldFacts$FactSet;I)Z"⟩, 8), (⟨"ToldFacts$Desk", "learnFrom", "(LToldFacts$Desk;)V"⟩, 6), (⟨"ToldFacts$FactSet", "addAll", "(LToldFacts$FactSet;)V"⟩, 1), (⟨"ToldFacts$Facts", "countConflicts", "(LToldFacts$FactSet;)I"⟩, 8), (⟨"ToldFacts$Facts", "isFirstOfSpot", "(I)Z"⟩, 8), (⟨"ToldFacts$Facts", "isConflictFrom", "(ILToldFacts$FactSet;)Z"⟩, 8)]
theorem lw_r1 : ∀ q ∈ lw_privs_1, lw_okq q := List.forall_mem_cons.mpr ⟨lw_p0, List.forall_mem_cons.mpr ⟨lw_p1, List.forall_mem_cons.mpr ⟨lw_p2, List.forall_mem_cons.mpr ⟨lw_p3, List.forall_mem_cons.mpr ⟨lw_p4, List.forall_mem_cons.mpr ⟨lw_p5, List.forall_mem_cons.mpr ⟨lw_p6, List.forall_mem_cons.mpr ⟨lw_p7, List.forall_mem_cons.mpr ⟨lw_p8, List.forall_mem_cons.mpr ⟨lw_p9, List.forall_mem_cons.mpr ⟨lw_p10, List.forall_mem_cons.mpr ⟨lw_p11, List.forall_mem_cons.mpr ⟨lw_p12, List.forall_mem_cons.mpr ⟨lw_p13, List.forall_mem_cons.mpr ⟨lw_p14, List.forall_mem_cons.mpr ⟨lw_p15, fun _ h => absurd h List.not_mem_nil⟩⟩⟩⟩⟩⟩⟩⟩⟩⟩⟩⟩⟩⟩⟩⟩
theorem lw_p16 : lw_okq (⟨"ToldFacts$Facts", "pickToldBy", "(JLToldFacts$FactSet;LToldFacts$FactSet;)V"⟩, 8) := ⟨⟨by decide +kernel, by decide +kernel⟩, List.mem_of_getElem? (i := 20) (by decide +kernel), List.mem_of_getElem? (i := 215) (by decide +kernel), List.mem_of_getElem? (i := 216) (by decide +kernel)⟩
theorem lw_p17 : lw_okq (⟨"ToldFacts$Facts", "latestStanding", "(LToldFacts$FactSet;IIJ)I"⟩, 8) := ⟨⟨by decide +kernel, by decide +kernel⟩, List.mem_of_getElem? (i := 20) (by decide +kernel), List.mem_of_getElem? (i := 221) (by decide +kernel), List.mem_of_getElem? (i := 222) (by decide +kernel)⟩
theorem lw_p18 : lw_okq (⟨"ToldFacts$Facts", "isLater", "(II)Z"⟩, 8) := ⟨⟨by decide +kernel, by decide +kernel⟩, List.mem_of_getElem? (i := 20) (by decide +kernel), List.mem_of_getElem? (i := 229) (by decide +kernel), List.mem_of_getElem? (i := 230) (by decide +kernel)⟩
theorem lw_p19 : lw_okq (⟨"ToldFacts$Facts", "conflictSpot", "(LToldFacts$FactSet;II)I"⟩, 8) := ⟨⟨by decide +kernel, by decide +kernel⟩, List.mem_of_getElem? (i := 20) (by decide +kernel), List.mem_of_getElem? (i := 237) (by decide +kernel), List.mem_of_getElem? (i := 238) (by decide +kernel)⟩
theorem lw_p20 : lw_okq (⟨"ToldFacts$Facts", "pickStanding", "(LToldFacts$FactSet;ILToldFacts$FactSet;)V"⟩, 8) := ⟨⟨by decide +kernel, by decide +kernel⟩, List.mem_of_getElem? (i := 20) (by decide +kernel), List.mem_of_getElem? (i := 241) (by decide +kernel), List.mem_of_getElem? (i := 242) (by decide +kernel)⟩
theorem lw_p21 : lw_okq (⟨"ToldFacts$FactSet", "size", "()I"⟩, 1) := ⟨⟨by decide +kernel, by decide +kernel⟩, List.mem_of_getElem? (i := 56) (by decide +kernel), List.mem_of_getElem? (i := 252) (by decide +kernel), List.mem_of_getElem? (i := 253) (by decide +kernel)⟩
theorem lw_p22 : lw_okq (⟨"ToldFacts$Facts", "inOrder", "(LToldFacts$FactSet;I)I"⟩, 8) := ⟨⟨by decide +kernel, by decide +kernel⟩, List.mem_of_getElem? (i := 20) (by decide +kernel), List.mem_of_getElem? (i := 262) (by decide +kernel), List.mem_of_getElem? (i := 263) (by decide +kernel)⟩
theorem lw_p23 : lw_okq (⟨"ToldFacts", "numberOrNone", "(I)I"⟩, 6) := ⟨⟨by decide +kernel, by decide +kernel⟩, List.mem_of_getElem? (i := 10) (by decide +kernel), List.mem_of_getElem? (i := 266) (by decide +kernel), List.mem_of_getElem? (i := 267) (by decide +kernel)⟩
theorem lw_p24 : lw_okq (⟨"ToldFacts$FactSet", "isSameAs", "(LToldFacts$FactSet;)Z"⟩, 1) := ⟨⟨by decide +kernel, by decide +kernel⟩, List.mem_of_getElem? (i := 56) (by decide +kernel), List.mem_of_getElem? (i := 279) (by decide +kernel), List.mem_of_getElem? (i := 280) (by decide +kernel)⟩
theorem lw_p25 : lw_okq (⟨"ToldFacts$Desk", "learnPending", "()V"⟩, 6) := ⟨⟨by decide +kernel, by decide +kernel⟩, List.mem_of_getElem? (i := 89) (by decide +kernel), List.mem_of_getElem? (i := 291) (by decide +kernel), List.mem_of_getElem? (i := 292) (by decide +kernel)⟩
theorem lw_p26 : lw_okq (⟨"ToldFacts", "playTurn", "(LToldFacts$Draw;)V"⟩, 6) := ⟨⟨by decide +kernel, by decide +kernel⟩, List.mem_of_getElem? (i := 10) (by decide +kernel), List.mem_of_getElem? (i := 310) (by decide +kernel), List.mem_of_getElem? (i := 311) (by decide +kernel)⟩
theorem lw_p27 : lw_okq (⟨"ToldFacts$Draw", "below", "(I)I"⟩, 1) := ⟨⟨by decide +kernel, by decide +kernel⟩, List.mem_of_getElem? (i := 300) (by decide +kernel), List.mem_of_getElem? (i := 314) (by decide +kernel), List.mem_of_getElem? (i := 315) (by decide +kernel)⟩
theorem lw_p28 : lw_okq (⟨"ToldFacts$Facts", "pickEqual", "(LToldFacts$FactSet;IJLToldFacts$FactSet;)V"⟩, 8) := ⟨⟨by decide +kernel, by decide +kernel⟩, List.mem_of_getElem? (i := 20) (by decide +kernel), List.mem_of_getElem? (i := 329) (by decide +kernel), List.mem_of_getElem? (i := 330) (by decide +kernel)⟩
theorem lw_p29 : lw_okq (⟨"ToldFactsModel", "isDesk", "(I)Z"⟩, 18) := ⟨⟨by decide +kernel, by decide +kernel⟩, List.mem_of_getElem? (i := 335) (by decide +kernel), List.mem_of_getElem? (i := 406) (by decide +kernel), List.mem_of_getElem? (i := 407) (by decide +kernel)⟩
theorem lw_p30 : lw_okq (⟨"ToldFactsModel", "add", "(IIIJJ)I"⟩, 18) := ⟨⟨by decide +kernel, by decide +kernel⟩, List.mem_of_getElem? (i := 335) (by decide +kernel), List.mem_of_getElem? (i := 411) (by decide +kernel), List.mem_of_getElem? (i := 412) (by decide +kernel)⟩
theorem lw_p31 : lw_okq (⟨"ToldFactsModel", "place", "(I)I"⟩, 18) := ⟨⟨by decide +kernel, by decide +kernel⟩, List.mem_of_getElem? (i := 335) (by decide +kernel), List.mem_of_getElem? (i := 419) (by decide +kernel), List.mem_of_getElem? (i := 420) (by decide +kernel)⟩
def lw_privs_2 : List (MethodName × Nat) := [(⟨"ToldFacts$Facts", "pickToldBy", "(JLToldFacts$FactSet;LToldFacts$FactSet;)V"⟩, 8), (⟨"ToldFacts$Facts", "latestStanding", "(LToldFacts$FactSet;IIJ)I"⟩, 8), (⟨"ToldFacts$Facts", "isLater", "(II)Z"⟩, 8), (⟨"ToldFacts$Facts", "conflictSpot", "(LToldFacts$FactSet;II)I"⟩, 8), (⟨"ToldFacts$Facts", "pickStanding", "(LToldFacts$FactSet;ILToldFacts$FactSet;)V"⟩, 8), (⟨"ToldFacts$FactSet", "size", "()I"⟩, 1), (⟨"ToldFacts$Facts", "inOrder", "(LToldFacts$FactSet;I)I"⟩, 8), (⟨"ToldFacts", "numberOrNone", "(I)I"⟩, 6), (⟨"ToldFacts$FactSet", "isSameAs", "(LToldFacts$FactSet;)Z"⟩, 1), (⟨"ToldFacts$Desk", "learnPending", "()V"⟩, 6), (⟨"ToldFacts", "playTurn", "(LToldFacts$Draw;)V"⟩, 6), (⟨"ToldFacts$Draw", "below", "(I)I"⟩, 1), (⟨"ToldFacts$Facts", "pickEqual", "(LToldFacts$FactSet;IJLToldFacts$FactSet;)V"⟩, 8), (⟨"ToldFactsModel", "isDesk", "(I)Z"⟩, 18), (⟨"ToldFactsModel", "add", "(IIIJJ)I"⟩, 18), (⟨"ToldFactsModel", "place", "(I)I"⟩, 18)]
theorem lw_r2 : ∀ q ∈ lw_privs_2, lw_okq q := List.forall_mem_cons.mpr ⟨lw_p16, List.forall_mem_cons.mpr ⟨lw_p17, List.forall_mem_cons.mpr ⟨lw_p18, List.forall_mem_cons.mpr ⟨lw_p19, List.forall_mem_cons.mpr ⟨lw_p20, List.forall_mem_cons.mpr ⟨lw_p21, List.forall_mem_cons.mpr ⟨lw_p22, List.forall_mem_cons.mpr ⟨lw_p23, List.forall_mem_cons.mpr ⟨lw_p24, List.forall_mem_cons.mpr ⟨lw_p25, List.forall_mem_cons.mpr ⟨lw_p26, List.forall_mem_cons.mpr ⟨lw_p27, List.forall_mem_cons.mpr ⟨lw_p28, List.forall_mem_cons.mpr ⟨lw_p29, List.forall_mem_cons.mpr ⟨lw_p30, List.forall_mem_cons.mpr ⟨lw_p31, fun _ h => absurd h List.not_mem_nil⟩⟩⟩⟩⟩⟩⟩⟩⟩⟩⟩⟩⟩⟩⟩⟩
theorem lw_p32 : lw_okq (⟨"ToldFactsModel", "look", "(I)V"⟩, 18) := ⟨⟨by decide +kernel, by decide +kernel⟩, List.mem_of_getElem? (i := 335) (by decide +kernel), List.mem_of_getElem? (i := 423) (by decide +kernel), List.mem_of_getElem? (i := 424) (by decide +kernel)⟩
theorem lw_p33 : lw_okq (⟨"ToldFactsModel", "conflicts", "(I)I"⟩, 18) := ⟨⟨by decide +kernel, by decide +kernel⟩, List.mem_of_getElem? (i := 335) (by decide +kernel), List.mem_of_getElem? (i := 431) (by decide +kernel), List.mem_of_getElem? (i := 432) (by decide +kernel)⟩
theorem lw_p34 : lw_okq (⟨"ToldFactsModel", "isFirstOfConflict", "(I)Z"⟩, 18) := ⟨⟨by decide +kernel, by decide +kernel⟩, List.mem_of_getElem? (i := 335) (by decide +kernel), List.mem_of_getElem? (i := 435) (by decide +kernel), List.mem_of_getElem? (i := 436) (by decide +kernel)⟩
theorem lw_p35 : lw_okq (⟨"ToldFactsModel", "areOne", "(II)Z"⟩, 18) := ⟨⟨by decide +kernel, by decide +kernel⟩, List.mem_of_getElem? (i := 335) (by decide +kernel), List.mem_of_getElem? (i := 439) (by decide +kernel), List.mem_of_getElem? (i := 440) (by decide +kernel)⟩
theorem lw_p36 : lw_okq (⟨"ToldFactsModel", "isBefore", "(II)Z"⟩, 18) := ⟨⟨by decide +kernel, by decide +kernel⟩, List.mem_of_getElem? (i := 335) (by decide +kernel), List.mem_of_getElem? (i := 447) (by decide +kernel), List.mem_of_getElem? (i := 448) (by decide +kernel)⟩
theorem lw_p37 : lw_okq (⟨"ToldFactsModel", "standing", "(II)I"⟩, 18) := ⟨⟨by decide +kernel, by decide +kernel⟩, List.mem_of_getElem? (i := 335) (by decide +kernel), List.mem_of_getElem? (i := 451) (by decide +kernel), List.mem_of_getElem? (i := 452) (by decide +kernel)⟩
theorem lw_p38 : lw_okq (⟨"ToldFactsModel", "stands", "(IIJ)Z"⟩, 18) := ⟨⟨by decide +kernel, by decide +kernel⟩, List.mem_of_getElem? (i := 335) (by decide +kernel), List.mem_of_getElem? (i := 464) (by decide +kernel), List.mem_of_getElem? (i := 465) (by decide +kernel)⟩
theorem lw_p39 : lw_okq (⟨"ToldFactsModel", "isKnown", "(IIJ)Z"⟩, 18) := ⟨⟨by decide +kernel, by decide +kernel⟩, List.mem_of_getElem? (i := 335) (by decide +kernel), List.mem_of_getElem? (i := 468) (by decide +kernel), List.mem_of_getElem? (i := 469) (by decide +kernel)⟩
theorem lw_p40 : lw_okq (⟨"ToldFactsModel", "draw", "(I)I"⟩, 18) := ⟨⟨by decide +kernel, by decide +kernel⟩, List.mem_of_getElem? (i := 335) (by decide +kernel), List.mem_of_getElem? (i := 496) (by decide +kernel), List.mem_of_getElem? (i := 497) (by decide +kernel)⟩
def lw_privs_3 : List (MethodName × Nat) := [(⟨"ToldFactsModel", "look", "(I)V"⟩, 18), (⟨"ToldFactsModel", "conflicts", "(I)I"⟩, 18), (⟨"ToldFactsModel", "isFirstOfConflict", "(I)Z"⟩, 18), (⟨"ToldFactsModel", "areOne", "(II)Z"⟩, 18), (⟨"ToldFactsModel", "isBefore", "(II)Z"⟩, 18), (⟨"ToldFactsModel", "standing", "(II)I"⟩, 18), (⟨"ToldFactsModel", "stands", "(IIJ)Z"⟩, 18), (⟨"ToldFactsModel", "isKnown", "(IIJ)Z"⟩, 18), (⟨"ToldFactsModel", "draw", "(I)I"⟩, 18)]
theorem lw_r3 : ∀ q ∈ lw_privs_3, lw_okq q := List.forall_mem_cons.mpr ⟨lw_p32, List.forall_mem_cons.mpr ⟨lw_p33, List.forall_mem_cons.mpr ⟨lw_p34, List.forall_mem_cons.mpr ⟨lw_p35, List.forall_mem_cons.mpr ⟨lw_p36, List.forall_mem_cons.mpr ⟨lw_p37, List.forall_mem_cons.mpr ⟨lw_p38, List.forall_mem_cons.mpr ⟨lw_p39, List.forall_mem_cons.mpr ⟨lw_p40, fun _ h => absurd h List.not_mem_nil⟩⟩⟩⟩⟩⟩⟩⟩⟩
def lw_privs : List (MethodName × Nat) := lw_privs_1 ++ (lw_privs_2 ++ (lw_privs_3))
def lw_tbl : List Cond := k2_sels lw_privs ++ tables_1
theorem lw_privs_ok : ∀ q ∈ lw_privs, lw_okq q := by
  show ∀ q ∈ lw_privs_1 ++ (lw_privs_2 ++ (lw_privs_3)), lw_okq q
  exact List.forall_mem_append.mpr ⟨lw_r1, List.forall_mem_append.mpr ⟨lw_r2, lw_r3⟩⟩

def TB : List Cond := lw_tbl.filter goodWord
theorem TB_good (w : Cond) (h : w ∈ TB) : (w.onTables && w.keeps) = true ∨ ∃ ty, w = .arrayClass ty := good_of_word (List.mem_filter.mp h).2
theorem TB_in (w : Cond) (h : w ∈ TB) : w ∈ lw_tbl := (List.mem_filter.mp h).1
theorem tb_t {w : Cond} (i : Nat) (h : tables_1[i]? = some w) (g : goodWord w = true) : w ∈ TB := List.mem_filter.mpr ⟨List.mem_append_right _ (List.mem_of_getElem? h), g⟩
theorem tb_p {w : Cond} (i : Nat) (h : (k2_sels lw_privs)[i]? = some w) (g : goodWord w = true) : w ∈ TB := List.mem_filter.mpr ⟨List.mem_append_left _ (List.mem_of_getElem? h), g⟩
def isNest : Cond → Bool
  | .methodLinkNest .. => true
  | .fieldLinkNest .. => true
  | _ => false
def NW : List Cond := tables_1.filter isNest
theorem NW_in (w : Cond) (h : w ∈ NW) : w ∈ lw_tbl := List.mem_append_right _ (List.mem_filter.mp h).1
theorem nw_t {w : Cond} (i : Nat) (h : tables_1[i]? = some w) (g : isNest w = true) : w ∈ NW := List.mem_filter.mpr ⟨List.mem_of_getElem? h, g⟩
theorem NW_on : ∀ w ∈ NW, w.onTables = true := fun w hw => by
  have h := (List.mem_filter.mp hw).2
  cases w <;> first | rfl | (simp [isNest] at h)
theorem NW_warm : ∀ w ∈ NW, ∀ {s U : State}, s.WarmedH U.vm → va_Nw w s → va_Nw w U := fun w hw s U hW hz => by
  have h := (List.mem_filter.mp hw).2
  cases w <;> first | exact va_Nw.warmM hW hz | exact va_Nw.warmF hW hz | (simp [isNest] at h)
def R_T : String := "ToldFacts"
def F_T : u_T := fun k => match k with
  | 0 => ("ToldFacts", "desks", "[LToldFacts$Desk;", true)
  | 1 => ("ToldFacts", "batchDesks", "[I", true)
  | 2 => ("ToldFacts", "facts", "LToldFacts$Facts;", true)
  | 3 => ("ToldFacts", "picked", "LToldFacts$FactSet;", true)
  | 4 => ("ToldFacts", "deskCount", "I", false)
  | _ => ("ToldFacts", "batchCount", "I", false)
def ft_T : Nat → FieldType := fun k => match k with
  | 0 => .array (.object "ToldFacts$Desk")
  | 1 => .array .int
  | 2 => .object "ToldFacts$Facts"
  | 3 => .object "ToldFacts$FactSet"
  | 4 => .int
  | _ => .int
def R_S : String := "ToldFacts$FactSet"
def F_S : u_T := fun k => match k with
  | _ => ("ToldFacts$FactSet", "words", "[J", true)
def ft_S : Nat → FieldType := fun k => match k with
  | _ => .array .long
def R_A : String := "ToldFacts$Facts"
def F_A : u_T := fun k => match k with
  | 0 => ("ToldFacts$Facts", "numbers", "[I", true)
  | 1 => ("ToldFacts$Facts", "spots", "[I", true)
  | 2 => ("ToldFacts$Facts", "values", "[J", true)
  | 3 => ("ToldFacts$Facts", "times", "[I", true)
  | 4 => ("ToldFacts$Facts", "replacers", "[J", true)
  | 5 => ("ToldFacts$Facts", "byNumber", "[I", true)
  | 6 => ("ToldFacts$Facts", "bySpot", "[I", true)
  | _ => ("ToldFacts$Facts", "count", "I", false)
def ft_A : Nat → FieldType := fun k => match k with
  | 0 => .array .int
  | 1 => .array .int
  | 2 => .array .long
  | 3 => .array .int
  | 4 => .array .long
  | 5 => .array .int
  | 6 => .array .int
  | _ => .int
def R_K : String := "ToldFacts$Desk"
def F_K : u_T := fun k => match k with
  | 0 => ("ToldFacts$Desk", "number", "I", true)
  | 1 => ("ToldFacts$Desk", "knows", "LToldFacts$FactSet;", true)
  | 2 => ("ToldFacts$Desk", "pending", "LToldFacts$FactSet;", true)
  | 3 => ("ToldFacts$Desk", "clock", "I", false)
  | 4 => ("ToldFacts$Desk", "toldCount", "I", false)
  | _ => ("ToldFacts$Desk", "openBatch", "I", false)
def ft_K : Nat → FieldType := fun k => match k with
  | 0 => .int
  | 1 => .object "ToldFacts$FactSet"
  | 2 => .object "ToldFacts$FactSet"
  | 3 => .int
  | 4 => .int
  | _ => .int
def R_W : String := "ToldFacts$Draw"
def F_W : u_T := fun k => match k with
  | _ => ("ToldFacts$Draw", "x", "J", false)
def ft_W : Nat → FieldType := fun k => match k with
  | _ => .long
def R_M : String := "ToldFactsModel"
def F_M : u_T := fun k => match k with
  | 0 => ("ToldFactsModel", "desks", "I", false)
  | 1 => ("ToldFactsModel", "clock", "[J", true)
  | 2 => ("ToldFactsModel", "toldAt", "[I", true)
  | 3 => ("ToldFactsModel", "open", "[I", true)
  | 4 => ("ToldFactsModel", "number", "[I", true)
  | 5 => ("ToldFactsModel", "thing", "[I", true)
  | 6 => ("ToldFactsModel", "kind", "[I", true)
  | 7 => ("ToldFactsModel", "day", "[J", true)
  | 8 => ("ToldFactsModel", "value", "[J", true)
  | 9 => ("ToldFactsModel", "time", "[J", true)
  | 10 => ("ToldFactsModel", "batchOf", "[I", true)
  | 11 => ("ToldFactsModel", "replaces", "[Z", true)
  | 12 => ("ToldFactsModel", "knows", "[Z", true)
  | 13 => ("ToldFactsModel", "facts", "I", false)
  | 14 => ("ToldFactsModel", "batchDesk", "[I", true)
  | 15 => ("ToldFactsModel", "batches", "I", false)
  | 16 => ("ToldFactsModel", "stand", "[Z", true)
  | _ => ("ToldFactsModel", "drawn", "J", false)
def ft_M : Nat → FieldType := fun k => match k with
  | 0 => .int
  | 1 => .array .long
  | 2 => .array .int
  | 3 => .array .int
  | 4 => .array .int
  | 5 => .array .int
  | 6 => .array .int
  | 7 => .array .long
  | 8 => .array .long
  | 9 => .array .long
  | 10 => .array .int
  | 11 => .array .boolean
  | 12 => .array .boolean
  | 13 => .int
  | 14 => .array .int
  | 15 => .int
  | 16 => .array .boolean
  | _ => .long
def R_L : String := "ToldFactsLaw"
def R_J : String := "java/lang/Long"
def R_MM : String := "java/lang/Math"
abbrev vwCl : List vw_C := [(R_T, F_T, 6), (R_S, F_S, 1), (R_A, F_A, 8), (R_K, F_K, 6), (R_W, F_W, 1), (R_M, F_M, 18)]
def Ck (ci : Nat) (C : String) (T : u_T) (N : Nat) (ty : Nat → FieldType) : Prop := vwCl[ci]? = some (C, T, N) ∧ (∀ w ∈ u_ws C T N, w ∈ TB) ∧ (∀ k, k < N → parseFieldDescriptor (T k).2.2.1 = some (ty k)) ∧ (∀ a, a < N → ∀ b, b < N → a ≠ b → (T a).2.1 ≠ (T b).2.1) ∧ ∀ k, k < N → (T k).1 = C
theorem ws_T : ∀ w ∈ u_ws R_T F_T 6, w ∈ TB := fun w h => by
  have e : u_ws R_T F_T 6 = [72, 74, 76, 78, 80, 82].filterMap (fun i => tables_1[i]?) := by decide +kernel
  have g : (u_ws R_T F_T 6).all goodWord = true := by decide +kernel
  have h1 := List.all_eq_true.mp g w h
  rw [e] at h
  obtain ⟨i, -, hi⟩ := List.mem_filterMap.mp h
  exact tb_t i hi h1
theorem ck_T : Ck 0 R_T F_T 6 ft_T := ⟨rfl, ws_T, by decide +kernel, by decide +kernel, by decide +kernel⟩
theorem ws_S : ∀ w ∈ u_ws R_S F_S 1, w ∈ TB := fun w h => by
  have e : u_ws R_S F_S 1 = [63].filterMap (fun i => tables_1[i]?) := by decide +kernel
  have g : (u_ws R_S F_S 1).all goodWord = true := by decide +kernel
  have h1 := List.all_eq_true.mp g w h
  rw [e] at h
  obtain ⟨i, -, hi⟩ := List.mem_filterMap.mp h
  exact tb_t i hi h1
theorem ck_S : Ck 1 R_S F_S 1 ft_S := ⟨rfl, ws_S, by decide +kernel, by decide +kernel, by decide +kernel⟩
theorem ws_A : ∀ w ∈ u_ws R_A F_A 8, w ∈ TB := fun w h => by
  have e : u_ws R_A F_A 8 = [36, 38, 40, 42, 44, 46, 48, 50].filterMap (fun i => tables_1[i]?) := by decide +kernel
  have g : (u_ws R_A F_A 8).all goodWord = true := by decide +kernel
  have h1 := List.all_eq_true.mp g w h
  rw [e] at h
  obtain ⟨i, -, hi⟩ := List.mem_filterMap.mp h
  exact tb_t i hi h1
theorem ck_A : Ck 2 R_A F_A 8 ft_A := ⟨rfl, ws_A, by decide +kernel, by decide +kernel, by decide +kernel⟩
theorem ws_K : ∀ w ∈ u_ws R_K F_K 6, w ∈ TB := fun w h => by
  have e : u_ws R_K F_K 6 = [104, 106, 108, 110, 112, 114].filterMap (fun i => tables_1[i]?) := by decide +kernel
  have g : (u_ws R_K F_K 6).all goodWord = true := by decide +kernel
  have h1 := List.all_eq_true.mp g w h
  rw [e] at h
  obtain ⟨i, -, hi⟩ := List.mem_filterMap.mp h
  exact tb_t i hi h1
theorem ck_K : Ck 3 R_K F_K 6 ft_K := ⟨rfl, ws_K, by decide +kernel, by decide +kernel, by decide +kernel⟩
theorem ws_W : ∀ w ∈ u_ws R_W F_W 1, w ∈ TB := fun w h => by
  have e : u_ws R_W F_W 1 = [306].filterMap (fun i => tables_1[i]?) := by decide +kernel
  have g : (u_ws R_W F_W 1).all goodWord = true := by decide +kernel
  have h1 := List.all_eq_true.mp g w h
  rw [e] at h
  obtain ⟨i, -, hi⟩ := List.mem_filterMap.mp h
  exact tb_t i hi h1
theorem ck_W : Ck 4 R_W F_W 1 ft_W := ⟨rfl, ws_W, by decide +kernel, by decide +kernel, by decide +kernel⟩
theorem ws_M : ∀ w ∈ u_ws R_M F_M 18, w ∈ TB := fun w h => by
  have e : u_ws R_M F_M 18 = [359, 361, 363, 365, 367, 369, 371, 373, 375, 377, 379, 381, 383, 385, 387, 389, 391, 393].filterMap (fun i => tables_1[i]?) := by decide +kernel
  have g : (u_ws R_M F_M 18).all goodWord = true := by decide +kernel
  have h1 := List.all_eq_true.mp g w h
  rw [e] at h
  obtain ⟨i, -, hi⟩ := List.mem_filterMap.mp h
  exact tb_t i hi h1
theorem ck_M : Ck 5 R_M F_M 18 ft_M := ⟨rfl, ws_M, by decide +kernel, by decide +kernel, by decide +kernel⟩
abbrev b_T_init : ByteArray := prog_1_method_1_code
def y_T_init : MethodName := ⟨R_T, "<init>", "()V"⟩
theorem cd_T_init : Cond.code y_T_init b_T_init 1 none ∈ TB := tb_t 13 (by decide +kernel) (by decide +kernel)
abbrev b_A_init : ByteArray := prog_5_method_1_code
def y_A_init : MethodName := ⟨R_A, "<init>", "()V"⟩
theorem cd_A_init : Cond.code y_A_init b_A_init 1 none ∈ TB := tb_t 23 (by decide +kernel) (by decide +kernel)
abbrev b_S_init : ByteArray := prog_4_method_1_code
def y_S_init : MethodName := ⟨R_S, "<init>", "()V"⟩
theorem cd_S_init : Cond.code y_S_init b_S_init 1 none ∈ TB := tb_t 59 (by decide +kernel) (by decide +kernel)
abbrev b_T_desk : ByteArray := prog_1_method_2_code
def y_T_desk : MethodName := ⟨R_T, "desk", "()I"⟩
theorem cd_T_desk : Cond.code y_T_desk b_T_desk 2 (some .int) ∈ TB := tb_t 88 (by decide +kernel) (by decide +kernel)
abbrev b_K_init : ByteArray := prog_2_method_1_code
def y_K_init : MethodName := ⟨R_K, "<init>", "(I)V"⟩
theorem cd_K_init : Cond.code y_K_init b_K_init 2 none ∈ TB := tb_t 92 (by decide +kernel) (by decide +kernel)
abbrev b_T_tell : ByteArray := prog_1_method_3_code
def y_T_tell : MethodName := ⟨R_T, "tell", "(IIIJJ)I"⟩
theorem cd_T_tell : Cond.code y_T_tell b_T_tell 9 (some .int) ∈ TB := tb_t 120 (by decide +kernel) (by decide +kernel)
abbrev b_T_deskAt : ByteArray := prog_1_method_15_code
def y_T_deskAt : MethodName := ⟨R_T, "deskAt", "(I)LToldFacts$Desk;"⟩
theorem cd_T_deskAt : Cond.code y_T_deskAt b_T_deskAt 2 (some (.object "ToldFacts$Desk")) ∈ TB := tb_t 124 (by decide +kernel) (by decide +kernel)
abbrev b_T_areThingAndKind : ByteArray := prog_1_method_19_code
def y_T_areThingAndKind : MethodName := ⟨R_T, "areThingAndKind", "(II)Z"⟩
theorem cd_T_areThingAndKind : Cond.code y_T_areThingAndKind b_T_areThingAndKind 2 (some .boolean) ∈ TB := tb_t 127 (by decide +kernel) (by decide +kernel)
abbrev b_S_clear : ByteArray := prog_4_method_5_code
def y_S_clear : MethodName := ⟨R_S, "clear", "()V"⟩
theorem cd_S_clear : Cond.code y_S_clear b_S_clear 2 none ∈ TB := tb_t 132 (by decide +kernel) (by decide +kernel)
abbrev b_T_spotOf : ByteArray := prog_1_method_20_code
def y_T_spotOf : MethodName := ⟨R_T, "spotOf", "(III)I"⟩
theorem cd_T_spotOf : Cond.code y_T_spotOf b_T_spotOf 3 (some .int) ∈ TB := tb_t 135 (by decide +kernel) (by decide +kernel)
abbrev b_T_tellReplacing : ByteArray := prog_1_method_17_code
def y_T_tellReplacing : MethodName := ⟨R_T, "tellReplacing", "(LToldFacts$Desk;IJLToldFacts$FactSet;)I"⟩
theorem cd_T_tellReplacing : Cond.code y_T_tellReplacing b_T_tellReplacing 8 (some .int) ∈ TB := tb_t 140 (by decide +kernel) (by decide +kernel)
abbrev b_K_nextNumber : ByteArray := prog_2_method_2_code
def y_K_nextNumber : MethodName := ⟨R_K, "nextNumber", "()I"⟩
theorem cd_K_nextNumber : Cond.code y_K_nextNumber b_K_nextNumber 1 (some .int) ∈ TB := tb_t 144 (by decide +kernel) (by decide +kernel)
abbrev b_K_nextTime : ByteArray := prog_2_method_3_code
def y_K_nextTime : MethodName := ⟨R_K, "nextTime", "()I"⟩
theorem cd_K_nextTime : Cond.code y_K_nextTime b_K_nextTime 1 (some .int) ∈ TB := tb_t 148 (by decide +kernel) (by decide +kernel)
abbrev b_A_append : ByteArray := prog_5_method_2_code
def y_A_append : MethodName := ⟨R_A, "append", "(IIJILToldFacts$FactSet;)I"⟩
theorem cd_A_append : Cond.code y_A_append b_A_append 9 (some .int) ∈ TB := tb_t 152 (by decide +kernel) (by decide +kernel)
abbrev b_S_has : ByteArray := prog_4_method_2_code
def y_S_has : MethodName := ⟨R_S, "has", "(I)Z"⟩
theorem cd_S_has : Cond.code y_S_has b_S_has 2 (some .boolean) ∈ TB := tb_t 156 (by decide +kernel) (by decide +kernel)
abbrev b_A_insertByKey : ByteArray := prog_5_method_3_code
def y_A_insertByKey : MethodName := ⟨R_A, "insertByKey", "([I[II)V"⟩
theorem cd_A_insertByKey : Cond.code y_A_insertByKey b_A_insertByKey 4 none ∈ TB := tb_t 159 (by decide +kernel) (by decide +kernel)
abbrev b_K_hear : ByteArray := prog_2_method_4_code
def y_K_hear : MethodName := ⟨R_K, "hear", "(I)V"⟩
theorem cd_K_hear : Cond.code y_K_hear b_K_hear 2 none ∈ TB := tb_t 163 (by decide +kernel) (by decide +kernel)
abbrev b_S_add : ByteArray := prog_4_method_3_code
def y_S_add : MethodName := ⟨R_S, "add", "(I)V"⟩
theorem cd_S_add : Cond.code y_S_add b_S_add 2 none ∈ TB := tb_t 167 (by decide +kernel) (by decide +kernel)
abbrev b_T_correct : ByteArray := prog_1_method_4_code
def y_T_correct : MethodName := ⟨R_T, "correct", "(IIJ)I"⟩
theorem cd_T_correct : Cond.code y_T_correct b_T_correct 7 (some .int) ∈ TB := tb_t 171 (by decide +kernel) (by decide +kernel)
abbrev b_A_withNumber : ByteArray := prog_5_method_4_code
def y_A_withNumber : MethodName := ⟨R_A, "withNumber", "(I)I"⟩
theorem cd_A_withNumber : Cond.code y_A_withNumber b_A_withNumber 3 (some .int) ∈ TB := tb_t 175 (by decide +kernel) (by decide +kernel)
abbrev b_A_standsAmong : ByteArray := prog_5_method_6_code
def y_A_standsAmong : MethodName := ⟨R_A, "standsAmong", "(LToldFacts$FactSet;I)Z"⟩
theorem cd_A_standsAmong : Cond.code y_A_standsAmong b_A_standsAmong 4 (some .boolean) ∈ TB := tb_t 179 (by decide +kernel) (by decide +kernel)
abbrev b_T_join : ByteArray := prog_1_method_5_code
def y_T_join : MethodName := ⟨R_T, "join", "(II)I"⟩
theorem cd_T_join : Cond.code y_T_join b_T_join 5 (some .int) ∈ TB := tb_t 184 (by decide +kernel) (by decide +kernel)
abbrev b_K_learnFrom : ByteArray := prog_2_method_5_code
def y_K_learnFrom : MethodName := ⟨R_K, "learnFrom", "(LToldFacts$Desk;)V"⟩
theorem cd_K_learnFrom : Cond.code y_K_learnFrom b_K_learnFrom 2 none ∈ TB := tb_t 188 (by decide +kernel) (by decide +kernel)
abbrev b_S_addAll : ByteArray := prog_4_method_4_code
def y_S_addAll : MethodName := ⟨R_S, "addAll", "(LToldFacts$FactSet;)V"⟩
theorem cd_S_addAll : Cond.code y_S_addAll b_S_addAll 3 none ∈ TB := tb_t 192 (by decide +kernel) (by decide +kernel)
abbrev b_MM_max : ByteArray := prog_9_method_65_code
def y_MM_max : MethodName := ⟨R_MM, "max", "(II)I"⟩
theorem cd_MM_max : Cond.code y_MM_max b_MM_max 2 (some .int) ∈ TB := tb_t 195 (by decide +kernel) (by decide +kernel)
abbrev b_A_countConflicts : ByteArray := prog_5_method_12_code
def y_A_countConflicts : MethodName := ⟨R_A, "countConflicts", "(LToldFacts$FactSet;)I"⟩
theorem cd_A_countConflicts : Cond.code y_A_countConflicts b_A_countConflicts 4 (some .int) ∈ TB := tb_t 199 (by decide +kernel) (by decide +kernel)
abbrev b_A_isFirstOfSpot : ByteArray := prog_5_method_14_code
def y_A_isFirstOfSpot : MethodName := ⟨R_A, "isFirstOfSpot", "(I)Z"⟩
theorem cd_A_isFirstOfSpot : Cond.code y_A_isFirstOfSpot b_A_isFirstOfSpot 2 (some .boolean) ∈ TB := tb_t 203 (by decide +kernel) (by decide +kernel)
abbrev b_A_isConflictFrom : ByteArray := prog_5_method_15_code
def y_A_isConflictFrom : MethodName := ⟨R_A, "isConflictFrom", "(ILToldFacts$FactSet;)Z"⟩
theorem cd_A_isConflictFrom : Cond.code y_A_isConflictFrom b_A_isConflictFrom 7 (some .boolean) ∈ TB := tb_t 207 (by decide +kernel) (by decide +kernel)
abbrev b_T_known : ByteArray := prog_1_method_6_code
def y_T_known : MethodName := ⟨R_T, "known", "(IIIJJ)J"⟩
theorem cd_T_known : Cond.code y_T_known b_T_known 10 (some .long) ∈ TB := tb_t 212 (by decide +kernel) (by decide +kernel)
abbrev b_A_pickToldBy : ByteArray := prog_5_method_8_code
def y_A_pickToldBy : MethodName := ⟨R_A, "pickToldBy", "(JLToldFacts$FactSet;LToldFacts$FactSet;)V"⟩
theorem cd_A_pickToldBy : Cond.code y_A_pickToldBy b_A_pickToldBy 6 none ∈ TB := tb_t 217 (by decide +kernel) (by decide +kernel)
abbrev b_A_latestStanding : ByteArray := prog_5_method_10_code
def y_A_latestStanding : MethodName := ⟨R_A, "latestStanding", "(LToldFacts$FactSet;IIJ)I"⟩
theorem cd_A_latestStanding : Cond.code y_A_latestStanding b_A_latestStanding 9 (some .int) ∈ TB := tb_t 223 (by decide +kernel) (by decide +kernel)
abbrev b_T_dayOf : ByteArray := prog_1_method_23_code
def y_T_dayOf : MethodName := ⟨R_T, "dayOf", "(I)I"⟩
theorem cd_T_dayOf : Cond.code y_T_dayOf b_T_dayOf 1 (some .int) ∈ TB := tb_t 227 (by decide +kernel) (by decide +kernel)
abbrev b_A_isLater : ByteArray := prog_5_method_11_code
def y_A_isLater : MethodName := ⟨R_A, "isLater", "(II)Z"⟩
theorem cd_A_isLater : Cond.code y_A_isLater b_A_isLater 3 (some .boolean) ∈ TB := tb_t 231 (by decide +kernel) (by decide +kernel)
abbrev b_T_conflict : ByteArray := prog_1_method_7_code
def y_T_conflict : MethodName := ⟨R_T, "conflict", "(III)I"⟩
theorem cd_T_conflict : Cond.code y_T_conflict b_T_conflict 6 (some .int) ∈ TB := tb_t 235 (by decide +kernel) (by decide +kernel)
abbrev b_A_conflictSpot : ByteArray := prog_5_method_13_code
def y_A_conflictSpot : MethodName := ⟨R_A, "conflictSpot", "(LToldFacts$FactSet;II)I"⟩
theorem cd_A_conflictSpot : Cond.code y_A_conflictSpot b_A_conflictSpot 7 (some .int) ∈ TB := tb_t 239 (by decide +kernel) (by decide +kernel)
abbrev b_A_pickStanding : ByteArray := prog_5_method_7_code
def y_A_pickStanding : MethodName := ⟨R_A, "pickStanding", "(LToldFacts$FactSet;ILToldFacts$FactSet;)V"⟩
theorem cd_A_pickStanding : Cond.code y_A_pickStanding b_A_pickStanding 5 none ∈ TB := tb_t 243 (by decide +kernel) (by decide +kernel)
abbrev b_T_thingOf : ByteArray := prog_1_method_21_code
def y_T_thingOf : MethodName := ⟨R_T, "thingOf", "(I)I"⟩
theorem cd_T_thingOf : Cond.code y_T_thingOf b_T_thingOf 1 (some .int) ∈ TB := tb_t 246 (by decide +kernel) (by decide +kernel)
abbrev b_T_kindOf : ByteArray := prog_1_method_22_code
def y_T_kindOf : MethodName := ⟨R_T, "kindOf", "(I)I"⟩
theorem cd_T_kindOf : Cond.code y_T_kindOf b_T_kindOf 1 (some .int) ∈ TB := tb_t 249 (by decide +kernel) (by decide +kernel)
abbrev b_S_size : ByteArray := prog_4_method_6_code
def y_S_size : MethodName := ⟨R_S, "size", "()I"⟩
theorem cd_S_size : Cond.code y_S_size b_S_size 3 (some .int) ∈ TB := tb_t 254 (by decide +kernel) (by decide +kernel)
abbrev b_J_bitCount : ByteArray := prog_8_method_50_code
def y_J_bitCount : MethodName := ⟨R_J, "bitCount", "(J)I"⟩
theorem cd_J_bitCount : Cond.code y_J_bitCount b_J_bitCount 2 (some .int) ∈ TB := tb_t 257 (by decide +kernel) (by decide +kernel)
abbrev b_A_inOrder : ByteArray := prog_5_method_5_code
def y_A_inOrder : MethodName := ⟨R_A, "inOrder", "(LToldFacts$FactSet;I)I"⟩
theorem cd_A_inOrder : Cond.code y_A_inOrder b_A_inOrder 6 (some .int) ∈ TB := tb_t 264 (by decide +kernel) (by decide +kernel)
abbrev b_T_numberOrNone : ByteArray := prog_1_method_16_code
def y_T_numberOrNone : MethodName := ⟨R_T, "numberOrNone", "(I)I"⟩
theorem cd_T_numberOrNone : Cond.code y_T_numberOrNone b_T_numberOrNone 2 (some .int) ∈ TB := tb_t 268 (by decide +kernel) (by decide +kernel)
abbrev b_T_settle : ByteArray := prog_1_method_8_code
def y_T_settle : MethodName := ⟨R_T, "settle", "(IIII)I"⟩
theorem cd_T_settle : Cond.code y_T_settle b_T_settle 8 (some .int) ∈ TB := tb_t 272 (by decide +kernel) (by decide +kernel)
abbrev b_T_equal : ByteArray := prog_1_method_9_code
def y_T_equal : MethodName := ⟨R_T, "equal", "(II)Z"⟩
theorem cd_T_equal : Cond.code y_T_equal b_T_equal 5 (some .boolean) ∈ TB := tb_t 277 (by decide +kernel) (by decide +kernel)
abbrev b_S_isSameAs : ByteArray := prog_4_method_7_code
def y_S_isSameAs : MethodName := ⟨R_S, "isSameAs", "(LToldFacts$FactSet;)Z"⟩
theorem cd_S_isSameAs : Cond.code y_S_isSameAs b_S_isSameAs 3 (some .boolean) ∈ TB := tb_t 281 (by decide +kernel) (by decide +kernel)
abbrev b_T_batch : ByteArray := prog_1_method_10_code
def y_T_batch : MethodName := ⟨R_T, "batch", "(I)I"⟩
theorem cd_T_batch : Cond.code y_T_batch b_T_batch 4 (some .int) ∈ TB := tb_t 285 (by decide +kernel) (by decide +kernel)
abbrev b_T_endBatch : ByteArray := prog_1_method_11_code
def y_T_endBatch : MethodName := ⟨R_T, "endBatch", "(I)Z"⟩
theorem cd_T_endBatch : Cond.code y_T_endBatch b_T_endBatch 3 (some .boolean) ∈ TB := tb_t 289 (by decide +kernel) (by decide +kernel)
abbrev b_K_learnPending : ByteArray := prog_2_method_6_code
def y_K_learnPending : MethodName := ⟨R_K, "learnPending", "()V"⟩
theorem cd_K_learnPending : Cond.code y_K_learnPending b_K_learnPending 1 none ∈ TB := tb_t 293 (by decide +kernel) (by decide +kernel)
abbrev b_T_play : ByteArray := prog_1_method_12_code
def y_T_play : MethodName := ⟨R_T, "play", "(JI)I"⟩
theorem cd_T_play : Cond.code y_T_play b_T_play 7 (some .int) ∈ TB := tb_t 298 (by decide +kernel) (by decide +kernel)
abbrev b_W_init : ByteArray := prog_3_method_1_code
def y_W_init : MethodName := ⟨R_W, "<init>", "(J)V"⟩
theorem cd_W_init : Cond.code y_W_init b_W_init 3 none ∈ TB := tb_t 303 (by decide +kernel) (by decide +kernel)
abbrev b_T_playTurn : ByteArray := prog_1_method_18_code
def y_T_playTurn : MethodName := ⟨R_T, "playTurn", "(LToldFacts$Draw;)V"⟩
theorem cd_T_playTurn : Cond.code y_T_playTurn b_T_playTurn 7 none ∈ TB := tb_t 312 (by decide +kernel) (by decide +kernel)
abbrev b_W_below : ByteArray := prog_3_method_2_code
def y_W_below : MethodName := ⟨R_W, "below", "(I)I"⟩
theorem cd_W_below : Cond.code y_W_below b_W_below 2 (some .int) ∈ TB := tb_t 316 (by decide +kernel) (by decide +kernel)
abbrev b_T_counts : ByteArray := prog_1_method_14_code
def y_T_counts : MethodName := ⟨R_T, "counts", "(I)I"⟩
theorem cd_T_counts : Cond.code y_T_counts b_T_counts 3 (some .int) ∈ TB := tb_t 323 (by decide +kernel) (by decide +kernel)
abbrev b_T_find : ByteArray := prog_1_method_13_code
def y_T_find : MethodName := ⟨R_T, "find", "(IIJI)I"⟩
theorem cd_T_find : Cond.code y_T_find b_T_find 7 (some .int) ∈ TB := tb_t 327 (by decide +kernel) (by decide +kernel)
abbrev b_A_pickEqual : ByteArray := prog_5_method_9_code
def y_A_pickEqual : MethodName := ⟨R_A, "pickEqual", "(LToldFacts$FactSet;IJLToldFacts$FactSet;)V"⟩
theorem cd_A_pickEqual : Cond.code y_A_pickEqual b_A_pickEqual 7 none ∈ TB := tb_t 331 (by decide +kernel) (by decide +kernel)
abbrev b_M_init : ByteArray := prog_7_method_1_code
def y_M_init : MethodName := ⟨R_M, "<init>", "()V"⟩
theorem cd_M_init : Cond.code y_M_init b_M_init 1 none ∈ TB := tb_t 338 (by decide +kernel) (by decide +kernel)
abbrev b_M_desk : ByteArray := prog_7_method_3_code
def y_M_desk : MethodName := ⟨R_M, "desk", "()I"⟩
theorem cd_M_desk : Cond.code y_M_desk b_M_desk 1 (some .int) ∈ TB := tb_t 400 (by decide +kernel) (by decide +kernel)
abbrev b_M_tell : ByteArray := prog_7_method_5_code
def y_M_tell : MethodName := ⟨R_M, "tell", "(IIIJJ)I"⟩
theorem cd_M_tell : Cond.code y_M_tell b_M_tell 8 (some .int) ∈ TB := tb_t 404 (by decide +kernel) (by decide +kernel)
abbrev b_M_isDesk : ByteArray := prog_7_method_2_code
def y_M_isDesk : MethodName := ⟨R_M, "isDesk", "(I)Z"⟩
theorem cd_M_isDesk : Cond.code y_M_isDesk b_M_isDesk 2 (some .boolean) ∈ TB := tb_t 408 (by decide +kernel) (by decide +kernel)
abbrev b_M_add : ByteArray := prog_7_method_4_code
def y_M_add : MethodName := ⟨R_M, "add", "(IIIJJ)I"⟩
theorem cd_M_add : Cond.code y_M_add b_M_add 9 (some .int) ∈ TB := tb_t 413 (by decide +kernel) (by decide +kernel)
abbrev b_M_correct : ByteArray := prog_7_method_10_code
def y_M_correct : MethodName := ⟨R_M, "correct", "(IIJ)I"⟩
theorem cd_M_correct : Cond.code y_M_correct b_M_correct 7 (some .int) ∈ TB := tb_t 417 (by decide +kernel) (by decide +kernel)
abbrev b_M_place : ByteArray := prog_7_method_6_code
def y_M_place : MethodName := ⟨R_M, "place", "(I)I"⟩
theorem cd_M_place : Cond.code y_M_place b_M_place 3 (some .int) ∈ TB := tb_t 421 (by decide +kernel) (by decide +kernel)
abbrev b_M_look : ByteArray := prog_7_method_9_code
def y_M_look : MethodName := ⟨R_M, "look", "(I)V"⟩
theorem cd_M_look : Cond.code y_M_look b_M_look 4 none ∈ TB := tb_t 425 (by decide +kernel) (by decide +kernel)
abbrev b_M_join : ByteArray := prog_7_method_15_code
def y_M_join : MethodName := ⟨R_M, "join", "(II)I"⟩
theorem cd_M_join : Cond.code y_M_join b_M_join 4 (some .int) ∈ TB := tb_t 429 (by decide +kernel) (by decide +kernel)
abbrev b_M_conflicts : ByteArray := prog_7_method_13_code
def y_M_conflicts : MethodName := ⟨R_M, "conflicts", "(I)I"⟩
theorem cd_M_conflicts : Cond.code y_M_conflicts b_M_conflicts 4 (some .int) ∈ TB := tb_t 433 (by decide +kernel) (by decide +kernel)
abbrev b_M_isFirstOfConflict : ByteArray := prog_7_method_12_code
def y_M_isFirstOfConflict : MethodName := ⟨R_M, "isFirstOfConflict", "(I)Z"⟩
theorem cd_M_isFirstOfConflict : Cond.code y_M_isFirstOfConflict b_M_isFirstOfConflict 4 (some .boolean) ∈ TB := tb_t 437 (by decide +kernel) (by decide +kernel)
abbrev b_M_areOne : ByteArray := prog_7_method_11_code
def y_M_areOne : MethodName := ⟨R_M, "areOne", "(II)Z"⟩
theorem cd_M_areOne : Cond.code y_M_areOne b_M_areOne 3 (some .boolean) ∈ TB := tb_t 441 (by decide +kernel) (by decide +kernel)
abbrev b_M_conflict : ByteArray := prog_7_method_17_code
def y_M_conflict : MethodName := ⟨R_M, "conflict", "(III)I"⟩
theorem cd_M_conflict : Cond.code y_M_conflict b_M_conflict 7 (some .int) ∈ TB := tb_t 445 (by decide +kernel) (by decide +kernel)
abbrev b_M_isBefore : ByteArray := prog_7_method_14_code
def y_M_isBefore : MethodName := ⟨R_M, "isBefore", "(II)Z"⟩
theorem cd_M_isBefore : Cond.code y_M_isBefore b_M_isBefore 3 (some .boolean) ∈ TB := tb_t 449 (by decide +kernel) (by decide +kernel)
abbrev b_M_standing : ByteArray := prog_7_method_16_code
def y_M_standing : MethodName := ⟨R_M, "standing", "(II)I"⟩
theorem cd_M_standing : Cond.code y_M_standing b_M_standing 8 (some .int) ∈ TB := tb_t 453 (by decide +kernel) (by decide +kernel)
abbrev b_M_settle : ByteArray := prog_7_method_18_code
def y_M_settle : MethodName := ⟨R_M, "settle", "(IIII)I"⟩
theorem cd_M_settle : Cond.code y_M_settle b_M_settle 11 (some .int) ∈ TB := tb_t 457 (by decide +kernel) (by decide +kernel)
abbrev b_M_known : ByteArray := prog_7_method_19_code
def y_M_known : MethodName := ⟨R_M, "known", "(IIIJJ)J"⟩
theorem cd_M_known : Cond.code y_M_known b_M_known 11 (some .long) ∈ TB := tb_t 461 (by decide +kernel) (by decide +kernel)
abbrev b_M_stands : ByteArray := prog_7_method_8_code
def y_M_stands : MethodName := ⟨R_M, "stands", "(IIJ)Z"⟩
theorem cd_M_stands : Cond.code y_M_stands b_M_stands 7 (some .boolean) ∈ TB := tb_t 466 (by decide +kernel) (by decide +kernel)
abbrev b_M_isKnown : ByteArray := prog_7_method_7_code
def y_M_isKnown : MethodName := ⟨R_M, "isKnown", "(IIJ)Z"⟩
theorem cd_M_isKnown : Cond.code y_M_isKnown b_M_isKnown 5 (some .boolean) ∈ TB := tb_t 470 (by decide +kernel) (by decide +kernel)
abbrev b_M_equal : ByteArray := prog_7_method_20_code
def y_M_equal : MethodName := ⟨R_M, "equal", "(II)Z"⟩
theorem cd_M_equal : Cond.code y_M_equal b_M_equal 5 (some .boolean) ∈ TB := tb_t 474 (by decide +kernel) (by decide +kernel)
abbrev b_M_find : ByteArray := prog_7_method_21_code
def y_M_find : MethodName := ⟨R_M, "find", "(IIJI)I"⟩
theorem cd_M_find : Cond.code y_M_find b_M_find 9 (some .int) ∈ TB := tb_t 478 (by decide +kernel) (by decide +kernel)
abbrev b_M_counts : ByteArray := prog_7_method_22_code
def y_M_counts : MethodName := ⟨R_M, "counts", "(I)I"⟩
theorem cd_M_counts : Cond.code y_M_counts b_M_counts 4 (some .int) ∈ TB := tb_t 482 (by decide +kernel) (by decide +kernel)
abbrev b_M_batch : ByteArray := prog_7_method_23_code
def y_M_batch : MethodName := ⟨R_M, "batch", "(I)I"⟩
theorem cd_M_batch : Cond.code y_M_batch b_M_batch 2 (some .int) ∈ TB := tb_t 486 (by decide +kernel) (by decide +kernel)
abbrev b_M_endBatch : ByteArray := prog_7_method_24_code
def y_M_endBatch : MethodName := ⟨R_M, "endBatch", "(I)Z"⟩
theorem cd_M_endBatch : Cond.code y_M_endBatch b_M_endBatch 4 (some .boolean) ∈ TB := tb_t 490 (by decide +kernel) (by decide +kernel)
abbrev b_M_play : ByteArray := prog_7_method_26_code
def y_M_play : MethodName := ⟨R_M, "play", "(JI)I"⟩
theorem cd_M_play : Cond.code y_M_play b_M_play 11 (some .int) ∈ TB := tb_t 494 (by decide +kernel) (by decide +kernel)
abbrev b_M_draw : ByteArray := prog_7_method_25_code
def y_M_draw : MethodName := ⟨R_M, "draw", "(I)I"⟩
theorem cd_M_draw : Cond.code y_M_draw b_M_draw 2 (some .int) ∈ TB := tb_t 498 (by decide +kernel) (by decide +kernel)
theorem im_y_T_init : Cond.instanceMethod y_T_init ∈ TB := tb_t 12 (by decide +kernel) (by decide +kernel)
theorem im_objectInit : Cond.instanceMethod objectInit ∈ TB := tb_t 15 (by decide +kernel) (by decide +kernel)
theorem im_y_A_init : Cond.instanceMethod y_A_init ∈ TB := tb_t 22 (by decide +kernel) (by decide +kernel)
theorem im_y_S_init : Cond.instanceMethod y_S_init ∈ TB := tb_t 58 (by decide +kernel) (by decide +kernel)
theorem im_y_T_desk : Cond.instanceMethod y_T_desk ∈ TB := tb_t 86 (by decide +kernel) (by decide +kernel)
theorem im_y_K_init : Cond.instanceMethod y_K_init ∈ TB := tb_t 91 (by decide +kernel) (by decide +kernel)
theorem im_y_T_tell : Cond.instanceMethod y_T_tell ∈ TB := tb_t 118 (by decide +kernel) (by decide +kernel)
theorem im_y_T_deskAt : Cond.instanceMethod y_T_deskAt ∈ TB := tb_t 123 (by decide +kernel) (by decide +kernel)
theorem im_y_S_clear : Cond.instanceMethod y_S_clear ∈ TB := tb_t 131 (by decide +kernel) (by decide +kernel)
theorem im_y_T_tellReplacing : Cond.instanceMethod y_T_tellReplacing ∈ TB := tb_t 139 (by decide +kernel) (by decide +kernel)
theorem im_y_K_nextNumber : Cond.instanceMethod y_K_nextNumber ∈ TB := tb_t 143 (by decide +kernel) (by decide +kernel)
theorem im_y_K_nextTime : Cond.instanceMethod y_K_nextTime ∈ TB := tb_t 147 (by decide +kernel) (by decide +kernel)
theorem im_y_A_append : Cond.instanceMethod y_A_append ∈ TB := tb_t 151 (by decide +kernel) (by decide +kernel)
theorem im_y_S_has : Cond.instanceMethod y_S_has ∈ TB := tb_t 155 (by decide +kernel) (by decide +kernel)
theorem im_y_K_hear : Cond.instanceMethod y_K_hear ∈ TB := tb_t 162 (by decide +kernel) (by decide +kernel)
theorem im_y_S_add : Cond.instanceMethod y_S_add ∈ TB := tb_t 166 (by decide +kernel) (by decide +kernel)
theorem im_y_T_correct : Cond.instanceMethod y_T_correct ∈ TB := tb_t 169 (by decide +kernel) (by decide +kernel)
theorem im_y_A_withNumber : Cond.instanceMethod y_A_withNumber ∈ TB := tb_t 174 (by decide +kernel) (by decide +kernel)
theorem im_y_A_standsAmong : Cond.instanceMethod y_A_standsAmong ∈ TB := tb_t 178 (by decide +kernel) (by decide +kernel)
theorem im_y_T_join : Cond.instanceMethod y_T_join ∈ TB := tb_t 182 (by decide +kernel) (by decide +kernel)
theorem im_y_K_learnFrom : Cond.instanceMethod y_K_learnFrom ∈ TB := tb_t 187 (by decide +kernel) (by decide +kernel)
theorem im_y_S_addAll : Cond.instanceMethod y_S_addAll ∈ TB := tb_t 191 (by decide +kernel) (by decide +kernel)
theorem im_y_A_countConflicts : Cond.instanceMethod y_A_countConflicts ∈ TB := tb_t 198 (by decide +kernel) (by decide +kernel)
theorem im_y_A_isFirstOfSpot : Cond.instanceMethod y_A_isFirstOfSpot ∈ TB := tb_t 202 (by decide +kernel) (by decide +kernel)
theorem im_y_A_isConflictFrom : Cond.instanceMethod y_A_isConflictFrom ∈ TB := tb_t 206 (by decide +kernel) (by decide +kernel)
theorem im_y_T_known : Cond.instanceMethod y_T_known ∈ TB := tb_t 210 (by decide +kernel) (by decide +kernel)
theorem im_y_A_pickToldBy : Cond.instanceMethod y_A_pickToldBy ∈ TB := tb_t 216 (by decide +kernel) (by decide +kernel)
theorem im_y_A_latestStanding : Cond.instanceMethod y_A_latestStanding ∈ TB := tb_t 222 (by decide +kernel) (by decide +kernel)
theorem im_y_A_isLater : Cond.instanceMethod y_A_isLater ∈ TB := tb_t 230 (by decide +kernel) (by decide +kernel)
theorem im_y_T_conflict : Cond.instanceMethod y_T_conflict ∈ TB := tb_t 233 (by decide +kernel) (by decide +kernel)
theorem im_y_A_conflictSpot : Cond.instanceMethod y_A_conflictSpot ∈ TB := tb_t 238 (by decide +kernel) (by decide +kernel)
theorem im_y_A_pickStanding : Cond.instanceMethod y_A_pickStanding ∈ TB := tb_t 242 (by decide +kernel) (by decide +kernel)
theorem im_y_S_size : Cond.instanceMethod y_S_size ∈ TB := tb_t 253 (by decide +kernel) (by decide +kernel)
theorem im_y_A_inOrder : Cond.instanceMethod y_A_inOrder ∈ TB := tb_t 263 (by decide +kernel) (by decide +kernel)
theorem im_y_T_numberOrNone : Cond.instanceMethod y_T_numberOrNone ∈ TB := tb_t 267 (by decide +kernel) (by decide +kernel)
theorem im_y_T_settle : Cond.instanceMethod y_T_settle ∈ TB := tb_t 270 (by decide +kernel) (by decide +kernel)
theorem im_y_T_equal : Cond.instanceMethod y_T_equal ∈ TB := tb_t 275 (by decide +kernel) (by decide +kernel)
theorem im_y_S_isSameAs : Cond.instanceMethod y_S_isSameAs ∈ TB := tb_t 280 (by decide +kernel) (by decide +kernel)
theorem im_y_T_batch : Cond.instanceMethod y_T_batch ∈ TB := tb_t 283 (by decide +kernel) (by decide +kernel)
theorem im_y_T_endBatch : Cond.instanceMethod y_T_endBatch ∈ TB := tb_t 287 (by decide +kernel) (by decide +kernel)
theorem im_y_K_learnPending : Cond.instanceMethod y_K_learnPending ∈ TB := tb_t 292 (by decide +kernel) (by decide +kernel)
theorem im_y_T_play : Cond.instanceMethod y_T_play ∈ TB := tb_t 296 (by decide +kernel) (by decide +kernel)
theorem im_y_W_init : Cond.instanceMethod y_W_init ∈ TB := tb_t 302 (by decide +kernel) (by decide +kernel)
theorem im_y_T_playTurn : Cond.instanceMethod y_T_playTurn ∈ TB := tb_t 311 (by decide +kernel) (by decide +kernel)
theorem im_y_W_below : Cond.instanceMethod y_W_below ∈ TB := tb_t 315 (by decide +kernel) (by decide +kernel)
theorem im_y_T_counts : Cond.instanceMethod y_T_counts ∈ TB := tb_t 321 (by decide +kernel) (by decide +kernel)
theorem im_y_T_find : Cond.instanceMethod y_T_find ∈ TB := tb_t 325 (by decide +kernel) (by decide +kernel)
theorem im_y_A_pickEqual : Cond.instanceMethod y_A_pickEqual ∈ TB := tb_t 330 (by decide +kernel) (by decide +kernel)
theorem im_y_M_init : Cond.instanceMethod y_M_init ∈ TB := tb_t 337 (by decide +kernel) (by decide +kernel)
theorem im_y_M_desk : Cond.instanceMethod y_M_desk ∈ TB := tb_t 398 (by decide +kernel) (by decide +kernel)
theorem im_y_M_tell : Cond.instanceMethod y_M_tell ∈ TB := tb_t 402 (by decide +kernel) (by decide +kernel)
theorem im_y_M_isDesk : Cond.instanceMethod y_M_isDesk ∈ TB := tb_t 407 (by decide +kernel) (by decide +kernel)
theorem im_y_M_add : Cond.instanceMethod y_M_add ∈ TB := tb_t 412 (by decide +kernel) (by decide +kernel)
theorem im_y_M_correct : Cond.instanceMethod y_M_correct ∈ TB := tb_t 415 (by decide +kernel) (by decide +kernel)
theorem im_y_M_place : Cond.instanceMethod y_M_place ∈ TB := tb_t 420 (by decide +kernel) (by decide +kernel)
theorem im_y_M_look : Cond.instanceMethod y_M_look ∈ TB := tb_t 424 (by decide +kernel) (by decide +kernel)
theorem im_y_M_join : Cond.instanceMethod y_M_join ∈ TB := tb_t 427 (by decide +kernel) (by decide +kernel)
theorem im_y_M_conflicts : Cond.instanceMethod y_M_conflicts ∈ TB := tb_t 432 (by decide +kernel) (by decide +kernel)
theorem im_y_M_isFirstOfConflict : Cond.instanceMethod y_M_isFirstOfConflict ∈ TB := tb_t 436 (by decide +kernel) (by decide +kernel)
theorem im_y_M_areOne : Cond.instanceMethod y_M_areOne ∈ TB := tb_t 440 (by decide +kernel) (by decide +kernel)
theorem im_y_M_conflict : Cond.instanceMethod y_M_conflict ∈ TB := tb_t 443 (by decide +kernel) (by decide +kernel)
theorem im_y_M_isBefore : Cond.instanceMethod y_M_isBefore ∈ TB := tb_t 448 (by decide +kernel) (by decide +kernel)
theorem im_y_M_standing : Cond.instanceMethod y_M_standing ∈ TB := tb_t 452 (by decide +kernel) (by decide +kernel)
theorem im_y_M_settle : Cond.instanceMethod y_M_settle ∈ TB := tb_t 455 (by decide +kernel) (by decide +kernel)
theorem im_y_M_known : Cond.instanceMethod y_M_known ∈ TB := tb_t 459 (by decide +kernel) (by decide +kernel)
theorem im_y_M_stands : Cond.instanceMethod y_M_stands ∈ TB := tb_t 465 (by decide +kernel) (by decide +kernel)
theorem im_y_M_isKnown : Cond.instanceMethod y_M_isKnown ∈ TB := tb_t 469 (by decide +kernel) (by decide +kernel)
theorem im_y_M_equal : Cond.instanceMethod y_M_equal ∈ TB := tb_t 472 (by decide +kernel) (by decide +kernel)
theorem im_y_M_find : Cond.instanceMethod y_M_find ∈ TB := tb_t 476 (by decide +kernel) (by decide +kernel)
theorem im_y_M_counts : Cond.instanceMethod y_M_counts ∈ TB := tb_t 480 (by decide +kernel) (by decide +kernel)
theorem im_y_M_batch : Cond.instanceMethod y_M_batch ∈ TB := tb_t 484 (by decide +kernel) (by decide +kernel)
theorem im_y_M_endBatch : Cond.instanceMethod y_M_endBatch ∈ TB := tb_t 488 (by decide +kernel) (by decide +kernel)
theorem im_y_M_play : Cond.instanceMethod y_M_play ∈ TB := tb_t 492 (by decide +kernel) (by decide +kernel)
theorem im_y_M_draw : Cond.instanceMethod y_M_draw ∈ TB := tb_t 497 (by decide +kernel) (by decide +kernel)
theorem st_y_T_areThingAndKind : Cond.static y_T_areThingAndKind ∈ TB := tb_t 126 (by decide +kernel) (by decide +kernel)
theorem st_y_T_spotOf : Cond.static y_T_spotOf ∈ TB := tb_t 134 (by decide +kernel) (by decide +kernel)
theorem st_y_A_insertByKey : Cond.static y_A_insertByKey ∈ TB := tb_t 158 (by decide +kernel) (by decide +kernel)
theorem mx_static : Cond.static Lib.Math.max.name ∈ TB := tb_t 194 (by decide +kernel) (by decide +kernel)
theorem st_y_MM_max : Cond.static y_MM_max ∈ TB := tb_t 194 (by decide +kernel) (by decide +kernel)
theorem st_y_T_dayOf : Cond.static y_T_dayOf ∈ TB := tb_t 226 (by decide +kernel) (by decide +kernel)
theorem st_y_T_thingOf : Cond.static y_T_thingOf ∈ TB := tb_t 245 (by decide +kernel) (by decide +kernel)
theorem st_y_T_kindOf : Cond.static y_T_kindOf ∈ TB := tb_t 248 (by decide +kernel) (by decide +kernel)
theorem st_y_J_bitCount : Cond.static y_J_bitCount ∈ TB := tb_t 256 (by decide +kernel) (by decide +kernel)
theorem sl_y_T_desk : Cond.selects (y_T_desk).cls y_T_desk y_T_desk ∈ TB := tb_t 87 (by decide +kernel) (by decide +kernel)
theorem sl_y_T_tell : Cond.selects (y_T_tell).cls y_T_tell y_T_tell ∈ TB := tb_t 119 (by decide +kernel) (by decide +kernel)
theorem sl_y_T_correct : Cond.selects (y_T_correct).cls y_T_correct y_T_correct ∈ TB := tb_t 170 (by decide +kernel) (by decide +kernel)
theorem sl_y_T_join : Cond.selects (y_T_join).cls y_T_join y_T_join ∈ TB := tb_t 183 (by decide +kernel) (by decide +kernel)
theorem sl_y_T_known : Cond.selects (y_T_known).cls y_T_known y_T_known ∈ TB := tb_t 211 (by decide +kernel) (by decide +kernel)
theorem sl_y_T_conflict : Cond.selects (y_T_conflict).cls y_T_conflict y_T_conflict ∈ TB := tb_t 234 (by decide +kernel) (by decide +kernel)
theorem sl_y_T_settle : Cond.selects (y_T_settle).cls y_T_settle y_T_settle ∈ TB := tb_t 271 (by decide +kernel) (by decide +kernel)
theorem sl_y_T_equal : Cond.selects (y_T_equal).cls y_T_equal y_T_equal ∈ TB := tb_t 276 (by decide +kernel) (by decide +kernel)
theorem sl_y_T_batch : Cond.selects (y_T_batch).cls y_T_batch y_T_batch ∈ TB := tb_t 284 (by decide +kernel) (by decide +kernel)
theorem sl_y_T_endBatch : Cond.selects (y_T_endBatch).cls y_T_endBatch y_T_endBatch ∈ TB := tb_t 288 (by decide +kernel) (by decide +kernel)
theorem sl_y_T_play : Cond.selects (y_T_play).cls y_T_play y_T_play ∈ TB := tb_t 297 (by decide +kernel) (by decide +kernel)
theorem sl_y_T_counts : Cond.selects (y_T_counts).cls y_T_counts y_T_counts ∈ TB := tb_t 322 (by decide +kernel) (by decide +kernel)
theorem sl_y_T_find : Cond.selects (y_T_find).cls y_T_find y_T_find ∈ TB := tb_t 326 (by decide +kernel) (by decide +kernel)
theorem sl_y_M_desk : Cond.selects (y_M_desk).cls y_M_desk y_M_desk ∈ TB := tb_t 399 (by decide +kernel) (by decide +kernel)
theorem sl_y_M_tell : Cond.selects (y_M_tell).cls y_M_tell y_M_tell ∈ TB := tb_t 403 (by decide +kernel) (by decide +kernel)
theorem sl_y_M_correct : Cond.selects (y_M_correct).cls y_M_correct y_M_correct ∈ TB := tb_t 416 (by decide +kernel) (by decide +kernel)
theorem sl_y_M_join : Cond.selects (y_M_join).cls y_M_join y_M_join ∈ TB := tb_t 428 (by decide +kernel) (by decide +kernel)
theorem sl_y_M_conflict : Cond.selects (y_M_conflict).cls y_M_conflict y_M_conflict ∈ TB := tb_t 444 (by decide +kernel) (by decide +kernel)
theorem sl_y_M_settle : Cond.selects (y_M_settle).cls y_M_settle y_M_settle ∈ TB := tb_t 456 (by decide +kernel) (by decide +kernel)
theorem sl_y_M_known : Cond.selects (y_M_known).cls y_M_known y_M_known ∈ TB := tb_t 460 (by decide +kernel) (by decide +kernel)
theorem sl_y_M_equal : Cond.selects (y_M_equal).cls y_M_equal y_M_equal ∈ TB := tb_t 473 (by decide +kernel) (by decide +kernel)
theorem sl_y_M_find : Cond.selects (y_M_find).cls y_M_find y_M_find ∈ TB := tb_t 477 (by decide +kernel) (by decide +kernel)
theorem sl_y_M_counts : Cond.selects (y_M_counts).cls y_M_counts y_M_counts ∈ TB := tb_t 481 (by decide +kernel) (by decide +kernel)
theorem sl_y_M_batch : Cond.selects (y_M_batch).cls y_M_batch y_M_batch ∈ TB := tb_t 485 (by decide +kernel) (by decide +kernel)
theorem sl_y_M_endBatch : Cond.selects (y_M_endBatch).cls y_M_endBatch y_M_endBatch ∈ TB := tb_t 489 (by decide +kernel) (by decide +kernel)
theorem sl_y_M_play : Cond.selects (y_M_play).cls y_M_play y_M_play ∈ TB := tb_t 493 (by decide +kernel) (by decide +kernel)
theorem sl_y_T_deskAt : Cond.selects (y_T_deskAt).cls y_T_deskAt y_T_deskAt ∈ TB := tb_p 0 (by decide +kernel) (by decide +kernel)
theorem sl_y_S_clear : Cond.selects (y_S_clear).cls y_S_clear y_S_clear ∈ TB := tb_p 1 (by decide +kernel) (by decide +kernel)
theorem sl_y_T_tellReplacing : Cond.selects (y_T_tellReplacing).cls y_T_tellReplacing y_T_tellReplacing ∈ TB := tb_p 2 (by decide +kernel) (by decide +kernel)
theorem sl_y_K_nextNumber : Cond.selects (y_K_nextNumber).cls y_K_nextNumber y_K_nextNumber ∈ TB := tb_p 3 (by decide +kernel) (by decide +kernel)
theorem sl_y_K_nextTime : Cond.selects (y_K_nextTime).cls y_K_nextTime y_K_nextTime ∈ TB := tb_p 4 (by decide +kernel) (by decide +kernel)
theorem sl_y_A_append : Cond.selects (y_A_append).cls y_A_append y_A_append ∈ TB := tb_p 5 (by decide +kernel) (by decide +kernel)
theorem sl_y_S_has : Cond.selects (y_S_has).cls y_S_has y_S_has ∈ TB := tb_p 6 (by decide +kernel) (by decide +kernel)
theorem sl_y_K_hear : Cond.selects (y_K_hear).cls y_K_hear y_K_hear ∈ TB := tb_p 7 (by decide +kernel) (by decide +kernel)
theorem sl_y_S_add : Cond.selects (y_S_add).cls y_S_add y_S_add ∈ TB := tb_p 8 (by decide +kernel) (by decide +kernel)
theorem sl_y_A_withNumber : Cond.selects (y_A_withNumber).cls y_A_withNumber y_A_withNumber ∈ TB := tb_p 9 (by decide +kernel) (by decide +kernel)
theorem sl_y_A_standsAmong : Cond.selects (y_A_standsAmong).cls y_A_standsAmong y_A_standsAmong ∈ TB := tb_p 10 (by decide +kernel) (by decide +kernel)
theorem sl_y_K_learnFrom : Cond.selects (y_K_learnFrom).cls y_K_learnFrom y_K_learnFrom ∈ TB := tb_p 11 (by decide +kernel) (by decide +kernel)
theorem sl_y_S_addAll : Cond.selects (y_S_addAll).cls y_S_addAll y_S_addAll ∈ TB := tb_p 12 (by decide +kernel) (by decide +kernel)
theorem sl_y_A_countConflicts : Cond.selects (y_A_countConflicts).cls y_A_countConflicts y_A_countConflicts ∈ TB := tb_p 13 (by decide +kernel) (by decide +kernel)
theorem sl_y_A_isFirstOfSpot : Cond.selects (y_A_isFirstOfSpot).cls y_A_isFirstOfSpot y_A_isFirstOfSpot ∈ TB := tb_p 14 (by decide +kernel) (by decide +kernel)
theorem sl_y_A_isConflictFrom : Cond.selects (y_A_isConflictFrom).cls y_A_isConflictFrom y_A_isConflictFrom ∈ TB := tb_p 15 (by decide +kernel) (by decide +kernel)
theorem sl_y_A_pickToldBy : Cond.selects (y_A_pickToldBy).cls y_A_pickToldBy y_A_pickToldBy ∈ TB := tb_p 16 (by decide +kernel) (by decide +kernel)
theorem sl_y_A_latestStanding : Cond.selects (y_A_latestStanding).cls y_A_latestStanding y_A_latestStanding ∈ TB := tb_p 17 (by decide +kernel) (by decide +kernel)
theorem sl_y_A_isLater : Cond.selects (y_A_isLater).cls y_A_isLater y_A_isLater ∈ TB := tb_p 18 (by decide +kernel) (by decide +kernel)
theorem sl_y_A_conflictSpot : Cond.selects (y_A_conflictSpot).cls y_A_conflictSpot y_A_conflictSpot ∈ TB := tb_p 19 (by decide +kernel) (by decide +kernel)
theorem sl_y_A_pickStanding : Cond.selects (y_A_pickStanding).cls y_A_pickStanding y_A_pickStanding ∈ TB := tb_p 20 (by decide +kernel) (by decide +kernel)
theorem sl_y_S_size : Cond.selects (y_S_size).cls y_S_size y_S_size ∈ TB := tb_p 21 (by decide +kernel) (by decide +kernel)
theorem sl_y_A_inOrder : Cond.selects (y_A_inOrder).cls y_A_inOrder y_A_inOrder ∈ TB := tb_p 22 (by decide +kernel) (by decide +kernel)
theorem sl_y_T_numberOrNone : Cond.selects (y_T_numberOrNone).cls y_T_numberOrNone y_T_numberOrNone ∈ TB := tb_p 23 (by decide +kernel) (by decide +kernel)
theorem sl_y_S_isSameAs : Cond.selects (y_S_isSameAs).cls y_S_isSameAs y_S_isSameAs ∈ TB := tb_p 24 (by decide +kernel) (by decide +kernel)
theorem sl_y_K_learnPending : Cond.selects (y_K_learnPending).cls y_K_learnPending y_K_learnPending ∈ TB := tb_p 25 (by decide +kernel) (by decide +kernel)
theorem sl_y_T_playTurn : Cond.selects (y_T_playTurn).cls y_T_playTurn y_T_playTurn ∈ TB := tb_p 26 (by decide +kernel) (by decide +kernel)
theorem sl_y_W_below : Cond.selects (y_W_below).cls y_W_below y_W_below ∈ TB := tb_p 27 (by decide +kernel) (by decide +kernel)
theorem sl_y_A_pickEqual : Cond.selects (y_A_pickEqual).cls y_A_pickEqual y_A_pickEqual ∈ TB := tb_p 28 (by decide +kernel) (by decide +kernel)
theorem sl_y_M_isDesk : Cond.selects (y_M_isDesk).cls y_M_isDesk y_M_isDesk ∈ TB := tb_p 29 (by decide +kernel) (by decide +kernel)
theorem sl_y_M_add : Cond.selects (y_M_add).cls y_M_add y_M_add ∈ TB := tb_p 30 (by decide +kernel) (by decide +kernel)
theorem sl_y_M_place : Cond.selects (y_M_place).cls y_M_place y_M_place ∈ TB := tb_p 31 (by decide +kernel) (by decide +kernel)
theorem sl_y_M_look : Cond.selects (y_M_look).cls y_M_look y_M_look ∈ TB := tb_p 32 (by decide +kernel) (by decide +kernel)
theorem sl_y_M_conflicts : Cond.selects (y_M_conflicts).cls y_M_conflicts y_M_conflicts ∈ TB := tb_p 33 (by decide +kernel) (by decide +kernel)
theorem sl_y_M_isFirstOfConflict : Cond.selects (y_M_isFirstOfConflict).cls y_M_isFirstOfConflict y_M_isFirstOfConflict ∈ TB := tb_p 34 (by decide +kernel) (by decide +kernel)
theorem sl_y_M_areOne : Cond.selects (y_M_areOne).cls y_M_areOne y_M_areOne ∈ TB := tb_p 35 (by decide +kernel) (by decide +kernel)
theorem sl_y_M_isBefore : Cond.selects (y_M_isBefore).cls y_M_isBefore y_M_isBefore ∈ TB := tb_p 36 (by decide +kernel) (by decide +kernel)
theorem sl_y_M_standing : Cond.selects (y_M_standing).cls y_M_standing y_M_standing ∈ TB := tb_p 37 (by decide +kernel) (by decide +kernel)
theorem sl_y_M_stands : Cond.selects (y_M_stands).cls y_M_stands y_M_stands ∈ TB := tb_p 38 (by decide +kernel) (by decide +kernel)
theorem sl_y_M_isKnown : Cond.selects (y_M_isKnown).cls y_M_isKnown y_M_isKnown ∈ TB := tb_p 39 (by decide +kernel) (by decide +kernel)
theorem sl_y_M_draw : Cond.selects (y_M_draw).cls y_M_draw y_M_draw ∈ TB := tb_p 40 (by decide +kernel) (by decide +kernel)
theorem ini_L : Cond.initialized R_L ∈ TB := tb_t 0 (by decide +kernel) (by decide +kernel)
theorem ini_T : Cond.initialized R_T ∈ TB := tb_t 1 (by decide +kernel) (by decide +kernel)
theorem ini_A : Cond.initialized R_A ∈ TB := tb_t 2 (by decide +kernel) (by decide +kernel)
theorem ini_S : Cond.initialized R_S ∈ TB := tb_t 3 (by decide +kernel) (by decide +kernel)
theorem ini_M : Cond.initialized R_M ∈ TB := tb_t 4 (by decide +kernel) (by decide +kernel)
theorem ini_K : Cond.initialized R_K ∈ TB := tb_t 5 (by decide +kernel) (by decide +kernel)
theorem mx_init : Cond.initialized "java/lang/Math" ∈ TB := tb_t 6 (by decide +kernel) (by decide +kernel)
theorem ini_J : Cond.initialized R_J ∈ TB := tb_t 7 (by decide +kernel) (by decide +kernel)
theorem ini_W : Cond.initialized R_W ∈ TB := tb_t 8 (by decide +kernel) (by decide +kernel)
theorem mx_code : Cond.code Lib.Math.max.name Lib.Math.max.code 2 (some .int) ∈ TB := tb_t 195 (by decide +kernel) (by decide +kernel)
theorem oi_code : Cond.code objectInit ⟨#[0xb1]⟩ 1 none ∈ TB := tb_t 16 (by decide +kernel) (by decide +kernel)
theorem ins_T : Cond.instantiable R_T 6 ∈ TB := tb_t 10 (by decide +kernel) (by decide +kernel)
theorem ins_A : Cond.instantiable R_A 8 ∈ TB := tb_t 20 (by decide +kernel) (by decide +kernel)
theorem ins_S : Cond.instantiable R_S 1 ∈ TB := tb_t 56 (by decide +kernel) (by decide +kernel)
theorem ins_K : Cond.instantiable R_K 6 ∈ TB := tb_t 89 (by decide +kernel) (by decide +kernel)
theorem ins_W : Cond.instantiable R_W 1 ∈ TB := tb_t 300 (by decide +kernel) (by decide +kernel)
theorem ins_M : Cond.instantiable R_M 18 ∈ TB := tb_t 335 (by decide +kernel) (by decide +kernel)
theorem arr_desk : Cond.arrayOver (.object R_K) ∈ lw_tbl := List.mem_append_right _ (List.mem_of_getElem? (i := 18) (by decide +kernel))
theorem arr_int : Cond.arrayClass .int ∈ TB := tb_t 53 (by decide +kernel) (by decide +kernel)
theorem arr_long : Cond.arrayClass .long ∈ TB := tb_t 54 (by decide +kernel) (by decide +kernel)
theorem arr_boolean : Cond.arrayClass .boolean ∈ TB := tb_t 396 (by decide +kernel) (by decide +kernel)
theorem lk_A_9 : Cond.fieldLink R_A 9 "ToldFacts$Facts" "numbers" "[I" ∈ TB := tb_t 25 (by decide +kernel) (by decide +kernel)
theorem lk_T_158 : Cond.fieldLinkNest R_T 158 "ToldFacts$Facts" "numbers" "[I" "ToldFacts" ∈ NW := nw_t 26 (by decide +kernel) (by decide +kernel)
theorem lk_A_15 : Cond.fieldLink R_A 15 "ToldFacts$Facts" "spots" "[I" ∈ TB := tb_t 27 (by decide +kernel) (by decide +kernel)
theorem lk_T_75 : Cond.fieldLinkNest R_T 75 "ToldFacts$Facts" "spots" "[I" "ToldFacts" ∈ NW := nw_t 28 (by decide +kernel) (by decide +kernel)
theorem lk_A_18 : Cond.fieldLink R_A 18 "ToldFacts$Facts" "values" "[J" ∈ TB := tb_t 29 (by decide +kernel) (by decide +kernel)
theorem lk_T_96 : Cond.fieldLinkNest R_T 96 "ToldFacts$Facts" "values" "[J" "ToldFacts" ∈ NW := nw_t 30 (by decide +kernel) (by decide +kernel)
theorem lk_A_22 : Cond.fieldLink R_A 22 "ToldFacts$Facts" "times" "[I" ∈ TB := tb_t 31 (by decide +kernel) (by decide +kernel)
theorem lk_A_27 : Cond.fieldLink R_A 27 "ToldFacts$Facts" "replacers" "[J" ∈ TB := tb_t 32 (by decide +kernel) (by decide +kernel)
theorem lk_A_30 : Cond.fieldLink R_A 30 "ToldFacts$Facts" "byNumber" "[I" ∈ TB := tb_t 33 (by decide +kernel) (by decide +kernel)
theorem lk_A_33 : Cond.fieldLink R_A 33 "ToldFacts$Facts" "bySpot" "[I" ∈ TB := tb_t 34 (by decide +kernel) (by decide +kernel)
theorem lk_A_36 : Cond.fieldLink R_A 36 "ToldFacts$Facts" "count" "I" ∈ TB := tb_t 35 (by decide +kernel) (by decide +kernel)
theorem lk_S_11 : Cond.fieldLink R_S 11 "ToldFacts$FactSet" "words" "[J" ∈ TB := tb_t 61 (by decide +kernel) (by decide +kernel)
theorem lk_A_48 : Cond.fieldLinkNest R_A 48 "ToldFacts$FactSet" "words" "[J" "ToldFacts" ∈ NW := nw_t 62 (by decide +kernel) (by decide +kernel)
theorem lk_T_11 : Cond.fieldLink R_T 11 "ToldFacts" "desks" "[LToldFacts$Desk;" ∈ TB := tb_t 66 (by decide +kernel) (by decide +kernel)
theorem lk_T_15 : Cond.fieldLink R_T 15 "ToldFacts" "batchDesks" "[I" ∈ TB := tb_t 67 (by decide +kernel) (by decide +kernel)
theorem lk_T_22 : Cond.fieldLink R_T 22 "ToldFacts" "facts" "LToldFacts$Facts;" ∈ TB := tb_t 68 (by decide +kernel) (by decide +kernel)
theorem lk_T_29 : Cond.fieldLink R_T 29 "ToldFacts" "picked" "LToldFacts$FactSet;" ∈ TB := tb_t 69 (by decide +kernel) (by decide +kernel)
theorem lk_T_33 : Cond.fieldLink R_T 33 "ToldFacts" "deskCount" "I" ∈ TB := tb_t 70 (by decide +kernel) (by decide +kernel)
theorem lk_T_136 : Cond.fieldLink R_T 136 "ToldFacts" "batchCount" "I" ∈ TB := tb_t 71 (by decide +kernel) (by decide +kernel)
theorem lk_K_25 : Cond.fieldLink R_K 25 "ToldFacts$Desk" "number" "I" ∈ TB := tb_t 96 (by decide +kernel) (by decide +kernel)
theorem lk_K_12 : Cond.fieldLink R_K 12 "ToldFacts$Desk" "knows" "LToldFacts$FactSet;" ∈ TB := tb_t 97 (by decide +kernel) (by decide +kernel)
theorem lk_T_65 : Cond.fieldLinkNest R_T 65 "ToldFacts$Desk" "knows" "LToldFacts$FactSet;" "ToldFacts" ∈ NW := nw_t 98 (by decide +kernel) (by decide +kernel)
theorem lk_K_18 : Cond.fieldLink R_K 18 "ToldFacts$Desk" "pending" "LToldFacts$FactSet;" ∈ TB := tb_t 99 (by decide +kernel) (by decide +kernel)
theorem lk_K_31 : Cond.fieldLink R_K 31 "ToldFacts$Desk" "clock" "I" ∈ TB := tb_t 100 (by decide +kernel) (by decide +kernel)
theorem lk_K_28 : Cond.fieldLink R_K 28 "ToldFacts$Desk" "toldCount" "I" ∈ TB := tb_t 101 (by decide +kernel) (by decide +kernel)
theorem lk_K_21 : Cond.fieldLink R_K 21 "ToldFacts$Desk" "openBatch" "I" ∈ TB := tb_t 102 (by decide +kernel) (by decide +kernel)
theorem lk_T_133 : Cond.fieldLinkNest R_T 133 "ToldFacts$Desk" "openBatch" "I" "ToldFacts" ∈ NW := nw_t 103 (by decide +kernel) (by decide +kernel)
theorem lk_W_7 : Cond.fieldLink R_W 7 "ToldFacts$Draw" "x" "J" ∈ TB := tb_t 305 (by decide +kernel) (by decide +kernel)
theorem lk_M_55 : Cond.fieldLink R_M 55 "ToldFactsModel" "desks" "I" ∈ TB := tb_t 341 (by decide +kernel) (by decide +kernel)
theorem lk_M_9 : Cond.fieldLink R_M 9 "ToldFactsModel" "clock" "[J" ∈ TB := tb_t 342 (by decide +kernel) (by decide +kernel)
theorem lk_M_13 : Cond.fieldLink R_M 13 "ToldFactsModel" "toldAt" "[I" ∈ TB := tb_t 343 (by decide +kernel) (by decide +kernel)
theorem lk_M_17 : Cond.fieldLink R_M 17 "ToldFactsModel" "open" "[I" ∈ TB := tb_t 344 (by decide +kernel) (by decide +kernel)
theorem lk_M_20 : Cond.fieldLink R_M 20 "ToldFactsModel" "number" "[I" ∈ TB := tb_t 345 (by decide +kernel) (by decide +kernel)
theorem lk_M_23 : Cond.fieldLink R_M 23 "ToldFactsModel" "thing" "[I" ∈ TB := tb_t 346 (by decide +kernel) (by decide +kernel)
theorem lk_M_26 : Cond.fieldLink R_M 26 "ToldFactsModel" "kind" "[I" ∈ TB := tb_t 347 (by decide +kernel) (by decide +kernel)
theorem lk_M_29 : Cond.fieldLink R_M 29 "ToldFactsModel" "day" "[J" ∈ TB := tb_t 348 (by decide +kernel) (by decide +kernel)
theorem lk_M_32 : Cond.fieldLink R_M 32 "ToldFactsModel" "value" "[J" ∈ TB := tb_t 349 (by decide +kernel) (by decide +kernel)
theorem lk_M_35 : Cond.fieldLink R_M 35 "ToldFactsModel" "time" "[J" ∈ TB := tb_t 350 (by decide +kernel) (by decide +kernel)
theorem lk_M_38 : Cond.fieldLink R_M 38 "ToldFactsModel" "batchOf" "[I" ∈ TB := tb_t 351 (by decide +kernel) (by decide +kernel)
theorem lk_M_42 : Cond.fieldLink R_M 42 "ToldFactsModel" "replaces" "[Z" ∈ TB := tb_t 352 (by decide +kernel) (by decide +kernel)
theorem lk_M_46 : Cond.fieldLink R_M 46 "ToldFactsModel" "knows" "[Z" ∈ TB := tb_t 353 (by decide +kernel) (by decide +kernel)
theorem lk_M_59 : Cond.fieldLink R_M 59 "ToldFactsModel" "facts" "I" ∈ TB := tb_t 354 (by decide +kernel) (by decide +kernel)
theorem lk_M_49 : Cond.fieldLink R_M 49 "ToldFactsModel" "batchDesk" "[I" ∈ TB := tb_t 355 (by decide +kernel) (by decide +kernel)
theorem lk_M_108 : Cond.fieldLink R_M 108 "ToldFactsModel" "batches" "I" ∈ TB := tb_t 356 (by decide +kernel) (by decide +kernel)
theorem lk_M_52 : Cond.fieldLink R_M 52 "ToldFactsModel" "stand" "[Z" ∈ TB := tb_t 357 (by decide +kernel) (by decide +kernel)
theorem lk_M_111 : Cond.fieldLink R_M 111 "ToldFactsModel" "drawn" "J" ∈ TB := tb_t 358 (by decide +kernel) (by decide +kernel)
theorem lk_T_48 : Cond.constantLong R_T 48 (100001) ∈ TB := tb_t 128 (by decide +kernel) (by decide +kernel)
theorem lk_T_181 : Cond.constant R_T 181 (100001) ∈ TB := tb_t 136 (by decide +kernel) (by decide +kernel)
theorem lk_T_86 : Cond.constantLong R_T 86 (-9223372036854775808) ∈ TB := tb_t 213 (by decide +kernel) (by decide +kernel)
theorem lk_A_66 : Cond.constant R_A 66 (100001) ∈ TB := tb_t 224 (by decide +kernel) (by decide +kernel)
theorem lk_J_314 : Cond.constantLong R_J 314 (6148914691236517205) ∈ TB := tb_t 258 (by decide +kernel) (by decide +kernel)
theorem lk_J_316 : Cond.constantLong R_J 316 (3689348814741910323) ∈ TB := tb_t 259 (by decide +kernel) (by decide +kernel)
theorem lk_J_318 : Cond.constantLong R_J 318 (1085102592571150095) ∈ TB := tb_t 260 (by decide +kernel) (by decide +kernel)
theorem lk_T_128 : Cond.constant R_T 128 (100000) ∈ TB := tb_t 273 (by decide +kernel) (by decide +kernel)
theorem lk_W_13 : Cond.constantLong R_W 13 (6364136223846793005) ∈ TB := tb_t 317 (by decide +kernel) (by decide +kernel)
theorem lk_W_15 : Cond.constantLong R_W 15 (1442695040888963407) ∈ TB := tb_t 318 (by decide +kernel) (by decide +kernel)
theorem lk_M_41 : Cond.constant R_M 41 (90000) ∈ TB := tb_t 340 (by decide +kernel) (by decide +kernel)
theorem lk_M_66 : Cond.constantLong R_M 66 (100000) ∈ TB := tb_t 409 (by decide +kernel) (by decide +kernel)
theorem lk_M_103 : Cond.constantLong R_M 103 (-9223372036854775808) ∈ TB := tb_t 462 (by decide +kernel) (by decide +kernel)
theorem lk_M_115 : Cond.constantLong R_M 115 (6364136223846793005) ∈ TB := tb_t 499 (by decide +kernel) (by decide +kernel)
theorem lk_M_117 : Cond.constantLong R_M 117 (1442695040888963407) ∈ TB := tb_t 500 (by decide +kernel) (by decide +kernel)
theorem lk_L_18 : Cond.constantLong R_L 18 (4294967295) ∈ TB := tb_t 504 (by decide +kernel) (by decide +kernel)
theorem lk_L_7 : Cond.classLink R_L 7 R_T ∈ TB := tb_t 9 (by decide +kernel) (by decide +kernel)
theorem lk_T_9 : Cond.classLink R_T 9 R_K ∈ TB := tb_t 17 (by decide +kernel) (by decide +kernel)
theorem lk_T_19 : Cond.classLink R_T 19 R_A ∈ TB := tb_t 19 (by decide +kernel) (by decide +kernel)
theorem lk_T_26 : Cond.classLink R_T 26 R_S ∈ TB := tb_t 55 (by decide +kernel) (by decide +kernel)
theorem lk_K_9 : Cond.classLink R_K 9 R_S ∈ TB := tb_t 94 (by decide +kernel) (by decide +kernel)
theorem lk_T_142 : Cond.classLink R_T 142 R_W ∈ TB := tb_t 299 (by decide +kernel) (by decide +kernel)
theorem lk_L_10 : Cond.classLink R_L 10 R_M ∈ TB := tb_t 334 (by decide +kernel) (by decide +kernel)
def Sv (own : String) (index : Nat) (y : MethodName) (b : ByteArray) (mL : Nat) (rt : Option FieldType) (n : Nat) : Prop := (Cond.methodLink own index y ∈ TB ∨ ∃ host, Cond.methodLinkNest own index y host ∈ NW) ∧ Cond.code y b mL rt ∈ TB ∧ Cond.initialized y.cls ∈ TB ∧ y.cls ≠ "java/lang/invoke/MethodHandle" ∧ y.cls ≠ "java/lang/invoke/VarHandle" ∧ (parseMethodDescriptor y.desc).map (fun d => d.parameters.length) = some n
theorem sv_L_9 : Sv R_L 9 y_T_init b_T_init 1 none 0 := ⟨Or.inl (tb_t 11 (by decide +kernel) (by decide +kernel)), cd_T_init, ini_T, by decide +kernel, by decide +kernel, by decide +kernel⟩
theorem lk_T_1 : Cond.methodLink R_T 1 objectInit ∈ TB := tb_t 14 (by decide +kernel) (by decide +kernel)
theorem sv_T_21 : Sv R_T 21 y_A_init b_A_init 1 none 0 := ⟨Or.inr ⟨"ToldFacts", nw_t 21 (by decide +kernel) (by decide +kernel)⟩, cd_A_init, ini_A, by decide +kernel, by decide +kernel, by decide +kernel⟩
theorem lk_A_3 : Cond.methodLink R_A 3 objectInit ∈ TB := tb_t 24 (by decide +kernel) (by decide +kernel)
theorem sv_T_28 : Sv R_T 28 y_S_init b_S_init 1 none 0 := ⟨Or.inr ⟨"ToldFacts", nw_t 57 (by decide +kernel) (by decide +kernel)⟩, cd_S_init, ini_S, by decide +kernel, by decide +kernel, by decide +kernel⟩
theorem lk_S_3 : Cond.methodLink R_S 3 objectInit ∈ TB := tb_t 60 (by decide +kernel) (by decide +kernel)
theorem sv_L_13 : Sv R_L 13 y_T_desk b_T_desk 2 (some .int) 0 := ⟨Or.inl (tb_t 85 (by decide +kernel) (by decide +kernel)), cd_T_desk, ini_T, by decide +kernel, by decide +kernel, by decide +kernel⟩
theorem sv_T_37 : Sv R_T 37 y_K_init b_K_init 2 none 1 := ⟨Or.inr ⟨"ToldFacts", nw_t 90 (by decide +kernel) (by decide +kernel)⟩, cd_K_init, ini_K, by decide +kernel, by decide +kernel, by decide +kernel⟩
theorem lk_K_3 : Cond.methodLink R_K 3 objectInit ∈ TB := tb_t 93 (by decide +kernel) (by decide +kernel)
theorem sv_K_11 : Sv R_K 11 y_S_init b_S_init 1 none 0 := ⟨Or.inr ⟨"ToldFacts", nw_t 95 (by decide +kernel) (by decide +kernel)⟩, cd_S_init, ini_S, by decide +kernel, by decide +kernel, by decide +kernel⟩
theorem sv_L_20 : Sv R_L 20 y_T_tell b_T_tell 9 (some .int) 5 := ⟨Or.inl (tb_t 117 (by decide +kernel) (by decide +kernel)), cd_T_tell, ini_T, by decide +kernel, by decide +kernel, by decide +kernel⟩
theorem sv_T_40 : Sv R_T 40 y_T_deskAt b_T_deskAt 2 (some (.object "ToldFacts$Desk")) 1 := ⟨Or.inl (tb_t 121 (by decide +kernel) (by decide +kernel)), cd_T_deskAt, ini_T, by decide +kernel, by decide +kernel, by decide +kernel⟩
theorem sv_T_44 : Sv R_T 44 y_T_areThingAndKind b_T_areThingAndKind 2 (some .boolean) 2 := ⟨Or.inl (tb_t 125 (by decide +kernel) (by decide +kernel)), cd_T_areThingAndKind, ini_T, by decide +kernel, by decide +kernel, by decide +kernel⟩
theorem sv_T_50 : Sv R_T 50 y_S_clear b_S_clear 2 none 0 := ⟨Or.inr ⟨"ToldFacts", nw_t 129 (by decide +kernel) (by decide +kernel)⟩, cd_S_clear, ini_S, by decide +kernel, by decide +kernel, by decide +kernel⟩
theorem sv_T_53 : Sv R_T 53 y_T_spotOf b_T_spotOf 3 (some .int) 3 := ⟨Or.inl (tb_t 133 (by decide +kernel) (by decide +kernel)), cd_T_spotOf, ini_T, by decide +kernel, by decide +kernel, by decide +kernel⟩
theorem sv_T_57 : Sv R_T 57 y_T_tellReplacing b_T_tellReplacing 8 (some .int) 4 := ⟨Or.inl (tb_t 137 (by decide +kernel) (by decide +kernel)), cd_T_tellReplacing, ini_T, by decide +kernel, by decide +kernel, by decide +kernel⟩
theorem sv_T_161 : Sv R_T 161 y_K_nextNumber b_K_nextNumber 1 (some .int) 0 := ⟨Or.inr ⟨"ToldFacts", nw_t 141 (by decide +kernel) (by decide +kernel)⟩, cd_K_nextNumber, ini_K, by decide +kernel, by decide +kernel, by decide +kernel⟩
theorem sv_T_164 : Sv R_T 164 y_K_nextTime b_K_nextTime 1 (some .int) 0 := ⟨Or.inr ⟨"ToldFacts", nw_t 145 (by decide +kernel) (by decide +kernel)⟩, cd_K_nextTime, ini_K, by decide +kernel, by decide +kernel, by decide +kernel⟩
theorem sv_T_167 : Sv R_T 167 y_A_append b_A_append 9 (some .int) 5 := ⟨Or.inr ⟨"ToldFacts", nw_t 149 (by decide +kernel) (by decide +kernel)⟩, cd_A_append, ini_A, by decide +kernel, by decide +kernel, by decide +kernel⟩
theorem sv_A_40 : Sv R_A 40 y_S_has b_S_has 2 (some .boolean) 1 := ⟨Or.inr ⟨"ToldFacts", nw_t 153 (by decide +kernel) (by decide +kernel)⟩, cd_S_has, ini_S, by decide +kernel, by decide +kernel, by decide +kernel⟩
theorem sv_A_44 : Sv R_A 44 y_A_insertByKey b_A_insertByKey 4 none 3 := ⟨Or.inl (tb_t 157 (by decide +kernel) (by decide +kernel)), cd_A_insertByKey, ini_A, by decide +kernel, by decide +kernel, by decide +kernel⟩
theorem sv_T_171 : Sv R_T 171 y_K_hear b_K_hear 2 none 1 := ⟨Or.inr ⟨"ToldFacts", nw_t 160 (by decide +kernel) (by decide +kernel)⟩, cd_K_hear, ini_K, by decide +kernel, by decide +kernel, by decide +kernel⟩
theorem sv_K_34 : Sv R_K 34 y_S_add b_S_add 2 none 1 := ⟨Or.inr ⟨"ToldFacts", nw_t 164 (by decide +kernel) (by decide +kernel)⟩, cd_S_add, ini_S, by decide +kernel, by decide +kernel, by decide +kernel⟩
theorem sv_L_25 : Sv R_L 25 y_T_correct b_T_correct 7 (some .int) 3 := ⟨Or.inl (tb_t 168 (by decide +kernel) (by decide +kernel)), cd_T_correct, ini_T, by decide +kernel, by decide +kernel, by decide +kernel⟩
theorem sv_T_61 : Sv R_T 61 y_A_withNumber b_A_withNumber 3 (some .int) 1 := ⟨Or.inr ⟨"ToldFacts", nw_t 172 (by decide +kernel) (by decide +kernel)⟩, cd_A_withNumber, ini_A, by decide +kernel, by decide +kernel, by decide +kernel⟩
theorem sv_T_68 : Sv R_T 68 y_A_standsAmong b_A_standsAmong 4 (some .boolean) 2 := ⟨Or.inr ⟨"ToldFacts", nw_t 176 (by decide +kernel) (by decide +kernel)⟩, cd_A_standsAmong, ini_A, by decide +kernel, by decide +kernel, by decide +kernel⟩
theorem sv_T_72 : Sv R_T 72 y_S_add b_S_add 2 none 1 := ⟨Or.inr ⟨"ToldFacts", nw_t 180 (by decide +kernel) (by decide +kernel)⟩, cd_S_add, ini_S, by decide +kernel, by decide +kernel, by decide +kernel⟩
theorem sv_L_30 : Sv R_L 30 y_T_join b_T_join 5 (some .int) 2 := ⟨Or.inl (tb_t 181 (by decide +kernel) (by decide +kernel)), cd_T_join, ini_T, by decide +kernel, by decide +kernel, by decide +kernel⟩
theorem sv_T_78 : Sv R_T 78 y_K_learnFrom b_K_learnFrom 2 none 1 := ⟨Or.inr ⟨"ToldFacts", nw_t 185 (by decide +kernel) (by decide +kernel)⟩, cd_K_learnFrom, ini_K, by decide +kernel, by decide +kernel, by decide +kernel⟩
theorem sv_K_38 : Sv R_K 38 y_S_addAll b_S_addAll 3 none 1 := ⟨Or.inr ⟨"ToldFacts", nw_t 189 (by decide +kernel) (by decide +kernel)⟩, cd_S_addAll, ini_S, by decide +kernel, by decide +kernel, by decide +kernel⟩
theorem lk_K_42 : Cond.methodLink R_K 42 Lib.Math.max.name ∈ TB := tb_t 193 (by decide +kernel) (by decide +kernel)
theorem sv_T_82 : Sv R_T 82 y_A_countConflicts b_A_countConflicts 4 (some .int) 1 := ⟨Or.inr ⟨"ToldFacts", nw_t 196 (by decide +kernel) (by decide +kernel)⟩, cd_A_countConflicts, ini_A, by decide +kernel, by decide +kernel, by decide +kernel⟩
theorem sv_A_74 : Sv R_A 74 y_A_isFirstOfSpot b_A_isFirstOfSpot 2 (some .boolean) 1 := ⟨Or.inl (tb_t 200 (by decide +kernel) (by decide +kernel)), cd_A_isFirstOfSpot, ini_A, by decide +kernel, by decide +kernel, by decide +kernel⟩
theorem sv_A_77 : Sv R_A 77 y_A_isConflictFrom b_A_isConflictFrom 7 (some .boolean) 2 := ⟨Or.inl (tb_t 204 (by decide +kernel) (by decide +kernel)), cd_A_isConflictFrom, ini_A, by decide +kernel, by decide +kernel, by decide +kernel⟩
theorem sv_A_54 : Sv R_A 54 y_A_standsAmong b_A_standsAmong 4 (some .boolean) 2 := ⟨Or.inl (tb_t 208 (by decide +kernel) (by decide +kernel)), cd_A_standsAmong, ini_A, by decide +kernel, by decide +kernel, by decide +kernel⟩
theorem sv_L_35 : Sv R_L 35 y_T_known b_T_known 10 (some .long) 5 := ⟨Or.inl (tb_t 209 (by decide +kernel) (by decide +kernel)), cd_T_known, ini_T, by decide +kernel, by decide +kernel, by decide +kernel⟩
theorem sv_T_88 : Sv R_T 88 y_A_pickToldBy b_A_pickToldBy 6 none 3 := ⟨Or.inr ⟨"ToldFacts", nw_t 214 (by decide +kernel) (by decide +kernel)⟩, cd_A_pickToldBy, ini_A, by decide +kernel, by decide +kernel, by decide +kernel⟩
theorem sv_A_51 : Sv R_A 51 y_S_clear b_S_clear 2 none 0 := ⟨Or.inr ⟨"ToldFacts", nw_t 218 (by decide +kernel) (by decide +kernel)⟩, cd_S_clear, ini_S, by decide +kernel, by decide +kernel, by decide +kernel⟩
theorem sv_A_58 : Sv R_A 58 y_S_add b_S_add 2 none 1 := ⟨Or.inr ⟨"ToldFacts", nw_t 219 (by decide +kernel) (by decide +kernel)⟩, cd_S_add, ini_S, by decide +kernel, by decide +kernel, by decide +kernel⟩
theorem sv_T_92 : Sv R_T 92 y_A_latestStanding b_A_latestStanding 9 (some .int) 4 := ⟨Or.inr ⟨"ToldFacts", nw_t 220 (by decide +kernel) (by decide +kernel)⟩, cd_A_latestStanding, ini_A, by decide +kernel, by decide +kernel, by decide +kernel⟩
theorem sv_A_67 : Sv R_A 67 y_T_dayOf b_T_dayOf 1 (some .int) 1 := ⟨Or.inr ⟨"ToldFacts", nw_t 225 (by decide +kernel) (by decide +kernel)⟩, cd_T_dayOf, ini_T, by decide +kernel, by decide +kernel, by decide +kernel⟩
theorem sv_A_70 : Sv R_A 70 y_A_isLater b_A_isLater 3 (some .boolean) 2 := ⟨Or.inl (tb_t 228 (by decide +kernel) (by decide +kernel)), cd_A_isLater, ini_A, by decide +kernel, by decide +kernel, by decide +kernel⟩
theorem sv_L_40 : Sv R_L 40 y_T_conflict b_T_conflict 6 (some .int) 3 := ⟨Or.inl (tb_t 232 (by decide +kernel) (by decide +kernel)), cd_T_conflict, ini_T, by decide +kernel, by decide +kernel, by decide +kernel⟩
theorem sv_T_100 : Sv R_T 100 y_A_conflictSpot b_A_conflictSpot 7 (some .int) 3 := ⟨Or.inr ⟨"ToldFacts", nw_t 236 (by decide +kernel) (by decide +kernel)⟩, cd_A_conflictSpot, ini_A, by decide +kernel, by decide +kernel, by decide +kernel⟩
theorem sv_T_104 : Sv R_T 104 y_A_pickStanding b_A_pickStanding 5 none 3 := ⟨Or.inr ⟨"ToldFacts", nw_t 240 (by decide +kernel) (by decide +kernel)⟩, cd_A_pickStanding, ini_A, by decide +kernel, by decide +kernel, by decide +kernel⟩
theorem sv_T_108 : Sv R_T 108 y_T_thingOf b_T_thingOf 1 (some .int) 1 := ⟨Or.inl (tb_t 244 (by decide +kernel) (by decide +kernel)), cd_T_thingOf, ini_T, by decide +kernel, by decide +kernel, by decide +kernel⟩
theorem sv_T_111 : Sv R_T 111 y_T_kindOf b_T_kindOf 1 (some .int) 1 := ⟨Or.inl (tb_t 247 (by decide +kernel) (by decide +kernel)), cd_T_kindOf, ini_T, by decide +kernel, by decide +kernel, by decide +kernel⟩
theorem sv_T_114 : Sv R_T 114 y_T_dayOf b_T_dayOf 1 (some .int) 1 := ⟨Or.inl (tb_t 250 (by decide +kernel) (by decide +kernel)), cd_T_dayOf, ini_T, by decide +kernel, by decide +kernel, by decide +kernel⟩
theorem sv_T_117 : Sv R_T 117 y_S_size b_S_size 3 (some .int) 0 := ⟨Or.inr ⟨"ToldFacts", nw_t 251 (by decide +kernel) (by decide +kernel)⟩, cd_S_size, ini_S, by decide +kernel, by decide +kernel, by decide +kernel⟩
theorem sv_S_15 : Sv R_S 15 y_J_bitCount b_J_bitCount 2 (some .int) 1 := ⟨Or.inl (tb_t 255 (by decide +kernel) (by decide +kernel)), cd_J_bitCount, ini_J, by decide +kernel, by decide +kernel, by decide +kernel⟩
theorem sv_T_121 : Sv R_T 121 y_A_inOrder b_A_inOrder 6 (some .int) 2 := ⟨Or.inr ⟨"ToldFacts", nw_t 261 (by decide +kernel) (by decide +kernel)⟩, cd_A_inOrder, ini_A, by decide +kernel, by decide +kernel, by decide +kernel⟩
theorem sv_T_125 : Sv R_T 125 y_T_numberOrNone b_T_numberOrNone 2 (some .int) 1 := ⟨Or.inl (tb_t 265 (by decide +kernel) (by decide +kernel)), cd_T_numberOrNone, ini_T, by decide +kernel, by decide +kernel, by decide +kernel⟩
theorem sv_L_45 : Sv R_L 45 y_T_settle b_T_settle 8 (some .int) 4 := ⟨Or.inl (tb_t 269 (by decide +kernel) (by decide +kernel)), cd_T_settle, ini_T, by decide +kernel, by decide +kernel, by decide +kernel⟩
theorem sv_L_50 : Sv R_L 50 y_T_equal b_T_equal 5 (some .boolean) 2 := ⟨Or.inl (tb_t 274 (by decide +kernel) (by decide +kernel)), cd_T_equal, ini_T, by decide +kernel, by decide +kernel, by decide +kernel⟩
theorem sv_T_129 : Sv R_T 129 y_S_isSameAs b_S_isSameAs 3 (some .boolean) 1 := ⟨Or.inr ⟨"ToldFacts", nw_t 278 (by decide +kernel) (by decide +kernel)⟩, cd_S_isSameAs, ini_S, by decide +kernel, by decide +kernel, by decide +kernel⟩
theorem sv_L_55 : Sv R_L 55 y_T_batch b_T_batch 4 (some .int) 1 := ⟨Or.inl (tb_t 282 (by decide +kernel) (by decide +kernel)), cd_T_batch, ini_T, by decide +kernel, by decide +kernel, by decide +kernel⟩
theorem sv_L_60 : Sv R_L 60 y_T_endBatch b_T_endBatch 3 (some .boolean) 1 := ⟨Or.inl (tb_t 286 (by decide +kernel) (by decide +kernel)), cd_T_endBatch, ini_T, by decide +kernel, by decide +kernel, by decide +kernel⟩
theorem sv_T_139 : Sv R_T 139 y_K_learnPending b_K_learnPending 1 none 0 := ⟨Or.inr ⟨"ToldFacts", nw_t 290 (by decide +kernel) (by decide +kernel)⟩, cd_K_learnPending, ini_K, by decide +kernel, by decide +kernel, by decide +kernel⟩
theorem sv_K_48 : Sv R_K 48 y_S_clear b_S_clear 2 none 0 := ⟨Or.inr ⟨"ToldFacts", nw_t 294 (by decide +kernel) (by decide +kernel)⟩, cd_S_clear, ini_S, by decide +kernel, by decide +kernel, by decide +kernel⟩
theorem sv_L_65 : Sv R_L 65 y_T_play b_T_play 7 (some .int) 2 := ⟨Or.inl (tb_t 295 (by decide +kernel) (by decide +kernel)), cd_T_play, ini_T, by decide +kernel, by decide +kernel, by decide +kernel⟩
theorem sv_T_144 : Sv R_T 144 y_W_init b_W_init 3 none 1 := ⟨Or.inr ⟨"ToldFacts", nw_t 301 (by decide +kernel) (by decide +kernel)⟩, cd_W_init, ini_W, by decide +kernel, by decide +kernel, by decide +kernel⟩
theorem lk_W_1 : Cond.methodLink R_W 1 objectInit ∈ TB := tb_t 304 (by decide +kernel) (by decide +kernel)
theorem sv_T_147 : Sv R_T 147 y_T_playTurn b_T_playTurn 7 none 1 := ⟨Or.inl (tb_t 309 (by decide +kernel) (by decide +kernel)), cd_T_playTurn, ini_T, by decide +kernel, by decide +kernel, by decide +kernel⟩
theorem sv_T_174 : Sv R_T 174 y_W_below b_W_below 2 (some .int) 1 := ⟨Or.inr ⟨"ToldFacts", nw_t 313 (by decide +kernel) (by decide +kernel)⟩, cd_W_below, ini_W, by decide +kernel, by decide +kernel, by decide +kernel⟩
theorem sv_T_177 : Sv R_T 177 y_T_tell b_T_tell 9 (some .int) 5 := ⟨Or.inl (tb_t 319 (by decide +kernel) (by decide +kernel)), cd_T_tell, ini_T, by decide +kernel, by decide +kernel, by decide +kernel⟩
theorem sv_T_151 : Sv R_T 151 y_T_counts b_T_counts 3 (some .int) 1 := ⟨Or.inl (tb_t 320 (by decide +kernel) (by decide +kernel)), cd_T_counts, ini_T, by decide +kernel, by decide +kernel, by decide +kernel⟩
theorem sv_L_70 : Sv R_L 70 y_T_find b_T_find 7 (some .int) 4 := ⟨Or.inl (tb_t 324 (by decide +kernel) (by decide +kernel)), cd_T_find, ini_T, by decide +kernel, by decide +kernel, by decide +kernel⟩
theorem sv_T_154 : Sv R_T 154 y_A_pickEqual b_A_pickEqual 7 none 4 := ⟨Or.inr ⟨"ToldFacts", nw_t 328 (by decide +kernel) (by decide +kernel)⟩, cd_A_pickEqual, ini_A, by decide +kernel, by decide +kernel, by decide +kernel⟩
theorem sv_A_62 : Sv R_A 62 y_T_kindOf b_T_kindOf 1 (some .int) 1 := ⟨Or.inr ⟨"ToldFacts", nw_t 332 (by decide +kernel) (by decide +kernel)⟩, cd_T_kindOf, ini_T, by decide +kernel, by decide +kernel, by decide +kernel⟩
theorem sv_L_75 : Sv R_L 75 y_T_counts b_T_counts 3 (some .int) 1 := ⟨Or.inl (tb_t 333 (by decide +kernel) (by decide +kernel)), cd_T_counts, ini_T, by decide +kernel, by decide +kernel, by decide +kernel⟩
theorem sv_L_12 : Sv R_L 12 y_M_init b_M_init 1 none 0 := ⟨Or.inl (tb_t 336 (by decide +kernel) (by decide +kernel)), cd_M_init, ini_M, by decide +kernel, by decide +kernel, by decide +kernel⟩
theorem lk_M_1 : Cond.methodLink R_M 1 objectInit ∈ TB := tb_t 339 (by decide +kernel) (by decide +kernel)
theorem sv_L_17 : Sv R_L 17 y_M_desk b_M_desk 1 (some .int) 0 := ⟨Or.inl (tb_t 397 (by decide +kernel) (by decide +kernel)), cd_M_desk, ini_M, by decide +kernel, by decide +kernel, by decide +kernel⟩
theorem sv_L_24 : Sv R_L 24 y_M_tell b_M_tell 8 (some .int) 5 := ⟨Or.inl (tb_t 401 (by decide +kernel) (by decide +kernel)), cd_M_tell, ini_M, by decide +kernel, by decide +kernel, by decide +kernel⟩
theorem sv_M_62 : Sv R_M 62 y_M_isDesk b_M_isDesk 2 (some .boolean) 1 := ⟨Or.inl (tb_t 405 (by decide +kernel) (by decide +kernel)), cd_M_isDesk, ini_M, by decide +kernel, by decide +kernel, by decide +kernel⟩
theorem sv_M_68 : Sv R_M 68 y_M_add b_M_add 9 (some .int) 5 := ⟨Or.inl (tb_t 410 (by decide +kernel) (by decide +kernel)), cd_M_add, ini_M, by decide +kernel, by decide +kernel, by decide +kernel⟩
theorem sv_L_29 : Sv R_L 29 y_M_correct b_M_correct 7 (some .int) 3 := ⟨Or.inl (tb_t 414 (by decide +kernel) (by decide +kernel)), cd_M_correct, ini_M, by decide +kernel, by decide +kernel, by decide +kernel⟩
theorem sv_M_76 : Sv R_M 76 y_M_place b_M_place 3 (some .int) 1 := ⟨Or.inl (tb_t 418 (by decide +kernel) (by decide +kernel)), cd_M_place, ini_M, by decide +kernel, by decide +kernel, by decide +kernel⟩
theorem sv_M_80 : Sv R_M 80 y_M_look b_M_look 4 none 1 := ⟨Or.inl (tb_t 422 (by decide +kernel) (by decide +kernel)), cd_M_look, ini_M, by decide +kernel, by decide +kernel, by decide +kernel⟩
theorem sv_L_34 : Sv R_L 34 y_M_join b_M_join 4 (some .int) 2 := ⟨Or.inl (tb_t 426 (by decide +kernel) (by decide +kernel)), cd_M_join, ini_M, by decide +kernel, by decide +kernel, by decide +kernel⟩
theorem sv_M_91 : Sv R_M 91 y_M_conflicts b_M_conflicts 4 (some .int) 1 := ⟨Or.inl (tb_t 430 (by decide +kernel) (by decide +kernel)), cd_M_conflicts, ini_M, by decide +kernel, by decide +kernel, by decide +kernel⟩
theorem sv_M_88 : Sv R_M 88 y_M_isFirstOfConflict b_M_isFirstOfConflict 4 (some .boolean) 1 := ⟨Or.inl (tb_t 434 (by decide +kernel) (by decide +kernel)), cd_M_isFirstOfConflict, ini_M, by decide +kernel, by decide +kernel, by decide +kernel⟩
theorem sv_M_84 : Sv R_M 84 y_M_areOne b_M_areOne 3 (some .boolean) 2 := ⟨Or.inl (tb_t 438 (by decide +kernel) (by decide +kernel)), cd_M_areOne, ini_M, by decide +kernel, by decide +kernel, by decide +kernel⟩
theorem sv_L_44 : Sv R_L 44 y_M_conflict b_M_conflict 7 (some .int) 3 := ⟨Or.inl (tb_t 442 (by decide +kernel) (by decide +kernel)), cd_M_conflict, ini_M, by decide +kernel, by decide +kernel, by decide +kernel⟩
theorem sv_M_94 : Sv R_M 94 y_M_isBefore b_M_isBefore 3 (some .boolean) 2 := ⟨Or.inl (tb_t 446 (by decide +kernel) (by decide +kernel)), cd_M_isBefore, ini_M, by decide +kernel, by decide +kernel, by decide +kernel⟩
theorem sv_M_97 : Sv R_M 97 y_M_standing b_M_standing 8 (some .int) 2 := ⟨Or.inl (tb_t 450 (by decide +kernel) (by decide +kernel)), cd_M_standing, ini_M, by decide +kernel, by decide +kernel, by decide +kernel⟩
theorem sv_L_49 : Sv R_L 49 y_M_settle b_M_settle 11 (some .int) 4 := ⟨Or.inl (tb_t 454 (by decide +kernel) (by decide +kernel)), cd_M_settle, ini_M, by decide +kernel, by decide +kernel, by decide +kernel⟩
theorem sv_L_39 : Sv R_L 39 y_M_known b_M_known 11 (some .long) 5 := ⟨Or.inl (tb_t 458 (by decide +kernel) (by decide +kernel)), cd_M_known, ini_M, by decide +kernel, by decide +kernel, by decide +kernel⟩
theorem sv_M_105 : Sv R_M 105 y_M_stands b_M_stands 7 (some .boolean) 3 := ⟨Or.inl (tb_t 463 (by decide +kernel) (by decide +kernel)), cd_M_stands, ini_M, by decide +kernel, by decide +kernel, by decide +kernel⟩
theorem sv_M_72 : Sv R_M 72 y_M_isKnown b_M_isKnown 5 (some .boolean) 3 := ⟨Or.inl (tb_t 467 (by decide +kernel) (by decide +kernel)), cd_M_isKnown, ini_M, by decide +kernel, by decide +kernel, by decide +kernel⟩
theorem sv_L_54 : Sv R_L 54 y_M_equal b_M_equal 5 (some .boolean) 2 := ⟨Or.inl (tb_t 471 (by decide +kernel) (by decide +kernel)), cd_M_equal, ini_M, by decide +kernel, by decide +kernel, by decide +kernel⟩
theorem sv_L_74 : Sv R_L 74 y_M_find b_M_find 9 (some .int) 4 := ⟨Or.inl (tb_t 475 (by decide +kernel) (by decide +kernel)), cd_M_find, ini_M, by decide +kernel, by decide +kernel, by decide +kernel⟩
theorem sv_L_78 : Sv R_L 78 y_M_counts b_M_counts 4 (some .int) 1 := ⟨Or.inl (tb_t 479 (by decide +kernel) (by decide +kernel)), cd_M_counts, ini_M, by decide +kernel, by decide +kernel, by decide +kernel⟩
theorem sv_L_59 : Sv R_L 59 y_M_batch b_M_batch 2 (some .int) 1 := ⟨Or.inl (tb_t 483 (by decide +kernel) (by decide +kernel)), cd_M_batch, ini_M, by decide +kernel, by decide +kernel, by decide +kernel⟩
theorem sv_L_64 : Sv R_L 64 y_M_endBatch b_M_endBatch 4 (some .boolean) 1 := ⟨Or.inl (tb_t 487 (by decide +kernel) (by decide +kernel)), cd_M_endBatch, ini_M, by decide +kernel, by decide +kernel, by decide +kernel⟩
theorem sv_L_69 : Sv R_L 69 y_M_play b_M_play 11 (some .int) 2 := ⟨Or.inl (tb_t 491 (by decide +kernel) (by decide +kernel)), cd_M_play, ini_M, by decide +kernel, by decide +kernel, by decide +kernel⟩
theorem sv_M_119 : Sv R_M 119 y_M_draw b_M_draw 2 (some .int) 1 := ⟨Or.inl (tb_t 495 (by decide +kernel) (by decide +kernel)), cd_M_draw, ini_M, by decide +kernel, by decide +kernel, by decide +kernel⟩
theorem sv_M_122 : Sv R_M 122 y_M_tell b_M_tell 8 (some .int) 5 := ⟨Or.inl (tb_t 501 (by decide +kernel) (by decide +kernel)), cd_M_tell, ini_M, by decide +kernel, by decide +kernel, by decide +kernel⟩
theorem sv_M_125 : Sv R_M 125 y_M_join b_M_join 4 (some .int) 2 := ⟨Or.inl (tb_t 502 (by decide +kernel) (by decide +kernel)), cd_M_join, ini_M, by decide +kernel, by decide +kernel, by decide +kernel⟩
theorem sv_M_128 : Sv R_M 128 y_M_counts b_M_counts 4 (some .int) 1 := ⟨Or.inl (tb_t 503 (by decide +kernel) (by decide +kernel)), cd_M_counts, ini_M, by decide +kernel, by decide +kernel, by decide +kernel⟩
end
section
theorem d_S_init_0 : decode b_S_init 0 = .ok (.aload_n 0, 1) := by decide +kernel
theorem d_S_init_1 : decode b_S_init 1 = .ok (.invokespecial 3, 3) := by decide +kernel
theorem d_S_init_4 : decode b_S_init 4 = .ok (.aload_n 0, 1) := by decide +kernel
theorem d_S_init_5 : decode b_S_init 5 = .ok (.iconst 5, 1) := by decide +kernel
theorem d_S_init_6 : decode b_S_init 6 = .ok (.newarray .long, 2) := by decide +kernel
theorem d_S_init_8 : decode b_S_init 8 = .ok (.putfield 11, 3) := by decide +kernel
theorem d_S_init_11 : decode b_S_init 11 = .ok (.return_, 1) := by decide +kernel
theorem d_S_has_0 : decode b_S_has 0 = .ok (.aload_n 0, 1) := by decide +kernel
theorem d_S_has_1 : decode b_S_has 1 = .ok (.getfield 11, 3) := by decide +kernel
theorem d_S_has_4 : decode b_S_has 4 = .ok (.iload_n 1, 1) := by decide +kernel
theorem d_S_has_5 : decode b_S_has 5 = .ok (.bipush 64, 2) := by decide +kernel
theorem d_S_has_7 : decode b_S_has 7 = .ok (.idiv, 1) := by decide +kernel
theorem d_S_has_8 : decode b_S_has 8 = .ok (.laload, 1) := by decide +kernel
theorem d_S_has_9 : decode b_S_has 9 = .ok (.lconst 1, 1) := by decide +kernel
theorem d_S_has_10 : decode b_S_has 10 = .ok (.iload_n 1, 1) := by decide +kernel
theorem d_S_has_11 : decode b_S_has 11 = .ok (.bipush 64, 2) := by decide +kernel
theorem d_S_has_13 : decode b_S_has 13 = .ok (.irem, 1) := by decide +kernel
theorem d_S_has_14 : decode b_S_has 14 = .ok (.lshl, 1) := by decide +kernel
theorem d_S_has_15 : decode b_S_has 15 = .ok (.land, 1) := by decide +kernel
theorem d_S_has_16 : decode b_S_has 16 = .ok (.lconst 0, 1) := by decide +kernel
theorem d_S_has_17 : decode b_S_has 17 = .ok (.lcmp, 1) := by decide +kernel
theorem d_S_has_18 : decode b_S_has 18 = .ok (.ifCond .eq 7, 3) := by decide +kernel
theorem d_S_has_21 : decode b_S_has 21 = .ok (.iconst 1, 1) := by decide +kernel
theorem d_S_has_22 : decode b_S_has 22 = .ok (.goto 4, 3) := by decide +kernel
theorem d_S_has_25 : decode b_S_has 25 = .ok (.iconst 0, 1) := by decide +kernel
theorem d_S_has_26 : decode b_S_has 26 = .ok (.ireturn, 1) := by decide +kernel
theorem d_S_add_0 : decode b_S_add 0 = .ok (.aload_n 0, 1) := by decide +kernel
theorem d_S_add_1 : decode b_S_add 1 = .ok (.getfield 11, 3) := by decide +kernel
theorem d_S_add_4 : decode b_S_add 4 = .ok (.iload_n 1, 1) := by decide +kernel
theorem d_S_add_5 : decode b_S_add 5 = .ok (.bipush 64, 2) := by decide +kernel
theorem d_S_add_7 : decode b_S_add 7 = .ok (.idiv, 1) := by decide +kernel
theorem d_S_add_8 : decode b_S_add 8 = .ok (.dup2, 1) := by decide +kernel
theorem d_S_add_9 : decode b_S_add 9 = .ok (.laload, 1) := by decide +kernel
theorem d_S_add_10 : decode b_S_add 10 = .ok (.lconst 1, 1) := by decide +kernel
theorem d_S_add_11 : decode b_S_add 11 = .ok (.iload_n 1, 1) := by decide +kernel
theorem d_S_add_12 : decode b_S_add 12 = .ok (.bipush 64, 2) := by decide +kernel
theorem d_S_add_14 : decode b_S_add 14 = .ok (.irem, 1) := by decide +kernel
theorem d_S_add_15 : decode b_S_add 15 = .ok (.lshl, 1) := by decide +kernel
theorem d_S_add_16 : decode b_S_add 16 = .ok (.lor, 1) := by decide +kernel
theorem d_S_add_17 : decode b_S_add 17 = .ok (.lastore, 1) := by decide +kernel
theorem d_S_add_18 : decode b_S_add 18 = .ok (.return_, 1) := by decide +kernel
theorem d_S_addAll_0 : decode b_S_addAll 0 = .ok (.iconst 0, 1) := by decide +kernel
theorem d_S_addAll_1 : decode b_S_addAll 1 = .ok (.istore_n 2, 1) := by decide +kernel
theorem d_S_addAll_2 : decode b_S_addAll 2 = .ok (.iload_n 2, 1) := by decide +kernel
theorem d_S_addAll_3 : decode b_S_addAll 3 = .ok (.iconst 5, 1) := by decide +kernel
theorem d_S_addAll_4 : decode b_S_addAll 4 = .ok (.if_icmp .ge 24, 3) := by decide +kernel
theorem d_S_addAll_7 : decode b_S_addAll 7 = .ok (.aload_n 0, 1) := by decide +kernel
theorem d_S_addAll_8 : decode b_S_addAll 8 = .ok (.getfield 11, 3) := by decide +kernel
theorem d_S_addAll_11 : decode b_S_addAll 11 = .ok (.iload_n 2, 1) := by decide +kernel
theorem d_S_addAll_12 : decode b_S_addAll 12 = .ok (.dup2, 1) := by decide +kernel
theorem d_S_addAll_13 : decode b_S_addAll 13 = .ok (.laload, 1) := by decide +kernel
theorem d_S_addAll_14 : decode b_S_addAll 14 = .ok (.aload_n 1, 1) := by decide +kernel
theorem d_S_addAll_15 : decode b_S_addAll 15 = .ok (.getfield 11, 3) := by decide +kernel
theorem d_S_addAll_18 : decode b_S_addAll 18 = .ok (.iload_n 2, 1) := by decide +kernel
theorem d_S_addAll_19 : decode b_S_addAll 19 = .ok (.laload, 1) := by decide +kernel
theorem d_S_addAll_20 : decode b_S_addAll 20 = .ok (.lor, 1) := by decide +kernel
theorem d_S_addAll_21 : decode b_S_addAll 21 = .ok (.lastore, 1) := by decide +kernel
theorem d_S_addAll_22 : decode b_S_addAll 22 = .ok (.iinc 2 1, 3) := by decide +kernel
theorem d_S_addAll_25 : decode b_S_addAll 25 = .ok (.goto (-23), 3) := by decide +kernel
theorem d_S_addAll_28 : decode b_S_addAll 28 = .ok (.return_, 1) := by decide +kernel
theorem d_S_clear_0 : decode b_S_clear 0 = .ok (.iconst 0, 1) := by decide +kernel
theorem d_S_clear_1 : decode b_S_clear 1 = .ok (.istore_n 1, 1) := by decide +kernel
theorem d_S_clear_2 : decode b_S_clear 2 = .ok (.iload_n 1, 1) := by decide +kernel
theorem d_S_clear_3 : decode b_S_clear 3 = .ok (.iconst 5, 1) := by decide +kernel
theorem d_S_clear_4 : decode b_S_clear 4 = .ok (.if_icmp .ge 16, 3) := by decide +kernel
theorem d_S_clear_7 : decode b_S_clear 7 = .ok (.aload_n 0, 1) := by decide +kernel
theorem d_S_clear_8 : decode b_S_clear 8 = .ok (.getfield 11, 3) := by decide +kernel
theorem d_S_clear_11 : decode b_S_clear 11 = .ok (.iload_n 1, 1) := by decide +kernel
theorem d_S_clear_12 : decode b_S_clear 12 = .ok (.lconst 0, 1) := by decide +kernel
theorem d_S_clear_13 : decode b_S_clear 13 = .ok (.lastore, 1) := by decide +kernel
theorem d_S_clear_14 : decode b_S_clear 14 = .ok (.iinc 1 1, 3) := by decide +kernel
theorem d_S_clear_17 : decode b_S_clear 17 = .ok (.goto (-15), 3) := by decide +kernel
theorem d_S_clear_20 : decode b_S_clear 20 = .ok (.return_, 1) := by decide +kernel
theorem d_S_size_0 : decode b_S_size 0 = .ok (.iconst 0, 1) := by decide +kernel
theorem d_S_size_1 : decode b_S_size 1 = .ok (.istore_n 1, 1) := by decide +kernel
theorem d_S_size_2 : decode b_S_size 2 = .ok (.iconst 0, 1) := by decide +kernel
theorem d_S_size_3 : decode b_S_size 3 = .ok (.istore_n 2, 1) := by decide +kernel
theorem d_S_size_4 : decode b_S_size 4 = .ok (.iload_n 2, 1) := by decide +kernel
theorem d_S_size_5 : decode b_S_size 5 = .ok (.iconst 5, 1) := by decide +kernel
theorem d_S_size_6 : decode b_S_size 6 = .ok (.if_icmp .ge 21, 3) := by decide +kernel
theorem d_S_size_9 : decode b_S_size 9 = .ok (.iload_n 1, 1) := by decide +kernel
theorem d_S_size_10 : decode b_S_size 10 = .ok (.aload_n 0, 1) := by decide +kernel
theorem d_S_size_11 : decode b_S_size 11 = .ok (.getfield 11, 3) := by decide +kernel
theorem d_S_size_14 : decode b_S_size 14 = .ok (.iload_n 2, 1) := by decide +kernel
theorem d_S_size_15 : decode b_S_size 15 = .ok (.laload, 1) := by decide +kernel
theorem d_S_size_16 : decode b_S_size 16 = .ok (.invokestatic 15, 3) := by decide +kernel
theorem d_S_size_19 : decode b_S_size 19 = .ok (.iadd, 1) := by decide +kernel
theorem d_S_size_20 : decode b_S_size 20 = .ok (.istore_n 1, 1) := by decide +kernel
theorem d_S_size_21 : decode b_S_size 21 = .ok (.iinc 2 1, 3) := by decide +kernel
theorem d_S_size_24 : decode b_S_size 24 = .ok (.goto (-20), 3) := by decide +kernel
theorem d_S_size_27 : decode b_S_size 27 = .ok (.iload_n 1, 1) := by decide +kernel
theorem d_S_size_28 : decode b_S_size 28 = .ok (.ireturn, 1) := by decide +kernel
theorem d_S_isSameAs_0 : decode b_S_isSameAs 0 = .ok (.iconst 0, 1) := by decide +kernel
theorem d_S_isSameAs_1 : decode b_S_isSameAs 1 = .ok (.istore_n 2, 1) := by decide +kernel
theorem d_S_isSameAs_2 : decode b_S_isSameAs 2 = .ok (.iload_n 2, 1) := by decide +kernel
theorem d_S_isSameAs_3 : decode b_S_isSameAs 3 = .ok (.iconst 5, 1) := by decide +kernel
theorem d_S_isSameAs_4 : decode b_S_isSameAs 4 = .ok (.if_icmp .ge 27, 3) := by decide +kernel
theorem d_S_isSameAs_7 : decode b_S_isSameAs 7 = .ok (.aload_n 0, 1) := by decide +kernel
theorem d_S_isSameAs_8 : decode b_S_isSameAs 8 = .ok (.getfield 11, 3) := by decide +kernel
theorem d_S_isSameAs_11 : decode b_S_isSameAs 11 = .ok (.iload_n 2, 1) := by decide +kernel
theorem d_S_isSameAs_12 : decode b_S_isSameAs 12 = .ok (.laload, 1) := by decide +kernel
theorem d_S_isSameAs_13 : decode b_S_isSameAs 13 = .ok (.aload_n 1, 1) := by decide +kernel
theorem d_S_isSameAs_14 : decode b_S_isSameAs 14 = .ok (.getfield 11, 3) := by decide +kernel
theorem d_S_isSameAs_17 : decode b_S_isSameAs 17 = .ok (.iload_n 2, 1) := by decide +kernel
theorem d_S_isSameAs_18 : decode b_S_isSameAs 18 = .ok (.laload, 1) := by decide +kernel
theorem d_S_isSameAs_19 : decode b_S_isSameAs 19 = .ok (.lcmp, 1) := by decide +kernel
theorem d_S_isSameAs_20 : decode b_S_isSameAs 20 = .ok (.ifCond .eq 5, 3) := by decide +kernel
theorem d_S_isSameAs_23 : decode b_S_isSameAs 23 = .ok (.iconst 0, 1) := by decide +kernel
theorem d_S_isSameAs_24 : decode b_S_isSameAs 24 = .ok (.ireturn, 1) := by decide +kernel
theorem d_S_isSameAs_25 : decode b_S_isSameAs 25 = .ok (.iinc 2 1, 3) := by decide +kernel
theorem d_S_isSameAs_28 : decode b_S_isSameAs 28 = .ok (.goto (-26), 3) := by decide +kernel
theorem d_S_isSameAs_31 : decode b_S_isSameAs 31 = .ok (.iconst 1, 1) := by decide +kernel
theorem d_S_isSameAs_32 : decode b_S_isSameAs 32 = .ok (.ireturn, 1) := by decide +kernel
theorem d_K_init_0 : decode b_K_init 0 = .ok (.aload_n 0, 1) := by decide +kernel
theorem d_K_init_1 : decode b_K_init 1 = .ok (.invokespecial 3, 3) := by decide +kernel
theorem d_K_init_4 : decode b_K_init 4 = .ok (.aload_n 0, 1) := by decide +kernel
theorem d_K_init_5 : decode b_K_init 5 = .ok (.new 9, 3) := by decide +kernel
theorem d_K_init_8 : decode b_K_init 8 = .ok (.dup, 1) := by decide +kernel
theorem d_K_init_9 : decode b_K_init 9 = .ok (.invokespecial 11, 3) := by decide +kernel
theorem d_K_init_12 : decode b_K_init 12 = .ok (.putfield 12, 3) := by decide +kernel
theorem d_K_init_15 : decode b_K_init 15 = .ok (.aload_n 0, 1) := by decide +kernel
theorem d_K_init_16 : decode b_K_init 16 = .ok (.new 9, 3) := by decide +kernel
theorem d_K_init_19 : decode b_K_init 19 = .ok (.dup, 1) := by decide +kernel
theorem d_K_init_20 : decode b_K_init 20 = .ok (.invokespecial 11, 3) := by decide +kernel
theorem d_K_init_23 : decode b_K_init 23 = .ok (.putfield 18, 3) := by decide +kernel
theorem d_K_init_26 : decode b_K_init 26 = .ok (.aload_n 0, 1) := by decide +kernel
theorem d_K_init_27 : decode b_K_init 27 = .ok (.iconst (-1), 1) := by decide +kernel
theorem d_K_init_28 : decode b_K_init 28 = .ok (.putfield 21, 3) := by decide +kernel
theorem d_K_init_31 : decode b_K_init 31 = .ok (.aload_n 0, 1) := by decide +kernel
theorem d_K_init_32 : decode b_K_init 32 = .ok (.iload_n 1, 1) := by decide +kernel
theorem d_K_init_33 : decode b_K_init 33 = .ok (.putfield 25, 3) := by decide +kernel
theorem d_K_init_36 : decode b_K_init 36 = .ok (.return_, 1) := by decide +kernel
theorem d_K_nextNumber_0 : decode b_K_nextNumber 0 = .ok (.bipush 8, 2) := by decide +kernel
theorem d_K_nextNumber_2 : decode b_K_nextNumber 2 = .ok (.aload_n 0, 1) := by decide +kernel
theorem d_K_nextNumber_3 : decode b_K_nextNumber 3 = .ok (.getfield 28, 3) := by decide +kernel
theorem d_K_nextNumber_6 : decode b_K_nextNumber 6 = .ok (.imul, 1) := by decide +kernel
theorem d_K_nextNumber_7 : decode b_K_nextNumber 7 = .ok (.aload_n 0, 1) := by decide +kernel
theorem d_K_nextNumber_8 : decode b_K_nextNumber 8 = .ok (.getfield 25, 3) := by decide +kernel
theorem d_K_nextNumber_11 : decode b_K_nextNumber 11 = .ok (.iadd, 1) := by decide +kernel
theorem d_K_nextNumber_12 : decode b_K_nextNumber 12 = .ok (.ireturn, 1) := by decide +kernel
theorem d_K_nextTime_0 : decode b_K_nextTime 0 = .ok (.aload_n 0, 1) := by decide +kernel
theorem d_K_nextTime_1 : decode b_K_nextTime 1 = .ok (.getfield 31, 3) := by decide +kernel
theorem d_K_nextTime_4 : decode b_K_nextTime 4 = .ok (.iconst 1, 1) := by decide +kernel
theorem d_K_nextTime_5 : decode b_K_nextTime 5 = .ok (.iadd, 1) := by decide +kernel
theorem d_K_nextTime_6 : decode b_K_nextTime 6 = .ok (.ireturn, 1) := by decide +kernel
theorem d_K_hear_0 : decode b_K_hear 0 = .ok (.aload_n 0, 1) := by decide +kernel
theorem d_K_hear_1 : decode b_K_hear 1 = .ok (.dup, 1) := by decide +kernel
theorem d_K_hear_2 : decode b_K_hear 2 = .ok (.getfield 28, 3) := by decide +kernel
theorem d_K_hear_5 : decode b_K_hear 5 = .ok (.iconst 1, 1) := by decide +kernel
theorem d_K_hear_6 : decode b_K_hear 6 = .ok (.iadd, 1) := by decide +kernel
theorem d_K_hear_7 : decode b_K_hear 7 = .ok (.putfield 28, 3) := by decide +kernel
theorem d_K_hear_10 : decode b_K_hear 10 = .ok (.aload_n 0, 1) := by decide +kernel
theorem d_K_hear_11 : decode b_K_hear 11 = .ok (.dup, 1) := by decide +kernel
theorem d_K_hear_12 : decode b_K_hear 12 = .ok (.getfield 31, 3) := by decide +kernel
theorem d_K_hear_15 : decode b_K_hear 15 = .ok (.iconst 1, 1) := by decide +kernel
theorem d_K_hear_16 : decode b_K_hear 16 = .ok (.iadd, 1) := by decide +kernel
theorem d_K_hear_17 : decode b_K_hear 17 = .ok (.putfield 31, 3) := by decide +kernel
theorem d_K_hear_20 : decode b_K_hear 20 = .ok (.aload_n 0, 1) := by decide +kernel
theorem d_K_hear_21 : decode b_K_hear 21 = .ok (.getfield 21, 3) := by decide +kernel
theorem d_K_hear_24 : decode b_K_hear 24 = .ok (.iconst (-1), 1) := by decide +kernel
theorem d_K_hear_25 : decode b_K_hear 25 = .ok (.if_icmp .ne 14, 3) := by decide +kernel
theorem d_K_hear_28 : decode b_K_hear 28 = .ok (.aload_n 0, 1) := by decide +kernel
theorem d_K_hear_29 : decode b_K_hear 29 = .ok (.getfield 12, 3) := by decide +kernel
theorem d_K_hear_32 : decode b_K_hear 32 = .ok (.iload_n 1, 1) := by decide +kernel
theorem d_K_hear_33 : decode b_K_hear 33 = .ok (.invokevirtual 34, 3) := by decide +kernel
theorem d_K_hear_36 : decode b_K_hear 36 = .ok (.goto 11, 3) := by decide +kernel
theorem d_K_hear_39 : decode b_K_hear 39 = .ok (.aload_n 0, 1) := by decide +kernel
theorem d_K_hear_40 : decode b_K_hear 40 = .ok (.getfield 18, 3) := by decide +kernel
theorem d_K_hear_43 : decode b_K_hear 43 = .ok (.iload_n 1, 1) := by decide +kernel
theorem d_K_hear_44 : decode b_K_hear 44 = .ok (.invokevirtual 34, 3) := by decide +kernel
theorem d_K_hear_47 : decode b_K_hear 47 = .ok (.return_, 1) := by decide +kernel
theorem d_K_learnFrom_0 : decode b_K_learnFrom 0 = .ok (.aload_n 0, 1) := by decide +kernel
theorem d_K_learnFrom_1 : decode b_K_learnFrom 1 = .ok (.getfield 12, 3) := by decide +kernel
theorem d_K_learnFrom_4 : decode b_K_learnFrom 4 = .ok (.aload_n 1, 1) := by decide +kernel
theorem d_K_learnFrom_5 : decode b_K_learnFrom 5 = .ok (.getfield 12, 3) := by decide +kernel
theorem d_K_learnFrom_8 : decode b_K_learnFrom 8 = .ok (.invokevirtual 38, 3) := by decide +kernel
theorem d_K_learnFrom_11 : decode b_K_learnFrom 11 = .ok (.aload_n 0, 1) := by decide +kernel
theorem d_K_learnFrom_12 : decode b_K_learnFrom 12 = .ok (.aload_n 0, 1) := by decide +kernel
theorem d_K_learnFrom_13 : decode b_K_learnFrom 13 = .ok (.getfield 31, 3) := by decide +kernel
theorem d_K_learnFrom_16 : decode b_K_learnFrom 16 = .ok (.aload_n 1, 1) := by decide +kernel
theorem d_K_learnFrom_17 : decode b_K_learnFrom 17 = .ok (.getfield 31, 3) := by decide +kernel
theorem d_K_learnFrom_20 : decode b_K_learnFrom 20 = .ok (.invokestatic 42, 3) := by decide +kernel
theorem d_K_learnFrom_23 : decode b_K_learnFrom 23 = .ok (.putfield 31, 3) := by decide +kernel
theorem d_K_learnFrom_26 : decode b_K_learnFrom 26 = .ok (.return_, 1) := by decide +kernel
theorem d_K_learnPending_0 : decode b_K_learnPending 0 = .ok (.aload_n 0, 1) := by decide +kernel
theorem d_K_learnPending_1 : decode b_K_learnPending 1 = .ok (.getfield 12, 3) := by decide +kernel
theorem d_K_learnPending_4 : decode b_K_learnPending 4 = .ok (.aload_n 0, 1) := by decide +kernel
theorem d_K_learnPending_5 : decode b_K_learnPending 5 = .ok (.getfield 18, 3) := by decide +kernel
theorem d_K_learnPending_8 : decode b_K_learnPending 8 = .ok (.invokevirtual 38, 3) := by decide +kernel
theorem d_K_learnPending_11 : decode b_K_learnPending 11 = .ok (.aload_n 0, 1) := by decide +kernel
theorem d_K_learnPending_12 : decode b_K_learnPending 12 = .ok (.getfield 18, 3) := by decide +kernel
theorem d_K_learnPending_15 : decode b_K_learnPending 15 = .ok (.invokevirtual 48, 3) := by decide +kernel
theorem d_K_learnPending_18 : decode b_K_learnPending 18 = .ok (.aload_n 0, 1) := by decide +kernel
theorem d_K_learnPending_19 : decode b_K_learnPending 19 = .ok (.iconst (-1), 1) := by decide +kernel
theorem d_K_learnPending_20 : decode b_K_learnPending 20 = .ok (.putfield 21, 3) := by decide +kernel
theorem d_K_learnPending_23 : decode b_K_learnPending 23 = .ok (.return_, 1) := by decide +kernel
theorem d_W_init_0 : decode b_W_init 0 = .ok (.aload_n 0, 1) := by decide +kernel
theorem d_W_init_1 : decode b_W_init 1 = .ok (.invokespecial 1, 3) := by decide +kernel
theorem d_W_init_4 : decode b_W_init 4 = .ok (.aload_n 0, 1) := by decide +kernel
theorem d_W_init_5 : decode b_W_init 5 = .ok (.lload_n 1, 1) := by decide +kernel
theorem d_W_init_6 : decode b_W_init 6 = .ok (.putfield 7, 3) := by decide +kernel
theorem d_W_init_9 : decode b_W_init 9 = .ok (.return_, 1) := by decide +kernel
theorem d_W_below_0 : decode b_W_below 0 = .ok (.aload_n 0, 1) := by decide +kernel
theorem d_W_below_1 : decode b_W_below 1 = .ok (.aload_n 0, 1) := by decide +kernel
theorem d_W_below_2 : decode b_W_below 2 = .ok (.getfield 7, 3) := by decide +kernel
theorem d_W_below_5 : decode b_W_below 5 = .ok (.ldc2_w 13, 3) := by decide +kernel
theorem d_W_below_8 : decode b_W_below 8 = .ok (.lmul, 1) := by decide +kernel
theorem d_W_below_9 : decode b_W_below 9 = .ok (.ldc2_w 15, 3) := by decide +kernel
theorem d_W_below_12 : decode b_W_below 12 = .ok (.ladd, 1) := by decide +kernel
theorem d_W_below_13 : decode b_W_below 13 = .ok (.putfield 7, 3) := by decide +kernel
theorem d_W_below_16 : decode b_W_below 16 = .ok (.iload_n 1, 1) := by decide +kernel
theorem d_W_below_17 : decode b_W_below 17 = .ok (.iconst 1, 1) := by decide +kernel
theorem d_W_below_18 : decode b_W_below 18 = .ok (.if_icmp .ge 7, 3) := by decide +kernel
theorem d_W_below_21 : decode b_W_below 21 = .ok (.iconst 0, 1) := by decide +kernel
theorem d_W_below_22 : decode b_W_below 22 = .ok (.goto 14, 3) := by decide +kernel
theorem d_W_below_25 : decode b_W_below 25 = .ok (.aload_n 0, 1) := by decide +kernel
theorem d_W_below_26 : decode b_W_below 26 = .ok (.getfield 7, 3) := by decide +kernel
theorem d_W_below_29 : decode b_W_below 29 = .ok (.bipush 33, 2) := by decide +kernel
theorem d_W_below_31 : decode b_W_below 31 = .ok (.lushr, 1) := by decide +kernel
theorem d_W_below_32 : decode b_W_below 32 = .ok (.iload_n 1, 1) := by decide +kernel
theorem d_W_below_33 : decode b_W_below 33 = .ok (.i2l, 1) := by decide +kernel
theorem d_W_below_34 : decode b_W_below 34 = .ok (.lrem, 1) := by decide +kernel
theorem d_W_below_35 : decode b_W_below 35 = .ok (.l2i, 1) := by decide +kernel
theorem d_W_below_36 : decode b_W_below 36 = .ok (.ireturn, 1) := by decide +kernel
theorem d_J_bitCount_0 : decode b_J_bitCount 0 = .ok (.lload_n 0, 1) := by decide +kernel
theorem d_J_bitCount_1 : decode b_J_bitCount 1 = .ok (.lload_n 0, 1) := by decide +kernel
theorem d_J_bitCount_2 : decode b_J_bitCount 2 = .ok (.iconst 1, 1) := by decide +kernel
theorem d_J_bitCount_3 : decode b_J_bitCount 3 = .ok (.lushr, 1) := by decide +kernel
theorem d_J_bitCount_4 : decode b_J_bitCount 4 = .ok (.ldc2_w 314, 3) := by decide +kernel
theorem d_J_bitCount_7 : decode b_J_bitCount 7 = .ok (.land, 1) := by decide +kernel
theorem d_J_bitCount_8 : decode b_J_bitCount 8 = .ok (.lsub, 1) := by decide +kernel
theorem d_J_bitCount_9 : decode b_J_bitCount 9 = .ok (.lstore_n 0, 1) := by decide +kernel
theorem d_J_bitCount_10 : decode b_J_bitCount 10 = .ok (.lload_n 0, 1) := by decide +kernel
theorem d_J_bitCount_11 : decode b_J_bitCount 11 = .ok (.ldc2_w 316, 3) := by decide +kernel
theorem d_J_bitCount_14 : decode b_J_bitCount 14 = .ok (.land, 1) := by decide +kernel
theorem d_J_bitCount_15 : decode b_J_bitCount 15 = .ok (.lload_n 0, 1) := by decide +kernel
theorem d_J_bitCount_16 : decode b_J_bitCount 16 = .ok (.iconst 2, 1) := by decide +kernel
theorem d_J_bitCount_17 : decode b_J_bitCount 17 = .ok (.lushr, 1) := by decide +kernel
theorem d_J_bitCount_18 : decode b_J_bitCount 18 = .ok (.ldc2_w 316, 3) := by decide +kernel
theorem d_J_bitCount_21 : decode b_J_bitCount 21 = .ok (.land, 1) := by decide +kernel
theorem d_J_bitCount_22 : decode b_J_bitCount 22 = .ok (.ladd, 1) := by decide +kernel
theorem d_J_bitCount_23 : decode b_J_bitCount 23 = .ok (.lstore_n 0, 1) := by decide +kernel
theorem d_J_bitCount_24 : decode b_J_bitCount 24 = .ok (.lload_n 0, 1) := by decide +kernel
theorem d_J_bitCount_25 : decode b_J_bitCount 25 = .ok (.lload_n 0, 1) := by decide +kernel
theorem d_J_bitCount_26 : decode b_J_bitCount 26 = .ok (.iconst 4, 1) := by decide +kernel
theorem d_J_bitCount_27 : decode b_J_bitCount 27 = .ok (.lushr, 1) := by decide +kernel
theorem d_J_bitCount_28 : decode b_J_bitCount 28 = .ok (.ladd, 1) := by decide +kernel
theorem d_J_bitCount_29 : decode b_J_bitCount 29 = .ok (.ldc2_w 318, 3) := by decide +kernel
theorem d_J_bitCount_32 : decode b_J_bitCount 32 = .ok (.land, 1) := by decide +kernel
theorem d_J_bitCount_33 : decode b_J_bitCount 33 = .ok (.lstore_n 0, 1) := by decide +kernel
theorem d_J_bitCount_34 : decode b_J_bitCount 34 = .ok (.lload_n 0, 1) := by decide +kernel
theorem d_J_bitCount_35 : decode b_J_bitCount 35 = .ok (.lload_n 0, 1) := by decide +kernel
theorem d_J_bitCount_36 : decode b_J_bitCount 36 = .ok (.bipush 8, 2) := by decide +kernel
theorem d_J_bitCount_38 : decode b_J_bitCount 38 = .ok (.lushr, 1) := by decide +kernel
theorem d_J_bitCount_39 : decode b_J_bitCount 39 = .ok (.ladd, 1) := by decide +kernel
theorem d_J_bitCount_40 : decode b_J_bitCount 40 = .ok (.lstore_n 0, 1) := by decide +kernel
theorem d_J_bitCount_41 : decode b_J_bitCount 41 = .ok (.lload_n 0, 1) := by decide +kernel
theorem d_J_bitCount_42 : decode b_J_bitCount 42 = .ok (.lload_n 0, 1) := by decide +kernel
theorem d_J_bitCount_43 : decode b_J_bitCount 43 = .ok (.bipush 16, 2) := by decide +kernel
theorem d_J_bitCount_45 : decode b_J_bitCount 45 = .ok (.lushr, 1) := by decide +kernel
theorem d_J_bitCount_46 : decode b_J_bitCount 46 = .ok (.ladd, 1) := by decide +kernel
theorem d_J_bitCount_47 : decode b_J_bitCount 47 = .ok (.lstore_n 0, 1) := by decide +kernel
theorem d_J_bitCount_48 : decode b_J_bitCount 48 = .ok (.lload_n 0, 1) := by decide +kernel
theorem d_J_bitCount_49 : decode b_J_bitCount 49 = .ok (.lload_n 0, 1) := by decide +kernel
theorem d_J_bitCount_50 : decode b_J_bitCount 50 = .ok (.bipush 32, 2) := by decide +kernel
theorem d_J_bitCount_52 : decode b_J_bitCount 52 = .ok (.lushr, 1) := by decide +kernel
theorem d_J_bitCount_53 : decode b_J_bitCount 53 = .ok (.ladd, 1) := by decide +kernel
theorem d_J_bitCount_54 : decode b_J_bitCount 54 = .ok (.lstore_n 0, 1) := by decide +kernel
theorem d_J_bitCount_55 : decode b_J_bitCount 55 = .ok (.lload_n 0, 1) := by decide +kernel
theorem d_J_bitCount_56 : decode b_J_bitCount 56 = .ok (.l2i, 1) := by decide +kernel
theorem d_J_bitCount_57 : decode b_J_bitCount 57 = .ok (.bipush 127, 2) := by decide +kernel
theorem d_J_bitCount_59 : decode b_J_bitCount 59 = .ok (.iand, 1) := by decide +kernel
theorem d_J_bitCount_60 : decode b_J_bitCount 60 = .ok (.ireturn, 1) := by decide +kernel
end
section
theorem d_A_init_0 : decode b_A_init 0 = .ok (.aload_n 0, 1) := by decide +kernel
theorem d_A_init_1 : decode b_A_init 1 = .ok (.invokespecial 3, 3) := by decide +kernel
theorem d_A_init_4 : decode b_A_init 4 = .ok (.aload_n 0, 1) := by decide +kernel
theorem d_A_init_5 : decode b_A_init 5 = .ok (.sipush 300, 3) := by decide +kernel
theorem d_A_init_8 : decode b_A_init 8 = .ok (.newarray .int, 2) := by decide +kernel
theorem d_A_init_10 : decode b_A_init 10 = .ok (.putfield 9, 3) := by decide +kernel
theorem d_A_init_13 : decode b_A_init 13 = .ok (.aload_n 0, 1) := by decide +kernel
theorem d_A_init_14 : decode b_A_init 14 = .ok (.sipush 300, 3) := by decide +kernel
theorem d_A_init_17 : decode b_A_init 17 = .ok (.newarray .int, 2) := by decide +kernel
theorem d_A_init_19 : decode b_A_init 19 = .ok (.putfield 15, 3) := by decide +kernel
theorem d_A_init_22 : decode b_A_init 22 = .ok (.aload_n 0, 1) := by decide +kernel
theorem d_A_init_23 : decode b_A_init 23 = .ok (.sipush 300, 3) := by decide +kernel
theorem d_A_init_26 : decode b_A_init 26 = .ok (.newarray .long, 2) := by decide +kernel
theorem d_A_init_28 : decode b_A_init 28 = .ok (.putfield 18, 3) := by decide +kernel
theorem d_A_init_31 : decode b_A_init 31 = .ok (.aload_n 0, 1) := by decide +kernel
theorem d_A_init_32 : decode b_A_init 32 = .ok (.sipush 300, 3) := by decide +kernel
theorem d_A_init_35 : decode b_A_init 35 = .ok (.newarray .int, 2) := by decide +kernel
theorem d_A_init_37 : decode b_A_init 37 = .ok (.putfield 22, 3) := by decide +kernel
theorem d_A_init_40 : decode b_A_init 40 = .ok (.aload_n 0, 1) := by decide +kernel
theorem d_A_init_41 : decode b_A_init 41 = .ok (.sipush 1500, 3) := by decide +kernel
theorem d_A_init_44 : decode b_A_init 44 = .ok (.newarray .long, 2) := by decide +kernel
theorem d_A_init_46 : decode b_A_init 46 = .ok (.putfield 27, 3) := by decide +kernel
theorem d_A_init_49 : decode b_A_init 49 = .ok (.aload_n 0, 1) := by decide +kernel
theorem d_A_init_50 : decode b_A_init 50 = .ok (.sipush 300, 3) := by decide +kernel
theorem d_A_init_53 : decode b_A_init 53 = .ok (.newarray .int, 2) := by decide +kernel
theorem d_A_init_55 : decode b_A_init 55 = .ok (.putfield 30, 3) := by decide +kernel
theorem d_A_init_58 : decode b_A_init 58 = .ok (.aload_n 0, 1) := by decide +kernel
theorem d_A_init_59 : decode b_A_init 59 = .ok (.sipush 300, 3) := by decide +kernel
theorem d_A_init_62 : decode b_A_init 62 = .ok (.newarray .int, 2) := by decide +kernel
theorem d_A_init_64 : decode b_A_init 64 = .ok (.putfield 33, 3) := by decide +kernel
theorem d_A_init_67 : decode b_A_init 67 = .ok (.return_, 1) := by decide +kernel
theorem d_A_append_0 : decode b_A_append 0 = .ok (.aload_n 0, 1) := by decide +kernel
theorem d_A_append_1 : decode b_A_append 1 = .ok (.getfield 36, 3) := by decide +kernel
theorem d_A_append_4 : decode b_A_append 4 = .ok (.sipush 300, 3) := by decide +kernel
theorem d_A_append_7 : decode b_A_append 7 = .ok (.if_icmp .lt 5, 3) := by decide +kernel
theorem d_A_append_10 : decode b_A_append 10 = .ok (.iconst (-1), 1) := by decide +kernel
theorem d_A_append_11 : decode b_A_append 11 = .ok (.ireturn, 1) := by decide +kernel
theorem d_A_append_12 : decode b_A_append 12 = .ok (.aload_n 0, 1) := by decide +kernel
theorem d_A_append_13 : decode b_A_append 13 = .ok (.getfield 36, 3) := by decide +kernel
theorem d_A_append_16 : decode b_A_append 16 = .ok (.istore 7, 2) := by decide +kernel
theorem d_A_append_18 : decode b_A_append 18 = .ok (.aload_n 0, 1) := by decide +kernel
theorem d_A_append_19 : decode b_A_append 19 = .ok (.getfield 9, 3) := by decide +kernel
theorem d_A_append_22 : decode b_A_append 22 = .ok (.iload 7, 2) := by decide +kernel
theorem d_A_append_24 : decode b_A_append 24 = .ok (.iload_n 1, 1) := by decide +kernel
theorem d_A_append_25 : decode b_A_append 25 = .ok (.iastore, 1) := by decide +kernel
theorem d_A_append_26 : decode b_A_append 26 = .ok (.aload_n 0, 1) := by decide +kernel
theorem d_A_append_27 : decode b_A_append 27 = .ok (.getfield 15, 3) := by decide +kernel
theorem d_A_append_30 : decode b_A_append 30 = .ok (.iload 7, 2) := by decide +kernel
theorem d_A_append_32 : decode b_A_append 32 = .ok (.iload_n 2, 1) := by decide +kernel
theorem d_A_append_33 : decode b_A_append 33 = .ok (.iastore, 1) := by decide +kernel
theorem d_A_append_34 : decode b_A_append 34 = .ok (.aload_n 0, 1) := by decide +kernel
theorem d_A_append_35 : decode b_A_append 35 = .ok (.getfield 18, 3) := by decide +kernel
theorem d_A_append_38 : decode b_A_append 38 = .ok (.iload 7, 2) := by decide +kernel
theorem d_A_append_40 : decode b_A_append 40 = .ok (.lload_n 3, 1) := by decide +kernel
theorem d_A_append_41 : decode b_A_append 41 = .ok (.lastore, 1) := by decide +kernel
theorem d_A_append_42 : decode b_A_append 42 = .ok (.aload_n 0, 1) := by decide +kernel
theorem d_A_append_43 : decode b_A_append 43 = .ok (.getfield 22, 3) := by decide +kernel
theorem d_A_append_46 : decode b_A_append 46 = .ok (.iload 7, 2) := by decide +kernel
theorem d_A_append_48 : decode b_A_append 48 = .ok (.iload 5, 2) := by decide +kernel
theorem d_A_append_50 : decode b_A_append 50 = .ok (.iastore, 1) := by decide +kernel
theorem d_A_append_51 : decode b_A_append 51 = .ok (.iconst 0, 1) := by decide +kernel
theorem d_A_append_52 : decode b_A_append 52 = .ok (.istore 8, 2) := by decide +kernel
theorem d_A_append_54 : decode b_A_append 54 = .ok (.iload 8, 2) := by decide +kernel
theorem d_A_append_56 : decode b_A_append 56 = .ok (.iload 7, 2) := by decide +kernel
theorem d_A_append_58 : decode b_A_append 58 = .ok (.if_icmp .ge 44, 3) := by decide +kernel
theorem d_A_append_61 : decode b_A_append 61 = .ok (.aload 6, 2) := by decide +kernel
theorem d_A_append_63 : decode b_A_append 63 = .ok (.iload 8, 2) := by decide +kernel
theorem d_A_append_65 : decode b_A_append 65 = .ok (.invokevirtual 40, 3) := by decide +kernel
theorem d_A_append_68 : decode b_A_append 68 = .ok (.ifCond .eq 28, 3) := by decide +kernel
theorem d_A_append_71 : decode b_A_append 71 = .ok (.aload_n 0, 1) := by decide +kernel
theorem d_A_append_72 : decode b_A_append 72 = .ok (.getfield 27, 3) := by decide +kernel
theorem d_A_append_75 : decode b_A_append 75 = .ok (.iload 8, 2) := by decide +kernel
theorem d_A_append_77 : decode b_A_append 77 = .ok (.iconst 5, 1) := by decide +kernel
theorem d_A_append_78 : decode b_A_append 78 = .ok (.imul, 1) := by decide +kernel
theorem d_A_append_79 : decode b_A_append 79 = .ok (.iload 7, 2) := by decide +kernel
theorem d_A_append_81 : decode b_A_append 81 = .ok (.bipush 64, 2) := by decide +kernel
theorem d_A_append_83 : decode b_A_append 83 = .ok (.idiv, 1) := by decide +kernel
theorem d_A_append_84 : decode b_A_append 84 = .ok (.iadd, 1) := by decide +kernel
theorem d_A_append_85 : decode b_A_append 85 = .ok (.dup2, 1) := by decide +kernel
theorem d_A_append_86 : decode b_A_append 86 = .ok (.laload, 1) := by decide +kernel
theorem d_A_append_87 : decode b_A_append 87 = .ok (.lconst 1, 1) := by decide +kernel
theorem d_A_append_88 : decode b_A_append 88 = .ok (.iload 7, 2) := by decide +kernel
theorem d_A_append_90 : decode b_A_append 90 = .ok (.bipush 64, 2) := by decide +kernel
theorem d_A_append_92 : decode b_A_append 92 = .ok (.irem, 1) := by decide +kernel
theorem d_A_append_93 : decode b_A_append 93 = .ok (.lshl, 1) := by decide +kernel
theorem d_A_append_94 : decode b_A_append 94 = .ok (.lor, 1) := by decide +kernel
theorem d_A_append_95 : decode b_A_append 95 = .ok (.lastore, 1) := by decide +kernel
theorem d_A_append_96 : decode b_A_append 96 = .ok (.iinc 8 1, 3) := by decide +kernel
theorem d_A_append_99 : decode b_A_append 99 = .ok (.goto (-45), 3) := by decide +kernel
theorem d_A_append_102 : decode b_A_append 102 = .ok (.aload_n 0, 1) := by decide +kernel
theorem d_A_append_103 : decode b_A_append 103 = .ok (.getfield 30, 3) := by decide +kernel
theorem d_A_append_106 : decode b_A_append 106 = .ok (.aload_n 0, 1) := by decide +kernel
theorem d_A_append_107 : decode b_A_append 107 = .ok (.getfield 9, 3) := by decide +kernel
theorem d_A_append_110 : decode b_A_append 110 = .ok (.iload 7, 2) := by decide +kernel
theorem d_A_append_112 : decode b_A_append 112 = .ok (.invokestatic 44, 3) := by decide +kernel
theorem d_A_append_115 : decode b_A_append 115 = .ok (.aload_n 0, 1) := by decide +kernel
theorem d_A_append_116 : decode b_A_append 116 = .ok (.getfield 33, 3) := by decide +kernel
theorem d_A_append_119 : decode b_A_append 119 = .ok (.aload_n 0, 1) := by decide +kernel
theorem d_A_append_120 : decode b_A_append 120 = .ok (.getfield 15, 3) := by decide +kernel
theorem d_A_append_123 : decode b_A_append 123 = .ok (.iload 7, 2) := by decide +kernel
theorem d_A_append_125 : decode b_A_append 125 = .ok (.invokestatic 44, 3) := by decide +kernel
theorem d_A_append_128 : decode b_A_append 128 = .ok (.aload_n 0, 1) := by decide +kernel
theorem d_A_append_129 : decode b_A_append 129 = .ok (.dup, 1) := by decide +kernel
theorem d_A_append_130 : decode b_A_append 130 = .ok (.getfield 36, 3) := by decide +kernel
theorem d_A_append_133 : decode b_A_append 133 = .ok (.iconst 1, 1) := by decide +kernel
theorem d_A_append_134 : decode b_A_append 134 = .ok (.iadd, 1) := by decide +kernel
theorem d_A_append_135 : decode b_A_append 135 = .ok (.putfield 36, 3) := by decide +kernel
theorem d_A_append_138 : decode b_A_append 138 = .ok (.iload 7, 2) := by decide +kernel
theorem d_A_append_140 : decode b_A_append 140 = .ok (.ireturn, 1) := by decide +kernel
theorem d_A_insertByKey_0 : decode b_A_insertByKey 0 = .ok (.iload_n 2, 1) := by decide +kernel
theorem d_A_insertByKey_1 : decode b_A_insertByKey 1 = .ok (.istore_n 3, 1) := by decide +kernel
theorem d_A_insertByKey_2 : decode b_A_insertByKey 2 = .ok (.iload_n 3, 1) := by decide +kernel
theorem d_A_insertByKey_3 : decode b_A_insertByKey 3 = .ok (.ifCond .le 30, 3) := by decide +kernel
theorem d_A_insertByKey_6 : decode b_A_insertByKey 6 = .ok (.aload_n 1, 1) := by decide +kernel
theorem d_A_insertByKey_7 : decode b_A_insertByKey 7 = .ok (.aload_n 0, 1) := by decide +kernel
theorem d_A_insertByKey_8 : decode b_A_insertByKey 8 = .ok (.iload_n 3, 1) := by decide +kernel
theorem d_A_insertByKey_9 : decode b_A_insertByKey 9 = .ok (.iconst 1, 1) := by decide +kernel
theorem d_A_insertByKey_10 : decode b_A_insertByKey 10 = .ok (.isub, 1) := by decide +kernel
theorem d_A_insertByKey_11 : decode b_A_insertByKey 11 = .ok (.iaload, 1) := by decide +kernel
theorem d_A_insertByKey_12 : decode b_A_insertByKey 12 = .ok (.iaload, 1) := by decide +kernel
theorem d_A_insertByKey_13 : decode b_A_insertByKey 13 = .ok (.aload_n 1, 1) := by decide +kernel
theorem d_A_insertByKey_14 : decode b_A_insertByKey 14 = .ok (.iload_n 2, 1) := by decide +kernel
theorem d_A_insertByKey_15 : decode b_A_insertByKey 15 = .ok (.iaload, 1) := by decide +kernel
theorem d_A_insertByKey_16 : decode b_A_insertByKey 16 = .ok (.if_icmp .le 17, 3) := by decide +kernel
theorem d_A_insertByKey_19 : decode b_A_insertByKey 19 = .ok (.aload_n 0, 1) := by decide +kernel
theorem d_A_insertByKey_20 : decode b_A_insertByKey 20 = .ok (.iload_n 3, 1) := by decide +kernel
theorem d_A_insertByKey_21 : decode b_A_insertByKey 21 = .ok (.aload_n 0, 1) := by decide +kernel
theorem d_A_insertByKey_22 : decode b_A_insertByKey 22 = .ok (.iload_n 3, 1) := by decide +kernel
theorem d_A_insertByKey_23 : decode b_A_insertByKey 23 = .ok (.iconst 1, 1) := by decide +kernel
theorem d_A_insertByKey_24 : decode b_A_insertByKey 24 = .ok (.isub, 1) := by decide +kernel
theorem d_A_insertByKey_25 : decode b_A_insertByKey 25 = .ok (.iaload, 1) := by decide +kernel
theorem d_A_insertByKey_26 : decode b_A_insertByKey 26 = .ok (.iastore, 1) := by decide +kernel
theorem d_A_insertByKey_27 : decode b_A_insertByKey 27 = .ok (.iinc 3 (-1), 3) := by decide +kernel
theorem d_A_insertByKey_30 : decode b_A_insertByKey 30 = .ok (.goto (-28), 3) := by decide +kernel
theorem d_A_insertByKey_33 : decode b_A_insertByKey 33 = .ok (.aload_n 0, 1) := by decide +kernel
theorem d_A_insertByKey_34 : decode b_A_insertByKey 34 = .ok (.iload_n 3, 1) := by decide +kernel
theorem d_A_insertByKey_35 : decode b_A_insertByKey 35 = .ok (.iload_n 2, 1) := by decide +kernel
theorem d_A_insertByKey_36 : decode b_A_insertByKey 36 = .ok (.iastore, 1) := by decide +kernel
theorem d_A_insertByKey_37 : decode b_A_insertByKey 37 = .ok (.return_, 1) := by decide +kernel
theorem d_A_withNumber_0 : decode b_A_withNumber 0 = .ok (.iconst 0, 1) := by decide +kernel
theorem d_A_withNumber_1 : decode b_A_withNumber 1 = .ok (.istore_n 2, 1) := by decide +kernel
theorem d_A_withNumber_2 : decode b_A_withNumber 2 = .ok (.iload_n 2, 1) := by decide +kernel
theorem d_A_withNumber_3 : decode b_A_withNumber 3 = .ok (.aload_n 0, 1) := by decide +kernel
theorem d_A_withNumber_4 : decode b_A_withNumber 4 = .ok (.getfield 36, 3) := by decide +kernel
theorem d_A_withNumber_7 : decode b_A_withNumber 7 = .ok (.if_icmp .ge 21, 3) := by decide +kernel
theorem d_A_withNumber_10 : decode b_A_withNumber 10 = .ok (.aload_n 0, 1) := by decide +kernel
theorem d_A_withNumber_11 : decode b_A_withNumber 11 = .ok (.getfield 9, 3) := by decide +kernel
theorem d_A_withNumber_14 : decode b_A_withNumber 14 = .ok (.iload_n 2, 1) := by decide +kernel
theorem d_A_withNumber_15 : decode b_A_withNumber 15 = .ok (.iaload, 1) := by decide +kernel
theorem d_A_withNumber_16 : decode b_A_withNumber 16 = .ok (.iload_n 1, 1) := by decide +kernel
theorem d_A_withNumber_17 : decode b_A_withNumber 17 = .ok (.if_icmp .ne 5, 3) := by decide +kernel
theorem d_A_withNumber_20 : decode b_A_withNumber 20 = .ok (.iload_n 2, 1) := by decide +kernel
theorem d_A_withNumber_21 : decode b_A_withNumber 21 = .ok (.ireturn, 1) := by decide +kernel
theorem d_A_withNumber_22 : decode b_A_withNumber 22 = .ok (.iinc 2 1, 3) := by decide +kernel
theorem d_A_withNumber_25 : decode b_A_withNumber 25 = .ok (.goto (-23), 3) := by decide +kernel
theorem d_A_withNumber_28 : decode b_A_withNumber 28 = .ok (.iconst (-1), 1) := by decide +kernel
theorem d_A_withNumber_29 : decode b_A_withNumber 29 = .ok (.ireturn, 1) := by decide +kernel
theorem d_A_inOrder_0 : decode b_A_inOrder 0 = .ok (.iconst 0, 1) := by decide +kernel
theorem d_A_inOrder_1 : decode b_A_inOrder 1 = .ok (.istore_n 3, 1) := by decide +kernel
theorem d_A_inOrder_2 : decode b_A_inOrder 2 = .ok (.iconst 0, 1) := by decide +kernel
theorem d_A_inOrder_3 : decode b_A_inOrder 3 = .ok (.istore 4, 2) := by decide +kernel
theorem d_A_inOrder_5 : decode b_A_inOrder 5 = .ok (.iload 4, 2) := by decide +kernel
theorem d_A_inOrder_7 : decode b_A_inOrder 7 = .ok (.aload_n 0, 1) := by decide +kernel
theorem d_A_inOrder_8 : decode b_A_inOrder 8 = .ok (.getfield 36, 3) := by decide +kernel
theorem d_A_inOrder_11 : decode b_A_inOrder 11 = .ok (.if_icmp .ge 38, 3) := by decide +kernel
theorem d_A_inOrder_14 : decode b_A_inOrder 14 = .ok (.aload_n 0, 1) := by decide +kernel
theorem d_A_inOrder_15 : decode b_A_inOrder 15 = .ok (.getfield 30, 3) := by decide +kernel
theorem d_A_inOrder_18 : decode b_A_inOrder 18 = .ok (.iload 4, 2) := by decide +kernel
theorem d_A_inOrder_20 : decode b_A_inOrder 20 = .ok (.iaload, 1) := by decide +kernel
theorem d_A_inOrder_21 : decode b_A_inOrder 21 = .ok (.istore 5, 2) := by decide +kernel
theorem d_A_inOrder_23 : decode b_A_inOrder 23 = .ok (.aload_n 1, 1) := by decide +kernel
theorem d_A_inOrder_24 : decode b_A_inOrder 24 = .ok (.iload 5, 2) := by decide +kernel
theorem d_A_inOrder_26 : decode b_A_inOrder 26 = .ok (.invokevirtual 40, 3) := by decide +kernel
theorem d_A_inOrder_29 : decode b_A_inOrder 29 = .ok (.ifCond .eq 14, 3) := by decide +kernel
theorem d_A_inOrder_32 : decode b_A_inOrder 32 = .ok (.iload_n 3, 1) := by decide +kernel
theorem d_A_inOrder_33 : decode b_A_inOrder 33 = .ok (.iload_n 2, 1) := by decide +kernel
theorem d_A_inOrder_34 : decode b_A_inOrder 34 = .ok (.if_icmp .ne 6, 3) := by decide +kernel
theorem d_A_inOrder_37 : decode b_A_inOrder 37 = .ok (.iload 5, 2) := by decide +kernel
theorem d_A_inOrder_39 : decode b_A_inOrder 39 = .ok (.ireturn, 1) := by decide +kernel
theorem d_A_inOrder_40 : decode b_A_inOrder 40 = .ok (.iinc 3 1, 3) := by decide +kernel
theorem d_A_inOrder_43 : decode b_A_inOrder 43 = .ok (.iinc 4 1, 3) := by decide +kernel
theorem d_A_inOrder_46 : decode b_A_inOrder 46 = .ok (.goto (-41), 3) := by decide +kernel
theorem d_A_inOrder_49 : decode b_A_inOrder 49 = .ok (.iconst (-1), 1) := by decide +kernel
theorem d_A_inOrder_50 : decode b_A_inOrder 50 = .ok (.ireturn, 1) := by decide +kernel
theorem d_A_standsAmong_0 : decode b_A_standsAmong 0 = .ok (.aload_n 1, 1) := by decide +kernel
theorem d_A_standsAmong_1 : decode b_A_standsAmong 1 = .ok (.iload_n 2, 1) := by decide +kernel
theorem d_A_standsAmong_2 : decode b_A_standsAmong 2 = .ok (.invokevirtual 40, 3) := by decide +kernel
theorem d_A_standsAmong_5 : decode b_A_standsAmong 5 = .ok (.ifCond .ne 5, 3) := by decide +kernel
theorem d_A_standsAmong_8 : decode b_A_standsAmong 8 = .ok (.iconst 0, 1) := by decide +kernel
theorem d_A_standsAmong_9 : decode b_A_standsAmong 9 = .ok (.ireturn, 1) := by decide +kernel
theorem d_A_standsAmong_10 : decode b_A_standsAmong 10 = .ok (.iconst 0, 1) := by decide +kernel
theorem d_A_standsAmong_11 : decode b_A_standsAmong 11 = .ok (.istore_n 3, 1) := by decide +kernel
theorem d_A_standsAmong_12 : decode b_A_standsAmong 12 = .ok (.iload_n 3, 1) := by decide +kernel
theorem d_A_standsAmong_13 : decode b_A_standsAmong 13 = .ok (.iconst 5, 1) := by decide +kernel
theorem d_A_standsAmong_14 : decode b_A_standsAmong 14 = .ok (.if_icmp .ge 33, 3) := by decide +kernel
theorem d_A_standsAmong_17 : decode b_A_standsAmong 17 = .ok (.aload_n 0, 1) := by decide +kernel
theorem d_A_standsAmong_18 : decode b_A_standsAmong 18 = .ok (.getfield 27, 3) := by decide +kernel
theorem d_A_standsAmong_21 : decode b_A_standsAmong 21 = .ok (.iload_n 2, 1) := by decide +kernel
theorem d_A_standsAmong_22 : decode b_A_standsAmong 22 = .ok (.iconst 5, 1) := by decide +kernel
theorem d_A_standsAmong_23 : decode b_A_standsAmong 23 = .ok (.imul, 1) := by decide +kernel
theorem d_A_standsAmong_24 : decode b_A_standsAmong 24 = .ok (.iload_n 3, 1) := by decide +kernel
theorem d_A_standsAmong_25 : decode b_A_standsAmong 25 = .ok (.iadd, 1) := by decide +kernel
theorem d_A_standsAmong_26 : decode b_A_standsAmong 26 = .ok (.laload, 1) := by decide +kernel
theorem d_A_standsAmong_27 : decode b_A_standsAmong 27 = .ok (.aload_n 1, 1) := by decide +kernel
theorem d_A_standsAmong_28 : decode b_A_standsAmong 28 = .ok (.getfield 48, 3) := by decide +kernel
theorem d_A_standsAmong_31 : decode b_A_standsAmong 31 = .ok (.iload_n 3, 1) := by decide +kernel
theorem d_A_standsAmong_32 : decode b_A_standsAmong 32 = .ok (.laload, 1) := by decide +kernel
theorem d_A_standsAmong_33 : decode b_A_standsAmong 33 = .ok (.land, 1) := by decide +kernel
theorem d_A_standsAmong_34 : decode b_A_standsAmong 34 = .ok (.lconst 0, 1) := by decide +kernel
theorem d_A_standsAmong_35 : decode b_A_standsAmong 35 = .ok (.lcmp, 1) := by decide +kernel
theorem d_A_standsAmong_36 : decode b_A_standsAmong 36 = .ok (.ifCond .eq 5, 3) := by decide +kernel
theorem d_A_standsAmong_39 : decode b_A_standsAmong 39 = .ok (.iconst 0, 1) := by decide +kernel
theorem d_A_standsAmong_40 : decode b_A_standsAmong 40 = .ok (.ireturn, 1) := by decide +kernel
theorem d_A_standsAmong_41 : decode b_A_standsAmong 41 = .ok (.iinc 3 1, 3) := by decide +kernel
theorem d_A_standsAmong_44 : decode b_A_standsAmong 44 = .ok (.goto (-32), 3) := by decide +kernel
theorem d_A_standsAmong_47 : decode b_A_standsAmong 47 = .ok (.iconst 1, 1) := by decide +kernel
theorem d_A_standsAmong_48 : decode b_A_standsAmong 48 = .ok (.ireturn, 1) := by decide +kernel
theorem d_A_pickStanding_0 : decode b_A_pickStanding 0 = .ok (.aload_n 3, 1) := by decide +kernel
theorem d_A_pickStanding_1 : decode b_A_pickStanding 1 = .ok (.invokevirtual 51, 3) := by decide +kernel
theorem d_A_pickStanding_4 : decode b_A_pickStanding 4 = .ok (.iconst 0, 1) := by decide +kernel
theorem d_A_pickStanding_5 : decode b_A_pickStanding 5 = .ok (.istore 4, 2) := by decide +kernel
theorem d_A_pickStanding_7 : decode b_A_pickStanding 7 = .ok (.iload 4, 2) := by decide +kernel
theorem d_A_pickStanding_9 : decode b_A_pickStanding 9 = .ok (.aload_n 0, 1) := by decide +kernel
theorem d_A_pickStanding_10 : decode b_A_pickStanding 10 = .ok (.getfield 36, 3) := by decide +kernel
theorem d_A_pickStanding_13 : decode b_A_pickStanding 13 = .ok (.if_icmp .ge 36, 3) := by decide +kernel
theorem d_A_pickStanding_16 : decode b_A_pickStanding 16 = .ok (.aload_n 0, 1) := by decide +kernel
theorem d_A_pickStanding_17 : decode b_A_pickStanding 17 = .ok (.getfield 15, 3) := by decide +kernel
theorem d_A_pickStanding_20 : decode b_A_pickStanding 20 = .ok (.iload 4, 2) := by decide +kernel
theorem d_A_pickStanding_22 : decode b_A_pickStanding 22 = .ok (.iaload, 1) := by decide +kernel
theorem d_A_pickStanding_23 : decode b_A_pickStanding 23 = .ok (.iload_n 2, 1) := by decide +kernel
theorem d_A_pickStanding_24 : decode b_A_pickStanding 24 = .ok (.if_icmp .ne 19, 3) := by decide +kernel
theorem d_A_pickStanding_27 : decode b_A_pickStanding 27 = .ok (.aload_n 0, 1) := by decide +kernel
theorem d_A_pickStanding_28 : decode b_A_pickStanding 28 = .ok (.aload_n 1, 1) := by decide +kernel
theorem d_A_pickStanding_29 : decode b_A_pickStanding 29 = .ok (.iload 4, 2) := by decide +kernel
theorem d_A_pickStanding_31 : decode b_A_pickStanding 31 = .ok (.invokevirtual 54, 3) := by decide +kernel
theorem d_A_pickStanding_34 : decode b_A_pickStanding 34 = .ok (.ifCond .eq 9, 3) := by decide +kernel
theorem d_A_pickStanding_37 : decode b_A_pickStanding 37 = .ok (.aload_n 3, 1) := by decide +kernel
theorem d_A_pickStanding_38 : decode b_A_pickStanding 38 = .ok (.iload 4, 2) := by decide +kernel
theorem d_A_pickStanding_40 : decode b_A_pickStanding 40 = .ok (.invokevirtual 58, 3) := by decide +kernel
theorem d_A_pickStanding_43 : decode b_A_pickStanding 43 = .ok (.iinc 4 1, 3) := by decide +kernel
theorem d_A_pickStanding_46 : decode b_A_pickStanding 46 = .ok (.goto (-39), 3) := by decide +kernel
theorem d_A_pickStanding_49 : decode b_A_pickStanding 49 = .ok (.return_, 1) := by decide +kernel
theorem d_A_pickToldBy_0 : decode b_A_pickToldBy 0 = .ok (.aload 4, 2) := by decide +kernel
theorem d_A_pickToldBy_2 : decode b_A_pickToldBy 2 = .ok (.invokevirtual 51, 3) := by decide +kernel
theorem d_A_pickToldBy_5 : decode b_A_pickToldBy 5 = .ok (.iconst 0, 1) := by decide +kernel
theorem d_A_pickToldBy_6 : decode b_A_pickToldBy 6 = .ok (.istore 5, 2) := by decide +kernel
theorem d_A_pickToldBy_8 : decode b_A_pickToldBy 8 = .ok (.iload 5, 2) := by decide +kernel
theorem d_A_pickToldBy_10 : decode b_A_pickToldBy 10 = .ok (.aload_n 0, 1) := by decide +kernel
theorem d_A_pickToldBy_11 : decode b_A_pickToldBy 11 = .ok (.getfield 36, 3) := by decide +kernel
theorem d_A_pickToldBy_14 : decode b_A_pickToldBy 14 = .ok (.if_icmp .ge 38, 3) := by decide +kernel
theorem d_A_pickToldBy_17 : decode b_A_pickToldBy 17 = .ok (.aload_n 0, 1) := by decide +kernel
theorem d_A_pickToldBy_18 : decode b_A_pickToldBy 18 = .ok (.getfield 22, 3) := by decide +kernel
theorem d_A_pickToldBy_21 : decode b_A_pickToldBy 21 = .ok (.iload 5, 2) := by decide +kernel
theorem d_A_pickToldBy_23 : decode b_A_pickToldBy 23 = .ok (.iaload, 1) := by decide +kernel
theorem d_A_pickToldBy_24 : decode b_A_pickToldBy 24 = .ok (.i2l, 1) := by decide +kernel
theorem d_A_pickToldBy_25 : decode b_A_pickToldBy 25 = .ok (.lload_n 1, 1) := by decide +kernel
theorem d_A_pickToldBy_26 : decode b_A_pickToldBy 26 = .ok (.lcmp, 1) := by decide +kernel
theorem d_A_pickToldBy_27 : decode b_A_pickToldBy 27 = .ok (.ifCond .gt 19, 3) := by decide +kernel
theorem d_A_pickToldBy_30 : decode b_A_pickToldBy 30 = .ok (.aload_n 3, 1) := by decide +kernel
theorem d_A_pickToldBy_31 : decode b_A_pickToldBy 31 = .ok (.iload 5, 2) := by decide +kernel
theorem d_A_pickToldBy_33 : decode b_A_pickToldBy 33 = .ok (.invokevirtual 40, 3) := by decide +kernel
theorem d_A_pickToldBy_36 : decode b_A_pickToldBy 36 = .ok (.ifCond .eq 10, 3) := by decide +kernel
theorem d_A_pickToldBy_39 : decode b_A_pickToldBy 39 = .ok (.aload 4, 2) := by decide +kernel
theorem d_A_pickToldBy_41 : decode b_A_pickToldBy 41 = .ok (.iload 5, 2) := by decide +kernel
theorem d_A_pickToldBy_43 : decode b_A_pickToldBy 43 = .ok (.invokevirtual 58, 3) := by decide +kernel
theorem d_A_pickToldBy_46 : decode b_A_pickToldBy 46 = .ok (.iinc 5 1, 3) := by decide +kernel
theorem d_A_pickToldBy_49 : decode b_A_pickToldBy 49 = .ok (.goto (-41), 3) := by decide +kernel
theorem d_A_pickToldBy_52 : decode b_A_pickToldBy 52 = .ok (.return_, 1) := by decide +kernel
theorem d_A_pickEqual_0 : decode b_A_pickEqual 0 = .ok (.aload 5, 2) := by decide +kernel
theorem d_A_pickEqual_2 : decode b_A_pickEqual 2 = .ok (.invokevirtual 51, 3) := by decide +kernel
theorem d_A_pickEqual_5 : decode b_A_pickEqual 5 = .ok (.iconst 0, 1) := by decide +kernel
theorem d_A_pickEqual_6 : decode b_A_pickEqual 6 = .ok (.istore 6, 2) := by decide +kernel
theorem d_A_pickEqual_8 : decode b_A_pickEqual 8 = .ok (.iload 6, 2) := by decide +kernel
theorem d_A_pickEqual_10 : decode b_A_pickEqual 10 = .ok (.aload_n 0, 1) := by decide +kernel
theorem d_A_pickEqual_11 : decode b_A_pickEqual 11 = .ok (.getfield 36, 3) := by decide +kernel
theorem d_A_pickEqual_14 : decode b_A_pickEqual 14 = .ok (.if_icmp .ge 51, 3) := by decide +kernel
theorem d_A_pickEqual_17 : decode b_A_pickEqual 17 = .ok (.aload_n 0, 1) := by decide +kernel
theorem d_A_pickEqual_18 : decode b_A_pickEqual 18 = .ok (.getfield 18, 3) := by decide +kernel
theorem d_A_pickEqual_21 : decode b_A_pickEqual 21 = .ok (.iload 6, 2) := by decide +kernel
theorem d_A_pickEqual_23 : decode b_A_pickEqual 23 = .ok (.laload, 1) := by decide +kernel
theorem d_A_pickEqual_24 : decode b_A_pickEqual 24 = .ok (.lload_n 3, 1) := by decide +kernel
theorem d_A_pickEqual_25 : decode b_A_pickEqual 25 = .ok (.lcmp, 1) := by decide +kernel
theorem d_A_pickEqual_26 : decode b_A_pickEqual 26 = .ok (.ifCond .ne 33, 3) := by decide +kernel
theorem d_A_pickEqual_29 : decode b_A_pickEqual 29 = .ok (.aload_n 0, 1) := by decide +kernel
theorem d_A_pickEqual_30 : decode b_A_pickEqual 30 = .ok (.getfield 15, 3) := by decide +kernel
theorem d_A_pickEqual_33 : decode b_A_pickEqual 33 = .ok (.iload 6, 2) := by decide +kernel
theorem d_A_pickEqual_35 : decode b_A_pickEqual 35 = .ok (.iaload, 1) := by decide +kernel
theorem d_A_pickEqual_36 : decode b_A_pickEqual 36 = .ok (.invokestatic 62, 3) := by decide +kernel
theorem d_A_pickEqual_39 : decode b_A_pickEqual 39 = .ok (.iload_n 2, 1) := by decide +kernel
theorem d_A_pickEqual_40 : decode b_A_pickEqual 40 = .ok (.if_icmp .ne 19, 3) := by decide +kernel
theorem d_A_pickEqual_43 : decode b_A_pickEqual 43 = .ok (.aload_n 1, 1) := by decide +kernel
theorem d_A_pickEqual_44 : decode b_A_pickEqual 44 = .ok (.iload 6, 2) := by decide +kernel
theorem d_A_pickEqual_46 : decode b_A_pickEqual 46 = .ok (.invokevirtual 40, 3) := by decide +kernel
theorem d_A_pickEqual_49 : decode b_A_pickEqual 49 = .ok (.ifCond .eq 10, 3) := by decide +kernel
theorem d_A_pickEqual_52 : decode b_A_pickEqual 52 = .ok (.aload 5, 2) := by decide +kernel
theorem d_A_pickEqual_54 : decode b_A_pickEqual 54 = .ok (.iload 6, 2) := by decide +kernel
theorem d_A_pickEqual_56 : decode b_A_pickEqual 56 = .ok (.invokevirtual 58, 3) := by decide +kernel
theorem d_A_pickEqual_59 : decode b_A_pickEqual 59 = .ok (.iinc 6 1, 3) := by decide +kernel
theorem d_A_pickEqual_62 : decode b_A_pickEqual 62 = .ok (.goto (-54), 3) := by decide +kernel
theorem d_A_pickEqual_65 : decode b_A_pickEqual 65 = .ok (.return_, 1) := by decide +kernel
theorem d_A_latestStanding_0 : decode b_A_latestStanding 0 = .ok (.iconst (-1), 1) := by decide +kernel
theorem d_A_latestStanding_1 : decode b_A_latestStanding 1 = .ok (.istore 6, 2) := by decide +kernel
theorem d_A_latestStanding_3 : decode b_A_latestStanding 3 = .ok (.iconst 0, 1) := by decide +kernel
theorem d_A_latestStanding_4 : decode b_A_latestStanding 4 = .ok (.istore 7, 2) := by decide +kernel
theorem d_A_latestStanding_6 : decode b_A_latestStanding 6 = .ok (.iload 7, 2) := by decide +kernel
theorem d_A_latestStanding_8 : decode b_A_latestStanding 8 = .ok (.aload_n 0, 1) := by decide +kernel
theorem d_A_latestStanding_9 : decode b_A_latestStanding 9 = .ok (.getfield 36, 3) := by decide +kernel
theorem d_A_latestStanding_12 : decode b_A_latestStanding 12 = .ok (.if_icmp .ge 75, 3) := by decide +kernel
theorem d_A_latestStanding_15 : decode b_A_latestStanding 15 = .ok (.aload_n 0, 1) := by decide +kernel
theorem d_A_latestStanding_16 : decode b_A_latestStanding 16 = .ok (.getfield 15, 3) := by decide +kernel
theorem d_A_latestStanding_19 : decode b_A_latestStanding 19 = .ok (.iload 7, 2) := by decide +kernel
theorem d_A_latestStanding_21 : decode b_A_latestStanding 21 = .ok (.iaload, 1) := by decide +kernel
theorem d_A_latestStanding_22 : decode b_A_latestStanding 22 = .ok (.istore 8, 2) := by decide +kernel
theorem d_A_latestStanding_24 : decode b_A_latestStanding 24 = .ok (.iload 8, 2) := by decide +kernel
theorem d_A_latestStanding_26 : decode b_A_latestStanding 26 = .ok (.ldc 66, 2) := by decide +kernel
theorem d_A_latestStanding_28 : decode b_A_latestStanding 28 = .ok (.idiv, 1) := by decide +kernel
theorem d_A_latestStanding_29 : decode b_A_latestStanding 29 = .ok (.iload_n 2, 1) := by decide +kernel
theorem d_A_latestStanding_30 : decode b_A_latestStanding 30 = .ok (.bipush 10, 2) := by decide +kernel
theorem d_A_latestStanding_32 : decode b_A_latestStanding 32 = .ok (.imul, 1) := by decide +kernel
theorem d_A_latestStanding_33 : decode b_A_latestStanding 33 = .ok (.iload_n 3, 1) := by decide +kernel
theorem d_A_latestStanding_34 : decode b_A_latestStanding 34 = .ok (.iadd, 1) := by decide +kernel
theorem d_A_latestStanding_35 : decode b_A_latestStanding 35 = .ok (.if_icmp .ne 46, 3) := by decide +kernel
theorem d_A_latestStanding_38 : decode b_A_latestStanding 38 = .ok (.iload 8, 2) := by decide +kernel
theorem d_A_latestStanding_40 : decode b_A_latestStanding 40 = .ok (.invokestatic 67, 3) := by decide +kernel
theorem d_A_latestStanding_43 : decode b_A_latestStanding 43 = .ok (.i2l, 1) := by decide +kernel
theorem d_A_latestStanding_44 : decode b_A_latestStanding 44 = .ok (.lload 4, 2) := by decide +kernel
theorem d_A_latestStanding_46 : decode b_A_latestStanding 46 = .ok (.lcmp, 1) := by decide +kernel
theorem d_A_latestStanding_47 : decode b_A_latestStanding 47 = .ok (.ifCond .gt 34, 3) := by decide +kernel
theorem d_A_latestStanding_50 : decode b_A_latestStanding 50 = .ok (.aload_n 0, 1) := by decide +kernel
theorem d_A_latestStanding_51 : decode b_A_latestStanding 51 = .ok (.aload_n 1, 1) := by decide +kernel
theorem d_A_latestStanding_52 : decode b_A_latestStanding 52 = .ok (.iload 7, 2) := by decide +kernel
theorem d_A_latestStanding_54 : decode b_A_latestStanding 54 = .ok (.invokevirtual 54, 3) := by decide +kernel
theorem d_A_latestStanding_57 : decode b_A_latestStanding 57 = .ok (.ifCond .eq 24, 3) := by decide +kernel
theorem d_A_latestStanding_60 : decode b_A_latestStanding 60 = .ok (.iload 6, 2) := by decide +kernel
theorem d_A_latestStanding_62 : decode b_A_latestStanding 62 = .ok (.iconst (-1), 1) := by decide +kernel
theorem d_A_latestStanding_63 : decode b_A_latestStanding 63 = .ok (.if_icmp .eq 14, 3) := by decide +kernel
theorem d_A_latestStanding_66 : decode b_A_latestStanding 66 = .ok (.aload_n 0, 1) := by decide +kernel
theorem d_A_latestStanding_67 : decode b_A_latestStanding 67 = .ok (.iload 7, 2) := by decide +kernel
theorem d_A_latestStanding_69 : decode b_A_latestStanding 69 = .ok (.iload 6, 2) := by decide +kernel
theorem d_A_latestStanding_71 : decode b_A_latestStanding 71 = .ok (.invokevirtual 70, 3) := by decide +kernel
theorem d_A_latestStanding_74 : decode b_A_latestStanding 74 = .ok (.ifCond .eq 7, 3) := by decide +kernel
theorem d_A_latestStanding_77 : decode b_A_latestStanding 77 = .ok (.iload 7, 2) := by decide +kernel
theorem d_A_latestStanding_79 : decode b_A_latestStanding 79 = .ok (.istore 6, 2) := by decide +kernel
theorem d_A_latestStanding_81 : decode b_A_latestStanding 81 = .ok (.iinc 7 1, 3) := by decide +kernel
theorem d_A_latestStanding_84 : decode b_A_latestStanding 84 = .ok (.goto (-78), 3) := by decide +kernel
theorem d_A_latestStanding_87 : decode b_A_latestStanding 87 = .ok (.iload 6, 2) := by decide +kernel
theorem d_A_latestStanding_89 : decode b_A_latestStanding 89 = .ok (.ireturn, 1) := by decide +kernel
theorem d_A_isLater_0 : decode b_A_isLater 0 = .ok (.aload_n 0, 1) := by decide +kernel
theorem d_A_isLater_1 : decode b_A_isLater 1 = .ok (.getfield 15, 3) := by decide +kernel
theorem d_A_isLater_4 : decode b_A_isLater 4 = .ok (.iload_n 1, 1) := by decide +kernel
theorem d_A_isLater_5 : decode b_A_isLater 5 = .ok (.iaload, 1) := by decide +kernel
theorem d_A_isLater_6 : decode b_A_isLater 6 = .ok (.aload_n 0, 1) := by decide +kernel
theorem d_A_isLater_7 : decode b_A_isLater 7 = .ok (.getfield 15, 3) := by decide +kernel
theorem d_A_isLater_10 : decode b_A_isLater 10 = .ok (.iload_n 2, 1) := by decide +kernel
theorem d_A_isLater_11 : decode b_A_isLater 11 = .ok (.iaload, 1) := by decide +kernel
theorem d_A_isLater_12 : decode b_A_isLater 12 = .ok (.if_icmp .eq 24, 3) := by decide +kernel
theorem d_A_isLater_15 : decode b_A_isLater 15 = .ok (.aload_n 0, 1) := by decide +kernel
theorem d_A_isLater_16 : decode b_A_isLater 16 = .ok (.getfield 15, 3) := by decide +kernel
theorem d_A_isLater_19 : decode b_A_isLater 19 = .ok (.iload_n 1, 1) := by decide +kernel
theorem d_A_isLater_20 : decode b_A_isLater 20 = .ok (.iaload, 1) := by decide +kernel
theorem d_A_isLater_21 : decode b_A_isLater 21 = .ok (.aload_n 0, 1) := by decide +kernel
theorem d_A_isLater_22 : decode b_A_isLater 22 = .ok (.getfield 15, 3) := by decide +kernel
theorem d_A_isLater_25 : decode b_A_isLater 25 = .ok (.iload_n 2, 1) := by decide +kernel
theorem d_A_isLater_26 : decode b_A_isLater 26 = .ok (.iaload, 1) := by decide +kernel
theorem d_A_isLater_27 : decode b_A_isLater 27 = .ok (.if_icmp .le 7, 3) := by decide +kernel
theorem d_A_isLater_30 : decode b_A_isLater 30 = .ok (.iconst 1, 1) := by decide +kernel
theorem d_A_isLater_31 : decode b_A_isLater 31 = .ok (.goto 4, 3) := by decide +kernel
theorem d_A_isLater_34 : decode b_A_isLater 34 = .ok (.iconst 0, 1) := by decide +kernel
theorem d_A_isLater_35 : decode b_A_isLater 35 = .ok (.ireturn, 1) := by decide +kernel
theorem d_A_isLater_36 : decode b_A_isLater 36 = .ok (.aload_n 0, 1) := by decide +kernel
theorem d_A_isLater_37 : decode b_A_isLater 37 = .ok (.getfield 22, 3) := by decide +kernel
theorem d_A_isLater_40 : decode b_A_isLater 40 = .ok (.iload_n 1, 1) := by decide +kernel
theorem d_A_isLater_41 : decode b_A_isLater 41 = .ok (.iaload, 1) := by decide +kernel
theorem d_A_isLater_42 : decode b_A_isLater 42 = .ok (.aload_n 0, 1) := by decide +kernel
theorem d_A_isLater_43 : decode b_A_isLater 43 = .ok (.getfield 22, 3) := by decide +kernel
theorem d_A_isLater_46 : decode b_A_isLater 46 = .ok (.iload_n 2, 1) := by decide +kernel
theorem d_A_isLater_47 : decode b_A_isLater 47 = .ok (.iaload, 1) := by decide +kernel
theorem d_A_isLater_48 : decode b_A_isLater 48 = .ok (.if_icmp .eq 24, 3) := by decide +kernel
theorem d_A_isLater_51 : decode b_A_isLater 51 = .ok (.aload_n 0, 1) := by decide +kernel
theorem d_A_isLater_52 : decode b_A_isLater 52 = .ok (.getfield 22, 3) := by decide +kernel
theorem d_A_isLater_55 : decode b_A_isLater 55 = .ok (.iload_n 1, 1) := by decide +kernel
theorem d_A_isLater_56 : decode b_A_isLater 56 = .ok (.iaload, 1) := by decide +kernel
theorem d_A_isLater_57 : decode b_A_isLater 57 = .ok (.aload_n 0, 1) := by decide +kernel
theorem d_A_isLater_58 : decode b_A_isLater 58 = .ok (.getfield 22, 3) := by decide +kernel
theorem d_A_isLater_61 : decode b_A_isLater 61 = .ok (.iload_n 2, 1) := by decide +kernel
theorem d_A_isLater_62 : decode b_A_isLater 62 = .ok (.iaload, 1) := by decide +kernel
theorem d_A_isLater_63 : decode b_A_isLater 63 = .ok (.if_icmp .le 7, 3) := by decide +kernel
theorem d_A_isLater_66 : decode b_A_isLater 66 = .ok (.iconst 1, 1) := by decide +kernel
theorem d_A_isLater_67 : decode b_A_isLater 67 = .ok (.goto 4, 3) := by decide +kernel
theorem d_A_isLater_70 : decode b_A_isLater 70 = .ok (.iconst 0, 1) := by decide +kernel
theorem d_A_isLater_71 : decode b_A_isLater 71 = .ok (.ireturn, 1) := by decide +kernel
theorem d_A_isLater_72 : decode b_A_isLater 72 = .ok (.aload_n 0, 1) := by decide +kernel
theorem d_A_isLater_73 : decode b_A_isLater 73 = .ok (.getfield 9, 3) := by decide +kernel
theorem d_A_isLater_76 : decode b_A_isLater 76 = .ok (.iload_n 1, 1) := by decide +kernel
theorem d_A_isLater_77 : decode b_A_isLater 77 = .ok (.iaload, 1) := by decide +kernel
theorem d_A_isLater_78 : decode b_A_isLater 78 = .ok (.aload_n 0, 1) := by decide +kernel
theorem d_A_isLater_79 : decode b_A_isLater 79 = .ok (.getfield 9, 3) := by decide +kernel
theorem d_A_isLater_82 : decode b_A_isLater 82 = .ok (.iload_n 2, 1) := by decide +kernel
theorem d_A_isLater_83 : decode b_A_isLater 83 = .ok (.iaload, 1) := by decide +kernel
theorem d_A_isLater_84 : decode b_A_isLater 84 = .ok (.if_icmp .le 7, 3) := by decide +kernel
end
section
theorem d_A_isLater_87 : decode b_A_isLater 87 = .ok (.iconst 1, 1) := by decide +kernel
theorem d_A_isLater_88 : decode b_A_isLater 88 = .ok (.goto 4, 3) := by decide +kernel
theorem d_A_isLater_91 : decode b_A_isLater 91 = .ok (.iconst 0, 1) := by decide +kernel
theorem d_A_isLater_92 : decode b_A_isLater 92 = .ok (.ireturn, 1) := by decide +kernel
theorem d_A_countConflicts_0 : decode b_A_countConflicts 0 = .ok (.iconst 0, 1) := by decide +kernel
theorem d_A_countConflicts_1 : decode b_A_countConflicts 1 = .ok (.istore_n 2, 1) := by decide +kernel
theorem d_A_countConflicts_2 : decode b_A_countConflicts 2 = .ok (.iconst 0, 1) := by decide +kernel
theorem d_A_countConflicts_3 : decode b_A_countConflicts 3 = .ok (.istore_n 3, 1) := by decide +kernel
theorem d_A_countConflicts_4 : decode b_A_countConflicts 4 = .ok (.iload_n 3, 1) := by decide +kernel
theorem d_A_countConflicts_5 : decode b_A_countConflicts 5 = .ok (.aload_n 0, 1) := by decide +kernel
theorem d_A_countConflicts_6 : decode b_A_countConflicts 6 = .ok (.getfield 36, 3) := by decide +kernel
theorem d_A_countConflicts_9 : decode b_A_countConflicts 9 = .ok (.if_icmp .ge 29, 3) := by decide +kernel
theorem d_A_countConflicts_12 : decode b_A_countConflicts 12 = .ok (.aload_n 0, 1) := by decide +kernel
theorem d_A_countConflicts_13 : decode b_A_countConflicts 13 = .ok (.iload_n 3, 1) := by decide +kernel
theorem d_A_countConflicts_14 : decode b_A_countConflicts 14 = .ok (.invokevirtual 74, 3) := by decide +kernel
theorem d_A_countConflicts_17 : decode b_A_countConflicts 17 = .ok (.ifCond .eq 15, 3) := by decide +kernel
theorem d_A_countConflicts_20 : decode b_A_countConflicts 20 = .ok (.aload_n 0, 1) := by decide +kernel
theorem d_A_countConflicts_21 : decode b_A_countConflicts 21 = .ok (.iload_n 3, 1) := by decide +kernel
theorem d_A_countConflicts_22 : decode b_A_countConflicts 22 = .ok (.aload_n 1, 1) := by decide +kernel
theorem d_A_countConflicts_23 : decode b_A_countConflicts 23 = .ok (.invokevirtual 77, 3) := by decide +kernel
theorem d_A_countConflicts_26 : decode b_A_countConflicts 26 = .ok (.ifCond .eq 6, 3) := by decide +kernel
theorem d_A_countConflicts_29 : decode b_A_countConflicts 29 = .ok (.iinc 2 1, 3) := by decide +kernel
theorem d_A_countConflicts_32 : decode b_A_countConflicts 32 = .ok (.iinc 3 1, 3) := by decide +kernel
theorem d_A_countConflicts_35 : decode b_A_countConflicts 35 = .ok (.goto (-31), 3) := by decide +kernel
theorem d_A_countConflicts_38 : decode b_A_countConflicts 38 = .ok (.iload_n 2, 1) := by decide +kernel
theorem d_A_countConflicts_39 : decode b_A_countConflicts 39 = .ok (.ireturn, 1) := by decide +kernel
theorem d_A_conflictSpot_0 : decode b_A_conflictSpot 0 = .ok (.iconst 0, 1) := by decide +kernel
theorem d_A_conflictSpot_1 : decode b_A_conflictSpot 1 = .ok (.istore 4, 2) := by decide +kernel
theorem d_A_conflictSpot_3 : decode b_A_conflictSpot 3 = .ok (.iconst 0, 1) := by decide +kernel
theorem d_A_conflictSpot_4 : decode b_A_conflictSpot 4 = .ok (.istore 5, 2) := by decide +kernel
theorem d_A_conflictSpot_6 : decode b_A_conflictSpot 6 = .ok (.iload 5, 2) := by decide +kernel
theorem d_A_conflictSpot_8 : decode b_A_conflictSpot 8 = .ok (.aload_n 0, 1) := by decide +kernel
theorem d_A_conflictSpot_9 : decode b_A_conflictSpot 9 = .ok (.getfield 36, 3) := by decide +kernel
theorem d_A_conflictSpot_12 : decode b_A_conflictSpot 12 = .ok (.if_icmp .ge 60, 3) := by decide +kernel
theorem d_A_conflictSpot_15 : decode b_A_conflictSpot 15 = .ok (.aload_n 0, 1) := by decide +kernel
theorem d_A_conflictSpot_16 : decode b_A_conflictSpot 16 = .ok (.getfield 15, 3) := by decide +kernel
theorem d_A_conflictSpot_19 : decode b_A_conflictSpot 19 = .ok (.aload_n 0, 1) := by decide +kernel
theorem d_A_conflictSpot_20 : decode b_A_conflictSpot 20 = .ok (.getfield 33, 3) := by decide +kernel
theorem d_A_conflictSpot_23 : decode b_A_conflictSpot 23 = .ok (.iload 5, 2) := by decide +kernel
theorem d_A_conflictSpot_25 : decode b_A_conflictSpot 25 = .ok (.iaload, 1) := by decide +kernel
theorem d_A_conflictSpot_26 : decode b_A_conflictSpot 26 = .ok (.iaload, 1) := by decide +kernel
theorem d_A_conflictSpot_27 : decode b_A_conflictSpot 27 = .ok (.istore 6, 2) := by decide +kernel
theorem d_A_conflictSpot_29 : decode b_A_conflictSpot 29 = .ok (.iload 6, 2) := by decide +kernel
theorem d_A_conflictSpot_31 : decode b_A_conflictSpot 31 = .ok (.iload_n 2, 1) := by decide +kernel
theorem d_A_conflictSpot_32 : decode b_A_conflictSpot 32 = .ok (.if_icmp .lt 34, 3) := by decide +kernel
theorem d_A_conflictSpot_35 : decode b_A_conflictSpot 35 = .ok (.aload_n 0, 1) := by decide +kernel
theorem d_A_conflictSpot_36 : decode b_A_conflictSpot 36 = .ok (.iload 5, 2) := by decide +kernel
theorem d_A_conflictSpot_38 : decode b_A_conflictSpot 38 = .ok (.invokevirtual 74, 3) := by decide +kernel
theorem d_A_conflictSpot_41 : decode b_A_conflictSpot 41 = .ok (.ifCond .eq 25, 3) := by decide +kernel
theorem d_A_conflictSpot_44 : decode b_A_conflictSpot 44 = .ok (.aload_n 0, 1) := by decide +kernel
theorem d_A_conflictSpot_45 : decode b_A_conflictSpot 45 = .ok (.iload 5, 2) := by decide +kernel
theorem d_A_conflictSpot_47 : decode b_A_conflictSpot 47 = .ok (.aload_n 1, 1) := by decide +kernel
theorem d_A_conflictSpot_48 : decode b_A_conflictSpot 48 = .ok (.invokevirtual 77, 3) := by decide +kernel
theorem d_A_conflictSpot_51 : decode b_A_conflictSpot 51 = .ok (.ifCond .eq 15, 3) := by decide +kernel
theorem d_A_conflictSpot_54 : decode b_A_conflictSpot 54 = .ok (.iload 4, 2) := by decide +kernel
theorem d_A_conflictSpot_56 : decode b_A_conflictSpot 56 = .ok (.iload_n 3, 1) := by decide +kernel
theorem d_A_conflictSpot_57 : decode b_A_conflictSpot 57 = .ok (.if_icmp .ne 6, 3) := by decide +kernel
theorem d_A_conflictSpot_60 : decode b_A_conflictSpot 60 = .ok (.iload 6, 2) := by decide +kernel
theorem d_A_conflictSpot_62 : decode b_A_conflictSpot 62 = .ok (.ireturn, 1) := by decide +kernel
theorem d_A_conflictSpot_63 : decode b_A_conflictSpot 63 = .ok (.iinc 4 1, 3) := by decide +kernel
theorem d_A_conflictSpot_66 : decode b_A_conflictSpot 66 = .ok (.iinc 5 1, 3) := by decide +kernel
theorem d_A_conflictSpot_69 : decode b_A_conflictSpot 69 = .ok (.goto (-63), 3) := by decide +kernel
theorem d_A_conflictSpot_72 : decode b_A_conflictSpot 72 = .ok (.iconst (-1), 1) := by decide +kernel
theorem d_A_conflictSpot_73 : decode b_A_conflictSpot 73 = .ok (.ireturn, 1) := by decide +kernel
theorem d_A_isFirstOfSpot_0 : decode b_A_isFirstOfSpot 0 = .ok (.iload_n 1, 1) := by decide +kernel
theorem d_A_isFirstOfSpot_1 : decode b_A_isFirstOfSpot 1 = .ok (.ifCond .eq 30, 3) := by decide +kernel
theorem d_A_isFirstOfSpot_4 : decode b_A_isFirstOfSpot 4 = .ok (.aload_n 0, 1) := by decide +kernel
theorem d_A_isFirstOfSpot_5 : decode b_A_isFirstOfSpot 5 = .ok (.getfield 15, 3) := by decide +kernel
theorem d_A_isFirstOfSpot_8 : decode b_A_isFirstOfSpot 8 = .ok (.aload_n 0, 1) := by decide +kernel
theorem d_A_isFirstOfSpot_9 : decode b_A_isFirstOfSpot 9 = .ok (.getfield 33, 3) := by decide +kernel
theorem d_A_isFirstOfSpot_12 : decode b_A_isFirstOfSpot 12 = .ok (.iload_n 1, 1) := by decide +kernel
theorem d_A_isFirstOfSpot_13 : decode b_A_isFirstOfSpot 13 = .ok (.iconst 1, 1) := by decide +kernel
theorem d_A_isFirstOfSpot_14 : decode b_A_isFirstOfSpot 14 = .ok (.isub, 1) := by decide +kernel
theorem d_A_isFirstOfSpot_15 : decode b_A_isFirstOfSpot 15 = .ok (.iaload, 1) := by decide +kernel
theorem d_A_isFirstOfSpot_16 : decode b_A_isFirstOfSpot 16 = .ok (.iaload, 1) := by decide +kernel
theorem d_A_isFirstOfSpot_17 : decode b_A_isFirstOfSpot 17 = .ok (.aload_n 0, 1) := by decide +kernel
theorem d_A_isFirstOfSpot_18 : decode b_A_isFirstOfSpot 18 = .ok (.getfield 15, 3) := by decide +kernel
theorem d_A_isFirstOfSpot_21 : decode b_A_isFirstOfSpot 21 = .ok (.aload_n 0, 1) := by decide +kernel
theorem d_A_isFirstOfSpot_22 : decode b_A_isFirstOfSpot 22 = .ok (.getfield 33, 3) := by decide +kernel
theorem d_A_isFirstOfSpot_25 : decode b_A_isFirstOfSpot 25 = .ok (.iload_n 1, 1) := by decide +kernel
theorem d_A_isFirstOfSpot_26 : decode b_A_isFirstOfSpot 26 = .ok (.iaload, 1) := by decide +kernel
theorem d_A_isFirstOfSpot_27 : decode b_A_isFirstOfSpot 27 = .ok (.iaload, 1) := by decide +kernel
theorem d_A_isFirstOfSpot_28 : decode b_A_isFirstOfSpot 28 = .ok (.if_icmp .eq 7, 3) := by decide +kernel
theorem d_A_isFirstOfSpot_31 : decode b_A_isFirstOfSpot 31 = .ok (.iconst 1, 1) := by decide +kernel
theorem d_A_isFirstOfSpot_32 : decode b_A_isFirstOfSpot 32 = .ok (.goto 4, 3) := by decide +kernel
theorem d_A_isFirstOfSpot_35 : decode b_A_isFirstOfSpot 35 = .ok (.iconst 0, 1) := by decide +kernel
theorem d_A_isFirstOfSpot_36 : decode b_A_isFirstOfSpot 36 = .ok (.ireturn, 1) := by decide +kernel
theorem d_A_isConflictFrom_0 : decode b_A_isConflictFrom 0 = .ok (.aload_n 0, 1) := by decide +kernel
theorem d_A_isConflictFrom_1 : decode b_A_isConflictFrom 1 = .ok (.getfield 15, 3) := by decide +kernel
theorem d_A_isConflictFrom_4 : decode b_A_isConflictFrom 4 = .ok (.aload_n 0, 1) := by decide +kernel
theorem d_A_isConflictFrom_5 : decode b_A_isConflictFrom 5 = .ok (.getfield 33, 3) := by decide +kernel
theorem d_A_isConflictFrom_8 : decode b_A_isConflictFrom 8 = .ok (.iload_n 1, 1) := by decide +kernel
theorem d_A_isConflictFrom_9 : decode b_A_isConflictFrom 9 = .ok (.iaload, 1) := by decide +kernel
theorem d_A_isConflictFrom_10 : decode b_A_isConflictFrom 10 = .ok (.iaload, 1) := by decide +kernel
theorem d_A_isConflictFrom_11 : decode b_A_isConflictFrom 11 = .ok (.istore_n 3, 1) := by decide +kernel
theorem d_A_isConflictFrom_12 : decode b_A_isConflictFrom 12 = .ok (.iconst (-1), 1) := by decide +kernel
theorem d_A_isConflictFrom_13 : decode b_A_isConflictFrom 13 = .ok (.istore 4, 2) := by decide +kernel
theorem d_A_isConflictFrom_15 : decode b_A_isConflictFrom 15 = .ok (.iload_n 1, 1) := by decide +kernel
theorem d_A_isConflictFrom_16 : decode b_A_isConflictFrom 16 = .ok (.istore 5, 2) := by decide +kernel
theorem d_A_isConflictFrom_18 : decode b_A_isConflictFrom 18 = .ok (.iload 5, 2) := by decide +kernel
theorem d_A_isConflictFrom_20 : decode b_A_isConflictFrom 20 = .ok (.aload_n 0, 1) := by decide +kernel
theorem d_A_isConflictFrom_21 : decode b_A_isConflictFrom 21 = .ok (.getfield 36, 3) := by decide +kernel
theorem d_A_isConflictFrom_24 : decode b_A_isConflictFrom 24 = .ok (.if_icmp .ge 77, 3) := by decide +kernel
theorem d_A_isConflictFrom_27 : decode b_A_isConflictFrom 27 = .ok (.aload_n 0, 1) := by decide +kernel
theorem d_A_isConflictFrom_28 : decode b_A_isConflictFrom 28 = .ok (.getfield 15, 3) := by decide +kernel
theorem d_A_isConflictFrom_31 : decode b_A_isConflictFrom 31 = .ok (.aload_n 0, 1) := by decide +kernel
theorem d_A_isConflictFrom_32 : decode b_A_isConflictFrom 32 = .ok (.getfield 33, 3) := by decide +kernel
theorem d_A_isConflictFrom_35 : decode b_A_isConflictFrom 35 = .ok (.iload 5, 2) := by decide +kernel
theorem d_A_isConflictFrom_37 : decode b_A_isConflictFrom 37 = .ok (.iaload, 1) := by decide +kernel
theorem d_A_isConflictFrom_38 : decode b_A_isConflictFrom 38 = .ok (.iaload, 1) := by decide +kernel
theorem d_A_isConflictFrom_39 : decode b_A_isConflictFrom 39 = .ok (.iload_n 3, 1) := by decide +kernel
theorem d_A_isConflictFrom_40 : decode b_A_isConflictFrom 40 = .ok (.if_icmp .ne 61, 3) := by decide +kernel
theorem d_A_isConflictFrom_43 : decode b_A_isConflictFrom 43 = .ok (.aload_n 0, 1) := by decide +kernel
theorem d_A_isConflictFrom_44 : decode b_A_isConflictFrom 44 = .ok (.getfield 33, 3) := by decide +kernel
theorem d_A_isConflictFrom_47 : decode b_A_isConflictFrom 47 = .ok (.iload 5, 2) := by decide +kernel
theorem d_A_isConflictFrom_49 : decode b_A_isConflictFrom 49 = .ok (.iaload, 1) := by decide +kernel
theorem d_A_isConflictFrom_50 : decode b_A_isConflictFrom 50 = .ok (.istore 6, 2) := by decide +kernel
theorem d_A_isConflictFrom_52 : decode b_A_isConflictFrom 52 = .ok (.aload_n 0, 1) := by decide +kernel
theorem d_A_isConflictFrom_53 : decode b_A_isConflictFrom 53 = .ok (.aload_n 2, 1) := by decide +kernel
theorem d_A_isConflictFrom_54 : decode b_A_isConflictFrom 54 = .ok (.iload 6, 2) := by decide +kernel
theorem d_A_isConflictFrom_56 : decode b_A_isConflictFrom 56 = .ok (.invokevirtual 54, 3) := by decide +kernel
theorem d_A_isConflictFrom_59 : decode b_A_isConflictFrom 59 = .ok (.ifCond .eq 36, 3) := by decide +kernel
theorem d_A_isConflictFrom_62 : decode b_A_isConflictFrom 62 = .ok (.iload 4, 2) := by decide +kernel
theorem d_A_isConflictFrom_64 : decode b_A_isConflictFrom 64 = .ok (.iconst (-1), 1) := by decide +kernel
theorem d_A_isConflictFrom_65 : decode b_A_isConflictFrom 65 = .ok (.if_icmp .ne 10, 3) := by decide +kernel
theorem d_A_isConflictFrom_68 : decode b_A_isConflictFrom 68 = .ok (.iload 6, 2) := by decide +kernel
theorem d_A_isConflictFrom_70 : decode b_A_isConflictFrom 70 = .ok (.istore 4, 2) := by decide +kernel
theorem d_A_isConflictFrom_72 : decode b_A_isConflictFrom 72 = .ok (.goto 23, 3) := by decide +kernel
theorem d_A_isConflictFrom_75 : decode b_A_isConflictFrom 75 = .ok (.aload_n 0, 1) := by decide +kernel
theorem d_A_isConflictFrom_76 : decode b_A_isConflictFrom 76 = .ok (.getfield 18, 3) := by decide +kernel
theorem d_A_isConflictFrom_79 : decode b_A_isConflictFrom 79 = .ok (.iload 6, 2) := by decide +kernel
theorem d_A_isConflictFrom_81 : decode b_A_isConflictFrom 81 = .ok (.laload, 1) := by decide +kernel
theorem d_A_isConflictFrom_82 : decode b_A_isConflictFrom 82 = .ok (.aload_n 0, 1) := by decide +kernel
theorem d_A_isConflictFrom_83 : decode b_A_isConflictFrom 83 = .ok (.getfield 18, 3) := by decide +kernel
theorem d_A_isConflictFrom_86 : decode b_A_isConflictFrom 86 = .ok (.iload 4, 2) := by decide +kernel
theorem d_A_isConflictFrom_88 : decode b_A_isConflictFrom 88 = .ok (.laload, 1) := by decide +kernel
theorem d_A_isConflictFrom_89 : decode b_A_isConflictFrom 89 = .ok (.lcmp, 1) := by decide +kernel
theorem d_A_isConflictFrom_90 : decode b_A_isConflictFrom 90 = .ok (.ifCond .eq 5, 3) := by decide +kernel
theorem d_A_isConflictFrom_93 : decode b_A_isConflictFrom 93 = .ok (.iconst 1, 1) := by decide +kernel
theorem d_A_isConflictFrom_94 : decode b_A_isConflictFrom 94 = .ok (.ireturn, 1) := by decide +kernel
theorem d_A_isConflictFrom_95 : decode b_A_isConflictFrom 95 = .ok (.iinc 5 1, 3) := by decide +kernel
theorem d_A_isConflictFrom_98 : decode b_A_isConflictFrom 98 = .ok (.goto (-80), 3) := by decide +kernel
theorem d_A_isConflictFrom_101 : decode b_A_isConflictFrom 101 = .ok (.iconst 0, 1) := by decide +kernel
theorem d_A_isConflictFrom_102 : decode b_A_isConflictFrom 102 = .ok (.ireturn, 1) := by decide +kernel
end
section
theorem d_T_init_0 : decode b_T_init 0 = .ok (.aload_n 0, 1) := by decide +kernel
theorem d_T_init_1 : decode b_T_init 1 = .ok (.invokespecial 1, 3) := by decide +kernel
theorem d_T_init_4 : decode b_T_init 4 = .ok (.aload_n 0, 1) := by decide +kernel
theorem d_T_init_5 : decode b_T_init 5 = .ok (.bipush 8, 2) := by decide +kernel
theorem d_T_init_7 : decode b_T_init 7 = .ok (.anewarray 9, 3) := by decide +kernel
theorem d_T_init_10 : decode b_T_init 10 = .ok (.putfield 11, 3) := by decide +kernel
theorem d_T_init_13 : decode b_T_init 13 = .ok (.aload_n 0, 1) := by decide +kernel
theorem d_T_init_14 : decode b_T_init 14 = .ok (.bipush 40, 2) := by decide +kernel
theorem d_T_init_16 : decode b_T_init 16 = .ok (.newarray .int, 2) := by decide +kernel
theorem d_T_init_18 : decode b_T_init 18 = .ok (.putfield 15, 3) := by decide +kernel
theorem d_T_init_21 : decode b_T_init 21 = .ok (.aload_n 0, 1) := by decide +kernel
theorem d_T_init_22 : decode b_T_init 22 = .ok (.new 19, 3) := by decide +kernel
theorem d_T_init_25 : decode b_T_init 25 = .ok (.dup, 1) := by decide +kernel
theorem d_T_init_26 : decode b_T_init 26 = .ok (.invokespecial 21, 3) := by decide +kernel
theorem d_T_init_29 : decode b_T_init 29 = .ok (.putfield 22, 3) := by decide +kernel
theorem d_T_init_32 : decode b_T_init 32 = .ok (.aload_n 0, 1) := by decide +kernel
theorem d_T_init_33 : decode b_T_init 33 = .ok (.new 26, 3) := by decide +kernel
theorem d_T_init_36 : decode b_T_init 36 = .ok (.dup, 1) := by decide +kernel
theorem d_T_init_37 : decode b_T_init 37 = .ok (.invokespecial 28, 3) := by decide +kernel
theorem d_T_init_40 : decode b_T_init 40 = .ok (.putfield 29, 3) := by decide +kernel
theorem d_T_init_43 : decode b_T_init 43 = .ok (.return_, 1) := by decide +kernel
theorem d_T_desk_0 : decode b_T_desk 0 = .ok (.aload_n 0, 1) := by decide +kernel
theorem d_T_desk_1 : decode b_T_desk 1 = .ok (.getfield 33, 3) := by decide +kernel
theorem d_T_desk_4 : decode b_T_desk 4 = .ok (.bipush 8, 2) := by decide +kernel
theorem d_T_desk_6 : decode b_T_desk 6 = .ok (.if_icmp .lt 6, 3) := by decide +kernel
theorem d_T_desk_9 : decode b_T_desk 9 = .ok (.bipush (-2), 2) := by decide +kernel
theorem d_T_desk_11 : decode b_T_desk 11 = .ok (.ireturn, 1) := by decide +kernel
theorem d_T_desk_12 : decode b_T_desk 12 = .ok (.aload_n 0, 1) := by decide +kernel
theorem d_T_desk_13 : decode b_T_desk 13 = .ok (.getfield 33, 3) := by decide +kernel
theorem d_T_desk_16 : decode b_T_desk 16 = .ok (.istore_n 1, 1) := by decide +kernel
theorem d_T_desk_17 : decode b_T_desk 17 = .ok (.aload_n 0, 1) := by decide +kernel
theorem d_T_desk_18 : decode b_T_desk 18 = .ok (.getfield 11, 3) := by decide +kernel
theorem d_T_desk_21 : decode b_T_desk 21 = .ok (.iload_n 1, 1) := by decide +kernel
theorem d_T_desk_22 : decode b_T_desk 22 = .ok (.new 9, 3) := by decide +kernel
theorem d_T_desk_25 : decode b_T_desk 25 = .ok (.dup, 1) := by decide +kernel
theorem d_T_desk_26 : decode b_T_desk 26 = .ok (.iload_n 1, 1) := by decide +kernel
theorem d_T_desk_27 : decode b_T_desk 27 = .ok (.invokespecial 37, 3) := by decide +kernel
theorem d_T_desk_30 : decode b_T_desk 30 = .ok (.aastore, 1) := by decide +kernel
theorem d_T_desk_31 : decode b_T_desk 31 = .ok (.aload_n 0, 1) := by decide +kernel
theorem d_T_desk_32 : decode b_T_desk 32 = .ok (.dup, 1) := by decide +kernel
theorem d_T_desk_33 : decode b_T_desk 33 = .ok (.getfield 33, 3) := by decide +kernel
theorem d_T_desk_36 : decode b_T_desk 36 = .ok (.iconst 1, 1) := by decide +kernel
theorem d_T_desk_37 : decode b_T_desk 37 = .ok (.iadd, 1) := by decide +kernel
theorem d_T_desk_38 : decode b_T_desk 38 = .ok (.putfield 33, 3) := by decide +kernel
theorem d_T_desk_41 : decode b_T_desk 41 = .ok (.iload_n 1, 1) := by decide +kernel
theorem d_T_desk_42 : decode b_T_desk 42 = .ok (.ireturn, 1) := by decide +kernel
theorem d_T_tell_0 : decode b_T_tell 0 = .ok (.aload_n 0, 1) := by decide +kernel
theorem d_T_tell_1 : decode b_T_tell 1 = .ok (.iload_n 1, 1) := by decide +kernel
theorem d_T_tell_2 : decode b_T_tell 2 = .ok (.invokevirtual 40, 3) := by decide +kernel
theorem d_T_tell_5 : decode b_T_tell 5 = .ok (.astore 8, 2) := by decide +kernel
theorem d_T_tell_7 : decode b_T_tell 7 = .ok (.aload 8, 2) := by decide +kernel
theorem d_T_tell_9 : decode b_T_tell 9 = .ok (.ifnull 27, 3) := by decide +kernel
theorem d_T_tell_12 : decode b_T_tell 12 = .ok (.iload_n 2, 1) := by decide +kernel
theorem d_T_tell_13 : decode b_T_tell 13 = .ok (.iload_n 3, 1) := by decide +kernel
theorem d_T_tell_14 : decode b_T_tell 14 = .ok (.invokestatic 44, 3) := by decide +kernel
theorem d_T_tell_17 : decode b_T_tell 17 = .ok (.ifCond .eq 19, 3) := by decide +kernel
theorem d_T_tell_20 : decode b_T_tell 20 = .ok (.lload 4, 2) := by decide +kernel
theorem d_T_tell_22 : decode b_T_tell 22 = .ok (.lconst 0, 1) := by decide +kernel
theorem d_T_tell_23 : decode b_T_tell 23 = .ok (.lcmp, 1) := by decide +kernel
theorem d_T_tell_24 : decode b_T_tell 24 = .ok (.ifCond .lt 12, 3) := by decide +kernel
theorem d_T_tell_27 : decode b_T_tell 27 = .ok (.lload 4, 2) := by decide +kernel
theorem d_T_tell_29 : decode b_T_tell 29 = .ok (.ldc2_w 48, 3) := by decide +kernel
theorem d_T_tell_32 : decode b_T_tell 32 = .ok (.lcmp, 1) := by decide +kernel
theorem d_T_tell_33 : decode b_T_tell 33 = .ok (.ifCond .lt 5, 3) := by decide +kernel
theorem d_T_tell_36 : decode b_T_tell 36 = .ok (.iconst (-1), 1) := by decide +kernel
theorem d_T_tell_37 : decode b_T_tell 37 = .ok (.ireturn, 1) := by decide +kernel
theorem d_T_tell_38 : decode b_T_tell 38 = .ok (.aload_n 0, 1) := by decide +kernel
theorem d_T_tell_39 : decode b_T_tell 39 = .ok (.getfield 29, 3) := by decide +kernel
theorem d_T_tell_42 : decode b_T_tell 42 = .ok (.invokevirtual 50, 3) := by decide +kernel
theorem d_T_tell_45 : decode b_T_tell 45 = .ok (.aload_n 0, 1) := by decide +kernel
theorem d_T_tell_46 : decode b_T_tell 46 = .ok (.aload 8, 2) := by decide +kernel
theorem d_T_tell_48 : decode b_T_tell 48 = .ok (.iload_n 2, 1) := by decide +kernel
theorem d_T_tell_49 : decode b_T_tell 49 = .ok (.iload_n 3, 1) := by decide +kernel
theorem d_T_tell_50 : decode b_T_tell 50 = .ok (.lload 4, 2) := by decide +kernel
theorem d_T_tell_52 : decode b_T_tell 52 = .ok (.l2i, 1) := by decide +kernel
theorem d_T_tell_53 : decode b_T_tell 53 = .ok (.invokestatic 53, 3) := by decide +kernel
theorem d_T_tell_56 : decode b_T_tell 56 = .ok (.lload 6, 2) := by decide +kernel
theorem d_T_tell_58 : decode b_T_tell 58 = .ok (.aload_n 0, 1) := by decide +kernel
theorem d_T_tell_59 : decode b_T_tell 59 = .ok (.getfield 29, 3) := by decide +kernel
theorem d_T_tell_62 : decode b_T_tell 62 = .ok (.invokevirtual 57, 3) := by decide +kernel
theorem d_T_tell_65 : decode b_T_tell 65 = .ok (.ireturn, 1) := by decide +kernel
theorem d_T_correct_0 : decode b_T_correct 0 = .ok (.aload_n 0, 1) := by decide +kernel
theorem d_T_correct_1 : decode b_T_correct 1 = .ok (.iload_n 1, 1) := by decide +kernel
theorem d_T_correct_2 : decode b_T_correct 2 = .ok (.invokevirtual 40, 3) := by decide +kernel
theorem d_T_correct_5 : decode b_T_correct 5 = .ok (.astore 5, 2) := by decide +kernel
theorem d_T_correct_7 : decode b_T_correct 7 = .ok (.aload_n 0, 1) := by decide +kernel
theorem d_T_correct_8 : decode b_T_correct 8 = .ok (.getfield 22, 3) := by decide +kernel
theorem d_T_correct_11 : decode b_T_correct 11 = .ok (.iload_n 2, 1) := by decide +kernel
theorem d_T_correct_12 : decode b_T_correct 12 = .ok (.invokevirtual 61, 3) := by decide +kernel
theorem d_T_correct_15 : decode b_T_correct 15 = .ok (.istore 6, 2) := by decide +kernel
theorem d_T_correct_17 : decode b_T_correct 17 = .ok (.aload 5, 2) := by decide +kernel
theorem d_T_correct_19 : decode b_T_correct 19 = .ok (.ifnull 26, 3) := by decide +kernel
theorem d_T_correct_22 : decode b_T_correct 22 = .ok (.iload 6, 2) := by decide +kernel
theorem d_T_correct_24 : decode b_T_correct 24 = .ok (.iconst (-1), 1) := by decide +kernel
theorem d_T_correct_25 : decode b_T_correct 25 = .ok (.if_icmp .eq 20, 3) := by decide +kernel
theorem d_T_correct_28 : decode b_T_correct 28 = .ok (.aload_n 0, 1) := by decide +kernel
theorem d_T_correct_29 : decode b_T_correct 29 = .ok (.getfield 22, 3) := by decide +kernel
theorem d_T_correct_32 : decode b_T_correct 32 = .ok (.aload 5, 2) := by decide +kernel
theorem d_T_correct_34 : decode b_T_correct 34 = .ok (.getfield 65, 3) := by decide +kernel
theorem d_T_correct_37 : decode b_T_correct 37 = .ok (.iload 6, 2) := by decide +kernel
theorem d_T_correct_39 : decode b_T_correct 39 = .ok (.invokevirtual 68, 3) := by decide +kernel
theorem d_T_correct_42 : decode b_T_correct 42 = .ok (.ifCond .ne 5, 3) := by decide +kernel
theorem d_T_correct_45 : decode b_T_correct 45 = .ok (.iconst (-1), 1) := by decide +kernel
theorem d_T_correct_46 : decode b_T_correct 46 = .ok (.ireturn, 1) := by decide +kernel
theorem d_T_correct_47 : decode b_T_correct 47 = .ok (.aload_n 0, 1) := by decide +kernel
theorem d_T_correct_48 : decode b_T_correct 48 = .ok (.getfield 29, 3) := by decide +kernel
theorem d_T_correct_51 : decode b_T_correct 51 = .ok (.invokevirtual 50, 3) := by decide +kernel
theorem d_T_correct_54 : decode b_T_correct 54 = .ok (.aload_n 0, 1) := by decide +kernel
theorem d_T_correct_55 : decode b_T_correct 55 = .ok (.getfield 29, 3) := by decide +kernel
theorem d_T_correct_58 : decode b_T_correct 58 = .ok (.iload 6, 2) := by decide +kernel
theorem d_T_correct_60 : decode b_T_correct 60 = .ok (.invokevirtual 72, 3) := by decide +kernel
theorem d_T_correct_63 : decode b_T_correct 63 = .ok (.aload_n 0, 1) := by decide +kernel
theorem d_T_correct_64 : decode b_T_correct 64 = .ok (.aload 5, 2) := by decide +kernel
theorem d_T_correct_66 : decode b_T_correct 66 = .ok (.aload_n 0, 1) := by decide +kernel
theorem d_T_correct_67 : decode b_T_correct 67 = .ok (.getfield 22, 3) := by decide +kernel
theorem d_T_correct_70 : decode b_T_correct 70 = .ok (.getfield 75, 3) := by decide +kernel
theorem d_T_correct_73 : decode b_T_correct 73 = .ok (.iload 6, 2) := by decide +kernel
theorem d_T_correct_75 : decode b_T_correct 75 = .ok (.iaload, 1) := by decide +kernel
theorem d_T_correct_76 : decode b_T_correct 76 = .ok (.lload_n 3, 1) := by decide +kernel
theorem d_T_correct_77 : decode b_T_correct 77 = .ok (.aload_n 0, 1) := by decide +kernel
theorem d_T_correct_78 : decode b_T_correct 78 = .ok (.getfield 29, 3) := by decide +kernel
theorem d_T_correct_81 : decode b_T_correct 81 = .ok (.invokevirtual 57, 3) := by decide +kernel
theorem d_T_correct_84 : decode b_T_correct 84 = .ok (.ireturn, 1) := by decide +kernel
theorem d_T_join_0 : decode b_T_join 0 = .ok (.aload_n 0, 1) := by decide +kernel
theorem d_T_join_1 : decode b_T_join 1 = .ok (.iload_n 1, 1) := by decide +kernel
theorem d_T_join_2 : decode b_T_join 2 = .ok (.invokevirtual 40, 3) := by decide +kernel
theorem d_T_join_5 : decode b_T_join 5 = .ok (.astore_n 3, 1) := by decide +kernel
theorem d_T_join_6 : decode b_T_join 6 = .ok (.aload_n 0, 1) := by decide +kernel
theorem d_T_join_7 : decode b_T_join 7 = .ok (.iload_n 2, 1) := by decide +kernel
theorem d_T_join_8 : decode b_T_join 8 = .ok (.invokevirtual 40, 3) := by decide +kernel
theorem d_T_join_11 : decode b_T_join 11 = .ok (.astore 4, 2) := by decide +kernel
theorem d_T_join_13 : decode b_T_join 13 = .ok (.aload_n 3, 1) := by decide +kernel
theorem d_T_join_14 : decode b_T_join 14 = .ok (.ifnull 13, 3) := by decide +kernel
theorem d_T_join_17 : decode b_T_join 17 = .ok (.aload 4, 2) := by decide +kernel
theorem d_T_join_19 : decode b_T_join 19 = .ok (.ifnull 8, 3) := by decide +kernel
theorem d_T_join_22 : decode b_T_join 22 = .ok (.iload_n 1, 1) := by decide +kernel
theorem d_T_join_23 : decode b_T_join 23 = .ok (.iload_n 2, 1) := by decide +kernel
theorem d_T_join_24 : decode b_T_join 24 = .ok (.if_icmp .ne 5, 3) := by decide +kernel
theorem d_T_join_27 : decode b_T_join 27 = .ok (.iconst (-1), 1) := by decide +kernel
theorem d_T_join_28 : decode b_T_join 28 = .ok (.ireturn, 1) := by decide +kernel
theorem d_T_join_29 : decode b_T_join 29 = .ok (.aload_n 3, 1) := by decide +kernel
theorem d_T_join_30 : decode b_T_join 30 = .ok (.aload 4, 2) := by decide +kernel
theorem d_T_join_32 : decode b_T_join 32 = .ok (.invokevirtual 78, 3) := by decide +kernel
theorem d_T_join_35 : decode b_T_join 35 = .ok (.aload_n 0, 1) := by decide +kernel
theorem d_T_join_36 : decode b_T_join 36 = .ok (.getfield 22, 3) := by decide +kernel
theorem d_T_join_39 : decode b_T_join 39 = .ok (.aload_n 3, 1) := by decide +kernel
theorem d_T_join_40 : decode b_T_join 40 = .ok (.getfield 65, 3) := by decide +kernel
theorem d_T_join_43 : decode b_T_join 43 = .ok (.invokevirtual 82, 3) := by decide +kernel
theorem d_T_join_46 : decode b_T_join 46 = .ok (.ireturn, 1) := by decide +kernel
theorem d_T_known_0 : decode b_T_known 0 = .ok (.aload_n 0, 1) := by decide +kernel
theorem d_T_known_1 : decode b_T_known 1 = .ok (.iload_n 1, 1) := by decide +kernel
theorem d_T_known_2 : decode b_T_known 2 = .ok (.invokevirtual 40, 3) := by decide +kernel
theorem d_T_known_5 : decode b_T_known 5 = .ok (.astore 8, 2) := by decide +kernel
theorem d_T_known_7 : decode b_T_known 7 = .ok (.aload 8, 2) := by decide +kernel
theorem d_T_known_9 : decode b_T_known 9 = .ok (.ifnull 11, 3) := by decide +kernel
theorem d_T_known_12 : decode b_T_known 12 = .ok (.iload_n 2, 1) := by decide +kernel
theorem d_T_known_13 : decode b_T_known 13 = .ok (.iload_n 3, 1) := by decide +kernel
theorem d_T_known_14 : decode b_T_known 14 = .ok (.invokestatic 44, 3) := by decide +kernel
theorem d_T_known_17 : decode b_T_known 17 = .ok (.ifCond .ne 7, 3) := by decide +kernel
theorem d_T_known_20 : decode b_T_known 20 = .ok (.ldc2_w 86, 3) := by decide +kernel
theorem d_T_known_23 : decode b_T_known 23 = .ok (.lreturn, 1) := by decide +kernel
theorem d_T_known_24 : decode b_T_known 24 = .ok (.aload_n 0, 1) := by decide +kernel
theorem d_T_known_25 : decode b_T_known 25 = .ok (.getfield 22, 3) := by decide +kernel
theorem d_T_known_28 : decode b_T_known 28 = .ok (.lload 6, 2) := by decide +kernel
theorem d_T_known_30 : decode b_T_known 30 = .ok (.aload 8, 2) := by decide +kernel
theorem d_T_known_32 : decode b_T_known 32 = .ok (.getfield 65, 3) := by decide +kernel
theorem d_T_known_35 : decode b_T_known 35 = .ok (.aload_n 0, 1) := by decide +kernel
theorem d_T_known_36 : decode b_T_known 36 = .ok (.getfield 29, 3) := by decide +kernel
theorem d_T_known_39 : decode b_T_known 39 = .ok (.invokevirtual 88, 3) := by decide +kernel
theorem d_T_known_42 : decode b_T_known 42 = .ok (.aload_n 0, 1) := by decide +kernel
theorem d_T_known_43 : decode b_T_known 43 = .ok (.getfield 22, 3) := by decide +kernel
theorem d_T_known_46 : decode b_T_known 46 = .ok (.aload_n 0, 1) := by decide +kernel
theorem d_T_known_47 : decode b_T_known 47 = .ok (.getfield 29, 3) := by decide +kernel
theorem d_T_known_50 : decode b_T_known 50 = .ok (.iload_n 2, 1) := by decide +kernel
theorem d_T_known_51 : decode b_T_known 51 = .ok (.iload_n 3, 1) := by decide +kernel
theorem d_T_known_52 : decode b_T_known 52 = .ok (.lload 4, 2) := by decide +kernel
theorem d_T_known_54 : decode b_T_known 54 = .ok (.invokevirtual 92, 3) := by decide +kernel
theorem d_T_known_57 : decode b_T_known 57 = .ok (.istore 9, 2) := by decide +kernel
theorem d_T_known_59 : decode b_T_known 59 = .ok (.iload 9, 2) := by decide +kernel
theorem d_T_known_61 : decode b_T_known 61 = .ok (.iconst (-1), 1) := by decide +kernel
theorem d_T_known_62 : decode b_T_known 62 = .ok (.if_icmp .ne 9, 3) := by decide +kernel
theorem d_T_known_65 : decode b_T_known 65 = .ok (.ldc2_w 86, 3) := by decide +kernel
theorem d_T_known_68 : decode b_T_known 68 = .ok (.goto 13, 3) := by decide +kernel
theorem d_T_known_71 : decode b_T_known 71 = .ok (.aload_n 0, 1) := by decide +kernel
theorem d_T_known_72 : decode b_T_known 72 = .ok (.getfield 22, 3) := by decide +kernel
theorem d_T_known_75 : decode b_T_known 75 = .ok (.getfield 96, 3) := by decide +kernel
theorem d_T_known_78 : decode b_T_known 78 = .ok (.iload 9, 2) := by decide +kernel
theorem d_T_known_80 : decode b_T_known 80 = .ok (.laload, 1) := by decide +kernel
theorem d_T_known_81 : decode b_T_known 81 = .ok (.lreturn, 1) := by decide +kernel
theorem d_T_conflict_0 : decode b_T_conflict 0 = .ok (.aload_n 0, 1) := by decide +kernel
theorem d_T_conflict_1 : decode b_T_conflict 1 = .ok (.iload_n 1, 1) := by decide +kernel
theorem d_T_conflict_2 : decode b_T_conflict 2 = .ok (.invokevirtual 40, 3) := by decide +kernel
theorem d_T_conflict_5 : decode b_T_conflict 5 = .ok (.astore 4, 2) := by decide +kernel
theorem d_T_conflict_7 : decode b_T_conflict 7 = .ok (.aload 4, 2) := by decide +kernel
theorem d_T_conflict_9 : decode b_T_conflict 9 = .ok (.ifnull 11, 3) := by decide +kernel
theorem d_T_conflict_12 : decode b_T_conflict 12 = .ok (.iload_n 2, 1) := by decide +kernel
theorem d_T_conflict_13 : decode b_T_conflict 13 = .ok (.ifCond .lt 7, 3) := by decide +kernel
theorem d_T_conflict_16 : decode b_T_conflict 16 = .ok (.iload_n 3, 1) := by decide +kernel
theorem d_T_conflict_17 : decode b_T_conflict 17 = .ok (.ifCond .ge 5, 3) := by decide +kernel
theorem d_T_conflict_20 : decode b_T_conflict 20 = .ok (.iconst (-1), 1) := by decide +kernel
theorem d_T_conflict_21 : decode b_T_conflict 21 = .ok (.ireturn, 1) := by decide +kernel
theorem d_T_conflict_22 : decode b_T_conflict 22 = .ok (.aload_n 0, 1) := by decide +kernel
theorem d_T_conflict_23 : decode b_T_conflict 23 = .ok (.getfield 22, 3) := by decide +kernel
theorem d_T_conflict_26 : decode b_T_conflict 26 = .ok (.aload 4, 2) := by decide +kernel
theorem d_T_conflict_28 : decode b_T_conflict 28 = .ok (.getfield 65, 3) := by decide +kernel
theorem d_T_conflict_31 : decode b_T_conflict 31 = .ok (.iconst 0, 1) := by decide +kernel
theorem d_T_conflict_32 : decode b_T_conflict 32 = .ok (.iload_n 2, 1) := by decide +kernel
theorem d_T_conflict_33 : decode b_T_conflict 33 = .ok (.invokevirtual 100, 3) := by decide +kernel
theorem d_T_conflict_36 : decode b_T_conflict 36 = .ok (.istore 5, 2) := by decide +kernel
theorem d_T_conflict_38 : decode b_T_conflict 38 = .ok (.iload 5, 2) := by decide +kernel
theorem d_T_conflict_40 : decode b_T_conflict 40 = .ok (.iconst (-1), 1) := by decide +kernel
theorem d_T_conflict_41 : decode b_T_conflict 41 = .ok (.if_icmp .ne 5, 3) := by decide +kernel
theorem d_T_conflict_44 : decode b_T_conflict 44 = .ok (.iconst (-1), 1) := by decide +kernel
theorem d_T_conflict_45 : decode b_T_conflict 45 = .ok (.ireturn, 1) := by decide +kernel
theorem d_T_conflict_46 : decode b_T_conflict 46 = .ok (.aload_n 0, 1) := by decide +kernel
theorem d_T_conflict_47 : decode b_T_conflict 47 = .ok (.getfield 22, 3) := by decide +kernel
theorem d_T_conflict_50 : decode b_T_conflict 50 = .ok (.aload 4, 2) := by decide +kernel
theorem d_T_conflict_52 : decode b_T_conflict 52 = .ok (.getfield 65, 3) := by decide +kernel
theorem d_T_conflict_55 : decode b_T_conflict 55 = .ok (.iload 5, 2) := by decide +kernel
theorem d_T_conflict_57 : decode b_T_conflict 57 = .ok (.aload_n 0, 1) := by decide +kernel
theorem d_T_conflict_58 : decode b_T_conflict 58 = .ok (.getfield 29, 3) := by decide +kernel
theorem d_T_conflict_61 : decode b_T_conflict 61 = .ok (.invokevirtual 104, 3) := by decide +kernel
theorem d_T_conflict_64 : decode b_T_conflict 64 = .ok (.iload_n 3, 1) := by decide +kernel
theorem d_T_conflict_65 : decode b_T_conflict 65 = .ok (.tableswitch 57 0 3 #[31, 37, 43, 49], 31) := by decide +kernel
theorem d_T_conflict_96 : decode b_T_conflict 96 = .ok (.iload 5, 2) := by decide +kernel
theorem d_T_conflict_98 : decode b_T_conflict 98 = .ok (.invokestatic 108, 3) := by decide +kernel
theorem d_T_conflict_101 : decode b_T_conflict 101 = .ok (.ireturn, 1) := by decide +kernel
theorem d_T_conflict_102 : decode b_T_conflict 102 = .ok (.iload 5, 2) := by decide +kernel
theorem d_T_conflict_104 : decode b_T_conflict 104 = .ok (.invokestatic 111, 3) := by decide +kernel
theorem d_T_conflict_107 : decode b_T_conflict 107 = .ok (.ireturn, 1) := by decide +kernel
theorem d_T_conflict_108 : decode b_T_conflict 108 = .ok (.iload 5, 2) := by decide +kernel
theorem d_T_conflict_110 : decode b_T_conflict 110 = .ok (.invokestatic 114, 3) := by decide +kernel
theorem d_T_conflict_113 : decode b_T_conflict 113 = .ok (.ireturn, 1) := by decide +kernel
theorem d_T_conflict_114 : decode b_T_conflict 114 = .ok (.aload_n 0, 1) := by decide +kernel
theorem d_T_conflict_115 : decode b_T_conflict 115 = .ok (.getfield 29, 3) := by decide +kernel
theorem d_T_conflict_118 : decode b_T_conflict 118 = .ok (.invokevirtual 117, 3) := by decide +kernel
theorem d_T_conflict_121 : decode b_T_conflict 121 = .ok (.ireturn, 1) := by decide +kernel
theorem d_T_conflict_122 : decode b_T_conflict 122 = .ok (.aload_n 0, 1) := by decide +kernel
theorem d_T_conflict_123 : decode b_T_conflict 123 = .ok (.aload_n 0, 1) := by decide +kernel
theorem d_T_conflict_124 : decode b_T_conflict 124 = .ok (.getfield 22, 3) := by decide +kernel
theorem d_T_conflict_127 : decode b_T_conflict 127 = .ok (.aload_n 0, 1) := by decide +kernel
theorem d_T_conflict_128 : decode b_T_conflict 128 = .ok (.getfield 29, 3) := by decide +kernel
theorem d_T_conflict_131 : decode b_T_conflict 131 = .ok (.iload_n 3, 1) := by decide +kernel
theorem d_T_conflict_132 : decode b_T_conflict 132 = .ok (.iconst 4, 1) := by decide +kernel
theorem d_T_conflict_133 : decode b_T_conflict 133 = .ok (.isub, 1) := by decide +kernel
theorem d_T_conflict_134 : decode b_T_conflict 134 = .ok (.invokevirtual 121, 3) := by decide +kernel
theorem d_T_conflict_137 : decode b_T_conflict 137 = .ok (.invokevirtual 125, 3) := by decide +kernel
theorem d_T_conflict_140 : decode b_T_conflict 140 = .ok (.ireturn, 1) := by decide +kernel
theorem d_T_settle_0 : decode b_T_settle 0 = .ok (.aload_n 0, 1) := by decide +kernel
theorem d_T_settle_1 : decode b_T_settle 1 = .ok (.iload_n 1, 1) := by decide +kernel
theorem d_T_settle_2 : decode b_T_settle 2 = .ok (.invokevirtual 40, 3) := by decide +kernel
theorem d_T_settle_5 : decode b_T_settle 5 = .ok (.astore 5, 2) := by decide +kernel
theorem d_T_settle_7 : decode b_T_settle 7 = .ok (.aload 5, 2) := by decide +kernel
theorem d_T_settle_9 : decode b_T_settle 9 = .ok (.ifnull 11, 3) := by decide +kernel
theorem d_T_settle_12 : decode b_T_settle 12 = .ok (.iload_n 2, 1) := by decide +kernel
theorem d_T_settle_13 : decode b_T_settle 13 = .ok (.iload_n 3, 1) := by decide +kernel
theorem d_T_settle_14 : decode b_T_settle 14 = .ok (.invokestatic 44, 3) := by decide +kernel
theorem d_T_settle_17 : decode b_T_settle 17 = .ok (.ifCond .ne 5, 3) := by decide +kernel
theorem d_T_settle_20 : decode b_T_settle 20 = .ok (.iconst (-1), 1) := by decide +kernel
theorem d_T_settle_21 : decode b_T_settle 21 = .ok (.ireturn, 1) := by decide +kernel
theorem d_T_settle_22 : decode b_T_settle 22 = .ok (.aload_n 0, 1) := by decide +kernel
theorem d_T_settle_23 : decode b_T_settle 23 = .ok (.getfield 22, 3) := by decide +kernel
theorem d_T_settle_26 : decode b_T_settle 26 = .ok (.aload 5, 2) := by decide +kernel
theorem d_T_settle_28 : decode b_T_settle 28 = .ok (.getfield 65, 3) := by decide +kernel
theorem d_T_settle_31 : decode b_T_settle 31 = .ok (.iload_n 2, 1) := by decide +kernel
theorem d_T_settle_32 : decode b_T_settle 32 = .ok (.iload_n 3, 1) := by decide +kernel
theorem d_T_settle_33 : decode b_T_settle 33 = .ok (.iconst 0, 1) := by decide +kernel
theorem d_T_settle_34 : decode b_T_settle 34 = .ok (.invokestatic 53, 3) := by decide +kernel
theorem d_T_settle_37 : decode b_T_settle 37 = .ok (.iconst 0, 1) := by decide +kernel
theorem d_T_settle_38 : decode b_T_settle 38 = .ok (.invokevirtual 100, 3) := by decide +kernel
theorem d_T_settle_41 : decode b_T_settle 41 = .ok (.istore 6, 2) := by decide +kernel
theorem d_T_settle_43 : decode b_T_settle 43 = .ok (.iload 6, 2) := by decide +kernel
theorem d_T_settle_45 : decode b_T_settle 45 = .ok (.iconst (-1), 1) := by decide +kernel
theorem d_T_settle_46 : decode b_T_settle 46 = .ok (.if_icmp .eq 15, 3) := by decide +kernel
theorem d_T_settle_49 : decode b_T_settle 49 = .ok (.iload 6, 2) := by decide +kernel
theorem d_T_settle_51 : decode b_T_settle 51 = .ok (.iload_n 2, 1) := by decide +kernel
theorem d_T_settle_52 : decode b_T_settle 52 = .ok (.iload_n 3, 1) := by decide +kernel
theorem d_T_settle_53 : decode b_T_settle 53 = .ok (.ldc 128, 2) := by decide +kernel
theorem d_T_settle_55 : decode b_T_settle 55 = .ok (.invokestatic 53, 3) := by decide +kernel
theorem d_T_settle_58 : decode b_T_settle 58 = .ok (.if_icmp .le 5, 3) := by decide +kernel
theorem d_T_settle_61 : decode b_T_settle 61 = .ok (.iconst (-1), 1) := by decide +kernel
theorem d_T_settle_62 : decode b_T_settle 62 = .ok (.ireturn, 1) := by decide +kernel
theorem d_T_settle_63 : decode b_T_settle 63 = .ok (.aload_n 0, 1) := by decide +kernel
theorem d_T_settle_64 : decode b_T_settle 64 = .ok (.getfield 22, 3) := by decide +kernel
theorem d_T_settle_67 : decode b_T_settle 67 = .ok (.aload 5, 2) := by decide +kernel
theorem d_T_settle_69 : decode b_T_settle 69 = .ok (.getfield 65, 3) := by decide +kernel
theorem d_T_settle_72 : decode b_T_settle 72 = .ok (.iload 6, 2) := by decide +kernel
theorem d_T_settle_74 : decode b_T_settle 74 = .ok (.aload_n 0, 1) := by decide +kernel
theorem d_T_settle_75 : decode b_T_settle 75 = .ok (.getfield 29, 3) := by decide +kernel
theorem d_T_settle_78 : decode b_T_settle 78 = .ok (.invokevirtual 104, 3) := by decide +kernel
theorem d_T_settle_81 : decode b_T_settle 81 = .ok (.aload_n 0, 1) := by decide +kernel
theorem d_T_settle_82 : decode b_T_settle 82 = .ok (.getfield 22, 3) := by decide +kernel
theorem d_T_settle_85 : decode b_T_settle 85 = .ok (.aload_n 0, 1) := by decide +kernel
theorem d_T_settle_86 : decode b_T_settle 86 = .ok (.getfield 29, 3) := by decide +kernel
theorem d_T_settle_89 : decode b_T_settle 89 = .ok (.iload 4, 2) := by decide +kernel
theorem d_T_settle_91 : decode b_T_settle 91 = .ok (.invokevirtual 121, 3) := by decide +kernel
theorem d_T_settle_94 : decode b_T_settle 94 = .ok (.istore 7, 2) := by decide +kernel
theorem d_T_settle_96 : decode b_T_settle 96 = .ok (.iload 7, 2) := by decide +kernel
theorem d_T_settle_98 : decode b_T_settle 98 = .ok (.iconst (-1), 1) := by decide +kernel
theorem d_T_settle_99 : decode b_T_settle 99 = .ok (.if_icmp .ne 5, 3) := by decide +kernel
theorem d_T_settle_102 : decode b_T_settle 102 = .ok (.iconst (-1), 1) := by decide +kernel
theorem d_T_settle_103 : decode b_T_settle 103 = .ok (.ireturn, 1) := by decide +kernel
theorem d_T_settle_104 : decode b_T_settle 104 = .ok (.aload_n 0, 1) := by decide +kernel
theorem d_T_settle_105 : decode b_T_settle 105 = .ok (.aload 5, 2) := by decide +kernel
theorem d_T_settle_107 : decode b_T_settle 107 = .ok (.iload 6, 2) := by decide +kernel
theorem d_T_settle_109 : decode b_T_settle 109 = .ok (.aload_n 0, 1) := by decide +kernel
theorem d_T_settle_110 : decode b_T_settle 110 = .ok (.getfield 22, 3) := by decide +kernel
theorem d_T_settle_113 : decode b_T_settle 113 = .ok (.getfield 96, 3) := by decide +kernel
theorem d_T_settle_116 : decode b_T_settle 116 = .ok (.iload 7, 2) := by decide +kernel
theorem d_T_settle_118 : decode b_T_settle 118 = .ok (.laload, 1) := by decide +kernel
theorem d_T_settle_119 : decode b_T_settle 119 = .ok (.aload_n 0, 1) := by decide +kernel
theorem d_T_settle_120 : decode b_T_settle 120 = .ok (.getfield 29, 3) := by decide +kernel
theorem d_T_settle_123 : decode b_T_settle 123 = .ok (.invokevirtual 57, 3) := by decide +kernel
theorem d_T_settle_126 : decode b_T_settle 126 = .ok (.ireturn, 1) := by decide +kernel
theorem d_T_equal_0 : decode b_T_equal 0 = .ok (.aload_n 0, 1) := by decide +kernel
theorem d_T_equal_1 : decode b_T_equal 1 = .ok (.iload_n 1, 1) := by decide +kernel
theorem d_T_equal_2 : decode b_T_equal 2 = .ok (.invokevirtual 40, 3) := by decide +kernel
theorem d_T_equal_5 : decode b_T_equal 5 = .ok (.astore_n 3, 1) := by decide +kernel
theorem d_T_equal_6 : decode b_T_equal 6 = .ok (.aload_n 0, 1) := by decide +kernel
theorem d_T_equal_7 : decode b_T_equal 7 = .ok (.iload_n 2, 1) := by decide +kernel
theorem d_T_equal_8 : decode b_T_equal 8 = .ok (.invokevirtual 40, 3) := by decide +kernel
theorem d_T_equal_11 : decode b_T_equal 11 = .ok (.astore 4, 2) := by decide +kernel
theorem d_T_equal_13 : decode b_T_equal 13 = .ok (.aload_n 3, 1) := by decide +kernel
theorem d_T_equal_14 : decode b_T_equal 14 = .ok (.ifnull 27, 3) := by decide +kernel
theorem d_T_equal_17 : decode b_T_equal 17 = .ok (.aload 4, 2) := by decide +kernel
theorem d_T_equal_19 : decode b_T_equal 19 = .ok (.ifnull 22, 3) := by decide +kernel
theorem d_T_equal_22 : decode b_T_equal 22 = .ok (.aload_n 3, 1) := by decide +kernel
theorem d_T_equal_23 : decode b_T_equal 23 = .ok (.getfield 65, 3) := by decide +kernel
theorem d_T_equal_26 : decode b_T_equal 26 = .ok (.aload 4, 2) := by decide +kernel
theorem d_T_equal_28 : decode b_T_equal 28 = .ok (.getfield 65, 3) := by decide +kernel
theorem d_T_equal_31 : decode b_T_equal 31 = .ok (.invokevirtual 129, 3) := by decide +kernel
theorem d_T_equal_34 : decode b_T_equal 34 = .ok (.ifCond .eq 7, 3) := by decide +kernel
theorem d_T_equal_37 : decode b_T_equal 37 = .ok (.iconst 1, 1) := by decide +kernel
theorem d_T_equal_38 : decode b_T_equal 38 = .ok (.goto 4, 3) := by decide +kernel
theorem d_T_equal_41 : decode b_T_equal 41 = .ok (.iconst 0, 1) := by decide +kernel
theorem d_T_equal_42 : decode b_T_equal 42 = .ok (.ireturn, 1) := by decide +kernel
theorem d_T_batch_0 : decode b_T_batch 0 = .ok (.aload_n 0, 1) := by decide +kernel
theorem d_T_batch_1 : decode b_T_batch 1 = .ok (.iload_n 1, 1) := by decide +kernel
theorem d_T_batch_2 : decode b_T_batch 2 = .ok (.invokevirtual 40, 3) := by decide +kernel
theorem d_T_batch_5 : decode b_T_batch 5 = .ok (.astore_n 2, 1) := by decide +kernel
theorem d_T_batch_6 : decode b_T_batch 6 = .ok (.aload_n 2, 1) := by decide +kernel
theorem d_T_batch_7 : decode b_T_batch 7 = .ok (.ifnull 11, 3) := by decide +kernel
theorem d_T_batch_10 : decode b_T_batch 10 = .ok (.aload_n 2, 1) := by decide +kernel
theorem d_T_batch_11 : decode b_T_batch 11 = .ok (.getfield 133, 3) := by decide +kernel
theorem d_T_batch_14 : decode b_T_batch 14 = .ok (.iconst (-1), 1) := by decide +kernel
theorem d_T_batch_15 : decode b_T_batch 15 = .ok (.if_icmp .eq 5, 3) := by decide +kernel
theorem d_T_batch_18 : decode b_T_batch 18 = .ok (.iconst (-1), 1) := by decide +kernel
theorem d_T_batch_19 : decode b_T_batch 19 = .ok (.ireturn, 1) := by decide +kernel
theorem d_T_batch_20 : decode b_T_batch 20 = .ok (.aload_n 0, 1) := by decide +kernel
theorem d_T_batch_21 : decode b_T_batch 21 = .ok (.getfield 136, 3) := by decide +kernel
theorem d_T_batch_24 : decode b_T_batch 24 = .ok (.bipush 40, 2) := by decide +kernel
theorem d_T_batch_26 : decode b_T_batch 26 = .ok (.if_icmp .lt 6, 3) := by decide +kernel
theorem d_T_batch_29 : decode b_T_batch 29 = .ok (.bipush (-2), 2) := by decide +kernel
theorem d_T_batch_31 : decode b_T_batch 31 = .ok (.ireturn, 1) := by decide +kernel
theorem d_T_batch_32 : decode b_T_batch 32 = .ok (.aload_n 0, 1) := by decide +kernel
theorem d_T_batch_33 : decode b_T_batch 33 = .ok (.getfield 136, 3) := by decide +kernel
theorem d_T_batch_36 : decode b_T_batch 36 = .ok (.istore_n 3, 1) := by decide +kernel
theorem d_T_batch_37 : decode b_T_batch 37 = .ok (.aload_n 0, 1) := by decide +kernel
theorem d_T_batch_38 : decode b_T_batch 38 = .ok (.getfield 15, 3) := by decide +kernel
theorem d_T_batch_41 : decode b_T_batch 41 = .ok (.iload_n 3, 1) := by decide +kernel
theorem d_T_batch_42 : decode b_T_batch 42 = .ok (.iload_n 1, 1) := by decide +kernel
theorem d_T_batch_43 : decode b_T_batch 43 = .ok (.iastore, 1) := by decide +kernel
theorem d_T_batch_44 : decode b_T_batch 44 = .ok (.aload_n 0, 1) := by decide +kernel
theorem d_T_batch_45 : decode b_T_batch 45 = .ok (.dup, 1) := by decide +kernel
theorem d_T_batch_46 : decode b_T_batch 46 = .ok (.getfield 136, 3) := by decide +kernel
theorem d_T_batch_49 : decode b_T_batch 49 = .ok (.iconst 1, 1) := by decide +kernel
theorem d_T_batch_50 : decode b_T_batch 50 = .ok (.iadd, 1) := by decide +kernel
theorem d_T_batch_51 : decode b_T_batch 51 = .ok (.putfield 136, 3) := by decide +kernel
theorem d_T_batch_54 : decode b_T_batch 54 = .ok (.aload_n 2, 1) := by decide +kernel
theorem d_T_batch_55 : decode b_T_batch 55 = .ok (.iload_n 3, 1) := by decide +kernel
theorem d_T_batch_56 : decode b_T_batch 56 = .ok (.putfield 133, 3) := by decide +kernel
theorem d_T_batch_59 : decode b_T_batch 59 = .ok (.iload_n 3, 1) := by decide +kernel
theorem d_T_batch_60 : decode b_T_batch 60 = .ok (.ireturn, 1) := by decide +kernel
theorem d_T_endBatch_0 : decode b_T_endBatch 0 = .ok (.iload_n 1, 1) := by decide +kernel
theorem d_T_endBatch_1 : decode b_T_endBatch 1 = .ok (.ifCond .lt 11, 3) := by decide +kernel
theorem d_T_endBatch_4 : decode b_T_endBatch 4 = .ok (.iload_n 1, 1) := by decide +kernel
theorem d_T_endBatch_5 : decode b_T_endBatch 5 = .ok (.aload_n 0, 1) := by decide +kernel
theorem d_T_endBatch_6 : decode b_T_endBatch 6 = .ok (.getfield 136, 3) := by decide +kernel
theorem d_T_endBatch_9 : decode b_T_endBatch 9 = .ok (.if_icmp .lt 5, 3) := by decide +kernel
theorem d_T_endBatch_12 : decode b_T_endBatch 12 = .ok (.iconst 0, 1) := by decide +kernel
theorem d_T_endBatch_13 : decode b_T_endBatch 13 = .ok (.ireturn, 1) := by decide +kernel
theorem d_T_endBatch_14 : decode b_T_endBatch 14 = .ok (.aload_n 0, 1) := by decide +kernel
theorem d_T_endBatch_15 : decode b_T_endBatch 15 = .ok (.aload_n 0, 1) := by decide +kernel
theorem d_T_endBatch_16 : decode b_T_endBatch 16 = .ok (.getfield 15, 3) := by decide +kernel
theorem d_T_endBatch_19 : decode b_T_endBatch 19 = .ok (.iload_n 1, 1) := by decide +kernel
theorem d_T_endBatch_20 : decode b_T_endBatch 20 = .ok (.iaload, 1) := by decide +kernel
theorem d_T_endBatch_21 : decode b_T_endBatch 21 = .ok (.invokevirtual 40, 3) := by decide +kernel
theorem d_T_endBatch_24 : decode b_T_endBatch 24 = .ok (.astore_n 2, 1) := by decide +kernel
theorem d_T_endBatch_25 : decode b_T_endBatch 25 = .ok (.aload_n 2, 1) := by decide +kernel
theorem d_T_endBatch_26 : decode b_T_endBatch 26 = .ok (.ifnull 11, 3) := by decide +kernel
theorem d_T_endBatch_29 : decode b_T_endBatch 29 = .ok (.aload_n 2, 1) := by decide +kernel
theorem d_T_endBatch_30 : decode b_T_endBatch 30 = .ok (.getfield 133, 3) := by decide +kernel
theorem d_T_endBatch_33 : decode b_T_endBatch 33 = .ok (.iload_n 1, 1) := by decide +kernel
theorem d_T_endBatch_34 : decode b_T_endBatch 34 = .ok (.if_icmp .eq 5, 3) := by decide +kernel
theorem d_T_endBatch_37 : decode b_T_endBatch 37 = .ok (.iconst 0, 1) := by decide +kernel
theorem d_T_endBatch_38 : decode b_T_endBatch 38 = .ok (.ireturn, 1) := by decide +kernel
theorem d_T_endBatch_39 : decode b_T_endBatch 39 = .ok (.aload_n 2, 1) := by decide +kernel
theorem d_T_endBatch_40 : decode b_T_endBatch 40 = .ok (.invokevirtual 139, 3) := by decide +kernel
theorem d_T_endBatch_43 : decode b_T_endBatch 43 = .ok (.iconst 1, 1) := by decide +kernel
theorem d_T_endBatch_44 : decode b_T_endBatch 44 = .ok (.ireturn, 1) := by decide +kernel
end
section
theorem d_T_play_0 : decode b_T_play 0 = .ok (.aload_n 0, 1) := by decide +kernel
theorem d_T_play_1 : decode b_T_play 1 = .ok (.getfield 33, 3) := by decide +kernel
theorem d_T_play_4 : decode b_T_play 4 = .ok (.iconst 1, 1) := by decide +kernel
theorem d_T_play_5 : decode b_T_play 5 = .ok (.if_icmp .lt 14, 3) := by decide +kernel
theorem d_T_play_8 : decode b_T_play 8 = .ok (.iload_n 3, 1) := by decide +kernel
theorem d_T_play_9 : decode b_T_play 9 = .ok (.ifCond .lt 10, 3) := by decide +kernel
theorem d_T_play_12 : decode b_T_play 12 = .ok (.iload_n 3, 1) := by decide +kernel
theorem d_T_play_13 : decode b_T_play 13 = .ok (.sipush 200, 3) := by decide +kernel
theorem d_T_play_16 : decode b_T_play 16 = .ok (.if_icmp .le 5, 3) := by decide +kernel
theorem d_T_play_19 : decode b_T_play 19 = .ok (.iconst (-1), 1) := by decide +kernel
theorem d_T_play_20 : decode b_T_play 20 = .ok (.ireturn, 1) := by decide +kernel
theorem d_T_play_21 : decode b_T_play 21 = .ok (.new 142, 3) := by decide +kernel
theorem d_T_play_24 : decode b_T_play 24 = .ok (.dup, 1) := by decide +kernel
theorem d_T_play_25 : decode b_T_play 25 = .ok (.lload_n 1, 1) := by decide +kernel
theorem d_T_play_26 : decode b_T_play 26 = .ok (.invokespecial 144, 3) := by decide +kernel
theorem d_T_play_29 : decode b_T_play 29 = .ok (.astore 4, 2) := by decide +kernel
theorem d_T_play_31 : decode b_T_play 31 = .ok (.iconst 0, 1) := by decide +kernel
theorem d_T_play_32 : decode b_T_play 32 = .ok (.istore 5, 2) := by decide +kernel
theorem d_T_play_34 : decode b_T_play 34 = .ok (.iload 5, 2) := by decide +kernel
theorem d_T_play_36 : decode b_T_play 36 = .ok (.iload_n 3, 1) := by decide +kernel
theorem d_T_play_37 : decode b_T_play 37 = .ok (.if_icmp .ge 15, 3) := by decide +kernel
theorem d_T_play_40 : decode b_T_play 40 = .ok (.aload_n 0, 1) := by decide +kernel
theorem d_T_play_41 : decode b_T_play 41 = .ok (.aload 4, 2) := by decide +kernel
theorem d_T_play_43 : decode b_T_play 43 = .ok (.invokevirtual 147, 3) := by decide +kernel
theorem d_T_play_46 : decode b_T_play 46 = .ok (.iinc 5 1, 3) := by decide +kernel
theorem d_T_play_49 : decode b_T_play 49 = .ok (.goto (-15), 3) := by decide +kernel
theorem d_T_play_52 : decode b_T_play 52 = .ok (.iconst 0, 1) := by decide +kernel
theorem d_T_play_53 : decode b_T_play 53 = .ok (.istore 5, 2) := by decide +kernel
theorem d_T_play_55 : decode b_T_play 55 = .ok (.iconst 0, 1) := by decide +kernel
theorem d_T_play_56 : decode b_T_play 56 = .ok (.istore 6, 2) := by decide +kernel
theorem d_T_play_58 : decode b_T_play 58 = .ok (.iload 6, 2) := by decide +kernel
theorem d_T_play_60 : decode b_T_play 60 = .ok (.aload_n 0, 1) := by decide +kernel
theorem d_T_play_61 : decode b_T_play 61 = .ok (.getfield 33, 3) := by decide +kernel
theorem d_T_play_64 : decode b_T_play 64 = .ok (.if_icmp .ge 20, 3) := by decide +kernel
theorem d_T_play_67 : decode b_T_play 67 = .ok (.iload 5, 2) := by decide +kernel
theorem d_T_play_69 : decode b_T_play 69 = .ok (.aload_n 0, 1) := by decide +kernel
theorem d_T_play_70 : decode b_T_play 70 = .ok (.iload 6, 2) := by decide +kernel
theorem d_T_play_72 : decode b_T_play 72 = .ok (.invokevirtual 151, 3) := by decide +kernel
theorem d_T_play_75 : decode b_T_play 75 = .ok (.iadd, 1) := by decide +kernel
theorem d_T_play_76 : decode b_T_play 76 = .ok (.istore 5, 2) := by decide +kernel
theorem d_T_play_78 : decode b_T_play 78 = .ok (.iinc 6 1, 3) := by decide +kernel
theorem d_T_play_81 : decode b_T_play 81 = .ok (.goto (-23), 3) := by decide +kernel
theorem d_T_play_84 : decode b_T_play 84 = .ok (.iload 5, 2) := by decide +kernel
theorem d_T_play_86 : decode b_T_play 86 = .ok (.ireturn, 1) := by decide +kernel
theorem d_T_find_0 : decode b_T_find 0 = .ok (.aload_n 0, 1) := by decide +kernel
theorem d_T_find_1 : decode b_T_find 1 = .ok (.iload_n 1, 1) := by decide +kernel
theorem d_T_find_2 : decode b_T_find 2 = .ok (.invokevirtual 40, 3) := by decide +kernel
theorem d_T_find_5 : decode b_T_find 5 = .ok (.astore 6, 2) := by decide +kernel
theorem d_T_find_7 : decode b_T_find 7 = .ok (.aload 6, 2) := by decide +kernel
theorem d_T_find_9 : decode b_T_find 9 = .ok (.ifnonnull 5, 3) := by decide +kernel
theorem d_T_find_12 : decode b_T_find 12 = .ok (.iconst (-1), 1) := by decide +kernel
theorem d_T_find_13 : decode b_T_find 13 = .ok (.ireturn, 1) := by decide +kernel
theorem d_T_find_14 : decode b_T_find 14 = .ok (.aload_n 0, 1) := by decide +kernel
theorem d_T_find_15 : decode b_T_find 15 = .ok (.getfield 22, 3) := by decide +kernel
theorem d_T_find_18 : decode b_T_find 18 = .ok (.aload 6, 2) := by decide +kernel
theorem d_T_find_20 : decode b_T_find 20 = .ok (.getfield 65, 3) := by decide +kernel
theorem d_T_find_23 : decode b_T_find 23 = .ok (.iload_n 2, 1) := by decide +kernel
theorem d_T_find_24 : decode b_T_find 24 = .ok (.lload_n 3, 1) := by decide +kernel
theorem d_T_find_25 : decode b_T_find 25 = .ok (.aload_n 0, 1) := by decide +kernel
theorem d_T_find_26 : decode b_T_find 26 = .ok (.getfield 29, 3) := by decide +kernel
theorem d_T_find_29 : decode b_T_find 29 = .ok (.invokevirtual 154, 3) := by decide +kernel
theorem d_T_find_32 : decode b_T_find 32 = .ok (.aload_n 0, 1) := by decide +kernel
theorem d_T_find_33 : decode b_T_find 33 = .ok (.aload_n 0, 1) := by decide +kernel
theorem d_T_find_34 : decode b_T_find 34 = .ok (.getfield 22, 3) := by decide +kernel
theorem d_T_find_37 : decode b_T_find 37 = .ok (.aload_n 0, 1) := by decide +kernel
theorem d_T_find_38 : decode b_T_find 38 = .ok (.getfield 29, 3) := by decide +kernel
theorem d_T_find_41 : decode b_T_find 41 = .ok (.iload 5, 2) := by decide +kernel
theorem d_T_find_43 : decode b_T_find 43 = .ok (.invokevirtual 121, 3) := by decide +kernel
theorem d_T_find_46 : decode b_T_find 46 = .ok (.invokevirtual 125, 3) := by decide +kernel
theorem d_T_find_49 : decode b_T_find 49 = .ok (.ireturn, 1) := by decide +kernel
theorem d_T_counts_0 : decode b_T_counts 0 = .ok (.aload_n 0, 1) := by decide +kernel
theorem d_T_counts_1 : decode b_T_counts 1 = .ok (.iload_n 1, 1) := by decide +kernel
theorem d_T_counts_2 : decode b_T_counts 2 = .ok (.invokevirtual 40, 3) := by decide +kernel
theorem d_T_counts_5 : decode b_T_counts 5 = .ok (.astore_n 2, 1) := by decide +kernel
theorem d_T_counts_6 : decode b_T_counts 6 = .ok (.aload_n 2, 1) := by decide +kernel
theorem d_T_counts_7 : decode b_T_counts 7 = .ok (.ifnonnull 7, 3) := by decide +kernel
theorem d_T_counts_10 : decode b_T_counts 10 = .ok (.iconst (-1), 1) := by decide +kernel
theorem d_T_counts_11 : decode b_T_counts 11 = .ok (.goto 10, 3) := by decide +kernel
theorem d_T_counts_14 : decode b_T_counts 14 = .ok (.aload_n 2, 1) := by decide +kernel
theorem d_T_counts_15 : decode b_T_counts 15 = .ok (.getfield 65, 3) := by decide +kernel
theorem d_T_counts_18 : decode b_T_counts 18 = .ok (.invokevirtual 117, 3) := by decide +kernel
theorem d_T_counts_21 : decode b_T_counts 21 = .ok (.ireturn, 1) := by decide +kernel
theorem d_T_deskAt_0 : decode b_T_deskAt 0 = .ok (.iload_n 1, 1) := by decide +kernel
theorem d_T_deskAt_1 : decode b_T_deskAt 1 = .ok (.ifCond .lt 20, 3) := by decide +kernel
theorem d_T_deskAt_4 : decode b_T_deskAt 4 = .ok (.iload_n 1, 1) := by decide +kernel
theorem d_T_deskAt_5 : decode b_T_deskAt 5 = .ok (.aload_n 0, 1) := by decide +kernel
theorem d_T_deskAt_6 : decode b_T_deskAt 6 = .ok (.getfield 33, 3) := by decide +kernel
theorem d_T_deskAt_9 : decode b_T_deskAt 9 = .ok (.if_icmp .ge 12, 3) := by decide +kernel
theorem d_T_deskAt_12 : decode b_T_deskAt 12 = .ok (.aload_n 0, 1) := by decide +kernel
theorem d_T_deskAt_13 : decode b_T_deskAt 13 = .ok (.getfield 11, 3) := by decide +kernel
theorem d_T_deskAt_16 : decode b_T_deskAt 16 = .ok (.iload_n 1, 1) := by decide +kernel
theorem d_T_deskAt_17 : decode b_T_deskAt 17 = .ok (.aaload, 1) := by decide +kernel
theorem d_T_deskAt_18 : decode b_T_deskAt 18 = .ok (.goto 4, 3) := by decide +kernel
theorem d_T_deskAt_21 : decode b_T_deskAt 21 = .ok (.aconst_null, 1) := by decide +kernel
theorem d_T_deskAt_22 : decode b_T_deskAt 22 = .ok (.areturn, 1) := by decide +kernel
theorem d_T_numberOrNone_0 : decode b_T_numberOrNone 0 = .ok (.iload_n 1, 1) := by decide +kernel
theorem d_T_numberOrNone_1 : decode b_T_numberOrNone 1 = .ok (.iconst (-1), 1) := by decide +kernel
theorem d_T_numberOrNone_2 : decode b_T_numberOrNone 2 = .ok (.if_icmp .ne 7, 3) := by decide +kernel
theorem d_T_numberOrNone_5 : decode b_T_numberOrNone 5 = .ok (.iconst (-1), 1) := by decide +kernel
theorem d_T_numberOrNone_6 : decode b_T_numberOrNone 6 = .ok (.goto 12, 3) := by decide +kernel
theorem d_T_numberOrNone_9 : decode b_T_numberOrNone 9 = .ok (.aload_n 0, 1) := by decide +kernel
theorem d_T_numberOrNone_10 : decode b_T_numberOrNone 10 = .ok (.getfield 22, 3) := by decide +kernel
theorem d_T_numberOrNone_13 : decode b_T_numberOrNone 13 = .ok (.getfield 158, 3) := by decide +kernel
theorem d_T_numberOrNone_16 : decode b_T_numberOrNone 16 = .ok (.iload_n 1, 1) := by decide +kernel
theorem d_T_numberOrNone_17 : decode b_T_numberOrNone 17 = .ok (.iaload, 1) := by decide +kernel
theorem d_T_numberOrNone_18 : decode b_T_numberOrNone 18 = .ok (.ireturn, 1) := by decide +kernel
theorem d_T_tellReplacing_0 : decode b_T_tellReplacing 0 = .ok (.aload_n 1, 1) := by decide +kernel
theorem d_T_tellReplacing_1 : decode b_T_tellReplacing 1 = .ok (.invokevirtual 161, 3) := by decide +kernel
theorem d_T_tellReplacing_4 : decode b_T_tellReplacing 4 = .ok (.istore 6, 2) := by decide +kernel
theorem d_T_tellReplacing_6 : decode b_T_tellReplacing 6 = .ok (.aload_n 0, 1) := by decide +kernel
theorem d_T_tellReplacing_7 : decode b_T_tellReplacing 7 = .ok (.getfield 22, 3) := by decide +kernel
theorem d_T_tellReplacing_10 : decode b_T_tellReplacing 10 = .ok (.iload 6, 2) := by decide +kernel
theorem d_T_tellReplacing_12 : decode b_T_tellReplacing 12 = .ok (.iload_n 2, 1) := by decide +kernel
theorem d_T_tellReplacing_13 : decode b_T_tellReplacing 13 = .ok (.lload_n 3, 1) := by decide +kernel
theorem d_T_tellReplacing_14 : decode b_T_tellReplacing 14 = .ok (.aload_n 1, 1) := by decide +kernel
theorem d_T_tellReplacing_15 : decode b_T_tellReplacing 15 = .ok (.invokevirtual 164, 3) := by decide +kernel
theorem d_T_tellReplacing_18 : decode b_T_tellReplacing 18 = .ok (.aload 5, 2) := by decide +kernel
theorem d_T_tellReplacing_20 : decode b_T_tellReplacing 20 = .ok (.invokevirtual 167, 3) := by decide +kernel
theorem d_T_tellReplacing_23 : decode b_T_tellReplacing 23 = .ok (.istore 7, 2) := by decide +kernel
theorem d_T_tellReplacing_25 : decode b_T_tellReplacing 25 = .ok (.iload 7, 2) := by decide +kernel
theorem d_T_tellReplacing_27 : decode b_T_tellReplacing 27 = .ok (.iconst (-1), 1) := by decide +kernel
theorem d_T_tellReplacing_28 : decode b_T_tellReplacing 28 = .ok (.if_icmp .ne 6, 3) := by decide +kernel
theorem d_T_tellReplacing_31 : decode b_T_tellReplacing 31 = .ok (.bipush (-2), 2) := by decide +kernel
theorem d_T_tellReplacing_33 : decode b_T_tellReplacing 33 = .ok (.ireturn, 1) := by decide +kernel
theorem d_T_tellReplacing_34 : decode b_T_tellReplacing 34 = .ok (.aload_n 1, 1) := by decide +kernel
theorem d_T_tellReplacing_35 : decode b_T_tellReplacing 35 = .ok (.iload 7, 2) := by decide +kernel
theorem d_T_tellReplacing_37 : decode b_T_tellReplacing 37 = .ok (.invokevirtual 171, 3) := by decide +kernel
theorem d_T_tellReplacing_40 : decode b_T_tellReplacing 40 = .ok (.iload 6, 2) := by decide +kernel
theorem d_T_tellReplacing_42 : decode b_T_tellReplacing 42 = .ok (.ireturn, 1) := by decide +kernel
theorem d_T_playTurn_0 : decode b_T_playTurn 0 = .ok (.aload_n 1, 1) := by decide +kernel
theorem d_T_playTurn_1 : decode b_T_playTurn 1 = .ok (.aload_n 0, 1) := by decide +kernel
theorem d_T_playTurn_2 : decode b_T_playTurn 2 = .ok (.getfield 33, 3) := by decide +kernel
theorem d_T_playTurn_5 : decode b_T_playTurn 5 = .ok (.invokevirtual 174, 3) := by decide +kernel
theorem d_T_playTurn_8 : decode b_T_playTurn 8 = .ok (.istore_n 2, 1) := by decide +kernel
theorem d_T_playTurn_9 : decode b_T_playTurn 9 = .ok (.aload_n 1, 1) := by decide +kernel
theorem d_T_playTurn_10 : decode b_T_playTurn 10 = .ok (.iconst 4, 1) := by decide +kernel
theorem d_T_playTurn_11 : decode b_T_playTurn 11 = .ok (.invokevirtual 174, 3) := by decide +kernel
theorem d_T_playTurn_14 : decode b_T_playTurn 14 = .ok (.iconst 3, 1) := by decide +kernel
theorem d_T_playTurn_15 : decode b_T_playTurn 15 = .ok (.if_icmp .ge 48, 3) := by decide +kernel
theorem d_T_playTurn_18 : decode b_T_playTurn 18 = .ok (.aload_n 1, 1) := by decide +kernel
theorem d_T_playTurn_19 : decode b_T_playTurn 19 = .ok (.iconst 4, 1) := by decide +kernel
theorem d_T_playTurn_20 : decode b_T_playTurn 20 = .ok (.invokevirtual 174, 3) := by decide +kernel
theorem d_T_playTurn_23 : decode b_T_playTurn 23 = .ok (.istore_n 3, 1) := by decide +kernel
theorem d_T_playTurn_24 : decode b_T_playTurn 24 = .ok (.aload_n 1, 1) := by decide +kernel
theorem d_T_playTurn_25 : decode b_T_playTurn 25 = .ok (.iconst 2, 1) := by decide +kernel
theorem d_T_playTurn_26 : decode b_T_playTurn 26 = .ok (.invokevirtual 174, 3) := by decide +kernel
theorem d_T_playTurn_29 : decode b_T_playTurn 29 = .ok (.istore 4, 2) := by decide +kernel
theorem d_T_playTurn_31 : decode b_T_playTurn 31 = .ok (.aload_n 1, 1) := by decide +kernel
theorem d_T_playTurn_32 : decode b_T_playTurn 32 = .ok (.iconst 3, 1) := by decide +kernel
theorem d_T_playTurn_33 : decode b_T_playTurn 33 = .ok (.invokevirtual 174, 3) := by decide +kernel
theorem d_T_playTurn_36 : decode b_T_playTurn 36 = .ok (.istore 5, 2) := by decide +kernel
theorem d_T_playTurn_38 : decode b_T_playTurn 38 = .ok (.aload_n 1, 1) := by decide +kernel
theorem d_T_playTurn_39 : decode b_T_playTurn 39 = .ok (.iconst 5, 1) := by decide +kernel
theorem d_T_playTurn_40 : decode b_T_playTurn 40 = .ok (.invokevirtual 174, 3) := by decide +kernel
theorem d_T_playTurn_43 : decode b_T_playTurn 43 = .ok (.istore 6, 2) := by decide +kernel
theorem d_T_playTurn_45 : decode b_T_playTurn 45 = .ok (.aload_n 0, 1) := by decide +kernel
theorem d_T_playTurn_46 : decode b_T_playTurn 46 = .ok (.iload_n 2, 1) := by decide +kernel
theorem d_T_playTurn_47 : decode b_T_playTurn 47 = .ok (.iload_n 3, 1) := by decide +kernel
theorem d_T_playTurn_48 : decode b_T_playTurn 48 = .ok (.iload 4, 2) := by decide +kernel
theorem d_T_playTurn_50 : decode b_T_playTurn 50 = .ok (.iload 5, 2) := by decide +kernel
theorem d_T_playTurn_52 : decode b_T_playTurn 52 = .ok (.i2l, 1) := by decide +kernel
theorem d_T_playTurn_53 : decode b_T_playTurn 53 = .ok (.iload 6, 2) := by decide +kernel
theorem d_T_playTurn_55 : decode b_T_playTurn 55 = .ok (.i2l, 1) := by decide +kernel
theorem d_T_playTurn_56 : decode b_T_playTurn 56 = .ok (.invokevirtual 177, 3) := by decide +kernel
theorem d_T_playTurn_59 : decode b_T_playTurn 59 = .ok (.pop, 1) := by decide +kernel
theorem d_T_playTurn_60 : decode b_T_playTurn 60 = .ok (.goto 48, 3) := by decide +kernel
theorem d_T_playTurn_63 : decode b_T_playTurn 63 = .ok (.aload_n 1, 1) := by decide +kernel
theorem d_T_playTurn_64 : decode b_T_playTurn 64 = .ok (.aload_n 0, 1) := by decide +kernel
theorem d_T_playTurn_65 : decode b_T_playTurn 65 = .ok (.getfield 33, 3) := by decide +kernel
theorem d_T_playTurn_68 : decode b_T_playTurn 68 = .ok (.invokevirtual 174, 3) := by decide +kernel
theorem d_T_playTurn_71 : decode b_T_playTurn 71 = .ok (.istore_n 3, 1) := by decide +kernel
theorem d_T_playTurn_72 : decode b_T_playTurn 72 = .ok (.aload_n 0, 1) := by decide +kernel
theorem d_T_playTurn_73 : decode b_T_playTurn 73 = .ok (.iload_n 2, 1) := by decide +kernel
theorem d_T_playTurn_74 : decode b_T_playTurn 74 = .ok (.invokevirtual 40, 3) := by decide +kernel
theorem d_T_playTurn_77 : decode b_T_playTurn 77 = .ok (.astore 4, 2) := by decide +kernel
theorem d_T_playTurn_79 : decode b_T_playTurn 79 = .ok (.aload_n 0, 1) := by decide +kernel
theorem d_T_playTurn_80 : decode b_T_playTurn 80 = .ok (.iload_n 3, 1) := by decide +kernel
theorem d_T_playTurn_81 : decode b_T_playTurn 81 = .ok (.invokevirtual 40, 3) := by decide +kernel
theorem d_T_playTurn_84 : decode b_T_playTurn 84 = .ok (.astore 5, 2) := by decide +kernel
theorem d_T_playTurn_86 : decode b_T_playTurn 86 = .ok (.aload 4, 2) := by decide +kernel
theorem d_T_playTurn_88 : decode b_T_playTurn 88 = .ok (.ifnull 20, 3) := by decide +kernel
theorem d_T_playTurn_91 : decode b_T_playTurn 91 = .ok (.aload 5, 2) := by decide +kernel
theorem d_T_playTurn_93 : decode b_T_playTurn 93 = .ok (.ifnull 15, 3) := by decide +kernel
theorem d_T_playTurn_96 : decode b_T_playTurn 96 = .ok (.iload_n 2, 1) := by decide +kernel
theorem d_T_playTurn_97 : decode b_T_playTurn 97 = .ok (.iload_n 3, 1) := by decide +kernel
theorem d_T_playTurn_98 : decode b_T_playTurn 98 = .ok (.if_icmp .eq 10, 3) := by decide +kernel
theorem d_T_playTurn_101 : decode b_T_playTurn 101 = .ok (.aload 4, 2) := by decide +kernel
theorem d_T_playTurn_103 : decode b_T_playTurn 103 = .ok (.aload 5, 2) := by decide +kernel
theorem d_T_playTurn_105 : decode b_T_playTurn 105 = .ok (.invokevirtual 78, 3) := by decide +kernel
theorem d_T_playTurn_108 : decode b_T_playTurn 108 = .ok (.return_, 1) := by decide +kernel
theorem d_T_areThingAndKind_0 : decode b_T_areThingAndKind 0 = .ok (.iload_n 0, 1) := by decide +kernel
theorem d_T_areThingAndKind_1 : decode b_T_areThingAndKind 1 = .ok (.ifCond .lt 23, 3) := by decide +kernel
theorem d_T_areThingAndKind_4 : decode b_T_areThingAndKind 4 = .ok (.iload_n 0, 1) := by decide +kernel
theorem d_T_areThingAndKind_5 : decode b_T_areThingAndKind 5 = .ok (.bipush 100, 2) := by decide +kernel
theorem d_T_areThingAndKind_7 : decode b_T_areThingAndKind 7 = .ok (.if_icmp .ge 17, 3) := by decide +kernel
theorem d_T_areThingAndKind_10 : decode b_T_areThingAndKind 10 = .ok (.iload_n 1, 1) := by decide +kernel
theorem d_T_areThingAndKind_11 : decode b_T_areThingAndKind 11 = .ok (.ifCond .lt 13, 3) := by decide +kernel
theorem d_T_areThingAndKind_14 : decode b_T_areThingAndKind 14 = .ok (.iload_n 1, 1) := by decide +kernel
theorem d_T_areThingAndKind_15 : decode b_T_areThingAndKind 15 = .ok (.bipush 10, 2) := by decide +kernel
theorem d_T_areThingAndKind_17 : decode b_T_areThingAndKind 17 = .ok (.if_icmp .ge 7, 3) := by decide +kernel
theorem d_T_areThingAndKind_20 : decode b_T_areThingAndKind 20 = .ok (.iconst 1, 1) := by decide +kernel
theorem d_T_areThingAndKind_21 : decode b_T_areThingAndKind 21 = .ok (.goto 4, 3) := by decide +kernel
theorem d_T_areThingAndKind_24 : decode b_T_areThingAndKind 24 = .ok (.iconst 0, 1) := by decide +kernel
theorem d_T_areThingAndKind_25 : decode b_T_areThingAndKind 25 = .ok (.ireturn, 1) := by decide +kernel
theorem d_T_spotOf_0 : decode b_T_spotOf 0 = .ok (.iload_n 0, 1) := by decide +kernel
theorem d_T_spotOf_1 : decode b_T_spotOf 1 = .ok (.bipush 10, 2) := by decide +kernel
theorem d_T_spotOf_3 : decode b_T_spotOf 3 = .ok (.imul, 1) := by decide +kernel
theorem d_T_spotOf_4 : decode b_T_spotOf 4 = .ok (.iload_n 1, 1) := by decide +kernel
theorem d_T_spotOf_5 : decode b_T_spotOf 5 = .ok (.iadd, 1) := by decide +kernel
theorem d_T_spotOf_6 : decode b_T_spotOf 6 = .ok (.ldc 181, 2) := by decide +kernel
theorem d_T_spotOf_8 : decode b_T_spotOf 8 = .ok (.imul, 1) := by decide +kernel
theorem d_T_spotOf_9 : decode b_T_spotOf 9 = .ok (.iload_n 2, 1) := by decide +kernel
theorem d_T_spotOf_10 : decode b_T_spotOf 10 = .ok (.iadd, 1) := by decide +kernel
theorem d_T_spotOf_11 : decode b_T_spotOf 11 = .ok (.ireturn, 1) := by decide +kernel
theorem d_T_thingOf_0 : decode b_T_thingOf 0 = .ok (.iload_n 0, 1) := by decide +kernel
theorem d_T_thingOf_1 : decode b_T_thingOf 1 = .ok (.ldc 181, 2) := by decide +kernel
theorem d_T_thingOf_3 : decode b_T_thingOf 3 = .ok (.idiv, 1) := by decide +kernel
theorem d_T_thingOf_4 : decode b_T_thingOf 4 = .ok (.bipush 10, 2) := by decide +kernel
theorem d_T_thingOf_6 : decode b_T_thingOf 6 = .ok (.idiv, 1) := by decide +kernel
theorem d_T_thingOf_7 : decode b_T_thingOf 7 = .ok (.ireturn, 1) := by decide +kernel
theorem d_T_kindOf_0 : decode b_T_kindOf 0 = .ok (.iload_n 0, 1) := by decide +kernel
theorem d_T_kindOf_1 : decode b_T_kindOf 1 = .ok (.ldc 181, 2) := by decide +kernel
theorem d_T_kindOf_3 : decode b_T_kindOf 3 = .ok (.idiv, 1) := by decide +kernel
theorem d_T_kindOf_4 : decode b_T_kindOf 4 = .ok (.bipush 10, 2) := by decide +kernel
theorem d_T_kindOf_6 : decode b_T_kindOf 6 = .ok (.irem, 1) := by decide +kernel
theorem d_T_kindOf_7 : decode b_T_kindOf 7 = .ok (.ireturn, 1) := by decide +kernel
theorem d_T_dayOf_0 : decode b_T_dayOf 0 = .ok (.iload_n 0, 1) := by decide +kernel
theorem d_T_dayOf_1 : decode b_T_dayOf 1 = .ok (.ldc 181, 2) := by decide +kernel
theorem d_T_dayOf_3 : decode b_T_dayOf 3 = .ok (.irem, 1) := by decide +kernel
theorem d_T_dayOf_4 : decode b_T_dayOf 4 = .ok (.ireturn, 1) := by decide +kernel
end
section
theorem d_M_init_0 : decode b_M_init 0 = .ok (.aload_n 0, 1) := by decide +kernel
theorem d_M_init_1 : decode b_M_init 1 = .ok (.invokespecial 1, 3) := by decide +kernel
theorem d_M_init_4 : decode b_M_init 4 = .ok (.aload_n 0, 1) := by decide +kernel
theorem d_M_init_5 : decode b_M_init 5 = .ok (.bipush 8, 2) := by decide +kernel
theorem d_M_init_7 : decode b_M_init 7 = .ok (.newarray .long, 2) := by decide +kernel
theorem d_M_init_9 : decode b_M_init 9 = .ok (.putfield 9, 3) := by decide +kernel
theorem d_M_init_12 : decode b_M_init 12 = .ok (.aload_n 0, 1) := by decide +kernel
theorem d_M_init_13 : decode b_M_init 13 = .ok (.bipush 8, 2) := by decide +kernel
theorem d_M_init_15 : decode b_M_init 15 = .ok (.newarray .int, 2) := by decide +kernel
theorem d_M_init_17 : decode b_M_init 17 = .ok (.putfield 13, 3) := by decide +kernel
theorem d_M_init_20 : decode b_M_init 20 = .ok (.aload_n 0, 1) := by decide +kernel
theorem d_M_init_21 : decode b_M_init 21 = .ok (.bipush 8, 2) := by decide +kernel
theorem d_M_init_23 : decode b_M_init 23 = .ok (.newarray .int, 2) := by decide +kernel
theorem d_M_init_25 : decode b_M_init 25 = .ok (.putfield 17, 3) := by decide +kernel
theorem d_M_init_28 : decode b_M_init 28 = .ok (.aload_n 0, 1) := by decide +kernel
theorem d_M_init_29 : decode b_M_init 29 = .ok (.sipush 300, 3) := by decide +kernel
theorem d_M_init_32 : decode b_M_init 32 = .ok (.newarray .int, 2) := by decide +kernel
theorem d_M_init_34 : decode b_M_init 34 = .ok (.putfield 20, 3) := by decide +kernel
theorem d_M_init_37 : decode b_M_init 37 = .ok (.aload_n 0, 1) := by decide +kernel
theorem d_M_init_38 : decode b_M_init 38 = .ok (.sipush 300, 3) := by decide +kernel
theorem d_M_init_41 : decode b_M_init 41 = .ok (.newarray .int, 2) := by decide +kernel
theorem d_M_init_43 : decode b_M_init 43 = .ok (.putfield 23, 3) := by decide +kernel
theorem d_M_init_46 : decode b_M_init 46 = .ok (.aload_n 0, 1) := by decide +kernel
theorem d_M_init_47 : decode b_M_init 47 = .ok (.sipush 300, 3) := by decide +kernel
theorem d_M_init_50 : decode b_M_init 50 = .ok (.newarray .int, 2) := by decide +kernel
theorem d_M_init_52 : decode b_M_init 52 = .ok (.putfield 26, 3) := by decide +kernel
theorem d_M_init_55 : decode b_M_init 55 = .ok (.aload_n 0, 1) := by decide +kernel
theorem d_M_init_56 : decode b_M_init 56 = .ok (.sipush 300, 3) := by decide +kernel
theorem d_M_init_59 : decode b_M_init 59 = .ok (.newarray .long, 2) := by decide +kernel
theorem d_M_init_61 : decode b_M_init 61 = .ok (.putfield 29, 3) := by decide +kernel
theorem d_M_init_64 : decode b_M_init 64 = .ok (.aload_n 0, 1) := by decide +kernel
theorem d_M_init_65 : decode b_M_init 65 = .ok (.sipush 300, 3) := by decide +kernel
theorem d_M_init_68 : decode b_M_init 68 = .ok (.newarray .long, 2) := by decide +kernel
theorem d_M_init_70 : decode b_M_init 70 = .ok (.putfield 32, 3) := by decide +kernel
theorem d_M_init_73 : decode b_M_init 73 = .ok (.aload_n 0, 1) := by decide +kernel
theorem d_M_init_74 : decode b_M_init 74 = .ok (.sipush 300, 3) := by decide +kernel
theorem d_M_init_77 : decode b_M_init 77 = .ok (.newarray .long, 2) := by decide +kernel
theorem d_M_init_79 : decode b_M_init 79 = .ok (.putfield 35, 3) := by decide +kernel
theorem d_M_init_82 : decode b_M_init 82 = .ok (.aload_n 0, 1) := by decide +kernel
theorem d_M_init_83 : decode b_M_init 83 = .ok (.sipush 300, 3) := by decide +kernel
theorem d_M_init_86 : decode b_M_init 86 = .ok (.newarray .int, 2) := by decide +kernel
theorem d_M_init_88 : decode b_M_init 88 = .ok (.putfield 38, 3) := by decide +kernel
theorem d_M_init_91 : decode b_M_init 91 = .ok (.aload_n 0, 1) := by decide +kernel
theorem d_M_init_92 : decode b_M_init 92 = .ok (.ldc 41, 2) := by decide +kernel
theorem d_M_init_94 : decode b_M_init 94 = .ok (.newarray .boolean, 2) := by decide +kernel
theorem d_M_init_96 : decode b_M_init 96 = .ok (.putfield 42, 3) := by decide +kernel
theorem d_M_init_99 : decode b_M_init 99 = .ok (.aload_n 0, 1) := by decide +kernel
theorem d_M_init_100 : decode b_M_init 100 = .ok (.sipush 2400, 3) := by decide +kernel
theorem d_M_init_103 : decode b_M_init 103 = .ok (.newarray .boolean, 2) := by decide +kernel
theorem d_M_init_105 : decode b_M_init 105 = .ok (.putfield 46, 3) := by decide +kernel
theorem d_M_init_108 : decode b_M_init 108 = .ok (.aload_n 0, 1) := by decide +kernel
theorem d_M_init_109 : decode b_M_init 109 = .ok (.bipush 40, 2) := by decide +kernel
theorem d_M_init_111 : decode b_M_init 111 = .ok (.newarray .int, 2) := by decide +kernel
theorem d_M_init_113 : decode b_M_init 113 = .ok (.putfield 49, 3) := by decide +kernel
theorem d_M_init_116 : decode b_M_init 116 = .ok (.aload_n 0, 1) := by decide +kernel
theorem d_M_init_117 : decode b_M_init 117 = .ok (.sipush 300, 3) := by decide +kernel
theorem d_M_init_120 : decode b_M_init 120 = .ok (.newarray .boolean, 2) := by decide +kernel
theorem d_M_init_122 : decode b_M_init 122 = .ok (.putfield 52, 3) := by decide +kernel
theorem d_M_init_125 : decode b_M_init 125 = .ok (.return_, 1) := by decide +kernel
theorem d_M_isDesk_0 : decode b_M_isDesk 0 = .ok (.iload_n 1, 1) := by decide +kernel
theorem d_M_isDesk_1 : decode b_M_isDesk 1 = .ok (.ifCond .lt 15, 3) := by decide +kernel
theorem d_M_isDesk_4 : decode b_M_isDesk 4 = .ok (.iload_n 1, 1) := by decide +kernel
theorem d_M_isDesk_5 : decode b_M_isDesk 5 = .ok (.aload_n 0, 1) := by decide +kernel
theorem d_M_isDesk_6 : decode b_M_isDesk 6 = .ok (.getfield 55, 3) := by decide +kernel
theorem d_M_isDesk_9 : decode b_M_isDesk 9 = .ok (.if_icmp .ge 7, 3) := by decide +kernel
theorem d_M_isDesk_12 : decode b_M_isDesk 12 = .ok (.iconst 1, 1) := by decide +kernel
theorem d_M_isDesk_13 : decode b_M_isDesk 13 = .ok (.goto 4, 3) := by decide +kernel
theorem d_M_isDesk_16 : decode b_M_isDesk 16 = .ok (.iconst 0, 1) := by decide +kernel
theorem d_M_isDesk_17 : decode b_M_isDesk 17 = .ok (.ireturn, 1) := by decide +kernel
theorem d_M_desk_0 : decode b_M_desk 0 = .ok (.aload_n 0, 1) := by decide +kernel
theorem d_M_desk_1 : decode b_M_desk 1 = .ok (.getfield 55, 3) := by decide +kernel
theorem d_M_desk_4 : decode b_M_desk 4 = .ok (.bipush 8, 2) := by decide +kernel
theorem d_M_desk_6 : decode b_M_desk 6 = .ok (.if_icmp .ne 6, 3) := by decide +kernel
theorem d_M_desk_9 : decode b_M_desk 9 = .ok (.bipush (-2), 2) := by decide +kernel
theorem d_M_desk_11 : decode b_M_desk 11 = .ok (.ireturn, 1) := by decide +kernel
theorem d_M_desk_12 : decode b_M_desk 12 = .ok (.aload_n 0, 1) := by decide +kernel
theorem d_M_desk_13 : decode b_M_desk 13 = .ok (.getfield 17, 3) := by decide +kernel
theorem d_M_desk_16 : decode b_M_desk 16 = .ok (.aload_n 0, 1) := by decide +kernel
theorem d_M_desk_17 : decode b_M_desk 17 = .ok (.getfield 55, 3) := by decide +kernel
theorem d_M_desk_20 : decode b_M_desk 20 = .ok (.iconst (-1), 1) := by decide +kernel
theorem d_M_desk_21 : decode b_M_desk 21 = .ok (.iastore, 1) := by decide +kernel
theorem d_M_desk_22 : decode b_M_desk 22 = .ok (.aload_n 0, 1) := by decide +kernel
theorem d_M_desk_23 : decode b_M_desk 23 = .ok (.dup, 1) := by decide +kernel
theorem d_M_desk_24 : decode b_M_desk 24 = .ok (.getfield 55, 3) := by decide +kernel
theorem d_M_desk_27 : decode b_M_desk 27 = .ok (.iconst 1, 1) := by decide +kernel
theorem d_M_desk_28 : decode b_M_desk 28 = .ok (.iadd, 1) := by decide +kernel
theorem d_M_desk_29 : decode b_M_desk 29 = .ok (.putfield 55, 3) := by decide +kernel
theorem d_M_desk_32 : decode b_M_desk 32 = .ok (.aload_n 0, 1) := by decide +kernel
theorem d_M_desk_33 : decode b_M_desk 33 = .ok (.getfield 55, 3) := by decide +kernel
theorem d_M_desk_36 : decode b_M_desk 36 = .ok (.iconst 1, 1) := by decide +kernel
theorem d_M_desk_37 : decode b_M_desk 37 = .ok (.isub, 1) := by decide +kernel
theorem d_M_desk_38 : decode b_M_desk 38 = .ok (.ireturn, 1) := by decide +kernel
theorem d_M_add_0 : decode b_M_add 0 = .ok (.aload_n 0, 1) := by decide +kernel
theorem d_M_add_1 : decode b_M_add 1 = .ok (.getfield 59, 3) := by decide +kernel
theorem d_M_add_4 : decode b_M_add 4 = .ok (.istore 8, 2) := by decide +kernel
theorem d_M_add_6 : decode b_M_add 6 = .ok (.aload_n 0, 1) := by decide +kernel
theorem d_M_add_7 : decode b_M_add 7 = .ok (.getfield 20, 3) := by decide +kernel
theorem d_M_add_10 : decode b_M_add 10 = .ok (.iload 8, 2) := by decide +kernel
theorem d_M_add_12 : decode b_M_add 12 = .ok (.bipush 8, 2) := by decide +kernel
theorem d_M_add_14 : decode b_M_add 14 = .ok (.aload_n 0, 1) := by decide +kernel
theorem d_M_add_15 : decode b_M_add 15 = .ok (.getfield 13, 3) := by decide +kernel
theorem d_M_add_18 : decode b_M_add 18 = .ok (.iload_n 1, 1) := by decide +kernel
theorem d_M_add_19 : decode b_M_add 19 = .ok (.iaload, 1) := by decide +kernel
theorem d_M_add_20 : decode b_M_add 20 = .ok (.imul, 1) := by decide +kernel
theorem d_M_add_21 : decode b_M_add 21 = .ok (.iload_n 1, 1) := by decide +kernel
theorem d_M_add_22 : decode b_M_add 22 = .ok (.iadd, 1) := by decide +kernel
theorem d_M_add_23 : decode b_M_add 23 = .ok (.iastore, 1) := by decide +kernel
theorem d_M_add_24 : decode b_M_add 24 = .ok (.aload_n 0, 1) := by decide +kernel
theorem d_M_add_25 : decode b_M_add 25 = .ok (.getfield 13, 3) := by decide +kernel
theorem d_M_add_28 : decode b_M_add 28 = .ok (.iload_n 1, 1) := by decide +kernel
theorem d_M_add_29 : decode b_M_add 29 = .ok (.dup2, 1) := by decide +kernel
theorem d_M_add_30 : decode b_M_add 30 = .ok (.iaload, 1) := by decide +kernel
theorem d_M_add_31 : decode b_M_add 31 = .ok (.iconst 1, 1) := by decide +kernel
theorem d_M_add_32 : decode b_M_add 32 = .ok (.iadd, 1) := by decide +kernel
theorem d_M_add_33 : decode b_M_add 33 = .ok (.iastore, 1) := by decide +kernel
theorem d_M_add_34 : decode b_M_add 34 = .ok (.aload_n 0, 1) := by decide +kernel
theorem d_M_add_35 : decode b_M_add 35 = .ok (.getfield 9, 3) := by decide +kernel
theorem d_M_add_38 : decode b_M_add 38 = .ok (.iload_n 1, 1) := by decide +kernel
theorem d_M_add_39 : decode b_M_add 39 = .ok (.dup2, 1) := by decide +kernel
theorem d_M_add_40 : decode b_M_add 40 = .ok (.laload, 1) := by decide +kernel
theorem d_M_add_41 : decode b_M_add 41 = .ok (.lconst 1, 1) := by decide +kernel
theorem d_M_add_42 : decode b_M_add 42 = .ok (.ladd, 1) := by decide +kernel
theorem d_M_add_43 : decode b_M_add 43 = .ok (.lastore, 1) := by decide +kernel
theorem d_M_add_44 : decode b_M_add 44 = .ok (.aload_n 0, 1) := by decide +kernel
theorem d_M_add_45 : decode b_M_add 45 = .ok (.getfield 23, 3) := by decide +kernel
theorem d_M_add_48 : decode b_M_add 48 = .ok (.iload 8, 2) := by decide +kernel
theorem d_M_add_50 : decode b_M_add 50 = .ok (.iload_n 2, 1) := by decide +kernel
theorem d_M_add_51 : decode b_M_add 51 = .ok (.iastore, 1) := by decide +kernel
theorem d_M_add_52 : decode b_M_add 52 = .ok (.aload_n 0, 1) := by decide +kernel
theorem d_M_add_53 : decode b_M_add 53 = .ok (.getfield 26, 3) := by decide +kernel
theorem d_M_add_56 : decode b_M_add 56 = .ok (.iload 8, 2) := by decide +kernel
theorem d_M_add_58 : decode b_M_add 58 = .ok (.iload_n 3, 1) := by decide +kernel
theorem d_M_add_59 : decode b_M_add 59 = .ok (.iastore, 1) := by decide +kernel
theorem d_M_add_60 : decode b_M_add 60 = .ok (.aload_n 0, 1) := by decide +kernel
theorem d_M_add_61 : decode b_M_add 61 = .ok (.getfield 29, 3) := by decide +kernel
theorem d_M_add_64 : decode b_M_add 64 = .ok (.iload 8, 2) := by decide +kernel
theorem d_M_add_66 : decode b_M_add 66 = .ok (.lload 4, 2) := by decide +kernel
theorem d_M_add_68 : decode b_M_add 68 = .ok (.lastore, 1) := by decide +kernel
theorem d_M_add_69 : decode b_M_add 69 = .ok (.aload_n 0, 1) := by decide +kernel
theorem d_M_add_70 : decode b_M_add 70 = .ok (.getfield 32, 3) := by decide +kernel
theorem d_M_add_73 : decode b_M_add 73 = .ok (.iload 8, 2) := by decide +kernel
theorem d_M_add_75 : decode b_M_add 75 = .ok (.lload 6, 2) := by decide +kernel
theorem d_M_add_77 : decode b_M_add 77 = .ok (.lastore, 1) := by decide +kernel
theorem d_M_add_78 : decode b_M_add 78 = .ok (.aload_n 0, 1) := by decide +kernel
theorem d_M_add_79 : decode b_M_add 79 = .ok (.getfield 35, 3) := by decide +kernel
theorem d_M_add_82 : decode b_M_add 82 = .ok (.iload 8, 2) := by decide +kernel
theorem d_M_add_84 : decode b_M_add 84 = .ok (.aload_n 0, 1) := by decide +kernel
theorem d_M_add_85 : decode b_M_add 85 = .ok (.getfield 9, 3) := by decide +kernel
theorem d_M_add_88 : decode b_M_add 88 = .ok (.iload_n 1, 1) := by decide +kernel
theorem d_M_add_89 : decode b_M_add 89 = .ok (.laload, 1) := by decide +kernel
theorem d_M_add_90 : decode b_M_add 90 = .ok (.lastore, 1) := by decide +kernel
theorem d_M_add_91 : decode b_M_add 91 = .ok (.aload_n 0, 1) := by decide +kernel
theorem d_M_add_92 : decode b_M_add 92 = .ok (.getfield 38, 3) := by decide +kernel
theorem d_M_add_95 : decode b_M_add 95 = .ok (.iload 8, 2) := by decide +kernel
theorem d_M_add_97 : decode b_M_add 97 = .ok (.aload_n 0, 1) := by decide +kernel
theorem d_M_add_98 : decode b_M_add 98 = .ok (.getfield 17, 3) := by decide +kernel
theorem d_M_add_101 : decode b_M_add 101 = .ok (.iload_n 1, 1) := by decide +kernel
theorem d_M_add_102 : decode b_M_add 102 = .ok (.iaload, 1) := by decide +kernel
theorem d_M_add_103 : decode b_M_add 103 = .ok (.iastore, 1) := by decide +kernel
theorem d_M_add_104 : decode b_M_add 104 = .ok (.aload_n 0, 1) := by decide +kernel
theorem d_M_add_105 : decode b_M_add 105 = .ok (.getfield 46, 3) := by decide +kernel
theorem d_M_add_108 : decode b_M_add 108 = .ok (.iload_n 1, 1) := by decide +kernel
theorem d_M_add_109 : decode b_M_add 109 = .ok (.sipush 300, 3) := by decide +kernel
theorem d_M_add_112 : decode b_M_add 112 = .ok (.imul, 1) := by decide +kernel
theorem d_M_add_113 : decode b_M_add 113 = .ok (.iload 8, 2) := by decide +kernel
theorem d_M_add_115 : decode b_M_add 115 = .ok (.iadd, 1) := by decide +kernel
theorem d_M_add_116 : decode b_M_add 116 = .ok (.aload_n 0, 1) := by decide +kernel
theorem d_M_add_117 : decode b_M_add 117 = .ok (.getfield 17, 3) := by decide +kernel
theorem d_M_add_120 : decode b_M_add 120 = .ok (.iload_n 1, 1) := by decide +kernel
theorem d_M_add_121 : decode b_M_add 121 = .ok (.iaload, 1) := by decide +kernel
theorem d_M_add_122 : decode b_M_add 122 = .ok (.iconst (-1), 1) := by decide +kernel
theorem d_M_add_123 : decode b_M_add 123 = .ok (.if_icmp .ne 7, 3) := by decide +kernel
theorem d_M_add_126 : decode b_M_add 126 = .ok (.iconst 1, 1) := by decide +kernel
theorem d_M_add_127 : decode b_M_add 127 = .ok (.goto 4, 3) := by decide +kernel
theorem d_M_add_130 : decode b_M_add 130 = .ok (.iconst 0, 1) := by decide +kernel
theorem d_M_add_131 : decode b_M_add 131 = .ok (.bastore, 1) := by decide +kernel
theorem d_M_add_132 : decode b_M_add 132 = .ok (.aload_n 0, 1) := by decide +kernel
theorem d_M_add_133 : decode b_M_add 133 = .ok (.dup, 1) := by decide +kernel
theorem d_M_add_134 : decode b_M_add 134 = .ok (.getfield 59, 3) := by decide +kernel
theorem d_M_add_137 : decode b_M_add 137 = .ok (.iconst 1, 1) := by decide +kernel
theorem d_M_add_138 : decode b_M_add 138 = .ok (.iadd, 1) := by decide +kernel
theorem d_M_add_139 : decode b_M_add 139 = .ok (.putfield 59, 3) := by decide +kernel
theorem d_M_add_142 : decode b_M_add 142 = .ok (.iload 8, 2) := by decide +kernel
theorem d_M_add_144 : decode b_M_add 144 = .ok (.ireturn, 1) := by decide +kernel
theorem d_M_tell_0 : decode b_M_tell 0 = .ok (.aload_n 0, 1) := by decide +kernel
theorem d_M_tell_1 : decode b_M_tell 1 = .ok (.iload_n 1, 1) := by decide +kernel
theorem d_M_tell_2 : decode b_M_tell 2 = .ok (.invokevirtual 62, 3) := by decide +kernel
theorem d_M_tell_5 : decode b_M_tell 5 = .ok (.ifCond .eq 39, 3) := by decide +kernel
theorem d_M_tell_8 : decode b_M_tell 8 = .ok (.iload_n 2, 1) := by decide +kernel
theorem d_M_tell_9 : decode b_M_tell 9 = .ok (.ifCond .lt 35, 3) := by decide +kernel
theorem d_M_tell_12 : decode b_M_tell 12 = .ok (.iload_n 2, 1) := by decide +kernel
theorem d_M_tell_13 : decode b_M_tell 13 = .ok (.bipush 100, 2) := by decide +kernel
theorem d_M_tell_15 : decode b_M_tell 15 = .ok (.if_icmp .ge 29, 3) := by decide +kernel
theorem d_M_tell_18 : decode b_M_tell 18 = .ok (.iload_n 3, 1) := by decide +kernel
theorem d_M_tell_19 : decode b_M_tell 19 = .ok (.ifCond .lt 25, 3) := by decide +kernel
theorem d_M_tell_22 : decode b_M_tell 22 = .ok (.iload_n 3, 1) := by decide +kernel
theorem d_M_tell_23 : decode b_M_tell 23 = .ok (.bipush 10, 2) := by decide +kernel
theorem d_M_tell_25 : decode b_M_tell 25 = .ok (.if_icmp .ge 19, 3) := by decide +kernel
theorem d_M_tell_28 : decode b_M_tell 28 = .ok (.lload 4, 2) := by decide +kernel
theorem d_M_tell_30 : decode b_M_tell 30 = .ok (.lconst 0, 1) := by decide +kernel
theorem d_M_tell_31 : decode b_M_tell 31 = .ok (.lcmp, 1) := by decide +kernel
theorem d_M_tell_32 : decode b_M_tell 32 = .ok (.ifCond .lt 12, 3) := by decide +kernel
theorem d_M_tell_35 : decode b_M_tell 35 = .ok (.lload 4, 2) := by decide +kernel
theorem d_M_tell_37 : decode b_M_tell 37 = .ok (.ldc2_w 66, 3) := by decide +kernel
theorem d_M_tell_40 : decode b_M_tell 40 = .ok (.lcmp, 1) := by decide +kernel
theorem d_M_tell_41 : decode b_M_tell 41 = .ok (.ifCond .le 5, 3) := by decide +kernel
theorem d_M_tell_44 : decode b_M_tell 44 = .ok (.iconst (-1), 1) := by decide +kernel
theorem d_M_tell_45 : decode b_M_tell 45 = .ok (.ireturn, 1) := by decide +kernel
theorem d_M_tell_46 : decode b_M_tell 46 = .ok (.aload_n 0, 1) := by decide +kernel
theorem d_M_tell_47 : decode b_M_tell 47 = .ok (.getfield 59, 3) := by decide +kernel
theorem d_M_tell_50 : decode b_M_tell 50 = .ok (.sipush 300, 3) := by decide +kernel
theorem d_M_tell_53 : decode b_M_tell 53 = .ok (.if_icmp .ne 8, 3) := by decide +kernel
theorem d_M_tell_56 : decode b_M_tell 56 = .ok (.bipush (-2), 2) := by decide +kernel
theorem d_M_tell_58 : decode b_M_tell 58 = .ok (.goto 19, 3) := by decide +kernel
theorem d_M_tell_61 : decode b_M_tell 61 = .ok (.aload_n 0, 1) := by decide +kernel
theorem d_M_tell_62 : decode b_M_tell 62 = .ok (.getfield 20, 3) := by decide +kernel
theorem d_M_tell_65 : decode b_M_tell 65 = .ok (.aload_n 0, 1) := by decide +kernel
theorem d_M_tell_66 : decode b_M_tell 66 = .ok (.iload_n 1, 1) := by decide +kernel
theorem d_M_tell_67 : decode b_M_tell 67 = .ok (.iload_n 2, 1) := by decide +kernel
theorem d_M_tell_68 : decode b_M_tell 68 = .ok (.iload_n 3, 1) := by decide +kernel
theorem d_M_tell_69 : decode b_M_tell 69 = .ok (.lload 4, 2) := by decide +kernel
theorem d_M_tell_71 : decode b_M_tell 71 = .ok (.lload 6, 2) := by decide +kernel
theorem d_M_tell_73 : decode b_M_tell 73 = .ok (.invokevirtual 68, 3) := by decide +kernel
theorem d_M_tell_76 : decode b_M_tell 76 = .ok (.iaload, 1) := by decide +kernel
theorem d_M_tell_77 : decode b_M_tell 77 = .ok (.ireturn, 1) := by decide +kernel
theorem d_M_place_0 : decode b_M_place 0 = .ok (.iconst 0, 1) := by decide +kernel
theorem d_M_place_1 : decode b_M_place 1 = .ok (.istore_n 2, 1) := by decide +kernel
theorem d_M_place_2 : decode b_M_place 2 = .ok (.iload_n 2, 1) := by decide +kernel
theorem d_M_place_3 : decode b_M_place 3 = .ok (.aload_n 0, 1) := by decide +kernel
theorem d_M_place_4 : decode b_M_place 4 = .ok (.getfield 59, 3) := by decide +kernel
theorem d_M_place_7 : decode b_M_place 7 = .ok (.if_icmp .ge 21, 3) := by decide +kernel
theorem d_M_place_10 : decode b_M_place 10 = .ok (.aload_n 0, 1) := by decide +kernel
theorem d_M_place_11 : decode b_M_place 11 = .ok (.getfield 20, 3) := by decide +kernel
theorem d_M_place_14 : decode b_M_place 14 = .ok (.iload_n 2, 1) := by decide +kernel
theorem d_M_place_15 : decode b_M_place 15 = .ok (.iaload, 1) := by decide +kernel
theorem d_M_place_16 : decode b_M_place 16 = .ok (.iload_n 1, 1) := by decide +kernel
theorem d_M_place_17 : decode b_M_place 17 = .ok (.if_icmp .ne 5, 3) := by decide +kernel
theorem d_M_place_20 : decode b_M_place 20 = .ok (.iload_n 2, 1) := by decide +kernel
theorem d_M_place_21 : decode b_M_place 21 = .ok (.ireturn, 1) := by decide +kernel
theorem d_M_place_22 : decode b_M_place 22 = .ok (.iinc 2 1, 3) := by decide +kernel
theorem d_M_place_25 : decode b_M_place 25 = .ok (.goto (-23), 3) := by decide +kernel
theorem d_M_place_28 : decode b_M_place 28 = .ok (.iconst (-1), 1) := by decide +kernel
theorem d_M_place_29 : decode b_M_place 29 = .ok (.ireturn, 1) := by decide +kernel
theorem d_M_isKnown_0 : decode b_M_isKnown 0 = .ok (.aload_n 0, 1) := by decide +kernel
theorem d_M_isKnown_1 : decode b_M_isKnown 1 = .ok (.getfield 46, 3) := by decide +kernel
theorem d_M_isKnown_4 : decode b_M_isKnown 4 = .ok (.iload_n 1, 1) := by decide +kernel
theorem d_M_isKnown_5 : decode b_M_isKnown 5 = .ok (.sipush 300, 3) := by decide +kernel
theorem d_M_isKnown_8 : decode b_M_isKnown 8 = .ok (.imul, 1) := by decide +kernel
theorem d_M_isKnown_9 : decode b_M_isKnown 9 = .ok (.iload_n 2, 1) := by decide +kernel
theorem d_M_isKnown_10 : decode b_M_isKnown 10 = .ok (.iadd, 1) := by decide +kernel
theorem d_M_isKnown_11 : decode b_M_isKnown 11 = .ok (.baload, 1) := by decide +kernel
theorem d_M_isKnown_12 : decode b_M_isKnown 12 = .ok (.ifCond .eq 18, 3) := by decide +kernel
theorem d_M_isKnown_15 : decode b_M_isKnown 15 = .ok (.aload_n 0, 1) := by decide +kernel
theorem d_M_isKnown_16 : decode b_M_isKnown 16 = .ok (.getfield 35, 3) := by decide +kernel
theorem d_M_isKnown_19 : decode b_M_isKnown 19 = .ok (.iload_n 2, 1) := by decide +kernel
theorem d_M_isKnown_20 : decode b_M_isKnown 20 = .ok (.laload, 1) := by decide +kernel
theorem d_M_isKnown_21 : decode b_M_isKnown 21 = .ok (.lload_n 3, 1) := by decide +kernel
theorem d_M_isKnown_22 : decode b_M_isKnown 22 = .ok (.lcmp, 1) := by decide +kernel
theorem d_M_isKnown_23 : decode b_M_isKnown 23 = .ok (.ifCond .gt 7, 3) := by decide +kernel
theorem d_M_isKnown_26 : decode b_M_isKnown 26 = .ok (.iconst 1, 1) := by decide +kernel
theorem d_M_isKnown_27 : decode b_M_isKnown 27 = .ok (.goto 4, 3) := by decide +kernel
theorem d_M_isKnown_30 : decode b_M_isKnown 30 = .ok (.iconst 0, 1) := by decide +kernel
theorem d_M_isKnown_31 : decode b_M_isKnown 31 = .ok (.ireturn, 1) := by decide +kernel
theorem d_M_stands_0 : decode b_M_stands 0 = .ok (.aload_n 0, 1) := by decide +kernel
theorem d_M_stands_1 : decode b_M_stands 1 = .ok (.iload_n 1, 1) := by decide +kernel
theorem d_M_stands_2 : decode b_M_stands 2 = .ok (.iload_n 2, 1) := by decide +kernel
theorem d_M_stands_3 : decode b_M_stands 3 = .ok (.lload_n 3, 1) := by decide +kernel
theorem d_M_stands_4 : decode b_M_stands 4 = .ok (.invokevirtual 72, 3) := by decide +kernel
theorem d_M_stands_7 : decode b_M_stands 7 = .ok (.istore 5, 2) := by decide +kernel
theorem d_M_stands_9 : decode b_M_stands 9 = .ok (.iconst 0, 1) := by decide +kernel
theorem d_M_stands_10 : decode b_M_stands 10 = .ok (.istore 6, 2) := by decide +kernel
theorem d_M_stands_12 : decode b_M_stands 12 = .ok (.iload 6, 2) := by decide +kernel
theorem d_M_stands_14 : decode b_M_stands 14 = .ok (.aload_n 0, 1) := by decide +kernel
theorem d_M_stands_15 : decode b_M_stands 15 = .ok (.getfield 59, 3) := by decide +kernel
theorem d_M_stands_18 : decode b_M_stands 18 = .ok (.if_icmp .ge 48, 3) := by decide +kernel
theorem d_M_stands_21 : decode b_M_stands 21 = .ok (.iload 5, 2) := by decide +kernel
theorem d_M_stands_23 : decode b_M_stands 23 = .ok (.ifCond .eq 43, 3) := by decide +kernel
theorem d_M_stands_26 : decode b_M_stands 26 = .ok (.aload_n 0, 1) := by decide +kernel
theorem d_M_stands_27 : decode b_M_stands 27 = .ok (.getfield 42, 3) := by decide +kernel
theorem d_M_stands_30 : decode b_M_stands 30 = .ok (.iload 6, 2) := by decide +kernel
theorem d_M_stands_32 : decode b_M_stands 32 = .ok (.sipush 300, 3) := by decide +kernel
theorem d_M_stands_35 : decode b_M_stands 35 = .ok (.imul, 1) := by decide +kernel
theorem d_M_stands_36 : decode b_M_stands 36 = .ok (.iload_n 2, 1) := by decide +kernel
theorem d_M_stands_37 : decode b_M_stands 37 = .ok (.iadd, 1) := by decide +kernel
theorem d_M_stands_38 : decode b_M_stands 38 = .ok (.baload, 1) := by decide +kernel
theorem d_M_stands_39 : decode b_M_stands 39 = .ok (.ifCond .eq 14, 3) := by decide +kernel
theorem d_M_stands_42 : decode b_M_stands 42 = .ok (.aload_n 0, 1) := by decide +kernel
theorem d_M_stands_43 : decode b_M_stands 43 = .ok (.iload_n 1, 1) := by decide +kernel
theorem d_M_stands_44 : decode b_M_stands 44 = .ok (.iload 6, 2) := by decide +kernel
theorem d_M_stands_46 : decode b_M_stands 46 = .ok (.lload_n 3, 1) := by decide +kernel
theorem d_M_stands_47 : decode b_M_stands 47 = .ok (.invokevirtual 72, 3) := by decide +kernel
theorem d_M_stands_50 : decode b_M_stands 50 = .ok (.ifCond .ne 7, 3) := by decide +kernel
theorem d_M_stands_53 : decode b_M_stands 53 = .ok (.iconst 1, 1) := by decide +kernel
theorem d_M_stands_54 : decode b_M_stands 54 = .ok (.goto 4, 3) := by decide +kernel
theorem d_M_stands_57 : decode b_M_stands 57 = .ok (.iconst 0, 1) := by decide +kernel
theorem d_M_stands_58 : decode b_M_stands 58 = .ok (.istore 5, 2) := by decide +kernel
theorem d_M_stands_60 : decode b_M_stands 60 = .ok (.iinc 6 1, 3) := by decide +kernel
theorem d_M_stands_63 : decode b_M_stands 63 = .ok (.goto (-51), 3) := by decide +kernel
theorem d_M_stands_66 : decode b_M_stands 66 = .ok (.iload 5, 2) := by decide +kernel
theorem d_M_stands_68 : decode b_M_stands 68 = .ok (.ireturn, 1) := by decide +kernel
theorem d_M_look_0 : decode b_M_look 0 = .ok (.iconst 0, 1) := by decide +kernel
theorem d_M_look_1 : decode b_M_look 1 = .ok (.istore_n 2, 1) := by decide +kernel
theorem d_M_look_2 : decode b_M_look 2 = .ok (.iload_n 2, 1) := by decide +kernel
theorem d_M_look_3 : decode b_M_look 3 = .ok (.aload_n 0, 1) := by decide +kernel
theorem d_M_look_4 : decode b_M_look 4 = .ok (.getfield 59, 3) := by decide +kernel
theorem d_M_look_7 : decode b_M_look 7 = .ok (.if_icmp .ge 27, 3) := by decide +kernel
theorem d_M_look_10 : decode b_M_look 10 = .ok (.aload_n 0, 1) := by decide +kernel
theorem d_M_look_11 : decode b_M_look 11 = .ok (.getfield 52, 3) := by decide +kernel
theorem d_M_look_14 : decode b_M_look 14 = .ok (.iload_n 2, 1) := by decide +kernel
theorem d_M_look_15 : decode b_M_look 15 = .ok (.aload_n 0, 1) := by decide +kernel
theorem d_M_look_16 : decode b_M_look 16 = .ok (.getfield 46, 3) := by decide +kernel
theorem d_M_look_19 : decode b_M_look 19 = .ok (.iload_n 1, 1) := by decide +kernel
theorem d_M_look_20 : decode b_M_look 20 = .ok (.sipush 300, 3) := by decide +kernel
theorem d_M_look_23 : decode b_M_look 23 = .ok (.imul, 1) := by decide +kernel
theorem d_M_look_24 : decode b_M_look 24 = .ok (.iload_n 2, 1) := by decide +kernel
theorem d_M_look_25 : decode b_M_look 25 = .ok (.iadd, 1) := by decide +kernel
theorem d_M_look_26 : decode b_M_look 26 = .ok (.baload, 1) := by decide +kernel
theorem d_M_look_27 : decode b_M_look 27 = .ok (.bastore, 1) := by decide +kernel
theorem d_M_look_28 : decode b_M_look 28 = .ok (.iinc 2 1, 3) := by decide +kernel
theorem d_M_look_31 : decode b_M_look 31 = .ok (.goto (-29), 3) := by decide +kernel
theorem d_M_look_34 : decode b_M_look 34 = .ok (.iconst 0, 1) := by decide +kernel
theorem d_M_look_35 : decode b_M_look 35 = .ok (.istore_n 2, 1) := by decide +kernel
theorem d_M_look_36 : decode b_M_look 36 = .ok (.iload_n 2, 1) := by decide +kernel
theorem d_M_look_37 : decode b_M_look 37 = .ok (.aload_n 0, 1) := by decide +kernel
theorem d_M_look_38 : decode b_M_look 38 = .ok (.getfield 59, 3) := by decide +kernel
theorem d_M_look_41 : decode b_M_look 41 = .ok (.if_icmp .ge 75, 3) := by decide +kernel
theorem d_M_look_44 : decode b_M_look 44 = .ok (.iconst 0, 1) := by decide +kernel
theorem d_M_look_45 : decode b_M_look 45 = .ok (.istore_n 3, 1) := by decide +kernel
theorem d_M_look_46 : decode b_M_look 46 = .ok (.iload_n 3, 1) := by decide +kernel
theorem d_M_look_47 : decode b_M_look 47 = .ok (.aload_n 0, 1) := by decide +kernel
theorem d_M_look_48 : decode b_M_look 48 = .ok (.getfield 59, 3) := by decide +kernel
theorem d_M_look_51 : decode b_M_look 51 = .ok (.if_icmp .ge 59, 3) := by decide +kernel
theorem d_M_look_54 : decode b_M_look 54 = .ok (.aload_n 0, 1) := by decide +kernel
theorem d_M_look_55 : decode b_M_look 55 = .ok (.getfield 46, 3) := by decide +kernel
theorem d_M_look_58 : decode b_M_look 58 = .ok (.iload_n 1, 1) := by decide +kernel
theorem d_M_look_59 : decode b_M_look 59 = .ok (.sipush 300, 3) := by decide +kernel
theorem d_M_look_62 : decode b_M_look 62 = .ok (.imul, 1) := by decide +kernel
theorem d_M_look_63 : decode b_M_look 63 = .ok (.iload_n 2, 1) := by decide +kernel
theorem d_M_look_64 : decode b_M_look 64 = .ok (.iadd, 1) := by decide +kernel
theorem d_M_look_65 : decode b_M_look 65 = .ok (.baload, 1) := by decide +kernel
theorem d_M_look_66 : decode b_M_look 66 = .ok (.ifCond .eq 44, 3) := by decide +kernel
theorem d_M_look_69 : decode b_M_look 69 = .ok (.aload_n 0, 1) := by decide +kernel
theorem d_M_look_70 : decode b_M_look 70 = .ok (.getfield 52, 3) := by decide +kernel
theorem d_M_look_73 : decode b_M_look 73 = .ok (.iload_n 3, 1) := by decide +kernel
theorem d_M_look_74 : decode b_M_look 74 = .ok (.aload_n 0, 1) := by decide +kernel
theorem d_M_look_75 : decode b_M_look 75 = .ok (.getfield 52, 3) := by decide +kernel
theorem d_M_look_78 : decode b_M_look 78 = .ok (.iload_n 3, 1) := by decide +kernel
theorem d_M_look_79 : decode b_M_look 79 = .ok (.baload, 1) := by decide +kernel
theorem d_M_look_80 : decode b_M_look 80 = .ok (.ifCond .eq 22, 3) := by decide +kernel
theorem d_M_look_83 : decode b_M_look 83 = .ok (.aload_n 0, 1) := by decide +kernel
theorem d_M_look_84 : decode b_M_look 84 = .ok (.getfield 42, 3) := by decide +kernel
theorem d_M_look_87 : decode b_M_look 87 = .ok (.iload_n 2, 1) := by decide +kernel
theorem d_M_look_88 : decode b_M_look 88 = .ok (.sipush 300, 3) := by decide +kernel
theorem d_M_look_91 : decode b_M_look 91 = .ok (.imul, 1) := by decide +kernel
theorem d_M_look_92 : decode b_M_look 92 = .ok (.iload_n 3, 1) := by decide +kernel
theorem d_M_look_93 : decode b_M_look 93 = .ok (.iadd, 1) := by decide +kernel
theorem d_M_look_94 : decode b_M_look 94 = .ok (.baload, 1) := by decide +kernel
theorem d_M_look_95 : decode b_M_look 95 = .ok (.ifCond .ne 7, 3) := by decide +kernel
theorem d_M_look_98 : decode b_M_look 98 = .ok (.iconst 1, 1) := by decide +kernel
theorem d_M_look_99 : decode b_M_look 99 = .ok (.goto 4, 3) := by decide +kernel
theorem d_M_look_102 : decode b_M_look 102 = .ok (.iconst 0, 1) := by decide +kernel
theorem d_M_look_103 : decode b_M_look 103 = .ok (.bastore, 1) := by decide +kernel
theorem d_M_look_104 : decode b_M_look 104 = .ok (.iinc 3 1, 3) := by decide +kernel
theorem d_M_look_107 : decode b_M_look 107 = .ok (.goto (-61), 3) := by decide +kernel
theorem d_M_look_110 : decode b_M_look 110 = .ok (.iinc 2 1, 3) := by decide +kernel
theorem d_M_look_113 : decode b_M_look 113 = .ok (.goto (-77), 3) := by decide +kernel
theorem d_M_look_116 : decode b_M_look 116 = .ok (.return_, 1) := by decide +kernel
theorem d_M_correct_0 : decode b_M_correct 0 = .ok (.aload_n 0, 1) := by decide +kernel
theorem d_M_correct_1 : decode b_M_correct 1 = .ok (.iload_n 1, 1) := by decide +kernel
theorem d_M_correct_2 : decode b_M_correct 2 = .ok (.invokevirtual 62, 3) := by decide +kernel
theorem d_M_correct_5 : decode b_M_correct 5 = .ok (.ifCond .eq 11, 3) := by decide +kernel
theorem d_M_correct_8 : decode b_M_correct 8 = .ok (.aload_n 0, 1) := by decide +kernel
theorem d_M_correct_9 : decode b_M_correct 9 = .ok (.iload_n 2, 1) := by decide +kernel
theorem d_M_correct_10 : decode b_M_correct 10 = .ok (.invokevirtual 76, 3) := by decide +kernel
theorem d_M_correct_13 : decode b_M_correct 13 = .ok (.goto 4, 3) := by decide +kernel
theorem d_M_correct_16 : decode b_M_correct 16 = .ok (.iconst (-1), 1) := by decide +kernel
theorem d_M_correct_17 : decode b_M_correct 17 = .ok (.istore 5, 2) := by decide +kernel
theorem d_M_correct_19 : decode b_M_correct 19 = .ok (.iload 5, 2) := by decide +kernel
theorem d_M_correct_21 : decode b_M_correct 21 = .ok (.iconst (-1), 1) := by decide +kernel
theorem d_M_correct_22 : decode b_M_correct 22 = .ok (.if_icmp .ne 5, 3) := by decide +kernel
theorem d_M_correct_25 : decode b_M_correct 25 = .ok (.iconst (-1), 1) := by decide +kernel
theorem d_M_correct_26 : decode b_M_correct 26 = .ok (.ireturn, 1) := by decide +kernel
theorem d_M_correct_27 : decode b_M_correct 27 = .ok (.aload_n 0, 1) := by decide +kernel
theorem d_M_correct_28 : decode b_M_correct 28 = .ok (.iload_n 1, 1) := by decide +kernel
theorem d_M_correct_29 : decode b_M_correct 29 = .ok (.invokevirtual 80, 3) := by decide +kernel
theorem d_M_correct_32 : decode b_M_correct 32 = .ok (.aload_n 0, 1) := by decide +kernel
theorem d_M_correct_33 : decode b_M_correct 33 = .ok (.getfield 52, 3) := by decide +kernel
theorem d_M_correct_36 : decode b_M_correct 36 = .ok (.iload 5, 2) := by decide +kernel
theorem d_M_correct_38 : decode b_M_correct 38 = .ok (.baload, 1) := by decide +kernel
theorem d_M_correct_39 : decode b_M_correct 39 = .ok (.ifCond .ne 5, 3) := by decide +kernel
theorem d_M_correct_42 : decode b_M_correct 42 = .ok (.iconst (-1), 1) := by decide +kernel
theorem d_M_correct_43 : decode b_M_correct 43 = .ok (.ireturn, 1) := by decide +kernel
theorem d_M_correct_44 : decode b_M_correct 44 = .ok (.aload_n 0, 1) := by decide +kernel
theorem d_M_correct_45 : decode b_M_correct 45 = .ok (.getfield 59, 3) := by decide +kernel
theorem d_M_correct_48 : decode b_M_correct 48 = .ok (.sipush 300, 3) := by decide +kernel
theorem d_M_correct_51 : decode b_M_correct 51 = .ok (.if_icmp .ne 6, 3) := by decide +kernel
theorem d_M_correct_54 : decode b_M_correct 54 = .ok (.bipush (-2), 2) := by decide +kernel
theorem d_M_correct_56 : decode b_M_correct 56 = .ok (.ireturn, 1) := by decide +kernel
theorem d_M_correct_57 : decode b_M_correct 57 = .ok (.aload_n 0, 1) := by decide +kernel
theorem d_M_correct_58 : decode b_M_correct 58 = .ok (.iload_n 1, 1) := by decide +kernel
end
section
theorem d_M_correct_59 : decode b_M_correct 59 = .ok (.aload_n 0, 1) := by decide +kernel
theorem d_M_correct_60 : decode b_M_correct 60 = .ok (.getfield 23, 3) := by decide +kernel
theorem d_M_correct_63 : decode b_M_correct 63 = .ok (.iload 5, 2) := by decide +kernel
theorem d_M_correct_65 : decode b_M_correct 65 = .ok (.iaload, 1) := by decide +kernel
theorem d_M_correct_66 : decode b_M_correct 66 = .ok (.aload_n 0, 1) := by decide +kernel
theorem d_M_correct_67 : decode b_M_correct 67 = .ok (.getfield 26, 3) := by decide +kernel
theorem d_M_correct_70 : decode b_M_correct 70 = .ok (.iload 5, 2) := by decide +kernel
theorem d_M_correct_72 : decode b_M_correct 72 = .ok (.iaload, 1) := by decide +kernel
theorem d_M_correct_73 : decode b_M_correct 73 = .ok (.aload_n 0, 1) := by decide +kernel
theorem d_M_correct_74 : decode b_M_correct 74 = .ok (.getfield 29, 3) := by decide +kernel
theorem d_M_correct_77 : decode b_M_correct 77 = .ok (.iload 5, 2) := by decide +kernel
theorem d_M_correct_79 : decode b_M_correct 79 = .ok (.laload, 1) := by decide +kernel
theorem d_M_correct_80 : decode b_M_correct 80 = .ok (.lload_n 3, 1) := by decide +kernel
theorem d_M_correct_81 : decode b_M_correct 81 = .ok (.invokevirtual 68, 3) := by decide +kernel
theorem d_M_correct_84 : decode b_M_correct 84 = .ok (.istore 6, 2) := by decide +kernel
theorem d_M_correct_86 : decode b_M_correct 86 = .ok (.aload_n 0, 1) := by decide +kernel
theorem d_M_correct_87 : decode b_M_correct 87 = .ok (.getfield 42, 3) := by decide +kernel
theorem d_M_correct_90 : decode b_M_correct 90 = .ok (.iload 6, 2) := by decide +kernel
theorem d_M_correct_92 : decode b_M_correct 92 = .ok (.sipush 300, 3) := by decide +kernel
theorem d_M_correct_95 : decode b_M_correct 95 = .ok (.imul, 1) := by decide +kernel
theorem d_M_correct_96 : decode b_M_correct 96 = .ok (.iload 5, 2) := by decide +kernel
theorem d_M_correct_98 : decode b_M_correct 98 = .ok (.iadd, 1) := by decide +kernel
theorem d_M_correct_99 : decode b_M_correct 99 = .ok (.iconst 1, 1) := by decide +kernel
theorem d_M_correct_100 : decode b_M_correct 100 = .ok (.bastore, 1) := by decide +kernel
theorem d_M_correct_101 : decode b_M_correct 101 = .ok (.aload_n 0, 1) := by decide +kernel
theorem d_M_correct_102 : decode b_M_correct 102 = .ok (.getfield 20, 3) := by decide +kernel
theorem d_M_correct_105 : decode b_M_correct 105 = .ok (.iload 6, 2) := by decide +kernel
theorem d_M_correct_107 : decode b_M_correct 107 = .ok (.iaload, 1) := by decide +kernel
theorem d_M_correct_108 : decode b_M_correct 108 = .ok (.ireturn, 1) := by decide +kernel
theorem d_M_areOne_0 : decode b_M_areOne 0 = .ok (.aload_n 0, 1) := by decide +kernel
theorem d_M_areOne_1 : decode b_M_areOne 1 = .ok (.getfield 23, 3) := by decide +kernel
theorem d_M_areOne_4 : decode b_M_areOne 4 = .ok (.iload_n 1, 1) := by decide +kernel
theorem d_M_areOne_5 : decode b_M_areOne 5 = .ok (.iaload, 1) := by decide +kernel
theorem d_M_areOne_6 : decode b_M_areOne 6 = .ok (.aload_n 0, 1) := by decide +kernel
theorem d_M_areOne_7 : decode b_M_areOne 7 = .ok (.getfield 23, 3) := by decide +kernel
theorem d_M_areOne_10 : decode b_M_areOne 10 = .ok (.iload_n 2, 1) := by decide +kernel
theorem d_M_areOne_11 : decode b_M_areOne 11 = .ok (.iaload, 1) := by decide +kernel
theorem d_M_areOne_12 : decode b_M_areOne 12 = .ok (.if_icmp .ne 38, 3) := by decide +kernel
theorem d_M_areOne_15 : decode b_M_areOne 15 = .ok (.aload_n 0, 1) := by decide +kernel
theorem d_M_areOne_16 : decode b_M_areOne 16 = .ok (.getfield 26, 3) := by decide +kernel
theorem d_M_areOne_19 : decode b_M_areOne 19 = .ok (.iload_n 1, 1) := by decide +kernel
theorem d_M_areOne_20 : decode b_M_areOne 20 = .ok (.iaload, 1) := by decide +kernel
theorem d_M_areOne_21 : decode b_M_areOne 21 = .ok (.aload_n 0, 1) := by decide +kernel
theorem d_M_areOne_22 : decode b_M_areOne 22 = .ok (.getfield 26, 3) := by decide +kernel
theorem d_M_areOne_25 : decode b_M_areOne 25 = .ok (.iload_n 2, 1) := by decide +kernel
theorem d_M_areOne_26 : decode b_M_areOne 26 = .ok (.iaload, 1) := by decide +kernel
theorem d_M_areOne_27 : decode b_M_areOne 27 = .ok (.if_icmp .ne 23, 3) := by decide +kernel
theorem d_M_areOne_30 : decode b_M_areOne 30 = .ok (.aload_n 0, 1) := by decide +kernel
theorem d_M_areOne_31 : decode b_M_areOne 31 = .ok (.getfield 29, 3) := by decide +kernel
theorem d_M_areOne_34 : decode b_M_areOne 34 = .ok (.iload_n 1, 1) := by decide +kernel
theorem d_M_areOne_35 : decode b_M_areOne 35 = .ok (.laload, 1) := by decide +kernel
theorem d_M_areOne_36 : decode b_M_areOne 36 = .ok (.aload_n 0, 1) := by decide +kernel
theorem d_M_areOne_37 : decode b_M_areOne 37 = .ok (.getfield 29, 3) := by decide +kernel
theorem d_M_areOne_40 : decode b_M_areOne 40 = .ok (.iload_n 2, 1) := by decide +kernel
theorem d_M_areOne_41 : decode b_M_areOne 41 = .ok (.laload, 1) := by decide +kernel
theorem d_M_areOne_42 : decode b_M_areOne 42 = .ok (.lcmp, 1) := by decide +kernel
theorem d_M_areOne_43 : decode b_M_areOne 43 = .ok (.ifCond .ne 7, 3) := by decide +kernel
theorem d_M_areOne_46 : decode b_M_areOne 46 = .ok (.iconst 1, 1) := by decide +kernel
theorem d_M_areOne_47 : decode b_M_areOne 47 = .ok (.goto 4, 3) := by decide +kernel
theorem d_M_areOne_50 : decode b_M_areOne 50 = .ok (.iconst 0, 1) := by decide +kernel
theorem d_M_areOne_51 : decode b_M_areOne 51 = .ok (.ireturn, 1) := by decide +kernel
theorem d_M_isFirstOfConflict_0 : decode b_M_isFirstOfConflict 0 = .ok (.aload_n 0, 1) := by decide +kernel
theorem d_M_isFirstOfConflict_1 : decode b_M_isFirstOfConflict 1 = .ok (.getfield 52, 3) := by decide +kernel
theorem d_M_isFirstOfConflict_4 : decode b_M_isFirstOfConflict 4 = .ok (.iload_n 1, 1) := by decide +kernel
theorem d_M_isFirstOfConflict_5 : decode b_M_isFirstOfConflict 5 = .ok (.baload, 1) := by decide +kernel
theorem d_M_isFirstOfConflict_6 : decode b_M_isFirstOfConflict 6 = .ok (.ifCond .ne 5, 3) := by decide +kernel
theorem d_M_isFirstOfConflict_9 : decode b_M_isFirstOfConflict 9 = .ok (.iconst 0, 1) := by decide +kernel
theorem d_M_isFirstOfConflict_10 : decode b_M_isFirstOfConflict 10 = .ok (.ireturn, 1) := by decide +kernel
theorem d_M_isFirstOfConflict_11 : decode b_M_isFirstOfConflict 11 = .ok (.iconst 0, 1) := by decide +kernel
theorem d_M_isFirstOfConflict_12 : decode b_M_isFirstOfConflict 12 = .ok (.istore_n 2, 1) := by decide +kernel
theorem d_M_isFirstOfConflict_13 : decode b_M_isFirstOfConflict 13 = .ok (.iconst 0, 1) := by decide +kernel
theorem d_M_isFirstOfConflict_14 : decode b_M_isFirstOfConflict 14 = .ok (.istore_n 3, 1) := by decide +kernel
theorem d_M_isFirstOfConflict_15 : decode b_M_isFirstOfConflict 15 = .ok (.iload_n 3, 1) := by decide +kernel
theorem d_M_isFirstOfConflict_16 : decode b_M_isFirstOfConflict 16 = .ok (.aload_n 0, 1) := by decide +kernel
theorem d_M_isFirstOfConflict_17 : decode b_M_isFirstOfConflict 17 = .ok (.getfield 59, 3) := by decide +kernel
theorem d_M_isFirstOfConflict_20 : decode b_M_isFirstOfConflict 20 = .ok (.if_icmp .ge 60, 3) := by decide +kernel
theorem d_M_isFirstOfConflict_23 : decode b_M_isFirstOfConflict 23 = .ok (.aload_n 0, 1) := by decide +kernel
theorem d_M_isFirstOfConflict_24 : decode b_M_isFirstOfConflict 24 = .ok (.iload_n 1, 1) := by decide +kernel
theorem d_M_isFirstOfConflict_25 : decode b_M_isFirstOfConflict 25 = .ok (.iload_n 3, 1) := by decide +kernel
theorem d_M_isFirstOfConflict_26 : decode b_M_isFirstOfConflict 26 = .ok (.invokevirtual 84, 3) := by decide +kernel
theorem d_M_isFirstOfConflict_29 : decode b_M_isFirstOfConflict 29 = .ok (.ifCond .eq 45, 3) := by decide +kernel
theorem d_M_isFirstOfConflict_32 : decode b_M_isFirstOfConflict 32 = .ok (.aload_n 0, 1) := by decide +kernel
theorem d_M_isFirstOfConflict_33 : decode b_M_isFirstOfConflict 33 = .ok (.getfield 52, 3) := by decide +kernel
theorem d_M_isFirstOfConflict_36 : decode b_M_isFirstOfConflict 36 = .ok (.iload_n 3, 1) := by decide +kernel
theorem d_M_isFirstOfConflict_37 : decode b_M_isFirstOfConflict 37 = .ok (.baload, 1) := by decide +kernel
theorem d_M_isFirstOfConflict_38 : decode b_M_isFirstOfConflict 38 = .ok (.ifCond .eq 36, 3) := by decide +kernel
theorem d_M_isFirstOfConflict_41 : decode b_M_isFirstOfConflict 41 = .ok (.iload_n 3, 1) := by decide +kernel
theorem d_M_isFirstOfConflict_42 : decode b_M_isFirstOfConflict 42 = .ok (.iload_n 1, 1) := by decide +kernel
theorem d_M_isFirstOfConflict_43 : decode b_M_isFirstOfConflict 43 = .ok (.if_icmp .ge 5, 3) := by decide +kernel
theorem d_M_isFirstOfConflict_46 : decode b_M_isFirstOfConflict 46 = .ok (.iconst 0, 1) := by decide +kernel
theorem d_M_isFirstOfConflict_47 : decode b_M_isFirstOfConflict 47 = .ok (.ireturn, 1) := by decide +kernel
theorem d_M_isFirstOfConflict_48 : decode b_M_isFirstOfConflict 48 = .ok (.iload_n 2, 1) := by decide +kernel
theorem d_M_isFirstOfConflict_49 : decode b_M_isFirstOfConflict 49 = .ok (.ifCond .ne 19, 3) := by decide +kernel
theorem d_M_isFirstOfConflict_52 : decode b_M_isFirstOfConflict 52 = .ok (.aload_n 0, 1) := by decide +kernel
theorem d_M_isFirstOfConflict_53 : decode b_M_isFirstOfConflict 53 = .ok (.getfield 32, 3) := by decide +kernel
theorem d_M_isFirstOfConflict_56 : decode b_M_isFirstOfConflict 56 = .ok (.iload_n 3, 1) := by decide +kernel
theorem d_M_isFirstOfConflict_57 : decode b_M_isFirstOfConflict 57 = .ok (.laload, 1) := by decide +kernel
theorem d_M_isFirstOfConflict_58 : decode b_M_isFirstOfConflict 58 = .ok (.aload_n 0, 1) := by decide +kernel
theorem d_M_isFirstOfConflict_59 : decode b_M_isFirstOfConflict 59 = .ok (.getfield 32, 3) := by decide +kernel
theorem d_M_isFirstOfConflict_62 : decode b_M_isFirstOfConflict 62 = .ok (.iload_n 1, 1) := by decide +kernel
theorem d_M_isFirstOfConflict_63 : decode b_M_isFirstOfConflict 63 = .ok (.laload, 1) := by decide +kernel
theorem d_M_isFirstOfConflict_64 : decode b_M_isFirstOfConflict 64 = .ok (.lcmp, 1) := by decide +kernel
theorem d_M_isFirstOfConflict_65 : decode b_M_isFirstOfConflict 65 = .ok (.ifCond .eq 7, 3) := by decide +kernel
theorem d_M_isFirstOfConflict_68 : decode b_M_isFirstOfConflict 68 = .ok (.iconst 1, 1) := by decide +kernel
theorem d_M_isFirstOfConflict_69 : decode b_M_isFirstOfConflict 69 = .ok (.goto 4, 3) := by decide +kernel
theorem d_M_isFirstOfConflict_72 : decode b_M_isFirstOfConflict 72 = .ok (.iconst 0, 1) := by decide +kernel
theorem d_M_isFirstOfConflict_73 : decode b_M_isFirstOfConflict 73 = .ok (.istore_n 2, 1) := by decide +kernel
theorem d_M_isFirstOfConflict_74 : decode b_M_isFirstOfConflict 74 = .ok (.iinc 3 1, 3) := by decide +kernel
theorem d_M_isFirstOfConflict_77 : decode b_M_isFirstOfConflict 77 = .ok (.goto (-62), 3) := by decide +kernel
theorem d_M_isFirstOfConflict_80 : decode b_M_isFirstOfConflict 80 = .ok (.iload_n 2, 1) := by decide +kernel
theorem d_M_isFirstOfConflict_81 : decode b_M_isFirstOfConflict 81 = .ok (.ireturn, 1) := by decide +kernel
theorem d_M_conflicts_0 : decode b_M_conflicts 0 = .ok (.aload_n 0, 1) := by decide +kernel
theorem d_M_conflicts_1 : decode b_M_conflicts 1 = .ok (.iload_n 1, 1) := by decide +kernel
theorem d_M_conflicts_2 : decode b_M_conflicts 2 = .ok (.invokevirtual 80, 3) := by decide +kernel
theorem d_M_conflicts_5 : decode b_M_conflicts 5 = .ok (.iconst 0, 1) := by decide +kernel
theorem d_M_conflicts_6 : decode b_M_conflicts 6 = .ok (.istore_n 2, 1) := by decide +kernel
theorem d_M_conflicts_7 : decode b_M_conflicts 7 = .ok (.iconst 0, 1) := by decide +kernel
theorem d_M_conflicts_8 : decode b_M_conflicts 8 = .ok (.istore_n 3, 1) := by decide +kernel
theorem d_M_conflicts_9 : decode b_M_conflicts 9 = .ok (.iload_n 3, 1) := by decide +kernel
theorem d_M_conflicts_10 : decode b_M_conflicts 10 = .ok (.aload_n 0, 1) := by decide +kernel
theorem d_M_conflicts_11 : decode b_M_conflicts 11 = .ok (.getfield 59, 3) := by decide +kernel
theorem d_M_conflicts_14 : decode b_M_conflicts 14 = .ok (.if_icmp .ge 25, 3) := by decide +kernel
theorem d_M_conflicts_17 : decode b_M_conflicts 17 = .ok (.iload_n 2, 1) := by decide +kernel
theorem d_M_conflicts_18 : decode b_M_conflicts 18 = .ok (.aload_n 0, 1) := by decide +kernel
theorem d_M_conflicts_19 : decode b_M_conflicts 19 = .ok (.iload_n 3, 1) := by decide +kernel
theorem d_M_conflicts_20 : decode b_M_conflicts 20 = .ok (.invokevirtual 88, 3) := by decide +kernel
theorem d_M_conflicts_23 : decode b_M_conflicts 23 = .ok (.ifCond .eq 7, 3) := by decide +kernel
theorem d_M_conflicts_26 : decode b_M_conflicts 26 = .ok (.iconst 1, 1) := by decide +kernel
theorem d_M_conflicts_27 : decode b_M_conflicts 27 = .ok (.goto 4, 3) := by decide +kernel
theorem d_M_conflicts_30 : decode b_M_conflicts 30 = .ok (.iconst 0, 1) := by decide +kernel
theorem d_M_conflicts_31 : decode b_M_conflicts 31 = .ok (.iadd, 1) := by decide +kernel
theorem d_M_conflicts_32 : decode b_M_conflicts 32 = .ok (.istore_n 2, 1) := by decide +kernel
theorem d_M_conflicts_33 : decode b_M_conflicts 33 = .ok (.iinc 3 1, 3) := by decide +kernel
theorem d_M_conflicts_36 : decode b_M_conflicts 36 = .ok (.goto (-27), 3) := by decide +kernel
theorem d_M_conflicts_39 : decode b_M_conflicts 39 = .ok (.iload_n 2, 1) := by decide +kernel
theorem d_M_conflicts_40 : decode b_M_conflicts 40 = .ok (.ireturn, 1) := by decide +kernel
theorem d_M_isBefore_0 : decode b_M_isBefore 0 = .ok (.aload_n 0, 1) := by decide +kernel
theorem d_M_isBefore_1 : decode b_M_isBefore 1 = .ok (.getfield 23, 3) := by decide +kernel
theorem d_M_isBefore_4 : decode b_M_isBefore 4 = .ok (.iload_n 1, 1) := by decide +kernel
theorem d_M_isBefore_5 : decode b_M_isBefore 5 = .ok (.iaload, 1) := by decide +kernel
theorem d_M_isBefore_6 : decode b_M_isBefore 6 = .ok (.aload_n 0, 1) := by decide +kernel
theorem d_M_isBefore_7 : decode b_M_isBefore 7 = .ok (.getfield 23, 3) := by decide +kernel
theorem d_M_isBefore_10 : decode b_M_isBefore 10 = .ok (.iload_n 2, 1) := by decide +kernel
theorem d_M_isBefore_11 : decode b_M_isBefore 11 = .ok (.iaload, 1) := by decide +kernel
theorem d_M_isBefore_12 : decode b_M_isBefore 12 = .ok (.if_icmp .eq 26, 3) := by decide +kernel
theorem d_M_isBefore_15 : decode b_M_isBefore 15 = .ok (.aload_n 0, 1) := by decide +kernel
theorem d_M_isBefore_16 : decode b_M_isBefore 16 = .ok (.getfield 23, 3) := by decide +kernel
theorem d_M_isBefore_19 : decode b_M_isBefore 19 = .ok (.iload_n 1, 1) := by decide +kernel
theorem d_M_isBefore_20 : decode b_M_isBefore 20 = .ok (.iaload, 1) := by decide +kernel
theorem d_M_isBefore_21 : decode b_M_isBefore 21 = .ok (.aload_n 0, 1) := by decide +kernel
theorem d_M_isBefore_22 : decode b_M_isBefore 22 = .ok (.getfield 23, 3) := by decide +kernel
theorem d_M_isBefore_25 : decode b_M_isBefore 25 = .ok (.iload_n 2, 1) := by decide +kernel
theorem d_M_isBefore_26 : decode b_M_isBefore 26 = .ok (.iaload, 1) := by decide +kernel
theorem d_M_isBefore_27 : decode b_M_isBefore 27 = .ok (.if_icmp .ge 7, 3) := by decide +kernel
theorem d_M_isBefore_30 : decode b_M_isBefore 30 = .ok (.iconst 1, 1) := by decide +kernel
theorem d_M_isBefore_31 : decode b_M_isBefore 31 = .ok (.goto 66, 3) := by decide +kernel
theorem d_M_isBefore_34 : decode b_M_isBefore 34 = .ok (.iconst 0, 1) := by decide +kernel
theorem d_M_isBefore_35 : decode b_M_isBefore 35 = .ok (.goto 62, 3) := by decide +kernel
theorem d_M_isBefore_38 : decode b_M_isBefore 38 = .ok (.aload_n 0, 1) := by decide +kernel
theorem d_M_isBefore_39 : decode b_M_isBefore 39 = .ok (.getfield 26, 3) := by decide +kernel
theorem d_M_isBefore_42 : decode b_M_isBefore 42 = .ok (.iload_n 1, 1) := by decide +kernel
theorem d_M_isBefore_43 : decode b_M_isBefore 43 = .ok (.iaload, 1) := by decide +kernel
theorem d_M_isBefore_44 : decode b_M_isBefore 44 = .ok (.aload_n 0, 1) := by decide +kernel
theorem d_M_isBefore_45 : decode b_M_isBefore 45 = .ok (.getfield 26, 3) := by decide +kernel
theorem d_M_isBefore_48 : decode b_M_isBefore 48 = .ok (.iload_n 2, 1) := by decide +kernel
theorem d_M_isBefore_49 : decode b_M_isBefore 49 = .ok (.iaload, 1) := by decide +kernel
theorem d_M_isBefore_50 : decode b_M_isBefore 50 = .ok (.if_icmp .eq 26, 3) := by decide +kernel
theorem d_M_isBefore_53 : decode b_M_isBefore 53 = .ok (.aload_n 0, 1) := by decide +kernel
theorem d_M_isBefore_54 : decode b_M_isBefore 54 = .ok (.getfield 26, 3) := by decide +kernel
theorem d_M_isBefore_57 : decode b_M_isBefore 57 = .ok (.iload_n 1, 1) := by decide +kernel
theorem d_M_isBefore_58 : decode b_M_isBefore 58 = .ok (.iaload, 1) := by decide +kernel
theorem d_M_isBefore_59 : decode b_M_isBefore 59 = .ok (.aload_n 0, 1) := by decide +kernel
theorem d_M_isBefore_60 : decode b_M_isBefore 60 = .ok (.getfield 26, 3) := by decide +kernel
theorem d_M_isBefore_63 : decode b_M_isBefore 63 = .ok (.iload_n 2, 1) := by decide +kernel
theorem d_M_isBefore_64 : decode b_M_isBefore 64 = .ok (.iaload, 1) := by decide +kernel
theorem d_M_isBefore_65 : decode b_M_isBefore 65 = .ok (.if_icmp .ge 7, 3) := by decide +kernel
theorem d_M_isBefore_68 : decode b_M_isBefore 68 = .ok (.iconst 1, 1) := by decide +kernel
theorem d_M_isBefore_69 : decode b_M_isBefore 69 = .ok (.goto 28, 3) := by decide +kernel
theorem d_M_isBefore_72 : decode b_M_isBefore 72 = .ok (.iconst 0, 1) := by decide +kernel
theorem d_M_isBefore_73 : decode b_M_isBefore 73 = .ok (.goto 24, 3) := by decide +kernel
theorem d_M_isBefore_76 : decode b_M_isBefore 76 = .ok (.aload_n 0, 1) := by decide +kernel
theorem d_M_isBefore_77 : decode b_M_isBefore 77 = .ok (.getfield 29, 3) := by decide +kernel
theorem d_M_isBefore_80 : decode b_M_isBefore 80 = .ok (.iload_n 1, 1) := by decide +kernel
theorem d_M_isBefore_81 : decode b_M_isBefore 81 = .ok (.laload, 1) := by decide +kernel
theorem d_M_isBefore_82 : decode b_M_isBefore 82 = .ok (.aload_n 0, 1) := by decide +kernel
theorem d_M_isBefore_83 : decode b_M_isBefore 83 = .ok (.getfield 29, 3) := by decide +kernel
theorem d_M_isBefore_86 : decode b_M_isBefore 86 = .ok (.iload_n 2, 1) := by decide +kernel
theorem d_M_isBefore_87 : decode b_M_isBefore 87 = .ok (.laload, 1) := by decide +kernel
theorem d_M_isBefore_88 : decode b_M_isBefore 88 = .ok (.lcmp, 1) := by decide +kernel
theorem d_M_isBefore_89 : decode b_M_isBefore 89 = .ok (.ifCond .ge 7, 3) := by decide +kernel
theorem d_M_isBefore_92 : decode b_M_isBefore 92 = .ok (.iconst 1, 1) := by decide +kernel
theorem d_M_isBefore_93 : decode b_M_isBefore 93 = .ok (.goto 4, 3) := by decide +kernel
theorem d_M_isBefore_96 : decode b_M_isBefore 96 = .ok (.iconst 0, 1) := by decide +kernel
theorem d_M_isBefore_97 : decode b_M_isBefore 97 = .ok (.ireturn, 1) := by decide +kernel
theorem d_M_join_0 : decode b_M_join 0 = .ok (.aload_n 0, 1) := by decide +kernel
theorem d_M_join_1 : decode b_M_join 1 = .ok (.iload_n 1, 1) := by decide +kernel
theorem d_M_join_2 : decode b_M_join 2 = .ok (.invokevirtual 62, 3) := by decide +kernel
theorem d_M_join_5 : decode b_M_join 5 = .ok (.ifCond .eq 16, 3) := by decide +kernel
theorem d_M_join_8 : decode b_M_join 8 = .ok (.aload_n 0, 1) := by decide +kernel
theorem d_M_join_9 : decode b_M_join 9 = .ok (.iload_n 2, 1) := by decide +kernel
theorem d_M_join_10 : decode b_M_join 10 = .ok (.invokevirtual 62, 3) := by decide +kernel
theorem d_M_join_13 : decode b_M_join 13 = .ok (.ifCond .eq 8, 3) := by decide +kernel
theorem d_M_join_16 : decode b_M_join 16 = .ok (.iload_n 1, 1) := by decide +kernel
theorem d_M_join_17 : decode b_M_join 17 = .ok (.iload_n 2, 1) := by decide +kernel
theorem d_M_join_18 : decode b_M_join 18 = .ok (.if_icmp .ne 5, 3) := by decide +kernel
theorem d_M_join_21 : decode b_M_join 21 = .ok (.iconst (-1), 1) := by decide +kernel
theorem d_M_join_22 : decode b_M_join 22 = .ok (.ireturn, 1) := by decide +kernel
theorem d_M_join_23 : decode b_M_join 23 = .ok (.iconst 0, 1) := by decide +kernel
theorem d_M_join_24 : decode b_M_join 24 = .ok (.istore_n 3, 1) := by decide +kernel
theorem d_M_join_25 : decode b_M_join 25 = .ok (.iload_n 3, 1) := by decide +kernel
theorem d_M_join_26 : decode b_M_join 26 = .ok (.aload_n 0, 1) := by decide +kernel
theorem d_M_join_27 : decode b_M_join 27 = .ok (.getfield 59, 3) := by decide +kernel
theorem d_M_join_30 : decode b_M_join 30 = .ok (.if_icmp .ge 36, 3) := by decide +kernel
theorem d_M_join_33 : decode b_M_join 33 = .ok (.aload_n 0, 1) := by decide +kernel
theorem d_M_join_34 : decode b_M_join 34 = .ok (.getfield 46, 3) := by decide +kernel
theorem d_M_join_37 : decode b_M_join 37 = .ok (.iload_n 1, 1) := by decide +kernel
theorem d_M_join_38 : decode b_M_join 38 = .ok (.sipush 300, 3) := by decide +kernel
theorem d_M_join_41 : decode b_M_join 41 = .ok (.imul, 1) := by decide +kernel
theorem d_M_join_42 : decode b_M_join 42 = .ok (.iload_n 3, 1) := by decide +kernel
theorem d_M_join_43 : decode b_M_join 43 = .ok (.iadd, 1) := by decide +kernel
theorem d_M_join_44 : decode b_M_join 44 = .ok (.dup2, 1) := by decide +kernel
theorem d_M_join_45 : decode b_M_join 45 = .ok (.baload, 1) := by decide +kernel
theorem d_M_join_46 : decode b_M_join 46 = .ok (.aload_n 0, 1) := by decide +kernel
theorem d_M_join_47 : decode b_M_join 47 = .ok (.getfield 46, 3) := by decide +kernel
theorem d_M_join_50 : decode b_M_join 50 = .ok (.iload_n 2, 1) := by decide +kernel
theorem d_M_join_51 : decode b_M_join 51 = .ok (.sipush 300, 3) := by decide +kernel
theorem d_M_join_54 : decode b_M_join 54 = .ok (.imul, 1) := by decide +kernel
theorem d_M_join_55 : decode b_M_join 55 = .ok (.iload_n 3, 1) := by decide +kernel
theorem d_M_join_56 : decode b_M_join 56 = .ok (.iadd, 1) := by decide +kernel
theorem d_M_join_57 : decode b_M_join 57 = .ok (.baload, 1) := by decide +kernel
theorem d_M_join_58 : decode b_M_join 58 = .ok (.ior, 1) := by decide +kernel
theorem d_M_join_59 : decode b_M_join 59 = .ok (.bastore, 1) := by decide +kernel
theorem d_M_join_60 : decode b_M_join 60 = .ok (.iinc 3 1, 3) := by decide +kernel
theorem d_M_join_63 : decode b_M_join 63 = .ok (.goto (-38), 3) := by decide +kernel
theorem d_M_join_66 : decode b_M_join 66 = .ok (.aload_n 0, 1) := by decide +kernel
theorem d_M_join_67 : decode b_M_join 67 = .ok (.getfield 9, 3) := by decide +kernel
theorem d_M_join_70 : decode b_M_join 70 = .ok (.iload_n 1, 1) := by decide +kernel
theorem d_M_join_71 : decode b_M_join 71 = .ok (.aload_n 0, 1) := by decide +kernel
theorem d_M_join_72 : decode b_M_join 72 = .ok (.getfield 9, 3) := by decide +kernel
theorem d_M_join_75 : decode b_M_join 75 = .ok (.iload_n 2, 1) := by decide +kernel
theorem d_M_join_76 : decode b_M_join 76 = .ok (.laload, 1) := by decide +kernel
theorem d_M_join_77 : decode b_M_join 77 = .ok (.aload_n 0, 1) := by decide +kernel
theorem d_M_join_78 : decode b_M_join 78 = .ok (.getfield 9, 3) := by decide +kernel
theorem d_M_join_81 : decode b_M_join 81 = .ok (.iload_n 1, 1) := by decide +kernel
theorem d_M_join_82 : decode b_M_join 82 = .ok (.laload, 1) := by decide +kernel
theorem d_M_join_83 : decode b_M_join 83 = .ok (.lcmp, 1) := by decide +kernel
theorem d_M_join_84 : decode b_M_join 84 = .ok (.ifCond .le 12, 3) := by decide +kernel
theorem d_M_join_87 : decode b_M_join 87 = .ok (.aload_n 0, 1) := by decide +kernel
theorem d_M_join_88 : decode b_M_join 88 = .ok (.getfield 9, 3) := by decide +kernel
theorem d_M_join_91 : decode b_M_join 91 = .ok (.iload_n 2, 1) := by decide +kernel
theorem d_M_join_92 : decode b_M_join 92 = .ok (.laload, 1) := by decide +kernel
theorem d_M_join_93 : decode b_M_join 93 = .ok (.goto 9, 3) := by decide +kernel
theorem d_M_join_96 : decode b_M_join 96 = .ok (.aload_n 0, 1) := by decide +kernel
theorem d_M_join_97 : decode b_M_join 97 = .ok (.getfield 9, 3) := by decide +kernel
theorem d_M_join_100 : decode b_M_join 100 = .ok (.iload_n 1, 1) := by decide +kernel
theorem d_M_join_101 : decode b_M_join 101 = .ok (.laload, 1) := by decide +kernel
theorem d_M_join_102 : decode b_M_join 102 = .ok (.lastore, 1) := by decide +kernel
theorem d_M_join_103 : decode b_M_join 103 = .ok (.aload_n 0, 1) := by decide +kernel
theorem d_M_join_104 : decode b_M_join 104 = .ok (.iload_n 1, 1) := by decide +kernel
theorem d_M_join_105 : decode b_M_join 105 = .ok (.invokevirtual 91, 3) := by decide +kernel
theorem d_M_join_108 : decode b_M_join 108 = .ok (.ireturn, 1) := by decide +kernel
theorem d_M_standing_0 : decode b_M_standing 0 = .ok (.iconst (-1), 1) := by decide +kernel
theorem d_M_standing_1 : decode b_M_standing 1 = .ok (.istore_n 3, 1) := by decide +kernel
theorem d_M_standing_2 : decode b_M_standing 2 = .ok (.iconst 0, 1) := by decide +kernel
theorem d_M_standing_3 : decode b_M_standing 3 = .ok (.istore 4, 2) := by decide +kernel
theorem d_M_standing_5 : decode b_M_standing 5 = .ok (.iconst 0, 1) := by decide +kernel
theorem d_M_standing_6 : decode b_M_standing 6 = .ok (.istore 5, 2) := by decide +kernel
theorem d_M_standing_8 : decode b_M_standing 8 = .ok (.iload 5, 2) := by decide +kernel
theorem d_M_standing_10 : decode b_M_standing 10 = .ok (.aload_n 0, 1) := by decide +kernel
theorem d_M_standing_11 : decode b_M_standing 11 = .ok (.getfield 59, 3) := by decide +kernel
theorem d_M_standing_14 : decode b_M_standing 14 = .ok (.if_icmp .ge 113, 3) := by decide +kernel
theorem d_M_standing_17 : decode b_M_standing 17 = .ok (.aload_n 0, 1) := by decide +kernel
theorem d_M_standing_18 : decode b_M_standing 18 = .ok (.iload_n 1, 1) := by decide +kernel
theorem d_M_standing_19 : decode b_M_standing 19 = .ok (.iload 5, 2) := by decide +kernel
theorem d_M_standing_21 : decode b_M_standing 21 = .ok (.invokevirtual 84, 3) := by decide +kernel
theorem d_M_standing_24 : decode b_M_standing 24 = .ok (.ifCond .eq 97, 3) := by decide +kernel
theorem d_M_standing_27 : decode b_M_standing 27 = .ok (.aload_n 0, 1) := by decide +kernel
theorem d_M_standing_28 : decode b_M_standing 28 = .ok (.getfield 52, 3) := by decide +kernel
theorem d_M_standing_31 : decode b_M_standing 31 = .ok (.iload 5, 2) := by decide +kernel
theorem d_M_standing_33 : decode b_M_standing 33 = .ok (.baload, 1) := by decide +kernel
theorem d_M_standing_34 : decode b_M_standing 34 = .ok (.ifCond .eq 87, 3) := by decide +kernel
theorem d_M_standing_37 : decode b_M_standing 37 = .ok (.iconst 0, 1) := by decide +kernel
theorem d_M_standing_38 : decode b_M_standing 38 = .ok (.istore 6, 2) := by decide +kernel
theorem d_M_standing_40 : decode b_M_standing 40 = .ok (.iconst 0, 1) := by decide +kernel
theorem d_M_standing_41 : decode b_M_standing 41 = .ok (.istore 7, 2) := by decide +kernel
theorem d_M_standing_43 : decode b_M_standing 43 = .ok (.iload 7, 2) := by decide +kernel
theorem d_M_standing_45 : decode b_M_standing 45 = .ok (.aload_n 0, 1) := by decide +kernel
theorem d_M_standing_46 : decode b_M_standing 46 = .ok (.getfield 59, 3) := by decide +kernel
theorem d_M_standing_49 : decode b_M_standing 49 = .ok (.if_icmp .ge 56, 3) := by decide +kernel
theorem d_M_standing_52 : decode b_M_standing 52 = .ok (.iload 6, 2) := by decide +kernel
theorem d_M_standing_54 : decode b_M_standing 54 = .ok (.aload_n 0, 1) := by decide +kernel
theorem d_M_standing_55 : decode b_M_standing 55 = .ok (.iload_n 1, 1) := by decide +kernel
theorem d_M_standing_56 : decode b_M_standing 56 = .ok (.iload 7, 2) := by decide +kernel
theorem d_M_standing_58 : decode b_M_standing 58 = .ok (.invokevirtual 84, 3) := by decide +kernel
theorem d_M_standing_61 : decode b_M_standing 61 = .ok (.ifCond .eq 34, 3) := by decide +kernel
theorem d_M_standing_64 : decode b_M_standing 64 = .ok (.aload_n 0, 1) := by decide +kernel
theorem d_M_standing_65 : decode b_M_standing 65 = .ok (.getfield 20, 3) := by decide +kernel
theorem d_M_standing_68 : decode b_M_standing 68 = .ok (.iload 7, 2) := by decide +kernel
theorem d_M_standing_70 : decode b_M_standing 70 = .ok (.iaload, 1) := by decide +kernel
theorem d_M_standing_71 : decode b_M_standing 71 = .ok (.aload_n 0, 1) := by decide +kernel
theorem d_M_standing_72 : decode b_M_standing 72 = .ok (.getfield 20, 3) := by decide +kernel
theorem d_M_standing_75 : decode b_M_standing 75 = .ok (.iload 5, 2) := by decide +kernel
theorem d_M_standing_77 : decode b_M_standing 77 = .ok (.iaload, 1) := by decide +kernel
theorem d_M_standing_78 : decode b_M_standing 78 = .ok (.if_icmp .ge 17, 3) := by decide +kernel
theorem d_M_standing_81 : decode b_M_standing 81 = .ok (.aload_n 0, 1) := by decide +kernel
theorem d_M_standing_82 : decode b_M_standing 82 = .ok (.getfield 52, 3) := by decide +kernel
theorem d_M_standing_85 : decode b_M_standing 85 = .ok (.iload 7, 2) := by decide +kernel
theorem d_M_standing_87 : decode b_M_standing 87 = .ok (.baload, 1) := by decide +kernel
theorem d_M_standing_88 : decode b_M_standing 88 = .ok (.ifCond .eq 7, 3) := by decide +kernel
theorem d_M_standing_91 : decode b_M_standing 91 = .ok (.iconst 1, 1) := by decide +kernel
theorem d_M_standing_92 : decode b_M_standing 92 = .ok (.goto 4, 3) := by decide +kernel
theorem d_M_standing_95 : decode b_M_standing 95 = .ok (.iconst 0, 1) := by decide +kernel
theorem d_M_standing_96 : decode b_M_standing 96 = .ok (.iadd, 1) := by decide +kernel
theorem d_M_standing_97 : decode b_M_standing 97 = .ok (.istore 6, 2) := by decide +kernel
theorem d_M_standing_99 : decode b_M_standing 99 = .ok (.iinc 7 1, 3) := by decide +kernel
theorem d_M_standing_102 : decode b_M_standing 102 = .ok (.goto (-59), 3) := by decide +kernel
theorem d_M_standing_105 : decode b_M_standing 105 = .ok (.iload 6, 2) := by decide +kernel
theorem d_M_standing_107 : decode b_M_standing 107 = .ok (.iload_n 2, 1) := by decide +kernel
theorem d_M_standing_108 : decode b_M_standing 108 = .ok (.if_icmp .ne 8, 3) := by decide +kernel
theorem d_M_standing_111 : decode b_M_standing 111 = .ok (.iload 5, 2) := by decide +kernel
theorem d_M_standing_113 : decode b_M_standing 113 = .ok (.goto 4, 3) := by decide +kernel
theorem d_M_standing_116 : decode b_M_standing 116 = .ok (.iload_n 3, 1) := by decide +kernel
theorem d_M_standing_117 : decode b_M_standing 117 = .ok (.istore_n 3, 1) := by decide +kernel
theorem d_M_standing_118 : decode b_M_standing 118 = .ok (.iinc 4 1, 3) := by decide +kernel
theorem d_M_standing_121 : decode b_M_standing 121 = .ok (.iinc 5 1, 3) := by decide +kernel
theorem d_M_standing_124 : decode b_M_standing 124 = .ok (.goto (-116), 3) := by decide +kernel
theorem d_M_standing_127 : decode b_M_standing 127 = .ok (.iload_n 2, 1) := by decide +kernel
theorem d_M_standing_128 : decode b_M_standing 128 = .ok (.iconst (-1), 1) := by decide +kernel
theorem d_M_standing_129 : decode b_M_standing 129 = .ok (.if_icmp .ne 8, 3) := by decide +kernel
theorem d_M_standing_132 : decode b_M_standing 132 = .ok (.iload 4, 2) := by decide +kernel
theorem d_M_standing_134 : decode b_M_standing 134 = .ok (.goto 4, 3) := by decide +kernel
theorem d_M_standing_137 : decode b_M_standing 137 = .ok (.iload_n 3, 1) := by decide +kernel
theorem d_M_standing_138 : decode b_M_standing 138 = .ok (.ireturn, 1) := by decide +kernel
theorem d_M_conflict_0 : decode b_M_conflict 0 = .ok (.aload_n 0, 1) := by decide +kernel
theorem d_M_conflict_1 : decode b_M_conflict 1 = .ok (.iload_n 1, 1) := by decide +kernel
theorem d_M_conflict_2 : decode b_M_conflict 2 = .ok (.invokevirtual 62, 3) := by decide +kernel
theorem d_M_conflict_5 : decode b_M_conflict 5 = .ok (.ifCond .eq 11, 3) := by decide +kernel
theorem d_M_conflict_8 : decode b_M_conflict 8 = .ok (.iload_n 2, 1) := by decide +kernel
theorem d_M_conflict_9 : decode b_M_conflict 9 = .ok (.ifCond .lt 7, 3) := by decide +kernel
theorem d_M_conflict_12 : decode b_M_conflict 12 = .ok (.iload_n 3, 1) := by decide +kernel
theorem d_M_conflict_13 : decode b_M_conflict 13 = .ok (.ifCond .ge 5, 3) := by decide +kernel
theorem d_M_conflict_16 : decode b_M_conflict 16 = .ok (.iconst (-1), 1) := by decide +kernel
theorem d_M_conflict_17 : decode b_M_conflict 17 = .ok (.ireturn, 1) := by decide +kernel
theorem d_M_conflict_18 : decode b_M_conflict 18 = .ok (.aload_n 0, 1) := by decide +kernel
theorem d_M_conflict_19 : decode b_M_conflict 19 = .ok (.iload_n 1, 1) := by decide +kernel
theorem d_M_conflict_20 : decode b_M_conflict 20 = .ok (.invokevirtual 80, 3) := by decide +kernel
theorem d_M_conflict_23 : decode b_M_conflict 23 = .ok (.iconst 0, 1) := by decide +kernel
theorem d_M_conflict_24 : decode b_M_conflict 24 = .ok (.istore 4, 2) := by decide +kernel
theorem d_M_conflict_26 : decode b_M_conflict 26 = .ok (.iload 4, 2) := by decide +kernel
theorem d_M_conflict_28 : decode b_M_conflict 28 = .ok (.aload_n 0, 1) := by decide +kernel
theorem d_M_conflict_29 : decode b_M_conflict 29 = .ok (.getfield 59, 3) := by decide +kernel
theorem d_M_conflict_32 : decode b_M_conflict 32 = .ok (.if_icmp .ge 173, 3) := by decide +kernel
theorem d_M_conflict_35 : decode b_M_conflict 35 = .ok (.aload_n 0, 1) := by decide +kernel
theorem d_M_conflict_36 : decode b_M_conflict 36 = .ok (.iload 4, 2) := by decide +kernel
theorem d_M_conflict_38 : decode b_M_conflict 38 = .ok (.invokevirtual 88, 3) := by decide +kernel
theorem d_M_conflict_41 : decode b_M_conflict 41 = .ok (.ifCond .eq 158, 3) := by decide +kernel
theorem d_M_conflict_44 : decode b_M_conflict 44 = .ok (.iconst 0, 1) := by decide +kernel
theorem d_M_conflict_45 : decode b_M_conflict 45 = .ok (.istore 5, 2) := by decide +kernel
theorem d_M_conflict_47 : decode b_M_conflict 47 = .ok (.iconst 0, 1) := by decide +kernel
theorem d_M_conflict_48 : decode b_M_conflict 48 = .ok (.istore 6, 2) := by decide +kernel
theorem d_M_conflict_50 : decode b_M_conflict 50 = .ok (.iload 6, 2) := by decide +kernel
theorem d_M_conflict_52 : decode b_M_conflict 52 = .ok (.aload_n 0, 1) := by decide +kernel
theorem d_M_conflict_53 : decode b_M_conflict 53 = .ok (.getfield 59, 3) := by decide +kernel
theorem d_M_conflict_56 : decode b_M_conflict 56 = .ok (.if_icmp .ge 39, 3) := by decide +kernel
theorem d_M_conflict_59 : decode b_M_conflict 59 = .ok (.iload 5, 2) := by decide +kernel
theorem d_M_conflict_61 : decode b_M_conflict 61 = .ok (.aload_n 0, 1) := by decide +kernel
theorem d_M_conflict_62 : decode b_M_conflict 62 = .ok (.iload 6, 2) := by decide +kernel
theorem d_M_conflict_64 : decode b_M_conflict 64 = .ok (.iload 4, 2) := by decide +kernel
theorem d_M_conflict_66 : decode b_M_conflict 66 = .ok (.invokevirtual 94, 3) := by decide +kernel
theorem d_M_conflict_69 : decode b_M_conflict 69 = .ok (.ifCond .eq 16, 3) := by decide +kernel
theorem d_M_conflict_72 : decode b_M_conflict 72 = .ok (.aload_n 0, 1) := by decide +kernel
theorem d_M_conflict_73 : decode b_M_conflict 73 = .ok (.iload 6, 2) := by decide +kernel
theorem d_M_conflict_75 : decode b_M_conflict 75 = .ok (.invokevirtual 88, 3) := by decide +kernel
theorem d_M_conflict_78 : decode b_M_conflict 78 = .ok (.ifCond .eq 7, 3) := by decide +kernel
theorem d_M_conflict_81 : decode b_M_conflict 81 = .ok (.iconst 1, 1) := by decide +kernel
theorem d_M_conflict_82 : decode b_M_conflict 82 = .ok (.goto 4, 3) := by decide +kernel
theorem d_M_conflict_85 : decode b_M_conflict 85 = .ok (.iconst 0, 1) := by decide +kernel
theorem d_M_conflict_86 : decode b_M_conflict 86 = .ok (.iadd, 1) := by decide +kernel
theorem d_M_conflict_87 : decode b_M_conflict 87 = .ok (.istore 5, 2) := by decide +kernel
theorem d_M_conflict_89 : decode b_M_conflict 89 = .ok (.iinc 6 1, 3) := by decide +kernel
theorem d_M_conflict_92 : decode b_M_conflict 92 = .ok (.goto (-42), 3) := by decide +kernel
theorem d_M_conflict_95 : decode b_M_conflict 95 = .ok (.iload 5, 2) := by decide +kernel
theorem d_M_conflict_97 : decode b_M_conflict 97 = .ok (.iload_n 2, 1) := by decide +kernel
theorem d_M_conflict_98 : decode b_M_conflict 98 = .ok (.if_icmp .ne 101, 3) := by decide +kernel
theorem d_M_conflict_101 : decode b_M_conflict 101 = .ok (.iload_n 3, 1) := by decide +kernel
theorem d_M_conflict_102 : decode b_M_conflict 102 = .ok (.iconst 3, 1) := by decide +kernel
theorem d_M_conflict_103 : decode b_M_conflict 103 = .ok (.if_icmp .le 15, 3) := by decide +kernel
theorem d_M_conflict_106 : decode b_M_conflict 106 = .ok (.aload_n 0, 1) := by decide +kernel
theorem d_M_conflict_107 : decode b_M_conflict 107 = .ok (.iload 4, 2) := by decide +kernel
theorem d_M_conflict_109 : decode b_M_conflict 109 = .ok (.iload_n 3, 1) := by decide +kernel
theorem d_M_conflict_110 : decode b_M_conflict 110 = .ok (.iconst 4, 1) := by decide +kernel
theorem d_M_conflict_111 : decode b_M_conflict 111 = .ok (.isub, 1) := by decide +kernel
theorem d_M_conflict_112 : decode b_M_conflict 112 = .ok (.invokevirtual 97, 3) := by decide +kernel
theorem d_M_conflict_115 : decode b_M_conflict 115 = .ok (.goto 4, 3) := by decide +kernel
theorem d_M_conflict_118 : decode b_M_conflict 118 = .ok (.iconst (-1), 1) := by decide +kernel
theorem d_M_conflict_119 : decode b_M_conflict 119 = .ok (.istore 6, 2) := by decide +kernel
theorem d_M_conflict_121 : decode b_M_conflict 121 = .ok (.iload_n 3, 1) := by decide +kernel
theorem d_M_conflict_122 : decode b_M_conflict 122 = .ok (.ifCond .ne 13, 3) := by decide +kernel
theorem d_M_conflict_125 : decode b_M_conflict 125 = .ok (.aload_n 0, 1) := by decide +kernel
theorem d_M_conflict_126 : decode b_M_conflict 126 = .ok (.getfield 23, 3) := by decide +kernel
end
section
theorem d_M_conflict_129 : decode b_M_conflict 129 = .ok (.iload 4, 2) := by decide +kernel
theorem d_M_conflict_131 : decode b_M_conflict 131 = .ok (.iaload, 1) := by decide +kernel
theorem d_M_conflict_132 : decode b_M_conflict 132 = .ok (.goto 66, 3) := by decide +kernel
theorem d_M_conflict_135 : decode b_M_conflict 135 = .ok (.iload_n 3, 1) := by decide +kernel
theorem d_M_conflict_136 : decode b_M_conflict 136 = .ok (.iconst 1, 1) := by decide +kernel
theorem d_M_conflict_137 : decode b_M_conflict 137 = .ok (.if_icmp .ne 13, 3) := by decide +kernel
theorem d_M_conflict_140 : decode b_M_conflict 140 = .ok (.aload_n 0, 1) := by decide +kernel
theorem d_M_conflict_141 : decode b_M_conflict 141 = .ok (.getfield 26, 3) := by decide +kernel
theorem d_M_conflict_144 : decode b_M_conflict 144 = .ok (.iload 4, 2) := by decide +kernel
theorem d_M_conflict_146 : decode b_M_conflict 146 = .ok (.iaload, 1) := by decide +kernel
theorem d_M_conflict_147 : decode b_M_conflict 147 = .ok (.goto 51, 3) := by decide +kernel
theorem d_M_conflict_150 : decode b_M_conflict 150 = .ok (.iload_n 3, 1) := by decide +kernel
theorem d_M_conflict_151 : decode b_M_conflict 151 = .ok (.iconst 2, 1) := by decide +kernel
theorem d_M_conflict_152 : decode b_M_conflict 152 = .ok (.if_icmp .ne 14, 3) := by decide +kernel
theorem d_M_conflict_155 : decode b_M_conflict 155 = .ok (.aload_n 0, 1) := by decide +kernel
theorem d_M_conflict_156 : decode b_M_conflict 156 = .ok (.getfield 29, 3) := by decide +kernel
theorem d_M_conflict_159 : decode b_M_conflict 159 = .ok (.iload 4, 2) := by decide +kernel
theorem d_M_conflict_161 : decode b_M_conflict 161 = .ok (.laload, 1) := by decide +kernel
theorem d_M_conflict_162 : decode b_M_conflict 162 = .ok (.l2i, 1) := by decide +kernel
theorem d_M_conflict_163 : decode b_M_conflict 163 = .ok (.goto 35, 3) := by decide +kernel
theorem d_M_conflict_166 : decode b_M_conflict 166 = .ok (.iload_n 3, 1) := by decide +kernel
theorem d_M_conflict_167 : decode b_M_conflict 167 = .ok (.iconst 3, 1) := by decide +kernel
theorem d_M_conflict_168 : decode b_M_conflict 168 = .ok (.if_icmp .ne 13, 3) := by decide +kernel
theorem d_M_conflict_171 : decode b_M_conflict 171 = .ok (.aload_n 0, 1) := by decide +kernel
theorem d_M_conflict_172 : decode b_M_conflict 172 = .ok (.iload 4, 2) := by decide +kernel
theorem d_M_conflict_174 : decode b_M_conflict 174 = .ok (.iconst (-1), 1) := by decide +kernel
theorem d_M_conflict_175 : decode b_M_conflict 175 = .ok (.invokevirtual 97, 3) := by decide +kernel
theorem d_M_conflict_178 : decode b_M_conflict 178 = .ok (.goto 20, 3) := by decide +kernel
theorem d_M_conflict_181 : decode b_M_conflict 181 = .ok (.iload 6, 2) := by decide +kernel
theorem d_M_conflict_183 : decode b_M_conflict 183 = .ok (.iconst (-1), 1) := by decide +kernel
theorem d_M_conflict_184 : decode b_M_conflict 184 = .ok (.if_icmp .ne 7, 3) := by decide +kernel
theorem d_M_conflict_187 : decode b_M_conflict 187 = .ok (.iconst (-1), 1) := by decide +kernel
theorem d_M_conflict_188 : decode b_M_conflict 188 = .ok (.goto 10, 3) := by decide +kernel
theorem d_M_conflict_191 : decode b_M_conflict 191 = .ok (.aload_n 0, 1) := by decide +kernel
theorem d_M_conflict_192 : decode b_M_conflict 192 = .ok (.getfield 20, 3) := by decide +kernel
theorem d_M_conflict_195 : decode b_M_conflict 195 = .ok (.iload 6, 2) := by decide +kernel
theorem d_M_conflict_197 : decode b_M_conflict 197 = .ok (.iaload, 1) := by decide +kernel
theorem d_M_conflict_198 : decode b_M_conflict 198 = .ok (.ireturn, 1) := by decide +kernel
theorem d_M_conflict_199 : decode b_M_conflict 199 = .ok (.iinc 4 1, 3) := by decide +kernel
theorem d_M_conflict_202 : decode b_M_conflict 202 = .ok (.goto (-176), 3) := by decide +kernel
theorem d_M_conflict_205 : decode b_M_conflict 205 = .ok (.iconst (-1), 1) := by decide +kernel
theorem d_M_conflict_206 : decode b_M_conflict 206 = .ok (.ireturn, 1) := by decide +kernel
theorem d_M_settle_0 : decode b_M_settle 0 = .ok (.aload_n 0, 1) := by decide +kernel
theorem d_M_settle_1 : decode b_M_settle 1 = .ok (.iload_n 1, 1) := by decide +kernel
theorem d_M_settle_2 : decode b_M_settle 2 = .ok (.invokevirtual 62, 3) := by decide +kernel
theorem d_M_settle_5 : decode b_M_settle 5 = .ok (.ifCond .eq 8, 3) := by decide +kernel
theorem d_M_settle_8 : decode b_M_settle 8 = .ok (.iload 4, 2) := by decide +kernel
theorem d_M_settle_10 : decode b_M_settle 10 = .ok (.ifCond .ge 5, 3) := by decide +kernel
theorem d_M_settle_13 : decode b_M_settle 13 = .ok (.iconst (-1), 1) := by decide +kernel
theorem d_M_settle_14 : decode b_M_settle 14 = .ok (.ireturn, 1) := by decide +kernel
theorem d_M_settle_15 : decode b_M_settle 15 = .ok (.iconst (-1), 1) := by decide +kernel
theorem d_M_settle_16 : decode b_M_settle 16 = .ok (.istore 5, 2) := by decide +kernel
theorem d_M_settle_18 : decode b_M_settle 18 = .ok (.aload_n 0, 1) := by decide +kernel
theorem d_M_settle_19 : decode b_M_settle 19 = .ok (.iload_n 1, 1) := by decide +kernel
theorem d_M_settle_20 : decode b_M_settle 20 = .ok (.invokevirtual 80, 3) := by decide +kernel
theorem d_M_settle_23 : decode b_M_settle 23 = .ok (.iconst 0, 1) := by decide +kernel
theorem d_M_settle_24 : decode b_M_settle 24 = .ok (.istore 6, 2) := by decide +kernel
theorem d_M_settle_26 : decode b_M_settle 26 = .ok (.iload 6, 2) := by decide +kernel
theorem d_M_settle_28 : decode b_M_settle 28 = .ok (.aload_n 0, 1) := by decide +kernel
theorem d_M_settle_29 : decode b_M_settle 29 = .ok (.getfield 59, 3) := by decide +kernel
theorem d_M_settle_32 : decode b_M_settle 32 = .ok (.if_icmp .ge 85, 3) := by decide +kernel
theorem d_M_settle_35 : decode b_M_settle 35 = .ok (.aload_n 0, 1) := by decide +kernel
theorem d_M_settle_36 : decode b_M_settle 36 = .ok (.getfield 23, 3) := by decide +kernel
theorem d_M_settle_39 : decode b_M_settle 39 = .ok (.iload 6, 2) := by decide +kernel
theorem d_M_settle_41 : decode b_M_settle 41 = .ok (.iaload, 1) := by decide +kernel
theorem d_M_settle_42 : decode b_M_settle 42 = .ok (.iload_n 2, 1) := by decide +kernel
theorem d_M_settle_43 : decode b_M_settle 43 = .ok (.if_icmp .ne 42, 3) := by decide +kernel
theorem d_M_settle_46 : decode b_M_settle 46 = .ok (.aload_n 0, 1) := by decide +kernel
theorem d_M_settle_47 : decode b_M_settle 47 = .ok (.getfield 26, 3) := by decide +kernel
theorem d_M_settle_50 : decode b_M_settle 50 = .ok (.iload 6, 2) := by decide +kernel
theorem d_M_settle_52 : decode b_M_settle 52 = .ok (.iaload, 1) := by decide +kernel
theorem d_M_settle_53 : decode b_M_settle 53 = .ok (.iload_n 3, 1) := by decide +kernel
theorem d_M_settle_54 : decode b_M_settle 54 = .ok (.if_icmp .ne 31, 3) := by decide +kernel
theorem d_M_settle_57 : decode b_M_settle 57 = .ok (.iload 5, 2) := by decide +kernel
theorem d_M_settle_59 : decode b_M_settle 59 = .ok (.iconst (-1), 1) := by decide +kernel
theorem d_M_settle_60 : decode b_M_settle 60 = .ok (.if_icmp .eq 21, 3) := by decide +kernel
theorem d_M_settle_63 : decode b_M_settle 63 = .ok (.aload_n 0, 1) := by decide +kernel
theorem d_M_settle_64 : decode b_M_settle 64 = .ok (.getfield 29, 3) := by decide +kernel
theorem d_M_settle_67 : decode b_M_settle 67 = .ok (.iload 6, 2) := by decide +kernel
theorem d_M_settle_69 : decode b_M_settle 69 = .ok (.laload, 1) := by decide +kernel
theorem d_M_settle_70 : decode b_M_settle 70 = .ok (.aload_n 0, 1) := by decide +kernel
theorem d_M_settle_71 : decode b_M_settle 71 = .ok (.getfield 29, 3) := by decide +kernel
theorem d_M_settle_74 : decode b_M_settle 74 = .ok (.iload 5, 2) := by decide +kernel
theorem d_M_settle_76 : decode b_M_settle 76 = .ok (.laload, 1) := by decide +kernel
theorem d_M_settle_77 : decode b_M_settle 77 = .ok (.lcmp, 1) := by decide +kernel
theorem d_M_settle_78 : decode b_M_settle 78 = .ok (.ifCond .ge 7, 3) := by decide +kernel
theorem d_M_settle_81 : decode b_M_settle 81 = .ok (.iconst 1, 1) := by decide +kernel
theorem d_M_settle_82 : decode b_M_settle 82 = .ok (.goto 4, 3) := by decide +kernel
theorem d_M_settle_85 : decode b_M_settle 85 = .ok (.iconst 0, 1) := by decide +kernel
theorem d_M_settle_86 : decode b_M_settle 86 = .ok (.istore 7, 2) := by decide +kernel
theorem d_M_settle_88 : decode b_M_settle 88 = .ok (.iload 7, 2) := by decide +kernel
theorem d_M_settle_90 : decode b_M_settle 90 = .ok (.ifCond .eq 17, 3) := by decide +kernel
theorem d_M_settle_93 : decode b_M_settle 93 = .ok (.aload_n 0, 1) := by decide +kernel
theorem d_M_settle_94 : decode b_M_settle 94 = .ok (.iload 6, 2) := by decide +kernel
theorem d_M_settle_96 : decode b_M_settle 96 = .ok (.invokevirtual 88, 3) := by decide +kernel
theorem d_M_settle_99 : decode b_M_settle 99 = .ok (.ifCond .eq 8, 3) := by decide +kernel
theorem d_M_settle_102 : decode b_M_settle 102 = .ok (.iload 6, 2) := by decide +kernel
theorem d_M_settle_104 : decode b_M_settle 104 = .ok (.goto 5, 3) := by decide +kernel
theorem d_M_settle_107 : decode b_M_settle 107 = .ok (.iload 5, 2) := by decide +kernel
theorem d_M_settle_109 : decode b_M_settle 109 = .ok (.istore 5, 2) := by decide +kernel
theorem d_M_settle_111 : decode b_M_settle 111 = .ok (.iinc 6 1, 3) := by decide +kernel
theorem d_M_settle_114 : decode b_M_settle 114 = .ok (.goto (-88), 3) := by decide +kernel
theorem d_M_settle_117 : decode b_M_settle 117 = .ok (.iload 5, 2) := by decide +kernel
theorem d_M_settle_119 : decode b_M_settle 119 = .ok (.iconst (-1), 1) := by decide +kernel
theorem d_M_settle_120 : decode b_M_settle 120 = .ok (.if_icmp .ne 7, 3) := by decide +kernel
theorem d_M_settle_123 : decode b_M_settle 123 = .ok (.iconst (-1), 1) := by decide +kernel
theorem d_M_settle_124 : decode b_M_settle 124 = .ok (.goto 11, 3) := by decide +kernel
theorem d_M_settle_127 : decode b_M_settle 127 = .ok (.aload_n 0, 1) := by decide +kernel
theorem d_M_settle_128 : decode b_M_settle 128 = .ok (.iload 5, 2) := by decide +kernel
theorem d_M_settle_130 : decode b_M_settle 130 = .ok (.iload 4, 2) := by decide +kernel
theorem d_M_settle_132 : decode b_M_settle 132 = .ok (.invokevirtual 97, 3) := by decide +kernel
theorem d_M_settle_135 : decode b_M_settle 135 = .ok (.istore 6, 2) := by decide +kernel
theorem d_M_settle_137 : decode b_M_settle 137 = .ok (.iload 6, 2) := by decide +kernel
theorem d_M_settle_139 : decode b_M_settle 139 = .ok (.iconst (-1), 1) := by decide +kernel
theorem d_M_settle_140 : decode b_M_settle 140 = .ok (.if_icmp .ne 5, 3) := by decide +kernel
theorem d_M_settle_143 : decode b_M_settle 143 = .ok (.iconst (-1), 1) := by decide +kernel
theorem d_M_settle_144 : decode b_M_settle 144 = .ok (.ireturn, 1) := by decide +kernel
theorem d_M_settle_145 : decode b_M_settle 145 = .ok (.aload_n 0, 1) := by decide +kernel
theorem d_M_settle_146 : decode b_M_settle 146 = .ok (.getfield 59, 3) := by decide +kernel
theorem d_M_settle_149 : decode b_M_settle 149 = .ok (.sipush 300, 3) := by decide +kernel
theorem d_M_settle_152 : decode b_M_settle 152 = .ok (.if_icmp .ne 6, 3) := by decide +kernel
theorem d_M_settle_155 : decode b_M_settle 155 = .ok (.bipush (-2), 2) := by decide +kernel
theorem d_M_settle_157 : decode b_M_settle 157 = .ok (.ireturn, 1) := by decide +kernel
theorem d_M_settle_158 : decode b_M_settle 158 = .ok (.aload_n 0, 1) := by decide +kernel
theorem d_M_settle_159 : decode b_M_settle 159 = .ok (.getfield 59, 3) := by decide +kernel
theorem d_M_settle_162 : decode b_M_settle 162 = .ok (.istore 7, 2) := by decide +kernel
theorem d_M_settle_164 : decode b_M_settle 164 = .ok (.sipush 300, 3) := by decide +kernel
theorem d_M_settle_167 : decode b_M_settle 167 = .ok (.newarray .boolean, 2) := by decide +kernel
theorem d_M_settle_169 : decode b_M_settle 169 = .ok (.astore 8, 2) := by decide +kernel
theorem d_M_settle_171 : decode b_M_settle 171 = .ok (.iconst 0, 1) := by decide +kernel
theorem d_M_settle_172 : decode b_M_settle 172 = .ok (.istore 9, 2) := by decide +kernel
theorem d_M_settle_174 : decode b_M_settle 174 = .ok (.iload 9, 2) := by decide +kernel
theorem d_M_settle_176 : decode b_M_settle 176 = .ok (.iload 7, 2) := by decide +kernel
theorem d_M_settle_178 : decode b_M_settle 178 = .ok (.if_icmp .ge 40, 3) := by decide +kernel
theorem d_M_settle_181 : decode b_M_settle 181 = .ok (.aload 8, 2) := by decide +kernel
theorem d_M_settle_183 : decode b_M_settle 183 = .ok (.iload 9, 2) := by decide +kernel
theorem d_M_settle_185 : decode b_M_settle 185 = .ok (.aload_n 0, 1) := by decide +kernel
theorem d_M_settle_186 : decode b_M_settle 186 = .ok (.iload 9, 2) := by decide +kernel
theorem d_M_settle_188 : decode b_M_settle 188 = .ok (.iload 5, 2) := by decide +kernel
theorem d_M_settle_190 : decode b_M_settle 190 = .ok (.invokevirtual 84, 3) := by decide +kernel
theorem d_M_settle_193 : decode b_M_settle 193 = .ok (.ifCond .eq 17, 3) := by decide +kernel
theorem d_M_settle_196 : decode b_M_settle 196 = .ok (.aload_n 0, 1) := by decide +kernel
theorem d_M_settle_197 : decode b_M_settle 197 = .ok (.getfield 52, 3) := by decide +kernel
theorem d_M_settle_200 : decode b_M_settle 200 = .ok (.iload 9, 2) := by decide +kernel
theorem d_M_settle_202 : decode b_M_settle 202 = .ok (.baload, 1) := by decide +kernel
theorem d_M_settle_203 : decode b_M_settle 203 = .ok (.ifCond .eq 7, 3) := by decide +kernel
theorem d_M_settle_206 : decode b_M_settle 206 = .ok (.iconst 1, 1) := by decide +kernel
theorem d_M_settle_207 : decode b_M_settle 207 = .ok (.goto 4, 3) := by decide +kernel
theorem d_M_settle_210 : decode b_M_settle 210 = .ok (.iconst 0, 1) := by decide +kernel
theorem d_M_settle_211 : decode b_M_settle 211 = .ok (.bastore, 1) := by decide +kernel
theorem d_M_settle_212 : decode b_M_settle 212 = .ok (.iinc 9 1, 3) := by decide +kernel
theorem d_M_settle_215 : decode b_M_settle 215 = .ok (.goto (-41), 3) := by decide +kernel
theorem d_M_settle_218 : decode b_M_settle 218 = .ok (.aload_n 0, 1) := by decide +kernel
theorem d_M_settle_219 : decode b_M_settle 219 = .ok (.iload_n 1, 1) := by decide +kernel
theorem d_M_settle_220 : decode b_M_settle 220 = .ok (.iload_n 2, 1) := by decide +kernel
theorem d_M_settle_221 : decode b_M_settle 221 = .ok (.iload_n 3, 1) := by decide +kernel
theorem d_M_settle_222 : decode b_M_settle 222 = .ok (.aload_n 0, 1) := by decide +kernel
theorem d_M_settle_223 : decode b_M_settle 223 = .ok (.getfield 29, 3) := by decide +kernel
theorem d_M_settle_226 : decode b_M_settle 226 = .ok (.iload 5, 2) := by decide +kernel
theorem d_M_settle_228 : decode b_M_settle 228 = .ok (.laload, 1) := by decide +kernel
theorem d_M_settle_229 : decode b_M_settle 229 = .ok (.aload_n 0, 1) := by decide +kernel
theorem d_M_settle_230 : decode b_M_settle 230 = .ok (.getfield 32, 3) := by decide +kernel
theorem d_M_settle_233 : decode b_M_settle 233 = .ok (.iload 6, 2) := by decide +kernel
theorem d_M_settle_235 : decode b_M_settle 235 = .ok (.laload, 1) := by decide +kernel
theorem d_M_settle_236 : decode b_M_settle 236 = .ok (.invokevirtual 68, 3) := by decide +kernel
theorem d_M_settle_239 : decode b_M_settle 239 = .ok (.istore 9, 2) := by decide +kernel
theorem d_M_settle_241 : decode b_M_settle 241 = .ok (.iconst 0, 1) := by decide +kernel
theorem d_M_settle_242 : decode b_M_settle 242 = .ok (.istore 10, 2) := by decide +kernel
theorem d_M_settle_244 : decode b_M_settle 244 = .ok (.iload 10, 2) := by decide +kernel
theorem d_M_settle_246 : decode b_M_settle 246 = .ok (.iload 7, 2) := by decide +kernel
theorem d_M_settle_248 : decode b_M_settle 248 = .ok (.if_icmp .ge 28, 3) := by decide +kernel
theorem d_M_settle_251 : decode b_M_settle 251 = .ok (.aload_n 0, 1) := by decide +kernel
theorem d_M_settle_252 : decode b_M_settle 252 = .ok (.getfield 42, 3) := by decide +kernel
theorem d_M_settle_255 : decode b_M_settle 255 = .ok (.iload 9, 2) := by decide +kernel
theorem d_M_settle_257 : decode b_M_settle 257 = .ok (.sipush 300, 3) := by decide +kernel
theorem d_M_settle_260 : decode b_M_settle 260 = .ok (.imul, 1) := by decide +kernel
theorem d_M_settle_261 : decode b_M_settle 261 = .ok (.iload 10, 2) := by decide +kernel
theorem d_M_settle_263 : decode b_M_settle 263 = .ok (.iadd, 1) := by decide +kernel
theorem d_M_settle_264 : decode b_M_settle 264 = .ok (.aload 8, 2) := by decide +kernel
theorem d_M_settle_266 : decode b_M_settle 266 = .ok (.iload 10, 2) := by decide +kernel
theorem d_M_settle_268 : decode b_M_settle 268 = .ok (.baload, 1) := by decide +kernel
theorem d_M_settle_269 : decode b_M_settle 269 = .ok (.bastore, 1) := by decide +kernel
theorem d_M_settle_270 : decode b_M_settle 270 = .ok (.iinc 10 1, 3) := by decide +kernel
theorem d_M_settle_273 : decode b_M_settle 273 = .ok (.goto (-29), 3) := by decide +kernel
theorem d_M_settle_276 : decode b_M_settle 276 = .ok (.aload_n 0, 1) := by decide +kernel
theorem d_M_settle_277 : decode b_M_settle 277 = .ok (.getfield 20, 3) := by decide +kernel
theorem d_M_settle_280 : decode b_M_settle 280 = .ok (.iload 9, 2) := by decide +kernel
theorem d_M_settle_282 : decode b_M_settle 282 = .ok (.iaload, 1) := by decide +kernel
theorem d_M_settle_283 : decode b_M_settle 283 = .ok (.ireturn, 1) := by decide +kernel
theorem d_M_known_0 : decode b_M_known 0 = .ok (.aload_n 0, 1) := by decide +kernel
theorem d_M_known_1 : decode b_M_known 1 = .ok (.iload_n 1, 1) := by decide +kernel
theorem d_M_known_2 : decode b_M_known 2 = .ok (.invokevirtual 62, 3) := by decide +kernel
theorem d_M_known_5 : decode b_M_known 5 = .ok (.ifCond .ne 7, 3) := by decide +kernel
theorem d_M_known_8 : decode b_M_known 8 = .ok (.ldc2_w 103, 3) := by decide +kernel
theorem d_M_known_11 : decode b_M_known 11 = .ok (.lreturn, 1) := by decide +kernel
theorem d_M_known_12 : decode b_M_known 12 = .ok (.iconst (-1), 1) := by decide +kernel
theorem d_M_known_13 : decode b_M_known 13 = .ok (.istore 8, 2) := by decide +kernel
theorem d_M_known_15 : decode b_M_known 15 = .ok (.iconst 0, 1) := by decide +kernel
theorem d_M_known_16 : decode b_M_known 16 = .ok (.istore 9, 2) := by decide +kernel
theorem d_M_known_18 : decode b_M_known 18 = .ok (.iload 9, 2) := by decide +kernel
theorem d_M_known_20 : decode b_M_known 20 = .ok (.aload_n 0, 1) := by decide +kernel
theorem d_M_known_21 : decode b_M_known 21 = .ok (.getfield 59, 3) := by decide +kernel
theorem d_M_known_24 : decode b_M_known 24 = .ok (.if_icmp .ge 172, 3) := by decide +kernel
theorem d_M_known_27 : decode b_M_known 27 = .ok (.aload_n 0, 1) := by decide +kernel
theorem d_M_known_28 : decode b_M_known 28 = .ok (.getfield 23, 3) := by decide +kernel
theorem d_M_known_31 : decode b_M_known 31 = .ok (.iload 9, 2) := by decide +kernel
theorem d_M_known_33 : decode b_M_known 33 = .ok (.iaload, 1) := by decide +kernel
theorem d_M_known_34 : decode b_M_known 34 = .ok (.iload_n 2, 1) := by decide +kernel
theorem d_M_known_35 : decode b_M_known 35 = .ok (.if_icmp .ne 155, 3) := by decide +kernel
theorem d_M_known_38 : decode b_M_known 38 = .ok (.aload_n 0, 1) := by decide +kernel
theorem d_M_known_39 : decode b_M_known 39 = .ok (.getfield 26, 3) := by decide +kernel
theorem d_M_known_42 : decode b_M_known 42 = .ok (.iload 9, 2) := by decide +kernel
theorem d_M_known_44 : decode b_M_known 44 = .ok (.iaload, 1) := by decide +kernel
theorem d_M_known_45 : decode b_M_known 45 = .ok (.iload_n 3, 1) := by decide +kernel
theorem d_M_known_46 : decode b_M_known 46 = .ok (.if_icmp .ne 144, 3) := by decide +kernel
theorem d_M_known_49 : decode b_M_known 49 = .ok (.aload_n 0, 1) := by decide +kernel
theorem d_M_known_50 : decode b_M_known 50 = .ok (.getfield 29, 3) := by decide +kernel
theorem d_M_known_53 : decode b_M_known 53 = .ok (.iload 9, 2) := by decide +kernel
theorem d_M_known_55 : decode b_M_known 55 = .ok (.laload, 1) := by decide +kernel
theorem d_M_known_56 : decode b_M_known 56 = .ok (.lload 4, 2) := by decide +kernel
theorem d_M_known_58 : decode b_M_known 58 = .ok (.lcmp, 1) := by decide +kernel
theorem d_M_known_59 : decode b_M_known 59 = .ok (.ifCond .gt 131, 3) := by decide +kernel
theorem d_M_known_62 : decode b_M_known 62 = .ok (.aload_n 0, 1) := by decide +kernel
theorem d_M_known_63 : decode b_M_known 63 = .ok (.iload_n 1, 1) := by decide +kernel
theorem d_M_known_64 : decode b_M_known 64 = .ok (.iload 9, 2) := by decide +kernel
theorem d_M_known_66 : decode b_M_known 66 = .ok (.lload 6, 2) := by decide +kernel
theorem d_M_known_68 : decode b_M_known 68 = .ok (.invokevirtual 105, 3) := by decide +kernel
theorem d_M_known_71 : decode b_M_known 71 = .ok (.ifCond .eq 119, 3) := by decide +kernel
theorem d_M_known_74 : decode b_M_known 74 = .ok (.iload 8, 2) := by decide +kernel
theorem d_M_known_76 : decode b_M_known 76 = .ok (.iconst (-1), 1) := by decide +kernel
theorem d_M_known_77 : decode b_M_known 77 = .ok (.if_icmp .eq 92, 3) := by decide +kernel
theorem d_M_known_80 : decode b_M_known 80 = .ok (.aload_n 0, 1) := by decide +kernel
theorem d_M_known_81 : decode b_M_known 81 = .ok (.getfield 29, 3) := by decide +kernel
theorem d_M_known_84 : decode b_M_known 84 = .ok (.iload 9, 2) := by decide +kernel
theorem d_M_known_86 : decode b_M_known 86 = .ok (.laload, 1) := by decide +kernel
theorem d_M_known_87 : decode b_M_known 87 = .ok (.aload_n 0, 1) := by decide +kernel
theorem d_M_known_88 : decode b_M_known 88 = .ok (.getfield 29, 3) := by decide +kernel
theorem d_M_known_91 : decode b_M_known 91 = .ok (.iload 8, 2) := by decide +kernel
theorem d_M_known_93 : decode b_M_known 93 = .ok (.laload, 1) := by decide +kernel
theorem d_M_known_94 : decode b_M_known 94 = .ok (.lcmp, 1) := by decide +kernel
theorem d_M_known_95 : decode b_M_known 95 = .ok (.ifCond .gt 74, 3) := by decide +kernel
theorem d_M_known_98 : decode b_M_known 98 = .ok (.aload_n 0, 1) := by decide +kernel
theorem d_M_known_99 : decode b_M_known 99 = .ok (.getfield 29, 3) := by decide +kernel
theorem d_M_known_102 : decode b_M_known 102 = .ok (.iload 9, 2) := by decide +kernel
theorem d_M_known_104 : decode b_M_known 104 = .ok (.laload, 1) := by decide +kernel
theorem d_M_known_105 : decode b_M_known 105 = .ok (.aload_n 0, 1) := by decide +kernel
theorem d_M_known_106 : decode b_M_known 106 = .ok (.getfield 29, 3) := by decide +kernel
theorem d_M_known_109 : decode b_M_known 109 = .ok (.iload 8, 2) := by decide +kernel
theorem d_M_known_111 : decode b_M_known 111 = .ok (.laload, 1) := by decide +kernel
theorem d_M_known_112 : decode b_M_known 112 = .ok (.lcmp, 1) := by decide +kernel
theorem d_M_known_113 : decode b_M_known 113 = .ok (.ifCond .ne 60, 3) := by decide +kernel
theorem d_M_known_116 : decode b_M_known 116 = .ok (.aload_n 0, 1) := by decide +kernel
theorem d_M_known_117 : decode b_M_known 117 = .ok (.getfield 35, 3) := by decide +kernel
theorem d_M_known_120 : decode b_M_known 120 = .ok (.iload 9, 2) := by decide +kernel
theorem d_M_known_122 : decode b_M_known 122 = .ok (.laload, 1) := by decide +kernel
theorem d_M_known_123 : decode b_M_known 123 = .ok (.aload_n 0, 1) := by decide +kernel
theorem d_M_known_124 : decode b_M_known 124 = .ok (.getfield 35, 3) := by decide +kernel
theorem d_M_known_127 : decode b_M_known 127 = .ok (.iload 8, 2) := by decide +kernel
theorem d_M_known_129 : decode b_M_known 129 = .ok (.laload, 1) := by decide +kernel
theorem d_M_known_130 : decode b_M_known 130 = .ok (.lcmp, 1) := by decide +kernel
theorem d_M_known_131 : decode b_M_known 131 = .ok (.ifCond .gt 38, 3) := by decide +kernel
theorem d_M_known_134 : decode b_M_known 134 = .ok (.aload_n 0, 1) := by decide +kernel
theorem d_M_known_135 : decode b_M_known 135 = .ok (.getfield 35, 3) := by decide +kernel
theorem d_M_known_138 : decode b_M_known 138 = .ok (.iload 9, 2) := by decide +kernel
theorem d_M_known_140 : decode b_M_known 140 = .ok (.laload, 1) := by decide +kernel
theorem d_M_known_141 : decode b_M_known 141 = .ok (.aload_n 0, 1) := by decide +kernel
theorem d_M_known_142 : decode b_M_known 142 = .ok (.getfield 35, 3) := by decide +kernel
theorem d_M_known_145 : decode b_M_known 145 = .ok (.iload 8, 2) := by decide +kernel
theorem d_M_known_147 : decode b_M_known 147 = .ok (.laload, 1) := by decide +kernel
theorem d_M_known_148 : decode b_M_known 148 = .ok (.lcmp, 1) := by decide +kernel
theorem d_M_known_149 : decode b_M_known 149 = .ok (.ifCond .ne 24, 3) := by decide +kernel
theorem d_M_known_152 : decode b_M_known 152 = .ok (.aload_n 0, 1) := by decide +kernel
theorem d_M_known_153 : decode b_M_known 153 = .ok (.getfield 20, 3) := by decide +kernel
theorem d_M_known_156 : decode b_M_known 156 = .ok (.iload 9, 2) := by decide +kernel
theorem d_M_known_158 : decode b_M_known 158 = .ok (.iaload, 1) := by decide +kernel
theorem d_M_known_159 : decode b_M_known 159 = .ok (.aload_n 0, 1) := by decide +kernel
theorem d_M_known_160 : decode b_M_known 160 = .ok (.getfield 20, 3) := by decide +kernel
theorem d_M_known_163 : decode b_M_known 163 = .ok (.iload 8, 2) := by decide +kernel
theorem d_M_known_165 : decode b_M_known 165 = .ok (.iaload, 1) := by decide +kernel
theorem d_M_known_166 : decode b_M_known 166 = .ok (.if_icmp .le 7, 3) := by decide +kernel
theorem d_M_known_169 : decode b_M_known 169 = .ok (.iconst 1, 1) := by decide +kernel
theorem d_M_known_170 : decode b_M_known 170 = .ok (.goto 4, 3) := by decide +kernel
theorem d_M_known_173 : decode b_M_known 173 = .ok (.iconst 0, 1) := by decide +kernel
theorem d_M_known_174 : decode b_M_known 174 = .ok (.istore 10, 2) := by decide +kernel
theorem d_M_known_176 : decode b_M_known 176 = .ok (.iload 10, 2) := by decide +kernel
theorem d_M_known_178 : decode b_M_known 178 = .ok (.ifCond .eq 8, 3) := by decide +kernel
theorem d_M_known_181 : decode b_M_known 181 = .ok (.iload 9, 2) := by decide +kernel
theorem d_M_known_183 : decode b_M_known 183 = .ok (.goto 5, 3) := by decide +kernel
theorem d_M_known_186 : decode b_M_known 186 = .ok (.iload 8, 2) := by decide +kernel
theorem d_M_known_188 : decode b_M_known 188 = .ok (.istore 8, 2) := by decide +kernel
theorem d_M_known_190 : decode b_M_known 190 = .ok (.iinc 9 1, 3) := by decide +kernel
theorem d_M_known_193 : decode b_M_known 193 = .ok (.goto (-175), 3) := by decide +kernel
theorem d_M_known_196 : decode b_M_known 196 = .ok (.iload 8, 2) := by decide +kernel
theorem d_M_known_198 : decode b_M_known 198 = .ok (.iconst (-1), 1) := by decide +kernel
theorem d_M_known_199 : decode b_M_known 199 = .ok (.if_icmp .ne 9, 3) := by decide +kernel
theorem d_M_known_202 : decode b_M_known 202 = .ok (.ldc2_w 103, 3) := by decide +kernel
theorem d_M_known_205 : decode b_M_known 205 = .ok (.goto 10, 3) := by decide +kernel
theorem d_M_known_208 : decode b_M_known 208 = .ok (.aload_n 0, 1) := by decide +kernel
theorem d_M_known_209 : decode b_M_known 209 = .ok (.getfield 32, 3) := by decide +kernel
theorem d_M_known_212 : decode b_M_known 212 = .ok (.iload 8, 2) := by decide +kernel
theorem d_M_known_214 : decode b_M_known 214 = .ok (.laload, 1) := by decide +kernel
theorem d_M_known_215 : decode b_M_known 215 = .ok (.lreturn, 1) := by decide +kernel
theorem d_M_equal_0 : decode b_M_equal 0 = .ok (.aload_n 0, 1) := by decide +kernel
theorem d_M_equal_1 : decode b_M_equal 1 = .ok (.iload_n 1, 1) := by decide +kernel
theorem d_M_equal_2 : decode b_M_equal 2 = .ok (.invokevirtual 62, 3) := by decide +kernel
theorem d_M_equal_5 : decode b_M_equal 5 = .ok (.ifCond .eq 11, 3) := by decide +kernel
theorem d_M_equal_8 : decode b_M_equal 8 = .ok (.aload_n 0, 1) := by decide +kernel
theorem d_M_equal_9 : decode b_M_equal 9 = .ok (.iload_n 2, 1) := by decide +kernel
theorem d_M_equal_10 : decode b_M_equal 10 = .ok (.invokevirtual 62, 3) := by decide +kernel
theorem d_M_equal_13 : decode b_M_equal 13 = .ok (.ifCond .ne 5, 3) := by decide +kernel
theorem d_M_equal_16 : decode b_M_equal 16 = .ok (.iconst 0, 1) := by decide +kernel
theorem d_M_equal_17 : decode b_M_equal 17 = .ok (.ireturn, 1) := by decide +kernel
theorem d_M_equal_18 : decode b_M_equal 18 = .ok (.iconst 1, 1) := by decide +kernel
theorem d_M_equal_19 : decode b_M_equal 19 = .ok (.istore_n 3, 1) := by decide +kernel
theorem d_M_equal_20 : decode b_M_equal 20 = .ok (.iconst 0, 1) := by decide +kernel
theorem d_M_equal_21 : decode b_M_equal 21 = .ok (.istore 4, 2) := by decide +kernel
theorem d_M_equal_23 : decode b_M_equal 23 = .ok (.iload 4, 2) := by decide +kernel
theorem d_M_equal_25 : decode b_M_equal 25 = .ok (.aload_n 0, 1) := by decide +kernel
theorem d_M_equal_26 : decode b_M_equal 26 = .ok (.getfield 59, 3) := by decide +kernel
theorem d_M_equal_29 : decode b_M_equal 29 = .ok (.if_icmp .ge 48, 3) := by decide +kernel
theorem d_M_equal_32 : decode b_M_equal 32 = .ok (.iload_n 3, 1) := by decide +kernel
theorem d_M_equal_33 : decode b_M_equal 33 = .ok (.ifCond .eq 44, 3) := by decide +kernel
theorem d_M_equal_36 : decode b_M_equal 36 = .ok (.aload_n 0, 1) := by decide +kernel
theorem d_M_equal_37 : decode b_M_equal 37 = .ok (.getfield 46, 3) := by decide +kernel
theorem d_M_equal_40 : decode b_M_equal 40 = .ok (.iload_n 1, 1) := by decide +kernel
theorem d_M_equal_41 : decode b_M_equal 41 = .ok (.sipush 300, 3) := by decide +kernel
theorem d_M_equal_44 : decode b_M_equal 44 = .ok (.imul, 1) := by decide +kernel
theorem d_M_equal_45 : decode b_M_equal 45 = .ok (.iload 4, 2) := by decide +kernel
theorem d_M_equal_47 : decode b_M_equal 47 = .ok (.iadd, 1) := by decide +kernel
theorem d_M_equal_48 : decode b_M_equal 48 = .ok (.baload, 1) := by decide +kernel
theorem d_M_equal_49 : decode b_M_equal 49 = .ok (.aload_n 0, 1) := by decide +kernel
theorem d_M_equal_50 : decode b_M_equal 50 = .ok (.getfield 46, 3) := by decide +kernel
theorem d_M_equal_53 : decode b_M_equal 53 = .ok (.iload_n 2, 1) := by decide +kernel
theorem d_M_equal_54 : decode b_M_equal 54 = .ok (.sipush 300, 3) := by decide +kernel
theorem d_M_equal_57 : decode b_M_equal 57 = .ok (.imul, 1) := by decide +kernel
theorem d_M_equal_58 : decode b_M_equal 58 = .ok (.iload 4, 2) := by decide +kernel
theorem d_M_equal_60 : decode b_M_equal 60 = .ok (.iadd, 1) := by decide +kernel
theorem d_M_equal_61 : decode b_M_equal 61 = .ok (.baload, 1) := by decide +kernel
theorem d_M_equal_62 : decode b_M_equal 62 = .ok (.if_icmp .ne 7, 3) := by decide +kernel
theorem d_M_equal_65 : decode b_M_equal 65 = .ok (.iconst 1, 1) := by decide +kernel
theorem d_M_equal_66 : decode b_M_equal 66 = .ok (.goto 4, 3) := by decide +kernel
theorem d_M_equal_69 : decode b_M_equal 69 = .ok (.iconst 0, 1) := by decide +kernel
theorem d_M_equal_70 : decode b_M_equal 70 = .ok (.istore_n 3, 1) := by decide +kernel
theorem d_M_equal_71 : decode b_M_equal 71 = .ok (.iinc 4 1, 3) := by decide +kernel
theorem d_M_equal_74 : decode b_M_equal 74 = .ok (.goto (-51), 3) := by decide +kernel
theorem d_M_equal_77 : decode b_M_equal 77 = .ok (.iload_n 3, 1) := by decide +kernel
theorem d_M_equal_78 : decode b_M_equal 78 = .ok (.ireturn, 1) := by decide +kernel
theorem d_M_find_0 : decode b_M_find 0 = .ok (.aload_n 0, 1) := by decide +kernel
theorem d_M_find_1 : decode b_M_find 1 = .ok (.iload_n 1, 1) := by decide +kernel
theorem d_M_find_2 : decode b_M_find 2 = .ok (.invokevirtual 62, 3) := by decide +kernel
theorem d_M_find_5 : decode b_M_find 5 = .ok (.ifCond .eq 8, 3) := by decide +kernel
theorem d_M_find_8 : decode b_M_find 8 = .ok (.iload 5, 2) := by decide +kernel
theorem d_M_find_10 : decode b_M_find 10 = .ok (.ifCond .ge 5, 3) := by decide +kernel
theorem d_M_find_13 : decode b_M_find 13 = .ok (.iconst (-1), 1) := by decide +kernel
theorem d_M_find_14 : decode b_M_find 14 = .ok (.ireturn, 1) := by decide +kernel
theorem d_M_find_15 : decode b_M_find 15 = .ok (.iconst 0, 1) := by decide +kernel
theorem d_M_find_16 : decode b_M_find 16 = .ok (.istore 6, 2) := by decide +kernel
theorem d_M_find_18 : decode b_M_find 18 = .ok (.iload 6, 2) := by decide +kernel
theorem d_M_find_20 : decode b_M_find 20 = .ok (.aload_n 0, 1) := by decide +kernel
theorem d_M_find_21 : decode b_M_find 21 = .ok (.getfield 59, 3) := by decide +kernel
theorem d_M_find_24 : decode b_M_find 24 = .ok (.if_icmp .ge 150, 3) := by decide +kernel
theorem d_M_find_27 : decode b_M_find 27 = .ok (.aload_n 0, 1) := by decide +kernel
theorem d_M_find_28 : decode b_M_find 28 = .ok (.getfield 46, 3) := by decide +kernel
theorem d_M_find_31 : decode b_M_find 31 = .ok (.iload_n 1, 1) := by decide +kernel
theorem d_M_find_32 : decode b_M_find 32 = .ok (.sipush 300, 3) := by decide +kernel
theorem d_M_find_35 : decode b_M_find 35 = .ok (.imul, 1) := by decide +kernel
theorem d_M_find_36 : decode b_M_find 36 = .ok (.iload 6, 2) := by decide +kernel
theorem d_M_find_38 : decode b_M_find 38 = .ok (.iadd, 1) := by decide +kernel
theorem d_M_find_39 : decode b_M_find 39 = .ok (.baload, 1) := by decide +kernel
theorem d_M_find_40 : decode b_M_find 40 = .ok (.ifCond .eq 128, 3) := by decide +kernel
theorem d_M_find_43 : decode b_M_find 43 = .ok (.aload_n 0, 1) := by decide +kernel
theorem d_M_find_44 : decode b_M_find 44 = .ok (.getfield 26, 3) := by decide +kernel
theorem d_M_find_47 : decode b_M_find 47 = .ok (.iload 6, 2) := by decide +kernel
theorem d_M_find_49 : decode b_M_find 49 = .ok (.iaload, 1) := by decide +kernel
theorem d_M_find_50 : decode b_M_find 50 = .ok (.iload_n 2, 1) := by decide +kernel
theorem d_M_find_51 : decode b_M_find 51 = .ok (.if_icmp .ne 117, 3) := by decide +kernel
theorem d_M_find_54 : decode b_M_find 54 = .ok (.aload_n 0, 1) := by decide +kernel
theorem d_M_find_55 : decode b_M_find 55 = .ok (.getfield 32, 3) := by decide +kernel
theorem d_M_find_58 : decode b_M_find 58 = .ok (.iload 6, 2) := by decide +kernel
theorem d_M_find_60 : decode b_M_find 60 = .ok (.laload, 1) := by decide +kernel
theorem d_M_find_61 : decode b_M_find 61 = .ok (.lload_n 3, 1) := by decide +kernel
theorem d_M_find_62 : decode b_M_find 62 = .ok (.lcmp, 1) := by decide +kernel
theorem d_M_find_63 : decode b_M_find 63 = .ok (.ifCond .ne 105, 3) := by decide +kernel
theorem d_M_find_66 : decode b_M_find 66 = .ok (.iconst 0, 1) := by decide +kernel
theorem d_M_find_67 : decode b_M_find 67 = .ok (.istore 7, 2) := by decide +kernel
theorem d_M_find_69 : decode b_M_find 69 = .ok (.iconst 0, 1) := by decide +kernel
theorem d_M_find_70 : decode b_M_find 70 = .ok (.istore 8, 2) := by decide +kernel
theorem d_M_find_72 : decode b_M_find 72 = .ok (.iload 8, 2) := by decide +kernel
theorem d_M_find_74 : decode b_M_find 74 = .ok (.aload_n 0, 1) := by decide +kernel
theorem d_M_find_75 : decode b_M_find 75 = .ok (.getfield 59, 3) := by decide +kernel
theorem d_M_find_78 : decode b_M_find 78 = .ok (.if_icmp .ge 75, 3) := by decide +kernel
theorem d_M_find_81 : decode b_M_find 81 = .ok (.iload 7, 2) := by decide +kernel
theorem d_M_find_83 : decode b_M_find 83 = .ok (.aload_n 0, 1) := by decide +kernel
theorem d_M_find_84 : decode b_M_find 84 = .ok (.getfield 46, 3) := by decide +kernel
theorem d_M_find_87 : decode b_M_find 87 = .ok (.iload_n 1, 1) := by decide +kernel
theorem d_M_find_88 : decode b_M_find 88 = .ok (.sipush 300, 3) := by decide +kernel
theorem d_M_find_91 : decode b_M_find 91 = .ok (.imul, 1) := by decide +kernel
theorem d_M_find_92 : decode b_M_find 92 = .ok (.iload 8, 2) := by decide +kernel
theorem d_M_find_94 : decode b_M_find 94 = .ok (.iadd, 1) := by decide +kernel
theorem d_M_find_95 : decode b_M_find 95 = .ok (.baload, 1) := by decide +kernel
end
section
theorem d_M_find_96 : decode b_M_find 96 = .ok (.ifCond .eq 47, 3) := by decide +kernel
theorem d_M_find_99 : decode b_M_find 99 = .ok (.aload_n 0, 1) := by decide +kernel
theorem d_M_find_100 : decode b_M_find 100 = .ok (.getfield 26, 3) := by decide +kernel
theorem d_M_find_103 : decode b_M_find 103 = .ok (.iload 8, 2) := by decide +kernel
theorem d_M_find_105 : decode b_M_find 105 = .ok (.iaload, 1) := by decide +kernel
theorem d_M_find_106 : decode b_M_find 106 = .ok (.iload_n 2, 1) := by decide +kernel
theorem d_M_find_107 : decode b_M_find 107 = .ok (.if_icmp .ne 36, 3) := by decide +kernel
theorem d_M_find_110 : decode b_M_find 110 = .ok (.aload_n 0, 1) := by decide +kernel
theorem d_M_find_111 : decode b_M_find 111 = .ok (.getfield 32, 3) := by decide +kernel
theorem d_M_find_114 : decode b_M_find 114 = .ok (.iload 8, 2) := by decide +kernel
theorem d_M_find_116 : decode b_M_find 116 = .ok (.laload, 1) := by decide +kernel
theorem d_M_find_117 : decode b_M_find 117 = .ok (.lload_n 3, 1) := by decide +kernel
theorem d_M_find_118 : decode b_M_find 118 = .ok (.lcmp, 1) := by decide +kernel
theorem d_M_find_119 : decode b_M_find 119 = .ok (.ifCond .ne 24, 3) := by decide +kernel
theorem d_M_find_122 : decode b_M_find 122 = .ok (.aload_n 0, 1) := by decide +kernel
theorem d_M_find_123 : decode b_M_find 123 = .ok (.getfield 20, 3) := by decide +kernel
theorem d_M_find_126 : decode b_M_find 126 = .ok (.iload 8, 2) := by decide +kernel
theorem d_M_find_128 : decode b_M_find 128 = .ok (.iaload, 1) := by decide +kernel
theorem d_M_find_129 : decode b_M_find 129 = .ok (.aload_n 0, 1) := by decide +kernel
theorem d_M_find_130 : decode b_M_find 130 = .ok (.getfield 20, 3) := by decide +kernel
theorem d_M_find_133 : decode b_M_find 133 = .ok (.iload 6, 2) := by decide +kernel
theorem d_M_find_135 : decode b_M_find 135 = .ok (.iaload, 1) := by decide +kernel
theorem d_M_find_136 : decode b_M_find 136 = .ok (.if_icmp .ge 7, 3) := by decide +kernel
theorem d_M_find_139 : decode b_M_find 139 = .ok (.iconst 1, 1) := by decide +kernel
theorem d_M_find_140 : decode b_M_find 140 = .ok (.goto 4, 3) := by decide +kernel
theorem d_M_find_143 : decode b_M_find 143 = .ok (.iconst 0, 1) := by decide +kernel
theorem d_M_find_144 : decode b_M_find 144 = .ok (.iadd, 1) := by decide +kernel
theorem d_M_find_145 : decode b_M_find 145 = .ok (.istore 7, 2) := by decide +kernel
theorem d_M_find_147 : decode b_M_find 147 = .ok (.iinc 8 1, 3) := by decide +kernel
theorem d_M_find_150 : decode b_M_find 150 = .ok (.goto (-78), 3) := by decide +kernel
theorem d_M_find_153 : decode b_M_find 153 = .ok (.iload 7, 2) := by decide +kernel
theorem d_M_find_155 : decode b_M_find 155 = .ok (.iload 5, 2) := by decide +kernel
theorem d_M_find_157 : decode b_M_find 157 = .ok (.if_icmp .ne 11, 3) := by decide +kernel
theorem d_M_find_160 : decode b_M_find 160 = .ok (.aload_n 0, 1) := by decide +kernel
theorem d_M_find_161 : decode b_M_find 161 = .ok (.getfield 20, 3) := by decide +kernel
theorem d_M_find_164 : decode b_M_find 164 = .ok (.iload 6, 2) := by decide +kernel
theorem d_M_find_166 : decode b_M_find 166 = .ok (.iaload, 1) := by decide +kernel
theorem d_M_find_167 : decode b_M_find 167 = .ok (.ireturn, 1) := by decide +kernel
theorem d_M_find_168 : decode b_M_find 168 = .ok (.iinc 6 1, 3) := by decide +kernel
theorem d_M_find_171 : decode b_M_find 171 = .ok (.goto (-153), 3) := by decide +kernel
theorem d_M_find_174 : decode b_M_find 174 = .ok (.iconst (-1), 1) := by decide +kernel
theorem d_M_find_175 : decode b_M_find 175 = .ok (.ireturn, 1) := by decide +kernel
theorem d_M_counts_0 : decode b_M_counts 0 = .ok (.aload_n 0, 1) := by decide +kernel
theorem d_M_counts_1 : decode b_M_counts 1 = .ok (.iload_n 1, 1) := by decide +kernel
theorem d_M_counts_2 : decode b_M_counts 2 = .ok (.invokevirtual 62, 3) := by decide +kernel
theorem d_M_counts_5 : decode b_M_counts 5 = .ok (.ifCond .ne 5, 3) := by decide +kernel
theorem d_M_counts_8 : decode b_M_counts 8 = .ok (.iconst (-1), 1) := by decide +kernel
theorem d_M_counts_9 : decode b_M_counts 9 = .ok (.ireturn, 1) := by decide +kernel
theorem d_M_counts_10 : decode b_M_counts 10 = .ok (.iconst 0, 1) := by decide +kernel
theorem d_M_counts_11 : decode b_M_counts 11 = .ok (.istore_n 2, 1) := by decide +kernel
theorem d_M_counts_12 : decode b_M_counts 12 = .ok (.iconst 0, 1) := by decide +kernel
theorem d_M_counts_13 : decode b_M_counts 13 = .ok (.istore_n 3, 1) := by decide +kernel
theorem d_M_counts_14 : decode b_M_counts 14 = .ok (.iload_n 3, 1) := by decide +kernel
theorem d_M_counts_15 : decode b_M_counts 15 = .ok (.aload_n 0, 1) := by decide +kernel
theorem d_M_counts_16 : decode b_M_counts 16 = .ok (.getfield 59, 3) := by decide +kernel
theorem d_M_counts_19 : decode b_M_counts 19 = .ok (.if_icmp .ge 32, 3) := by decide +kernel
theorem d_M_counts_22 : decode b_M_counts 22 = .ok (.iload_n 2, 1) := by decide +kernel
theorem d_M_counts_23 : decode b_M_counts 23 = .ok (.aload_n 0, 1) := by decide +kernel
theorem d_M_counts_24 : decode b_M_counts 24 = .ok (.getfield 46, 3) := by decide +kernel
theorem d_M_counts_27 : decode b_M_counts 27 = .ok (.iload_n 1, 1) := by decide +kernel
theorem d_M_counts_28 : decode b_M_counts 28 = .ok (.sipush 300, 3) := by decide +kernel
theorem d_M_counts_31 : decode b_M_counts 31 = .ok (.imul, 1) := by decide +kernel
theorem d_M_counts_32 : decode b_M_counts 32 = .ok (.iload_n 3, 1) := by decide +kernel
theorem d_M_counts_33 : decode b_M_counts 33 = .ok (.iadd, 1) := by decide +kernel
theorem d_M_counts_34 : decode b_M_counts 34 = .ok (.baload, 1) := by decide +kernel
theorem d_M_counts_35 : decode b_M_counts 35 = .ok (.ifCond .eq 7, 3) := by decide +kernel
theorem d_M_counts_38 : decode b_M_counts 38 = .ok (.iconst 1, 1) := by decide +kernel
theorem d_M_counts_39 : decode b_M_counts 39 = .ok (.goto 4, 3) := by decide +kernel
theorem d_M_counts_42 : decode b_M_counts 42 = .ok (.iconst 0, 1) := by decide +kernel
theorem d_M_counts_43 : decode b_M_counts 43 = .ok (.iadd, 1) := by decide +kernel
theorem d_M_counts_44 : decode b_M_counts 44 = .ok (.istore_n 2, 1) := by decide +kernel
theorem d_M_counts_45 : decode b_M_counts 45 = .ok (.iinc 3 1, 3) := by decide +kernel
theorem d_M_counts_48 : decode b_M_counts 48 = .ok (.goto (-34), 3) := by decide +kernel
theorem d_M_counts_51 : decode b_M_counts 51 = .ok (.iload_n 2, 1) := by decide +kernel
theorem d_M_counts_52 : decode b_M_counts 52 = .ok (.ireturn, 1) := by decide +kernel
theorem d_M_batch_0 : decode b_M_batch 0 = .ok (.aload_n 0, 1) := by decide +kernel
theorem d_M_batch_1 : decode b_M_batch 1 = .ok (.iload_n 1, 1) := by decide +kernel
theorem d_M_batch_2 : decode b_M_batch 2 = .ok (.invokevirtual 62, 3) := by decide +kernel
theorem d_M_batch_5 : decode b_M_batch 5 = .ok (.ifCond .eq 13, 3) := by decide +kernel
theorem d_M_batch_8 : decode b_M_batch 8 = .ok (.aload_n 0, 1) := by decide +kernel
theorem d_M_batch_9 : decode b_M_batch 9 = .ok (.getfield 17, 3) := by decide +kernel
theorem d_M_batch_12 : decode b_M_batch 12 = .ok (.iload_n 1, 1) := by decide +kernel
theorem d_M_batch_13 : decode b_M_batch 13 = .ok (.iaload, 1) := by decide +kernel
theorem d_M_batch_14 : decode b_M_batch 14 = .ok (.iconst (-1), 1) := by decide +kernel
theorem d_M_batch_15 : decode b_M_batch 15 = .ok (.if_icmp .eq 5, 3) := by decide +kernel
theorem d_M_batch_18 : decode b_M_batch 18 = .ok (.iconst (-1), 1) := by decide +kernel
theorem d_M_batch_19 : decode b_M_batch 19 = .ok (.ireturn, 1) := by decide +kernel
theorem d_M_batch_20 : decode b_M_batch 20 = .ok (.aload_n 0, 1) := by decide +kernel
theorem d_M_batch_21 : decode b_M_batch 21 = .ok (.getfield 108, 3) := by decide +kernel
theorem d_M_batch_24 : decode b_M_batch 24 = .ok (.bipush 40, 2) := by decide +kernel
theorem d_M_batch_26 : decode b_M_batch 26 = .ok (.if_icmp .ne 6, 3) := by decide +kernel
theorem d_M_batch_29 : decode b_M_batch 29 = .ok (.bipush (-2), 2) := by decide +kernel
theorem d_M_batch_31 : decode b_M_batch 31 = .ok (.ireturn, 1) := by decide +kernel
theorem d_M_batch_32 : decode b_M_batch 32 = .ok (.aload_n 0, 1) := by decide +kernel
theorem d_M_batch_33 : decode b_M_batch 33 = .ok (.getfield 49, 3) := by decide +kernel
theorem d_M_batch_36 : decode b_M_batch 36 = .ok (.aload_n 0, 1) := by decide +kernel
theorem d_M_batch_37 : decode b_M_batch 37 = .ok (.getfield 108, 3) := by decide +kernel
theorem d_M_batch_40 : decode b_M_batch 40 = .ok (.iload_n 1, 1) := by decide +kernel
theorem d_M_batch_41 : decode b_M_batch 41 = .ok (.iastore, 1) := by decide +kernel
theorem d_M_batch_42 : decode b_M_batch 42 = .ok (.aload_n 0, 1) := by decide +kernel
theorem d_M_batch_43 : decode b_M_batch 43 = .ok (.getfield 17, 3) := by decide +kernel
theorem d_M_batch_46 : decode b_M_batch 46 = .ok (.iload_n 1, 1) := by decide +kernel
theorem d_M_batch_47 : decode b_M_batch 47 = .ok (.aload_n 0, 1) := by decide +kernel
theorem d_M_batch_48 : decode b_M_batch 48 = .ok (.getfield 108, 3) := by decide +kernel
theorem d_M_batch_51 : decode b_M_batch 51 = .ok (.iastore, 1) := by decide +kernel
theorem d_M_batch_52 : decode b_M_batch 52 = .ok (.aload_n 0, 1) := by decide +kernel
theorem d_M_batch_53 : decode b_M_batch 53 = .ok (.dup, 1) := by decide +kernel
theorem d_M_batch_54 : decode b_M_batch 54 = .ok (.getfield 108, 3) := by decide +kernel
theorem d_M_batch_57 : decode b_M_batch 57 = .ok (.iconst 1, 1) := by decide +kernel
theorem d_M_batch_58 : decode b_M_batch 58 = .ok (.iadd, 1) := by decide +kernel
theorem d_M_batch_59 : decode b_M_batch 59 = .ok (.putfield 108, 3) := by decide +kernel
theorem d_M_batch_62 : decode b_M_batch 62 = .ok (.aload_n 0, 1) := by decide +kernel
theorem d_M_batch_63 : decode b_M_batch 63 = .ok (.getfield 108, 3) := by decide +kernel
theorem d_M_batch_66 : decode b_M_batch 66 = .ok (.iconst 1, 1) := by decide +kernel
theorem d_M_batch_67 : decode b_M_batch 67 = .ok (.isub, 1) := by decide +kernel
theorem d_M_batch_68 : decode b_M_batch 68 = .ok (.ireturn, 1) := by decide +kernel
theorem d_M_endBatch_0 : decode b_M_endBatch 0 = .ok (.iload_n 1, 1) := by decide +kernel
theorem d_M_endBatch_1 : decode b_M_endBatch 1 = .ok (.ifCond .lt 26, 3) := by decide +kernel
theorem d_M_endBatch_4 : decode b_M_endBatch 4 = .ok (.iload_n 1, 1) := by decide +kernel
theorem d_M_endBatch_5 : decode b_M_endBatch 5 = .ok (.aload_n 0, 1) := by decide +kernel
theorem d_M_endBatch_6 : decode b_M_endBatch 6 = .ok (.getfield 108, 3) := by decide +kernel
theorem d_M_endBatch_9 : decode b_M_endBatch 9 = .ok (.if_icmp .ge 18, 3) := by decide +kernel
theorem d_M_endBatch_12 : decode b_M_endBatch 12 = .ok (.aload_n 0, 1) := by decide +kernel
theorem d_M_endBatch_13 : decode b_M_endBatch 13 = .ok (.getfield 17, 3) := by decide +kernel
theorem d_M_endBatch_16 : decode b_M_endBatch 16 = .ok (.aload_n 0, 1) := by decide +kernel
theorem d_M_endBatch_17 : decode b_M_endBatch 17 = .ok (.getfield 49, 3) := by decide +kernel
theorem d_M_endBatch_20 : decode b_M_endBatch 20 = .ok (.iload_n 1, 1) := by decide +kernel
theorem d_M_endBatch_21 : decode b_M_endBatch 21 = .ok (.iaload, 1) := by decide +kernel
theorem d_M_endBatch_22 : decode b_M_endBatch 22 = .ok (.iaload, 1) := by decide +kernel
theorem d_M_endBatch_23 : decode b_M_endBatch 23 = .ok (.iload_n 1, 1) := by decide +kernel
theorem d_M_endBatch_24 : decode b_M_endBatch 24 = .ok (.if_icmp .eq 5, 3) := by decide +kernel
theorem d_M_endBatch_27 : decode b_M_endBatch 27 = .ok (.iconst 0, 1) := by decide +kernel
theorem d_M_endBatch_28 : decode b_M_endBatch 28 = .ok (.ireturn, 1) := by decide +kernel
theorem d_M_endBatch_29 : decode b_M_endBatch 29 = .ok (.aload_n 0, 1) := by decide +kernel
theorem d_M_endBatch_30 : decode b_M_endBatch 30 = .ok (.getfield 49, 3) := by decide +kernel
theorem d_M_endBatch_33 : decode b_M_endBatch 33 = .ok (.iload_n 1, 1) := by decide +kernel
theorem d_M_endBatch_34 : decode b_M_endBatch 34 = .ok (.iaload, 1) := by decide +kernel
theorem d_M_endBatch_35 : decode b_M_endBatch 35 = .ok (.istore_n 2, 1) := by decide +kernel
theorem d_M_endBatch_36 : decode b_M_endBatch 36 = .ok (.aload_n 0, 1) := by decide +kernel
theorem d_M_endBatch_37 : decode b_M_endBatch 37 = .ok (.getfield 17, 3) := by decide +kernel
theorem d_M_endBatch_40 : decode b_M_endBatch 40 = .ok (.iload_n 2, 1) := by decide +kernel
theorem d_M_endBatch_41 : decode b_M_endBatch 41 = .ok (.iconst (-1), 1) := by decide +kernel
theorem d_M_endBatch_42 : decode b_M_endBatch 42 = .ok (.iastore, 1) := by decide +kernel
theorem d_M_endBatch_43 : decode b_M_endBatch 43 = .ok (.iconst 0, 1) := by decide +kernel
theorem d_M_endBatch_44 : decode b_M_endBatch 44 = .ok (.istore_n 3, 1) := by decide +kernel
theorem d_M_endBatch_45 : decode b_M_endBatch 45 = .ok (.iload_n 3, 1) := by decide +kernel
theorem d_M_endBatch_46 : decode b_M_endBatch 46 = .ok (.aload_n 0, 1) := by decide +kernel
theorem d_M_endBatch_47 : decode b_M_endBatch 47 = .ok (.getfield 59, 3) := by decide +kernel
theorem d_M_endBatch_50 : decode b_M_endBatch 50 = .ok (.if_icmp .ge 39, 3) := by decide +kernel
theorem d_M_endBatch_53 : decode b_M_endBatch 53 = .ok (.aload_n 0, 1) := by decide +kernel
theorem d_M_endBatch_54 : decode b_M_endBatch 54 = .ok (.getfield 46, 3) := by decide +kernel
theorem d_M_endBatch_57 : decode b_M_endBatch 57 = .ok (.iload_n 2, 1) := by decide +kernel
theorem d_M_endBatch_58 : decode b_M_endBatch 58 = .ok (.sipush 300, 3) := by decide +kernel
theorem d_M_endBatch_61 : decode b_M_endBatch 61 = .ok (.imul, 1) := by decide +kernel
theorem d_M_endBatch_62 : decode b_M_endBatch 62 = .ok (.iload_n 3, 1) := by decide +kernel
theorem d_M_endBatch_63 : decode b_M_endBatch 63 = .ok (.iadd, 1) := by decide +kernel
theorem d_M_endBatch_64 : decode b_M_endBatch 64 = .ok (.dup2, 1) := by decide +kernel
theorem d_M_endBatch_65 : decode b_M_endBatch 65 = .ok (.baload, 1) := by decide +kernel
theorem d_M_endBatch_66 : decode b_M_endBatch 66 = .ok (.aload_n 0, 1) := by decide +kernel
theorem d_M_endBatch_67 : decode b_M_endBatch 67 = .ok (.getfield 38, 3) := by decide +kernel
theorem d_M_endBatch_70 : decode b_M_endBatch 70 = .ok (.iload_n 3, 1) := by decide +kernel
theorem d_M_endBatch_71 : decode b_M_endBatch 71 = .ok (.iaload, 1) := by decide +kernel
theorem d_M_endBatch_72 : decode b_M_endBatch 72 = .ok (.iload_n 1, 1) := by decide +kernel
theorem d_M_endBatch_73 : decode b_M_endBatch 73 = .ok (.if_icmp .ne 7, 3) := by decide +kernel
theorem d_M_endBatch_76 : decode b_M_endBatch 76 = .ok (.iconst 1, 1) := by decide +kernel
theorem d_M_endBatch_77 : decode b_M_endBatch 77 = .ok (.goto 4, 3) := by decide +kernel
theorem d_M_endBatch_80 : decode b_M_endBatch 80 = .ok (.iconst 0, 1) := by decide +kernel
theorem d_M_endBatch_81 : decode b_M_endBatch 81 = .ok (.ior, 1) := by decide +kernel
theorem d_M_endBatch_82 : decode b_M_endBatch 82 = .ok (.bastore, 1) := by decide +kernel
theorem d_M_endBatch_83 : decode b_M_endBatch 83 = .ok (.iinc 3 1, 3) := by decide +kernel
theorem d_M_endBatch_86 : decode b_M_endBatch 86 = .ok (.goto (-41), 3) := by decide +kernel
theorem d_M_endBatch_89 : decode b_M_endBatch 89 = .ok (.iconst 1, 1) := by decide +kernel
theorem d_M_endBatch_90 : decode b_M_endBatch 90 = .ok (.ireturn, 1) := by decide +kernel
theorem d_M_draw_0 : decode b_M_draw 0 = .ok (.aload_n 0, 1) := by decide +kernel
theorem d_M_draw_1 : decode b_M_draw 1 = .ok (.aload_n 0, 1) := by decide +kernel
theorem d_M_draw_2 : decode b_M_draw 2 = .ok (.getfield 111, 3) := by decide +kernel
theorem d_M_draw_5 : decode b_M_draw 5 = .ok (.ldc2_w 115, 3) := by decide +kernel
theorem d_M_draw_8 : decode b_M_draw 8 = .ok (.lmul, 1) := by decide +kernel
theorem d_M_draw_9 : decode b_M_draw 9 = .ok (.ldc2_w 117, 3) := by decide +kernel
theorem d_M_draw_12 : decode b_M_draw 12 = .ok (.ladd, 1) := by decide +kernel
theorem d_M_draw_13 : decode b_M_draw 13 = .ok (.putfield 111, 3) := by decide +kernel
theorem d_M_draw_16 : decode b_M_draw 16 = .ok (.aload_n 0, 1) := by decide +kernel
theorem d_M_draw_17 : decode b_M_draw 17 = .ok (.getfield 111, 3) := by decide +kernel
theorem d_M_draw_20 : decode b_M_draw 20 = .ok (.bipush 33, 2) := by decide +kernel
theorem d_M_draw_22 : decode b_M_draw 22 = .ok (.lushr, 1) := by decide +kernel
theorem d_M_draw_23 : decode b_M_draw 23 = .ok (.iload_n 1, 1) := by decide +kernel
theorem d_M_draw_24 : decode b_M_draw 24 = .ok (.i2l, 1) := by decide +kernel
theorem d_M_draw_25 : decode b_M_draw 25 = .ok (.lrem, 1) := by decide +kernel
theorem d_M_draw_26 : decode b_M_draw 26 = .ok (.l2i, 1) := by decide +kernel
theorem d_M_draw_27 : decode b_M_draw 27 = .ok (.ireturn, 1) := by decide +kernel
theorem d_M_play_0 : decode b_M_play 0 = .ok (.aload_n 0, 1) := by decide +kernel
theorem d_M_play_1 : decode b_M_play 1 = .ok (.getfield 55, 3) := by decide +kernel
theorem d_M_play_4 : decode b_M_play 4 = .ok (.ifCond .eq 14, 3) := by decide +kernel
theorem d_M_play_7 : decode b_M_play 7 = .ok (.iload_n 3, 1) := by decide +kernel
theorem d_M_play_8 : decode b_M_play 8 = .ok (.ifCond .lt 10, 3) := by decide +kernel
theorem d_M_play_11 : decode b_M_play 11 = .ok (.iload_n 3, 1) := by decide +kernel
theorem d_M_play_12 : decode b_M_play 12 = .ok (.sipush 200, 3) := by decide +kernel
theorem d_M_play_15 : decode b_M_play 15 = .ok (.if_icmp .le 5, 3) := by decide +kernel
theorem d_M_play_18 : decode b_M_play 18 = .ok (.iconst (-1), 1) := by decide +kernel
theorem d_M_play_19 : decode b_M_play 19 = .ok (.ireturn, 1) := by decide +kernel
theorem d_M_play_20 : decode b_M_play 20 = .ok (.aload_n 0, 1) := by decide +kernel
theorem d_M_play_21 : decode b_M_play 21 = .ok (.lload_n 1, 1) := by decide +kernel
theorem d_M_play_22 : decode b_M_play 22 = .ok (.putfield 111, 3) := by decide +kernel
theorem d_M_play_25 : decode b_M_play 25 = .ok (.iconst 0, 1) := by decide +kernel
theorem d_M_play_26 : decode b_M_play 26 = .ok (.istore 4, 2) := by decide +kernel
theorem d_M_play_28 : decode b_M_play 28 = .ok (.iload 4, 2) := by decide +kernel
theorem d_M_play_30 : decode b_M_play 30 = .ok (.iload_n 3, 1) := by decide +kernel
theorem d_M_play_31 : decode b_M_play 31 = .ok (.if_icmp .ge 89, 3) := by decide +kernel
theorem d_M_play_34 : decode b_M_play 34 = .ok (.aload_n 0, 1) := by decide +kernel
theorem d_M_play_35 : decode b_M_play 35 = .ok (.aload_n 0, 1) := by decide +kernel
theorem d_M_play_36 : decode b_M_play 36 = .ok (.getfield 55, 3) := by decide +kernel
theorem d_M_play_39 : decode b_M_play 39 = .ok (.invokevirtual 119, 3) := by decide +kernel
theorem d_M_play_42 : decode b_M_play 42 = .ok (.istore 5, 2) := by decide +kernel
theorem d_M_play_44 : decode b_M_play 44 = .ok (.aload_n 0, 1) := by decide +kernel
theorem d_M_play_45 : decode b_M_play 45 = .ok (.iconst 4, 1) := by decide +kernel
theorem d_M_play_46 : decode b_M_play 46 = .ok (.invokevirtual 119, 3) := by decide +kernel
theorem d_M_play_49 : decode b_M_play 49 = .ok (.iconst 3, 1) := by decide +kernel
theorem d_M_play_50 : decode b_M_play 50 = .ok (.if_icmp .ge 48, 3) := by decide +kernel
theorem d_M_play_53 : decode b_M_play 53 = .ok (.aload_n 0, 1) := by decide +kernel
theorem d_M_play_54 : decode b_M_play 54 = .ok (.iconst 4, 1) := by decide +kernel
theorem d_M_play_55 : decode b_M_play 55 = .ok (.invokevirtual 119, 3) := by decide +kernel
theorem d_M_play_58 : decode b_M_play 58 = .ok (.istore 6, 2) := by decide +kernel
theorem d_M_play_60 : decode b_M_play 60 = .ok (.aload_n 0, 1) := by decide +kernel
theorem d_M_play_61 : decode b_M_play 61 = .ok (.iconst 2, 1) := by decide +kernel
theorem d_M_play_62 : decode b_M_play 62 = .ok (.invokevirtual 119, 3) := by decide +kernel
theorem d_M_play_65 : decode b_M_play 65 = .ok (.istore 7, 2) := by decide +kernel
theorem d_M_play_67 : decode b_M_play 67 = .ok (.aload_n 0, 1) := by decide +kernel
theorem d_M_play_68 : decode b_M_play 68 = .ok (.iconst 3, 1) := by decide +kernel
theorem d_M_play_69 : decode b_M_play 69 = .ok (.invokevirtual 119, 3) := by decide +kernel
theorem d_M_play_72 : decode b_M_play 72 = .ok (.i2l, 1) := by decide +kernel
theorem d_M_play_73 : decode b_M_play 73 = .ok (.lstore 8, 2) := by decide +kernel
theorem d_M_play_75 : decode b_M_play 75 = .ok (.aload_n 0, 1) := by decide +kernel
theorem d_M_play_76 : decode b_M_play 76 = .ok (.iload 5, 2) := by decide +kernel
theorem d_M_play_78 : decode b_M_play 78 = .ok (.iload 6, 2) := by decide +kernel
theorem d_M_play_80 : decode b_M_play 80 = .ok (.iload 7, 2) := by decide +kernel
theorem d_M_play_82 : decode b_M_play 82 = .ok (.lload 8, 2) := by decide +kernel
theorem d_M_play_84 : decode b_M_play 84 = .ok (.aload_n 0, 1) := by decide +kernel
theorem d_M_play_85 : decode b_M_play 85 = .ok (.iconst 5, 1) := by decide +kernel
theorem d_M_play_86 : decode b_M_play 86 = .ok (.invokevirtual 119, 3) := by decide +kernel
theorem d_M_play_89 : decode b_M_play 89 = .ok (.i2l, 1) := by decide +kernel
theorem d_M_play_90 : decode b_M_play 90 = .ok (.invokevirtual 122, 3) := by decide +kernel
theorem d_M_play_93 : decode b_M_play 93 = .ok (.istore 10, 2) := by decide +kernel
theorem d_M_play_95 : decode b_M_play 95 = .ok (.goto 19, 3) := by decide +kernel
theorem d_M_play_98 : decode b_M_play 98 = .ok (.aload_n 0, 1) := by decide +kernel
theorem d_M_play_99 : decode b_M_play 99 = .ok (.iload 5, 2) := by decide +kernel
theorem d_M_play_101 : decode b_M_play 101 = .ok (.aload_n 0, 1) := by decide +kernel
theorem d_M_play_102 : decode b_M_play 102 = .ok (.aload_n 0, 1) := by decide +kernel
theorem d_M_play_103 : decode b_M_play 103 = .ok (.getfield 55, 3) := by decide +kernel
theorem d_M_play_106 : decode b_M_play 106 = .ok (.invokevirtual 119, 3) := by decide +kernel
theorem d_M_play_109 : decode b_M_play 109 = .ok (.invokevirtual 125, 3) := by decide +kernel
theorem d_M_play_112 : decode b_M_play 112 = .ok (.istore 6, 2) := by decide +kernel
theorem d_M_play_114 : decode b_M_play 114 = .ok (.iinc 4 1, 3) := by decide +kernel
theorem d_M_play_117 : decode b_M_play 117 = .ok (.goto (-89), 3) := by decide +kernel
theorem d_M_play_120 : decode b_M_play 120 = .ok (.iconst 0, 1) := by decide +kernel
theorem d_M_play_121 : decode b_M_play 121 = .ok (.istore 4, 2) := by decide +kernel
theorem d_M_play_123 : decode b_M_play 123 = .ok (.iconst 0, 1) := by decide +kernel
theorem d_M_play_124 : decode b_M_play 124 = .ok (.istore 5, 2) := by decide +kernel
theorem d_M_play_126 : decode b_M_play 126 = .ok (.iload 5, 2) := by decide +kernel
theorem d_M_play_128 : decode b_M_play 128 = .ok (.aload_n 0, 1) := by decide +kernel
theorem d_M_play_129 : decode b_M_play 129 = .ok (.getfield 55, 3) := by decide +kernel
theorem d_M_play_132 : decode b_M_play 132 = .ok (.if_icmp .ge 20, 3) := by decide +kernel
theorem d_M_play_135 : decode b_M_play 135 = .ok (.iload 4, 2) := by decide +kernel
theorem d_M_play_137 : decode b_M_play 137 = .ok (.aload_n 0, 1) := by decide +kernel
theorem d_M_play_138 : decode b_M_play 138 = .ok (.iload 5, 2) := by decide +kernel
theorem d_M_play_140 : decode b_M_play 140 = .ok (.invokevirtual 128, 3) := by decide +kernel
theorem d_M_play_143 : decode b_M_play 143 = .ok (.iadd, 1) := by decide +kernel
theorem d_M_play_144 : decode b_M_play 144 = .ok (.istore 4, 2) := by decide +kernel
theorem d_M_play_146 : decode b_M_play 146 = .ok (.iinc 5 1, 3) := by decide +kernel
theorem d_M_play_149 : decode b_M_play 149 = .ok (.goto (-23), 3) := by decide +kernel
theorem d_M_play_152 : decode b_M_play 152 = .ok (.iload 4, 2) := by decide +kernel
theorem d_M_play_154 : decode b_M_play 154 = .ok (.ireturn, 1) := by decide +kernel
end
section
def bI (b : Bool) : Int32 := if b = true then 1 else 0
abbrev nF (g : Nat → Nat) : Nat → Int32 := fun j => nI (g j)
def Kx (D : va_G) (tys : List (ClassId × FieldType)) (U : State) : Prop := va_K D vwCl tys U ∧ (∀ w ∈ NW, va_Nw w U) ∧ va_AO R_K U
theorem Kx.same {D : va_G} {tys : List (ClassId × FieldType)} {u U : State} (h : Kx D tys u) (hv : u.vm = U.vm) : Kx D tys U :=
  ⟨va_K.moved (by rw [hv]; exact Vm.Alike.refl U.vm) h.1, fun w hw => va_Nw.same (NW_on w hw) hv (h.2.1 w hw), va_AO.moved (by rw [hv]; exact Vm.Alike.refl U.vm) h.2.2⟩
theorem Kx.warm {D : va_G} {tys : List (ClassId × FieldType)} {u U : State} (h : Kx D tys u) (hW : u.WarmedH U.vm) : Kx D tys U :=
  ⟨va_K.moved hW.alike h.1, fun w hw => NW_warm w hw hW (h.2.1 w hw), va_AO.moved hW.alike h.2.2⟩
def Fx (p : Program) (m : MethodId) (meth : Method) (c : Code) (cc : ByteArray) (nL : Nat) (s : State) (args : Array Value) (own : String) (D : va_G) (tys : List (ClassId × FieldType)) (A : Nat → Prop) : Prop :=
  CallFix p m c cc nL s args TB own ∧ Kx D tys s ∧ (∀ q : Nat, s.heap.size ≤ q → A q) ∧ meth.locks = false
def V (p : Program) (l : Launch) (e : Env) (R : Room) (s : State) (m : MethodId) (args : Array Value) (below : List Frame) (meth : Method) (c : Code) (D : va_G) (A : Nat → Prop) (nL cells slots : Nat) (Q : State → Prop) (ws : va_W) (lv : List (Nat × Value)) (pc : Nat) (st : List Value) : Prop :=
  ∀ (H : Heap) (locs : List Loc) (ls : Array Slot), va_P D vwCl ws H → va_D A ws → va_S A s.heap H locs → lv_has ls nL lv → W p l e R s m args below meth c H locs cells slots Q (F0 m pc ls st)
section VV
variable {p : Program} {l : Launch} {e : Env} {R : Room} {s : State} {m : MethodId} {args : Array Value} {below : List Frame} {meth : Method} {c : Code} {cc : ByteArray} {nL cells slots : Nat} {own : String} {D : va_G} {tys : List (ClassId × FieldType)} {A : Nat → Prop} {Q : State → Prop} {ws : va_W} {lv : List (Nat × Value)} {pc : Nat} {st : List Value}
theorem V.ws_eq {ws2 : va_W} (h : ws = ws2) (kk : V p l e R s m args below meth c D A nL cells slots Q (ws2) (lv) (pc) (st)) : V p l e R s m args below meth c D A nL cells slots Q (ws) (lv) (pc) (st) := h ▸ kk
theorem V.st_eq {st2 : List Value} (h : st = st2) (kk : V p l e R s m args below meth c D A nL cells slots Q (ws) (lv) (pc) (st2)) : V p l e R s m args below meth c D A nL cells slots Q (ws) (lv) (pc) (st) := h ▸ kk
theorem V.lvs {lv2 : List (Nat × Value)} (ks : List Nat) (h : lv_pick lv ks = lv2) (kk : V p l e R s m args below meth c D A nL cells slots Q (ws) (lv2) (pc) (st)) : V p l e R s m args below meth c D A nL cells slots Q (ws) (lv) (pc) (st) := fun H locs ls hP hD hS hl => kk H locs ls hP hD hS (lv_sub hl ks h)
theorem V.widen {k n : Nat} (h1 : cells ≤ k) (h2 : slots ≤ n) (kk : V p l e R s m args below meth c D A nL k n Q (ws) (lv) (pc) (st)) : V p l e R s m args below meth c D A nL cells slots Q (ws) (lv) (pc) (st) := fun H locs ls hP hD hS hl => W.widen h1 h2 (kk H locs ls hP hD hS hl)
theorem V.ws_sub {ws2 : va_W} (g : ∀ H, va_P D vwCl ws H → va_P D vwCl ws2 H) (g2 : va_D A ws → va_D A ws2) (kk : V p l e R s m args below meth c D A nL cells slots Q (ws2) (lv) (pc) (st)) : V p l e R s m args below meth c D A nL cells slots Q (ws) (lv) (pc) (st) := fun H locs ls hP hD hS hl => kk H locs ls (g H hP) (g2 hD) hS hl
theorem V.iconst (F : Fx p m meth c cc nL s args own D tys A) {n : Int} {v : Int32} (hd : decode cc pc = .ok (.iconst n, 1)) (hv : Int32.ofInt n = v) (kk : V p l e R s m args below meth c D A nL cells slots Q (ws) (lv) (pc + 1) (.int v :: st)) : V p l e R s m args below meth c D A nL cells slots Q (ws) (lv) (pc) (st) := fun H locs ls hP hD hS hl => lv_iconst F.1.1 F.1.2.1 hd hv (kk H locs ls hP hD hS hl)
theorem V.bipush (F : Fx p m meth c cc nL s args own D tys A) {n : Int} {v : Int32} (hd : decode cc pc = .ok (.bipush n, 2)) (hv : (Int8.ofInt n).toInt32 = v) (kk : V p l e R s m args below meth c D A nL cells slots Q (ws) (lv) (pc + 2) (.int v :: st)) : V p l e R s m args below meth c D A nL cells slots Q (ws) (lv) (pc) (st) := fun H locs ls hP hD hS hl => lv_bipush F.1.1 F.1.2.1 hd hv (kk H locs ls hP hD hS hl)
theorem V.sipush (F : Fx p m meth c cc nL s args own D tys A) {n : Int} {v : Int32} (hd : decode cc pc = .ok (.sipush n, 3)) (hv : (Int16.ofInt n).toInt32 = v) (kk : V p l e R s m args below meth c D A nL cells slots Q (ws) (lv) (pc + 3) (.int v :: st)) : V p l e R s m args below meth c D A nL cells slots Q (ws) (lv) (pc) (st) := fun H locs ls hP hD hS hl => lv_sipush F.1.1 F.1.2.1 hd hv (kk H locs ls hP hD hS hl)
theorem V.lconst (F : Fx p m meth c cc nL s args own D tys A) {n : Fin 2} {v : Int64} (hd : decode cc pc = .ok (.lconst n, 1)) (hv : Int64.ofNat (n : Nat) = v) (kk : V p l e R s m args below meth c D A nL cells slots Q (ws) (lv) (pc + 1) (.long v :: st)) : V p l e R s m args below meth c D A nL cells slots Q (ws) (lv) (pc) (st) := fun H locs ls hP hD hS hl => lv_lconst F.1.1 F.1.2.1 hd hv (kk H locs ls hP hD hS hl)
theorem V.ldc (F : Fx p m meth c cc nL s args own D tys A) {index : Nat} {v : Int32} (hd : decode cc pc = .ok (.ldc index, 2)) (hc : Cond.constant own index v ∈ TB) (kk : V p l e R s m args below meth c D A nL cells slots Q (ws) (lv) (pc + 2) (.int v :: st)) : V p l e R s m args below meth c D A nL cells slots Q (ws) (lv) (pc) (st) := fun H locs ls hP hD hS hl => lv_ldc F.1.1 F.1.2.1 F.1.2.2.2.1 (F.1.2.2.2.2 _ hc) hd (kk H locs ls hP hD hS hl)
theorem V.ldc2 (F : Fx p m meth c cc nL s args own D tys A) {index : Nat} {v : Int64} (hd : decode cc pc = .ok (.ldc2_w index, 3)) (hc : Cond.constantLong own index v ∈ TB) (kk : V p l e R s m args below meth c D A nL cells slots Q (ws) (lv) (pc + 3) (.long v :: st)) : V p l e R s m args below meth c D A nL cells slots Q (ws) (lv) (pc) (st) := fun H locs ls hP hD hS hl => lv_ldc2 F.1.1 F.1.2.1 F.1.2.2.2.1 (F.1.2.2.2.2 _ hc) hd (kk H locs ls hP hD hS hl)
theorem V.iload_n (F : Fx p m meth c cc nL s args own D tys A) {k : Fin 4} {i : Nat} {x : Int32} (hd : decode cc pc = .ok (.iload_n k, 1)) (hi : (k : Nat) = i) (j : Nat) (hj : lv[j]? = some (i, .int x)) (kk : V p l e R s m args below meth c D A nL cells slots Q (ws) (lv) (pc + 1) (.int x :: st)) : V p l e R s m args below meth c D A nL cells slots Q (ws) (lv) (pc) (st) := fun H locs ls hP hD hS hl => lv_iload_n F.1.1 F.1.2.1 hd hi (lv_at hl j hj) (kk H locs ls hP hD hS hl)
theorem V.iload (F : Fx p m meth c cc nL s args own D tys A) {i : Nat} {x : Int32} (hd : decode cc pc = .ok (.iload i, 2)) (j : Nat) (hj : lv[j]? = some (i, .int x)) (kk : V p l e R s m args below meth c D A nL cells slots Q (ws) (lv) (pc + 2) (.int x :: st)) : V p l e R s m args below meth c D A nL cells slots Q (ws) (lv) (pc) (st) := fun H locs ls hP hD hS hl => lv_iload F.1.1 F.1.2.1 hd (lv_at hl j hj) (kk H locs ls hP hD hS hl)
theorem V.istore_n (F : Fx p m meth c cc nL s args own D tys A) {k : Fin 4} {i : Nat} {x : Int32} {lv2 : List (Nat × Value)} (hd : decode cc pc = .ok (.istore_n k, 1)) (hi : (k : Nat) = i) (hn : i < nL) (h2 : (i, Value.int x) :: lv.filter (fun q => !(q.1 == i) && !(q.1 + 1 == i && q.2.category == 2)) = lv2) (kk : V p l e R s m args below meth c D A nL cells slots Q (ws) (lv2) (pc + 1) (st)) : V p l e R s m args below meth c D A nL cells slots Q (ws) (lv) (pc) (.int x :: st) := fun H locs ls hP hD hS hl => lv_istore_n F.1.1 F.1.2.1 hd hi hl hn h2 (fun ls2 hl2 => kk H locs ls2 hP hD hS hl2)
theorem V.istore (F : Fx p m meth c cc nL s args own D tys A) {i : Nat} {x : Int32} {lv2 : List (Nat × Value)} (hd : decode cc pc = .ok (.istore i, 2)) (hn : i < nL) (h2 : (i, Value.int x) :: lv.filter (fun q => !(q.1 == i) && !(q.1 + 1 == i && q.2.category == 2)) = lv2) (kk : V p l e R s m args below meth c D A nL cells slots Q (ws) (lv2) (pc + 2) (st)) : V p l e R s m args below meth c D A nL cells slots Q (ws) (lv) (pc) (.int x :: st) := fun H locs ls hP hD hS hl => lv_istore F.1.1 F.1.2.1 hd hl hn h2 (fun ls2 hl2 => kk H locs ls2 hP hD hS hl2)
theorem V.lload_n (F : Fx p m meth c cc nL s args own D tys A) {k : Fin 4} {i : Nat} {x : Int64} (hd : decode cc pc = .ok (.lload_n k, 1)) (hi : (k : Nat) = i) (j : Nat) (hj : lv[j]? = some (i, .long x)) (kk : V p l e R s m args below meth c D A nL cells slots Q (ws) (lv) (pc + 1) (.long x :: st)) : V p l e R s m args below meth c D A nL cells slots Q (ws) (lv) (pc) (st) := fun H locs ls hP hD hS hl => lv_lload_n F.1.1 F.1.2.1 hd hi (lv_at hl j hj) (kk H locs ls hP hD hS hl)
theorem V.lload (F : Fx p m meth c cc nL s args own D tys A) {i : Nat} {x : Int64} (hd : decode cc pc = .ok (.lload i, 2)) (j : Nat) (hj : lv[j]? = some (i, .long x)) (kk : V p l e R s m args below meth c D A nL cells slots Q (ws) (lv) (pc + 2) (.long x :: st)) : V p l e R s m args below meth c D A nL cells slots Q (ws) (lv) (pc) (st) := fun H locs ls hP hD hS hl => lv_lload F.1.1 F.1.2.1 hd (lv_at hl j hj) (kk H locs ls hP hD hS hl)
theorem V.lstore_n (F : Fx p m meth c cc nL s args own D tys A) {k : Fin 4} {i : Nat} {x : Int64} {lv2 : List (Nat × Value)} (hd : decode cc pc = .ok (.lstore_n k, 1)) (hi : (k : Nat) = i) (hn : i + 1 < nL) (h2 : (i, Value.long x) :: lv.filter (fun q => !(q.1 == i) && (!(q.1 == i + 1) && !(q.1 + 1 == i && q.2.category == 2))) = lv2) (kk : V p l e R s m args below meth c D A nL cells slots Q (ws) (lv2) (pc + 1) (st)) : V p l e R s m args below meth c D A nL cells slots Q (ws) (lv) (pc) (.long x :: st) := fun H locs ls hP hD hS hl => lv_lstore_n F.1.1 F.1.2.1 hd hi hl hn h2 (fun ls2 hl2 => kk H locs ls2 hP hD hS hl2)
theorem V.lstore (F : Fx p m meth c cc nL s args own D tys A) {i : Nat} {x : Int64} {lv2 : List (Nat × Value)} (hd : decode cc pc = .ok (.lstore i, 2)) (hn : i + 1 < nL) (h2 : (i, Value.long x) :: lv.filter (fun q => !(q.1 == i) && (!(q.1 == i + 1) && !(q.1 + 1 == i && q.2.category == 2))) = lv2) (kk : V p l e R s m args below meth c D A nL cells slots Q (ws) (lv2) (pc + 2) (st)) : V p l e R s m args below meth c D A nL cells slots Q (ws) (lv) (pc) (.long x :: st) := fun H locs ls hP hD hS hl => lv_lstore F.1.1 F.1.2.1 hd hl hn h2 (fun ls2 hl2 => kk H locs ls2 hP hD hS hl2)
theorem V.aload_n (F : Fx p m meth c cc nL s args own D tys A) {k : Fin 4} {i : Nat} {x : Nat} (hd : decode cc pc = .ok (.aload_n k, 1)) (hi : (k : Nat) = i) (j : Nat) (hj : lv[j]? = some (i, .ref x)) (kk : V p l e R s m args below meth c D A nL cells slots Q (ws) (lv) (pc + 1) (.ref x :: st)) : V p l e R s m args below meth c D A nL cells slots Q (ws) (lv) (pc) (st) := fun H locs ls hP hD hS hl => lv_aload_n F.1.1 F.1.2.1 hd hi (lv_at hl j hj) (kk H locs ls hP hD hS hl)
theorem V.aload (F : Fx p m meth c cc nL s args own D tys A) {i : Nat} {x : Nat} (hd : decode cc pc = .ok (.aload i, 2)) (j : Nat) (hj : lv[j]? = some (i, .ref x)) (kk : V p l e R s m args below meth c D A nL cells slots Q (ws) (lv) (pc + 2) (.ref x :: st)) : V p l e R s m args below meth c D A nL cells slots Q (ws) (lv) (pc) (st) := fun H locs ls hP hD hS hl => lv_aload F.1.1 F.1.2.1 hd (lv_at hl j hj) (kk H locs ls hP hD hS hl)
theorem V.astore_n (F : Fx p m meth c cc nL s args own D tys A) {k : Fin 4} {i : Nat} {x : Nat} {lv2 : List (Nat × Value)} (hd : decode cc pc = .ok (.astore_n k, 1)) (hi : (k : Nat) = i) (hn : i < nL) (h2 : (i, Value.ref x) :: lv.filter (fun q => !(q.1 == i) && !(q.1 + 1 == i && q.2.category == 2)) = lv2) (kk : V p l e R s m args below meth c D A nL cells slots Q (ws) (lv2) (pc + 1) (st)) : V p l e R s m args below meth c D A nL cells slots Q (ws) (lv) (pc) (.ref x :: st) := fun H locs ls hP hD hS hl => lv_astore_n F.1.1 F.1.2.1 hd hi hl hn h2 (fun ls2 hl2 => kk H locs ls2 hP hD hS hl2)
theorem V.astore (F : Fx p m meth c cc nL s args own D tys A) {i : Nat} {x : Nat} {lv2 : List (Nat × Value)} (hd : decode cc pc = .ok (.astore i, 2)) (hn : i < nL) (h2 : (i, Value.ref x) :: lv.filter (fun q => !(q.1 == i) && !(q.1 + 1 == i && q.2.category == 2)) = lv2) (kk : V p l e R s m args below meth c D A nL cells slots Q (ws) (lv2) (pc + 2) (st)) : V p l e R s m args below meth c D A nL cells slots Q (ws) (lv) (pc) (.ref x :: st) := fun H locs ls hP hD hS hl => lv_astore F.1.1 F.1.2.1 hd hl hn h2 (fun ls2 hl2 => kk H locs ls2 hP hD hS hl2)
theorem V.aload_nN (F : Fx p m meth c cc nL s args own D tys A) {k : Fin 4} {i : Nat} (hd : decode cc pc = .ok (.aload_n k, 1)) (hi : (k : Nat) = i) (j : Nat) (hj : lv[j]? = some (i, .null)) (kk : V p l e R s m args below meth c D A nL cells slots Q (ws) (lv) (pc + 1) (.null :: st)) : V p l e R s m args below meth c D A nL cells slots Q (ws) (lv) (pc) (st) := fun H locs ls hP hD hS hl => lv_aload_nN F.1.1 F.1.2.1 hd hi (lv_at hl j hj) (kk H locs ls hP hD hS hl)
theorem V.aloadN (F : Fx p m meth c cc nL s args own D tys A) {i : Nat} (hd : decode cc pc = .ok (.aload i, 2)) (j : Nat) (hj : lv[j]? = some (i, .null)) (kk : V p l e R s m args below meth c D A nL cells slots Q (ws) (lv) (pc + 2) (.null :: st)) : V p l e R s m args below meth c D A nL cells slots Q (ws) (lv) (pc) (st) := fun H locs ls hP hD hS hl => lv_aloadN F.1.1 F.1.2.1 hd (lv_at hl j hj) (kk H locs ls hP hD hS hl)
theorem V.astore_nN (F : Fx p m meth c cc nL s args own D tys A) {k : Fin 4} {i : Nat} {lv2 : List (Nat × Value)} (hd : decode cc pc = .ok (.astore_n k, 1)) (hi : (k : Nat) = i) (hn : i < nL) (h2 : (i, Value.null) :: lv.filter (fun q => !(q.1 == i) && !(q.1 + 1 == i && q.2.category == 2)) = lv2) (kk : V p l e R s m args below meth c D A nL cells slots Q (ws) (lv2) (pc + 1) (st)) : V p l e R s m args below meth c D A nL cells slots Q (ws) (lv) (pc) (.null :: st) := fun H locs ls hP hD hS hl => lv_astore_nN F.1.1 F.1.2.1 hd hi hl hn h2 (fun ls2 hl2 => kk H locs ls2 hP hD hS hl2)
theorem V.astoreN (F : Fx p m meth c cc nL s args own D tys A) {i : Nat} {lv2 : List (Nat × Value)} (hd : decode cc pc = .ok (.astore i, 2)) (hn : i < nL) (h2 : (i, Value.null) :: lv.filter (fun q => !(q.1 == i) && !(q.1 + 1 == i && q.2.category == 2)) = lv2) (kk : V p l e R s m args below meth c D A nL cells slots Q (ws) (lv2) (pc + 2) (st)) : V p l e R s m args below meth c D A nL cells slots Q (ws) (lv) (pc) (.null :: st) := fun H locs ls hP hD hS hl => lv_astoreN F.1.1 F.1.2.1 hd hl hn h2 (fun ls2 hl2 => kk H locs ls2 hP hD hS hl2)
theorem V.iinc (F : Fx p m meth c cc nL s args own D tys A) {i : Nat} {n : Int} {x v : Int32} {lv2 : List (Nat × Value)} (hd : decode cc pc = .ok (.iinc i n, 3)) (j : Nat) (hj : lv[j]? = some (i, .int x)) (hv : x + Int32.ofInt n = v) (hn : i < nL) (h2 : (i, Value.int v) :: lv.filter (fun q => !(q.1 == i) && !(q.1 + 1 == i && q.2.category == 2)) = lv2) (kk : V p l e R s m args below meth c D A nL cells slots Q (ws) (lv2) (pc + 3) (st)) : V p l e R s m args below meth c D A nL cells slots Q (ws) (lv) (pc) (st) := fun H locs ls hP hD hS hl => lv_iinc F.1.1 F.1.2.1 hd hl hj hv hn h2 (fun ls2 hl2 => kk H locs ls2 hP hD hS hl2)
theorem V.iadd (F : Fx p m meth c cc nL s args own D tys A) {x y v : Int32} (hd : decode cc pc = .ok (.iadd, 1)) (hv : x + y = v) (kk : V p l e R s m args below meth c D A nL cells slots Q (ws) (lv) (pc + 1) (.int v :: st)) : V p l e R s m args below meth c D A nL cells slots Q (ws) (lv) (pc) (.int y :: .int x :: st) := fun H locs ls hP hD hS hl => lv_iadd F.1.1 F.1.2.1 hd (hv ▸ (kk H locs ls hP hD hS hl))
theorem V.isub (F : Fx p m meth c cc nL s args own D tys A) {x y v : Int32} (hd : decode cc pc = .ok (.isub, 1)) (hv : x - y = v) (kk : V p l e R s m args below meth c D A nL cells slots Q (ws) (lv) (pc + 1) (.int v :: st)) : V p l e R s m args below meth c D A nL cells slots Q (ws) (lv) (pc) (.int y :: .int x :: st) := fun H locs ls hP hD hS hl => lv_isub F.1.1 F.1.2.1 hd (hv ▸ (kk H locs ls hP hD hS hl))
theorem V.imul (F : Fx p m meth c cc nL s args own D tys A) {x y v : Int32} (hd : decode cc pc = .ok (.imul, 1)) (hv : x * y = v) (kk : V p l e R s m args below meth c D A nL cells slots Q (ws) (lv) (pc + 1) (.int v :: st)) : V p l e R s m args below meth c D A nL cells slots Q (ws) (lv) (pc) (.int y :: .int x :: st) := fun H locs ls hP hD hS hl => lv_imul F.1.1 F.1.2.1 hd (hv ▸ (kk H locs ls hP hD hS hl))
theorem V.iand (F : Fx p m meth c cc nL s args own D tys A) {x y v : Int32} (hd : decode cc pc = .ok (.iand, 1)) (hv : x &&& y = v) (kk : V p l e R s m args below meth c D A nL cells slots Q (ws) (lv) (pc + 1) (.int v :: st)) : V p l e R s m args below meth c D A nL cells slots Q (ws) (lv) (pc) (.int y :: .int x :: st) := fun H locs ls hP hD hS hl => lv_iand F.1.1 F.1.2.1 hd (hv ▸ (kk H locs ls hP hD hS hl))
theorem V.ior (F : Fx p m meth c cc nL s args own D tys A) {x y v : Int32} (hd : decode cc pc = .ok (.ior, 1)) (hv : x ||| y = v) (kk : V p l e R s m args below meth c D A nL cells slots Q (ws) (lv) (pc + 1) (.int v :: st)) : V p l e R s m args below meth c D A nL cells slots Q (ws) (lv) (pc) (.int y :: .int x :: st) := fun H locs ls hP hD hS hl => lv_ior F.1.1 F.1.2.1 hd (hv ▸ (kk H locs ls hP hD hS hl))
theorem V.ladd (F : Fx p m meth c cc nL s args own D tys A) {x y v : Int64} (hd : decode cc pc = .ok (.ladd, 1)) (hv : x + y = v) (kk : V p l e R s m args below meth c D A nL cells slots Q (ws) (lv) (pc + 1) (.long v :: st)) : V p l e R s m args below meth c D A nL cells slots Q (ws) (lv) (pc) (.long y :: .long x :: st) := fun H locs ls hP hD hS hl => lv_ladd F.1.1 F.1.2.1 hd (hv ▸ (kk H locs ls hP hD hS hl))
theorem V.lsub (F : Fx p m meth c cc nL s args own D tys A) {x y v : Int64} (hd : decode cc pc = .ok (.lsub, 1)) (hv : x - y = v) (kk : V p l e R s m args below meth c D A nL cells slots Q (ws) (lv) (pc + 1) (.long v :: st)) : V p l e R s m args below meth c D A nL cells slots Q (ws) (lv) (pc) (.long y :: .long x :: st) := fun H locs ls hP hD hS hl => lv_lsub F.1.1 F.1.2.1 hd (hv ▸ (kk H locs ls hP hD hS hl))
theorem V.lmul (F : Fx p m meth c cc nL s args own D tys A) {x y v : Int64} (hd : decode cc pc = .ok (.lmul, 1)) (hv : x * y = v) (kk : V p l e R s m args below meth c D A nL cells slots Q (ws) (lv) (pc + 1) (.long v :: st)) : V p l e R s m args below meth c D A nL cells slots Q (ws) (lv) (pc) (.long y :: .long x :: st) := fun H locs ls hP hD hS hl => lv_lmul F.1.1 F.1.2.1 hd (hv ▸ (kk H locs ls hP hD hS hl))
theorem V.land (F : Fx p m meth c cc nL s args own D tys A) {x y v : Int64} (hd : decode cc pc = .ok (.land, 1)) (hv : x &&& y = v) (kk : V p l e R s m args below meth c D A nL cells slots Q (ws) (lv) (pc + 1) (.long v :: st)) : V p l e R s m args below meth c D A nL cells slots Q (ws) (lv) (pc) (.long y :: .long x :: st) := fun H locs ls hP hD hS hl => lv_land F.1.1 F.1.2.1 hd (hv ▸ (kk H locs ls hP hD hS hl))
theorem V.lor (F : Fx p m meth c cc nL s args own D tys A) {x y v : Int64} (hd : decode cc pc = .ok (.lor, 1)) (hv : x ||| y = v) (kk : V p l e R s m args below meth c D A nL cells slots Q (ws) (lv) (pc + 1) (.long v :: st)) : V p l e R s m args below meth c D A nL cells slots Q (ws) (lv) (pc) (.long y :: .long x :: st) := fun H locs ls hP hD hS hl => lv_lor F.1.1 F.1.2.1 hd (hv ▸ (kk H locs ls hP hD hS hl))
theorem V.lxor (F : Fx p m meth c cc nL s args own D tys A) {x y v : Int64} (hd : decode cc pc = .ok (.lxor, 1)) (hv : x ^^^ y = v) (kk : V p l e R s m args below meth c D A nL cells slots Q (ws) (lv) (pc + 1) (.long v :: st)) : V p l e R s m args below meth c D A nL cells slots Q (ws) (lv) (pc) (.long y :: .long x :: st) := fun H locs ls hP hD hS hl => lv_lxor F.1.1 F.1.2.1 hd (hv ▸ (kk H locs ls hP hD hS hl))
theorem V.idivN (F : Fx p m meth c cc nL s args own D tys A) {a d : Nat} (hd : decode cc pc = .ok (.idiv, 1)) (ha : a < 2 ^ 31) (h0 : 0 < d) (h1 : d < 2 ^ 31) (kk : V p l e R s m args below meth c D A nL cells slots Q (ws) (lv) (pc + 1) (.int (nI (a / d)) :: st)) : V p l e R s m args below meth c D A nL cells slots Q (ws) (lv) (pc) (.int (nI d) :: .int (nI a) :: st) := fun H locs ls hP hD hS hl => lv_idiv F.1.1 F.1.2.1 hd (nI_ne0 h0 h1) ((pk_div ha h0 h1).symm ▸ (kk H locs ls hP hD hS hl))
theorem V.iremN (F : Fx p m meth c cc nL s args own D tys A) {a d : Nat} (hd : decode cc pc = .ok (.irem, 1)) (ha : a < 2 ^ 31) (h0 : 0 < d) (h1 : d < 2 ^ 31) (kk : V p l e R s m args below meth c D A nL cells slots Q (ws) (lv) (pc + 1) (.int (nI (a % d)) :: st)) : V p l e R s m args below meth c D A nL cells slots Q (ws) (lv) (pc) (.int (nI d) :: .int (nI a) :: st) := fun H locs ls hP hD hS hl => lv_irem F.1.1 F.1.2.1 hd (nI_ne0 h0 h1) ((pk_rem ha h0 h1).symm ▸ (kk H locs ls hP hD hS hl))
theorem V.lremN (F : Fx p m meth c cc nL s args own D tys A) {a d : Nat} (hd : decode cc pc = .ok (.lrem, 1)) (ha : a < 2 ^ 63) (h0 : 0 < d) (h1 : d < 2 ^ 63) (kk : V p l e R s m args below meth c D A nL cells slots Q (ws) (lv) (pc + 1) (.long (lN (a % d)) :: st)) : V p l e R s m args below meth c D A nL cells slots Q (ws) (lv) (pc) (.long (lN d) :: .long (lN a) :: st) := fun H locs ls hP hD hS hl => lv_lrem F.1.1 F.1.2.1 hd (fun q => absurd ((pk_lEQ h1 (by decide)).mp q) (Nat.ne_of_gt h0)) ((pk_lRem ha h0 h1).symm ▸ (kk H locs ls hP hD hS hl))
theorem V.iaddN (F : Fx p m meth c cc nL s args own D tys A) {a b : Nat} (hd : decode cc pc = .ok (.iadd, 1)) (kk : V p l e R s m args below meth c D A nL cells slots Q (ws) (lv) (pc + 1) (.int (nI (a + b)) :: st)) : V p l e R s m args below meth c D A nL cells slots Q (ws) (lv) (pc) (.int (nI b) :: .int (nI a) :: st) := fun H locs ls hP hD hS hl => lv_iadd F.1.1 F.1.2.1 hd ((nI_add a b).symm ▸ (kk H locs ls hP hD hS hl))
theorem V.imulN (F : Fx p m meth c cc nL s args own D tys A) {a b : Nat} (hd : decode cc pc = .ok (.imul, 1)) (kk : V p l e R s m args below meth c D A nL cells slots Q (ws) (lv) (pc + 1) (.int (nI (a * b)) :: st)) : V p l e R s m args below meth c D A nL cells slots Q (ws) (lv) (pc) (.int (nI b) :: .int (nI a) :: st) := fun H locs ls hP hD hS hl => lv_imul F.1.1 F.1.2.1 hd ((pk_mul a b).symm ▸ (kk H locs ls hP hD hS hl))
theorem V.isubN (F : Fx p m meth c cc nL s args own D tys A) {a b : Nat} (hd : decode cc pc = .ok (.isub, 1)) (h : b ≤ a) (kk : V p l e R s m args below meth c D A nL cells slots Q (ws) (lv) (pc + 1) (.int (nI (a - b)) :: st)) : V p l e R s m args below meth c D A nL cells slots Q (ws) (lv) (pc) (.int (nI b) :: .int (nI a) :: st) := fun H locs ls hP hD hS hl => lv_isub F.1.1 F.1.2.1 hd ((pk_sub h).symm ▸ (kk H locs ls hP hD hS hl))
theorem V.iincN (F : Fx p m meth c cc nL s args own D tys A) {i a k : Nat} {n : Int} {lv2 : List (Nat × Value)} (hd : decode cc pc = .ok (.iinc i n, 3)) (j : Nat) (hj : lv[j]? = some (i, .int (nI a))) (hk : Int32.ofInt n = nI k) (hn : i < nL) (h2 : (i, Value.int (nI (a + k))) :: lv.filter (fun q => !(q.1 == i) && !(q.1 + 1 == i && q.2.category == 2)) = lv2) (kk : V p l e R s m args below meth c D A nL cells slots Q (ws) (lv2) (pc + 3) (st)) : V p l e R s m args below meth c D A nL cells slots Q (ws) (lv) (pc) (st) := fun H locs ls hP hD hS hl => lv_iinc F.1.1 F.1.2.1 hd hl hj (by rw [hk]; exact nI_add a k) hn h2 (fun ls2 hl2 => kk H locs ls2 hP hD hS hl2)
theorem V.idecN (F : Fx p m meth c cc nL s args own D tys A) {i a : Nat} {lv2 : List (Nat × Value)} (hd : decode cc pc = .ok (.iinc i (-1), 3)) (j : Nat) (hj : lv[j]? = some (i, .int (nI (a + 1)))) (hn : i < nL) (h2 : (i, Value.int (nI a)) :: lv.filter (fun q => !(q.1 == i) && !(q.1 + 1 == i && q.2.category == 2)) = lv2) (kk : V p l e R s m args below meth c D A nL cells slots Q (ws) (lv2) (pc + 3) (st)) : V p l e R s m args below meth c D A nL cells slots Q (ws) (lv) (pc) (st) := fun H locs ls hP hD hS hl => lv_iinc F.1.1 F.1.2.1 hd hl hj (pk_m1 a) hn h2 (fun ls2 hl2 => kk H locs ls2 hP hD hS hl2)
theorem V.lushr (F : Fx p m meth c cc nL s args own D tys A) {x v : Int64} {y : Int32} (hd : decode cc pc = .ok (.lushr, 1)) (hv : (x.toUInt64 >>> (y.toInt64.toUInt64 &&& Int64.toUInt64 63)).toInt64 = v) (kk : V p l e R s m args below meth c D A nL cells slots Q (ws) (lv) (pc + 1) (.long v :: st)) : V p l e R s m args below meth c D A nL cells slots Q (ws) (lv) (pc) (.int y :: .long x :: st) := fun H locs ls hP hD hS hl => lv_lushr F.1.1 F.1.2.1 hd hv (kk H locs ls hP hD hS hl)
theorem V.lshl (F : Fx p m meth c cc nL s args own D tys A) {x v : Int64} {y : Int32} (hd : decode cc pc = .ok (.lshl, 1)) (hv : x <<< (y.toInt64 &&& 63) = v) (kk : V p l e R s m args below meth c D A nL cells slots Q (ws) (lv) (pc + 1) (.long v :: st)) : V p l e R s m args below meth c D A nL cells slots Q (ws) (lv) (pc) (.int y :: .long x :: st) := fun H locs ls hP hD hS hl => lv_lshl F.1.1 F.1.2.1 hd hv (kk H locs ls hP hD hS hl)
theorem V.lshr (F : Fx p m meth c cc nL s args own D tys A) {x v : Int64} {y : Int32} (hd : decode cc pc = .ok (.lshr, 1)) (hv : x >>> (y.toInt64 &&& 63) = v) (kk : V p l e R s m args below meth c D A nL cells slots Q (ws) (lv) (pc + 1) (.long v :: st)) : V p l e R s m args below meth c D A nL cells slots Q (ws) (lv) (pc) (.int y :: .long x :: st) := fun H locs ls hP hD hS hl => lv_lshr F.1.1 F.1.2.1 hd hv (kk H locs ls hP hD hS hl)
theorem V.i2l (F : Fx p m meth c cc nL s args own D tys A) {x : Int32} {v : Int64} (hd : decode cc pc = .ok (.i2l, 1)) (hv : x.toInt64 = v) (kk : V p l e R s m args below meth c D A nL cells slots Q (ws) (lv) (pc + 1) (.long v :: st)) : V p l e R s m args below meth c D A nL cells slots Q (ws) (lv) (pc) (.int x :: st) := fun H locs ls hP hD hS hl => lv_i2l F.1.1 F.1.2.1 hd hv (kk H locs ls hP hD hS hl)
theorem V.l2i (F : Fx p m meth c cc nL s args own D tys A) {x : Int64} {v : Int32} (hd : decode cc pc = .ok (.l2i, 1)) (hv : x.toInt32 = v) (kk : V p l e R s m args below meth c D A nL cells slots Q (ws) (lv) (pc + 1) (.int v :: st)) : V p l e R s m args below meth c D A nL cells slots Q (ws) (lv) (pc) (.long x :: st) := fun H locs ls hP hD hS hl => lv_l2i F.1.1 F.1.2.1 hd hv (kk H locs ls hP hD hS hl)
theorem V.dup (F : Fx p m meth c cc nL s args own D tys A) {v : Value} (hd : decode cc pc = .ok (.dup, 1)) (hc : v.category = 1) (kk : V p l e R s m args below meth c D A nL cells slots Q (ws) (lv) (pc + 1) (v :: v :: st)) : V p l e R s m args below meth c D A nL cells slots Q (ws) (lv) (pc) (v :: st) := fun H locs ls hP hD hS hl => lv_dup F.1.1 F.1.2.1 hd hc (kk H locs ls hP hD hS hl)
theorem V.pop (F : Fx p m meth c cc nL s args own D tys A) {v : Value} (hd : decode cc pc = .ok (.pop, 1)) (hc : v.category = 1) (kk : V p l e R s m args below meth c D A nL cells slots Q (ws) (lv) (pc + 1) (st)) : V p l e R s m args below meth c D A nL cells slots Q (ws) (lv) (pc) (v :: st) := fun H locs ls hP hD hS hl => lv_pop F.1.1 F.1.2.1 hd hc (kk H locs ls hP hD hS hl)
theorem V.dup2_11 (F : Fx p m meth c cc nL s args own D tys A) {v w : Value} (hd : decode cc pc = .ok (.dup2, 1)) (h1 : v.category = 1) (h2 : w.category = 1) (kk : V p l e R s m args below meth c D A nL cells slots Q (ws) (lv) (pc + 1) (v :: w :: v :: w :: st)) : V p l e R s m args below meth c D A nL cells slots Q (ws) (lv) (pc) (v :: w :: st) := fun H locs ls hP hD hS hl => lv_dup2_11 F.1.1 F.1.2.1 hd h1 h2 (kk H locs ls hP hD hS hl)
theorem V.null (F : Fx p m meth c cc nL s args own D tys A) (hd : decode cc pc = .ok (.aconst_null, 1)) (kk : V p l e R s m args below meth c D A nL cells slots Q (ws) (lv) (pc + 1) (.null :: st)) : V p l e R s m args below meth c D A nL cells slots Q (ws) (lv) (pc) (st) := fun H locs ls hP hD hS hl => lv_null F.1.1 F.1.2.1 hd (kk H locs ls hP hD hS hl)
theorem V.if_eq (F : Fx p m meth c cc nL s args own D tys A) {x : Int32} {off : Int} {tgt : Nat} (hd : decode cc pc = .ok (.ifCond .eq off, 3)) (ht : (pc : Int) + off = (tgt : Int)) (kt : x = 0 → V p l e R s m args below meth c D A nL cells slots Q (ws) (lv) (tgt) (st)) (kf : ¬ x = 0 → V p l e R s m args below meth c D A nL cells slots Q (ws) (lv) (pc + 3) (st)) : V p l e R s m args below meth c D A nL cells slots Q (ws) (lv) (pc) (.int x :: st) := fun H locs ls hP hD hS hl => lv_if_eq F.1.1 F.1.2.1 hd ht (fun h => kt h H locs ls hP hD hS hl) (fun h => kf h H locs ls hP hD hS hl)
theorem V.if_ne (F : Fx p m meth c cc nL s args own D tys A) {x : Int32} {off : Int} {tgt : Nat} (hd : decode cc pc = .ok (.ifCond .ne off, 3)) (ht : (pc : Int) + off = (tgt : Int)) (kt : ¬ x = 0 → V p l e R s m args below meth c D A nL cells slots Q (ws) (lv) (tgt) (st)) (kf : x = 0 → V p l e R s m args below meth c D A nL cells slots Q (ws) (lv) (pc + 3) (st)) : V p l e R s m args below meth c D A nL cells slots Q (ws) (lv) (pc) (.int x :: st) := fun H locs ls hP hD hS hl => lv_if_ne F.1.1 F.1.2.1 hd ht (fun h => kt h H locs ls hP hD hS hl) (fun h => kf h H locs ls hP hD hS hl)
theorem V.if_lt (F : Fx p m meth c cc nL s args own D tys A) {x : Int32} {off : Int} {tgt : Nat} (hd : decode cc pc = .ok (.ifCond .lt off, 3)) (ht : (pc : Int) + off = (tgt : Int)) (kt : x < 0 → V p l e R s m args below meth c D A nL cells slots Q (ws) (lv) (tgt) (st)) (kf : ¬ x < 0 → V p l e R s m args below meth c D A nL cells slots Q (ws) (lv) (pc + 3) (st)) : V p l e R s m args below meth c D A nL cells slots Q (ws) (lv) (pc) (.int x :: st) := fun H locs ls hP hD hS hl => lv_if_lt F.1.1 F.1.2.1 hd ht (fun h => kt h H locs ls hP hD hS hl) (fun h => kf h H locs ls hP hD hS hl)
theorem V.if_ge (F : Fx p m meth c cc nL s args own D tys A) {x : Int32} {off : Int} {tgt : Nat} (hd : decode cc pc = .ok (.ifCond .ge off, 3)) (ht : (pc : Int) + off = (tgt : Int)) (kt : 0 ≤ x → V p l e R s m args below meth c D A nL cells slots Q (ws) (lv) (tgt) (st)) (kf : ¬ 0 ≤ x → V p l e R s m args below meth c D A nL cells slots Q (ws) (lv) (pc + 3) (st)) : V p l e R s m args below meth c D A nL cells slots Q (ws) (lv) (pc) (.int x :: st) := fun H locs ls hP hD hS hl => lv_if_ge F.1.1 F.1.2.1 hd ht (fun h => kt h H locs ls hP hD hS hl) (fun h => kf h H locs ls hP hD hS hl)
theorem V.if_gt (F : Fx p m meth c cc nL s args own D tys A) {x : Int32} {off : Int} {tgt : Nat} (hd : decode cc pc = .ok (.ifCond .gt off, 3)) (ht : (pc : Int) + off = (tgt : Int)) (kt : 0 < x → V p l e R s m args below meth c D A nL cells slots Q (ws) (lv) (tgt) (st)) (kf : ¬ 0 < x → V p l e R s m args below meth c D A nL cells slots Q (ws) (lv) (pc + 3) (st)) : V p l e R s m args below meth c D A nL cells slots Q (ws) (lv) (pc) (.int x :: st) := fun H locs ls hP hD hS hl => lv_if_gt F.1.1 F.1.2.1 hd ht (fun h => kt h H locs ls hP hD hS hl) (fun h => kf h H locs ls hP hD hS hl)
theorem V.if_le (F : Fx p m meth c cc nL s args own D tys A) {x : Int32} {off : Int} {tgt : Nat} (hd : decode cc pc = .ok (.ifCond .le off, 3)) (ht : (pc : Int) + off = (tgt : Int)) (kt : x ≤ 0 → V p l e R s m args below meth c D A nL cells slots Q (ws) (lv) (tgt) (st)) (kf : ¬ x ≤ 0 → V p l e R s m args below meth c D A nL cells slots Q (ws) (lv) (pc + 3) (st)) : V p l e R s m args below meth c D A nL cells slots Q (ws) (lv) (pc) (.int x :: st) := fun H locs ls hP hD hS hl => lv_if_le F.1.1 F.1.2.1 hd ht (fun h => kt h H locs ls hP hD hS hl) (fun h => kf h H locs ls hP hD hS hl)
theorem V.icmp_eq (F : Fx p m meth c cc nL s args own D tys A) {x y : Int32} {off : Int} {tgt : Nat} (hd : decode cc pc = .ok (.if_icmp .eq off, 3)) (ht : (pc : Int) + off = (tgt : Int)) (kt : x = y → V p l e R s m args below meth c D A nL cells slots Q (ws) (lv) (tgt) (st)) (kf : ¬ x = y → V p l e R s m args below meth c D A nL cells slots Q (ws) (lv) (pc + 3) (st)) : V p l e R s m args below meth c D A nL cells slots Q (ws) (lv) (pc) (.int y :: .int x :: st) := fun H locs ls hP hD hS hl => lv_icmp_eq F.1.1 F.1.2.1 hd ht (fun h => kt h H locs ls hP hD hS hl) (fun h => kf h H locs ls hP hD hS hl)
theorem V.icmp_eqN (F : Fx p m meth c cc nL s args own D tys A) {a b : Nat} {off : Int} {tgt : Nat} (hd : decode cc pc = .ok (.if_icmp .eq off, 3)) (ht : (pc : Int) + off = (tgt : Int)) (ha : a < 2 ^ 31) (hb : b < 2 ^ 31) (kt : a = b → V p l e R s m args below meth c D A nL cells slots Q (ws) (lv) (tgt) (st)) (kf : a ≠ b → V p l e R s m args below meth c D A nL cells slots Q (ws) (lv) (pc + 3) (st)) : V p l e R s m args below meth c D A nL cells slots Q (ws) (lv) (pc) (.int (nI b) :: .int (nI a) :: st) := fun H locs ls hP hD hS hl => lv_icmp_eq F.1.1 F.1.2.1 hd ht (fun h => kt ((nI_eq ha hb).mp h) H locs ls hP hD hS hl) (fun h => kf (fun q => h ((nI_eq ha hb).mpr q)) H locs ls hP hD hS hl)
theorem V.icmp_ne (F : Fx p m meth c cc nL s args own D tys A) {x y : Int32} {off : Int} {tgt : Nat} (hd : decode cc pc = .ok (.if_icmp .ne off, 3)) (ht : (pc : Int) + off = (tgt : Int)) (kt : ¬ x = y → V p l e R s m args below meth c D A nL cells slots Q (ws) (lv) (tgt) (st)) (kf : x = y → V p l e R s m args below meth c D A nL cells slots Q (ws) (lv) (pc + 3) (st)) : V p l e R s m args below meth c D A nL cells slots Q (ws) (lv) (pc) (.int y :: .int x :: st) := fun H locs ls hP hD hS hl => lv_icmp_ne F.1.1 F.1.2.1 hd ht (fun h => kt h H locs ls hP hD hS hl) (fun h => kf h H locs ls hP hD hS hl)
theorem V.icmp_neN (F : Fx p m meth c cc nL s args own D tys A) {a b : Nat} {off : Int} {tgt : Nat} (hd : decode cc pc = .ok (.if_icmp .ne off, 3)) (ht : (pc : Int) + off = (tgt : Int)) (ha : a < 2 ^ 31) (hb : b < 2 ^ 31) (kt : a ≠ b → V p l e R s m args below meth c D A nL cells slots Q (ws) (lv) (tgt) (st)) (kf : a = b → V p l e R s m args below meth c D A nL cells slots Q (ws) (lv) (pc + 3) (st)) : V p l e R s m args below meth c D A nL cells slots Q (ws) (lv) (pc) (.int (nI b) :: .int (nI a) :: st) := fun H locs ls hP hD hS hl => lv_icmp_ne F.1.1 F.1.2.1 hd ht (fun h => kt (fun q => h ((nI_eq ha hb).mpr q)) H locs ls hP hD hS hl) (fun h => kf ((nI_eq ha hb).mp h) H locs ls hP hD hS hl)
theorem V.icmp_lt (F : Fx p m meth c cc nL s args own D tys A) {x y : Int32} {off : Int} {tgt : Nat} (hd : decode cc pc = .ok (.if_icmp .lt off, 3)) (ht : (pc : Int) + off = (tgt : Int)) (kt : x < y → V p l e R s m args below meth c D A nL cells slots Q (ws) (lv) (tgt) (st)) (kf : ¬ x < y → V p l e R s m args below meth c D A nL cells slots Q (ws) (lv) (pc + 3) (st)) : V p l e R s m args below meth c D A nL cells slots Q (ws) (lv) (pc) (.int y :: .int x :: st) := fun H locs ls hP hD hS hl => lv_icmp_lt F.1.1 F.1.2.1 hd ht (fun h => kt h H locs ls hP hD hS hl) (fun h => kf h H locs ls hP hD hS hl)
theorem V.icmp_ltN (F : Fx p m meth c cc nL s args own D tys A) {a b : Nat} {off : Int} {tgt : Nat} (hd : decode cc pc = .ok (.if_icmp .lt off, 3)) (ht : (pc : Int) + off = (tgt : Int)) (ha : a < 2 ^ 31) (hb : b < 2 ^ 31) (kt : a < b → V p l e R s m args below meth c D A nL cells slots Q (ws) (lv) (tgt) (st)) (kf : b ≤ a → V p l e R s m args below meth c D A nL cells slots Q (ws) (lv) (pc + 3) (st)) : V p l e R s m args below meth c D A nL cells slots Q (ws) (lv) (pc) (.int (nI b) :: .int (nI a) :: st) := fun H locs ls hP hD hS hl => lv_icmp_lt F.1.1 F.1.2.1 hd ht (fun h => kt ((nI_ltI ha hb).mp h) H locs ls hP hD hS hl) (fun h => kf (Nat.not_lt.mp (fun q => h ((nI_ltI ha hb).mpr q))) H locs ls hP hD hS hl)
theorem V.icmp_ge (F : Fx p m meth c cc nL s args own D tys A) {x y : Int32} {off : Int} {tgt : Nat} (hd : decode cc pc = .ok (.if_icmp .ge off, 3)) (ht : (pc : Int) + off = (tgt : Int)) (kt : y ≤ x → V p l e R s m args below meth c D A nL cells slots Q (ws) (lv) (tgt) (st)) (kf : ¬ y ≤ x → V p l e R s m args below meth c D A nL cells slots Q (ws) (lv) (pc + 3) (st)) : V p l e R s m args below meth c D A nL cells slots Q (ws) (lv) (pc) (.int y :: .int x :: st) := fun H locs ls hP hD hS hl => lv_icmp_ge F.1.1 F.1.2.1 hd ht (fun h => kt h H locs ls hP hD hS hl) (fun h => kf h H locs ls hP hD hS hl)
theorem V.icmp_geN (F : Fx p m meth c cc nL s args own D tys A) {a b : Nat} {off : Int} {tgt : Nat} (hd : decode cc pc = .ok (.if_icmp .ge off, 3)) (ht : (pc : Int) + off = (tgt : Int)) (ha : a < 2 ^ 31) (hb : b < 2 ^ 31) (kt : b ≤ a → V p l e R s m args below meth c D A nL cells slots Q (ws) (lv) (tgt) (st)) (kf : a < b → V p l e R s m args below meth c D A nL cells slots Q (ws) (lv) (pc + 3) (st)) : V p l e R s m args below meth c D A nL cells slots Q (ws) (lv) (pc) (.int (nI b) :: .int (nI a) :: st) := fun H locs ls hP hD hS hl => lv_icmp_ge F.1.1 F.1.2.1 hd ht (fun h => kt ((nI_leI hb ha).mp h) H locs ls hP hD hS hl) (fun h => kf (Nat.not_le.mp (fun q => h ((nI_leI hb ha).mpr q))) H locs ls hP hD hS hl)
theorem V.icmp_gt (F : Fx p m meth c cc nL s args own D tys A) {x y : Int32} {off : Int} {tgt : Nat} (hd : decode cc pc = .ok (.if_icmp .gt off, 3)) (ht : (pc : Int) + off = (tgt : Int)) (kt : y < x → V p l e R s m args below meth c D A nL cells slots Q (ws) (lv) (tgt) (st)) (kf : ¬ y < x → V p l e R s m args below meth c D A nL cells slots Q (ws) (lv) (pc + 3) (st)) : V p l e R s m args below meth c D A nL cells slots Q (ws) (lv) (pc) (.int y :: .int x :: st) := fun H locs ls hP hD hS hl => lv_icmp_gt F.1.1 F.1.2.1 hd ht (fun h => kt h H locs ls hP hD hS hl) (fun h => kf h H locs ls hP hD hS hl)
theorem V.icmp_gtN (F : Fx p m meth c cc nL s args own D tys A) {a b : Nat} {off : Int} {tgt : Nat} (hd : decode cc pc = .ok (.if_icmp .gt off, 3)) (ht : (pc : Int) + off = (tgt : Int)) (ha : a < 2 ^ 31) (hb : b < 2 ^ 31) (kt : b < a → V p l e R s m args below meth c D A nL cells slots Q (ws) (lv) (tgt) (st)) (kf : a ≤ b → V p l e R s m args below meth c D A nL cells slots Q (ws) (lv) (pc + 3) (st)) : V p l e R s m args below meth c D A nL cells slots Q (ws) (lv) (pc) (.int (nI b) :: .int (nI a) :: st) := fun H locs ls hP hD hS hl => lv_icmp_gt F.1.1 F.1.2.1 hd ht (fun h => kt ((nI_ltI hb ha).mp h) H locs ls hP hD hS hl) (fun h => kf (Nat.not_lt.mp (fun q => h ((nI_ltI hb ha).mpr q))) H locs ls hP hD hS hl)
theorem V.icmp_le (F : Fx p m meth c cc nL s args own D tys A) {x y : Int32} {off : Int} {tgt : Nat} (hd : decode cc pc = .ok (.if_icmp .le off, 3)) (ht : (pc : Int) + off = (tgt : Int)) (kt : x ≤ y → V p l e R s m args below meth c D A nL cells slots Q (ws) (lv) (tgt) (st)) (kf : ¬ x ≤ y → V p l e R s m args below meth c D A nL cells slots Q (ws) (lv) (pc + 3) (st)) : V p l e R s m args below meth c D A nL cells slots Q (ws) (lv) (pc) (.int y :: .int x :: st) := fun H locs ls hP hD hS hl => lv_icmp_le F.1.1 F.1.2.1 hd ht (fun h => kt h H locs ls hP hD hS hl) (fun h => kf h H locs ls hP hD hS hl)
theorem V.icmp_leN (F : Fx p m meth c cc nL s args own D tys A) {a b : Nat} {off : Int} {tgt : Nat} (hd : decode cc pc = .ok (.if_icmp .le off, 3)) (ht : (pc : Int) + off = (tgt : Int)) (ha : a < 2 ^ 31) (hb : b < 2 ^ 31) (kt : a ≤ b → V p l e R s m args below meth c D A nL cells slots Q (ws) (lv) (tgt) (st)) (kf : b < a → V p l e R s m args below meth c D A nL cells slots Q (ws) (lv) (pc + 3) (st)) : V p l e R s m args below meth c D A nL cells slots Q (ws) (lv) (pc) (.int (nI b) :: .int (nI a) :: st) := fun H locs ls hP hD hS hl => lv_icmp_le F.1.1 F.1.2.1 hd ht (fun h => kt ((nI_leI ha hb).mp h) H locs ls hP hD hS hl) (fun h => kf (Nat.not_le.mp (fun q => h ((nI_leI ha hb).mpr q))) H locs ls hP hD hS hl)
theorem bI_0 {b : Bool} : bI b = 0 ↔ b = false := by cases b <;> simp [bI]
theorem V.if_eqB (F : Fx p m meth c cc nL s args own D tys A) {b : Bool} {off : Int} {tgt : Nat} (hd : decode cc pc = .ok (.ifCond .eq off, 3)) (ht : (pc : Int) + off = (tgt : Int)) (kt : b = false → V p l e R s m args below meth c D A nL cells slots Q (ws) (lv) (tgt) (st)) (kf : b = true → V p l e R s m args below meth c D A nL cells slots Q (ws) (lv) (pc + 3) (st)) : V p l e R s m args below meth c D A nL cells slots Q (ws) (lv) (pc) (.int (bI b) :: st) := fun H locs ls hP hD hS hl => lv_if_eq F.1.1 F.1.2.1 hd ht (fun h => kt (bI_0.mp h) H locs ls hP hD hS hl) (fun h => kf (Bool.not_eq_false _ |>.mp (fun q => h (bI_0.mpr q))) H locs ls hP hD hS hl)
theorem V.if_neB (F : Fx p m meth c cc nL s args own D tys A) {b : Bool} {off : Int} {tgt : Nat} (hd : decode cc pc = .ok (.ifCond .ne off, 3)) (ht : (pc : Int) + off = (tgt : Int)) (kt : b = true → V p l e R s m args below meth c D A nL cells slots Q (ws) (lv) (tgt) (st)) (kf : b = false → V p l e R s m args below meth c D A nL cells slots Q (ws) (lv) (pc + 3) (st)) : V p l e R s m args below meth c D A nL cells slots Q (ws) (lv) (pc) (.int (bI b) :: st) := fun H locs ls hP hD hS hl => lv_if_ne F.1.1 F.1.2.1 hd ht (fun h => kt (Bool.not_eq_false _ |>.mp (fun q => h (bI_0.mpr q))) H locs ls hP hD hS hl) (fun h => kf (bI_0.mp h) H locs ls hP hD hS hl)
theorem V.if_eqN (F : Fx p m meth c cc nL s args own D tys A) {a : Nat} {off : Int} {tgt : Nat} (hd : decode cc pc = .ok (.ifCond .eq off, 3)) (ht : (pc : Int) + off = (tgt : Int)) (ha : a < 2 ^ 31) (kt : a = 0 → V p l e R s m args below meth c D A nL cells slots Q (ws) (lv) (tgt) (st)) (kf : a ≠ 0 → V p l e R s m args below meth c D A nL cells slots Q (ws) (lv) (pc + 3) (st)) : V p l e R s m args below meth c D A nL cells slots Q (ws) (lv) (pc) (.int (nI a) :: st) := fun H locs ls hP hD hS hl => lv_if_eq F.1.1 F.1.2.1 hd ht (fun h => kt (Nat.eq_zero_of_not_pos (fun q => nI_ne0 q ha h)) H locs ls hP hD hS hl) (fun h => kf (fun q => h (by rw [q]; rfl)) H locs ls hP hD hS hl)
theorem V.if_neN (F : Fx p m meth c cc nL s args own D tys A) {a : Nat} {off : Int} {tgt : Nat} (hd : decode cc pc = .ok (.ifCond .ne off, 3)) (ht : (pc : Int) + off = (tgt : Int)) (ha : a < 2 ^ 31) (kt : a ≠ 0 → V p l e R s m args below meth c D A nL cells slots Q (ws) (lv) (tgt) (st)) (kf : a = 0 → V p l e R s m args below meth c D A nL cells slots Q (ws) (lv) (pc + 3) (st)) : V p l e R s m args below meth c D A nL cells slots Q (ws) (lv) (pc) (.int (nI a) :: st) := fun H locs ls hP hD hS hl => lv_if_ne F.1.1 F.1.2.1 hd ht (fun h => kt (fun q => h (by rw [q]; rfl)) H locs ls hP hD hS hl) (fun h => kf (Nat.eq_zero_of_not_pos (fun q => nI_ne0 q ha h)) H locs ls hP hD hS hl)
theorem V.if_leN (F : Fx p m meth c cc nL s args own D tys A) {a : Nat} {off : Int} {tgt : Nat} (hd : decode cc pc = .ok (.ifCond .le off, 3)) (ht : (pc : Int) + off = (tgt : Int)) (ha : a < 2 ^ 31) (kt : a = 0 → V p l e R s m args below meth c D A nL cells slots Q (ws) (lv) (tgt) (st)) (kf : 0 < a → V p l e R s m args below meth c D A nL cells slots Q (ws) (lv) (pc + 3) (st)) : V p l e R s m args below meth c D A nL cells slots Q (ws) (lv) (pc) (.int (nI a) :: st) := fun H locs ls hP hD hS hl => lv_if_le F.1.1 F.1.2.1 hd ht (fun h => kt (Nat.eq_zero_of_not_pos (fun q => nI_nle q ha h)) H locs ls hP hD hS hl) (fun h => kf (Nat.pos_of_ne_zero (fun q => h (by rw [q]; decide))) H locs ls hP hD hS hl)
theorem V.if_gtN (F : Fx p m meth c cc nL s args own D tys A) {a : Nat} {off : Int} {tgt : Nat} (hd : decode cc pc = .ok (.ifCond .gt off, 3)) (ht : (pc : Int) + off = (tgt : Int)) (ha : a < 2 ^ 31) (kt : 0 < a → V p l e R s m args below meth c D A nL cells slots Q (ws) (lv) (tgt) (st)) (kf : a = 0 → V p l e R s m args below meth c D A nL cells slots Q (ws) (lv) (pc + 3) (st)) : V p l e R s m args below meth c D A nL cells slots Q (ws) (lv) (pc) (.int (nI a) :: st) := fun H locs ls hP hD hS hl => lv_if_gt F.1.1 F.1.2.1 hd ht (fun h => kt (Nat.pos_of_ne_zero (fun q => by rw [q] at h; exact absurd h (by decide))) H locs ls hP hD hS hl) (fun h => kf (Nat.eq_zero_of_not_pos (fun q => h ((nI_ltI (by decide) ha).mpr q))) H locs ls hP hD hS hl)
theorem lc_eq (x y : Int64) : lg_cmp x y = 0 ↔ x = y := by
  unfold lg_cmp
  split
  · rename_i h
    exact ⟨fun q => absurd q (by decide), fun q => by subst q; simp at h⟩
  · split
    · rename_i h; exact ⟨fun _ => h, fun _ => rfl⟩
    · rename_i h; exact ⟨fun q => absurd q (by decide), fun q => absurd q h⟩
theorem lc_lt (x y : Int64) : lg_cmp x y < 0 ↔ x < y := by
  unfold lg_cmp
  simp only [gt_iff_lt, Int64.lt_iff_toInt_lt, ← Int64.toInt_inj]
  split
  · rename_i h; exact ⟨fun q => absurd q (by decide), fun q => by omega⟩
  · split
    · rename_i h; exact ⟨fun q => absurd q (by decide), fun q => by omega⟩
    · rename_i h; exact ⟨fun _ => by omega, fun _ => by decide⟩
theorem lc_gt (x y : Int64) : 0 < lg_cmp x y ↔ y < x := by
  unfold lg_cmp
  simp only [gt_iff_lt, Int64.lt_iff_toInt_lt, ← Int64.toInt_inj]
  split
  · rename_i h; exact ⟨fun _ => h, fun _ => by decide⟩
  · rename_i h0
    split
    · rename_i h; exact ⟨fun q => absurd q (by decide), fun q => absurd q h0⟩
    · rename_i h; exact ⟨fun q => absurd q (by decide), fun q => absurd q h0⟩
theorem lc_ge (x y : Int64) : 0 ≤ lg_cmp x y ↔ y ≤ x := lg_cmp_ge x y
theorem lc_le (x y : Int64) : lg_cmp x y ≤ 0 ↔ x ≤ y := by
  have h := lc_gt x y
  have e1 : (lg_cmp x y ≤ 0) ↔ ¬ (0 < lg_cmp x y) := by simp only [Int32.lt_iff_toInt_lt, Int32.le_iff_toInt_le]; omega
  have e2 : (x ≤ y) ↔ ¬ (y < x) := by simp only [Int64.lt_iff_toInt_lt, Int64.le_iff_toInt_le]; omega
  rw [e1, e2, h]
theorem V.lcmp_eq (F : Fx p m meth c cc nL s args own D tys A) {x y : Int64} {off : Int} {tgt : Nat} (hd : decode cc pc = .ok (.lcmp, 1)) (hd2 : decode cc (pc + 1) = .ok (.ifCond .eq off, 3)) (ht : ((pc + 1 : Nat) : Int) + off = (tgt : Int)) (kt : x = y → V p l e R s m args below meth c D A nL cells slots Q (ws) (lv) (tgt) (st)) (kf : ¬ x = y → V p l e R s m args below meth c D A nL cells slots Q (ws) (lv) (pc + 1 + 3) (st)) : V p l e R s m args below meth c D A nL cells slots Q (ws) (lv) (pc) (.long y :: .long x :: st) := fun H locs ls hP hD hS hl => W.lcmp F.1.1 F.1.2.1 hd (lv_if_eq F.1.1 F.1.2.1 hd2 ht (fun h => kt ((lc_eq x y).mp h) H locs ls hP hD hS hl) (fun h => kf (fun q => h ((lc_eq x y).mpr q)) H locs ls hP hD hS hl))
theorem V.lcmp_ne (F : Fx p m meth c cc nL s args own D tys A) {x y : Int64} {off : Int} {tgt : Nat} (hd : decode cc pc = .ok (.lcmp, 1)) (hd2 : decode cc (pc + 1) = .ok (.ifCond .ne off, 3)) (ht : ((pc + 1 : Nat) : Int) + off = (tgt : Int)) (kt : ¬ x = y → V p l e R s m args below meth c D A nL cells slots Q (ws) (lv) (tgt) (st)) (kf : x = y → V p l e R s m args below meth c D A nL cells slots Q (ws) (lv) (pc + 1 + 3) (st)) : V p l e R s m args below meth c D A nL cells slots Q (ws) (lv) (pc) (.long y :: .long x :: st) := fun H locs ls hP hD hS hl => W.lcmp F.1.1 F.1.2.1 hd (lv_if_ne F.1.1 F.1.2.1 hd2 ht (fun h => kt (fun q => h ((lc_eq x y).mpr q)) H locs ls hP hD hS hl) (fun h => kf ((lc_eq x y).mp h) H locs ls hP hD hS hl))
theorem V.lcmp_lt (F : Fx p m meth c cc nL s args own D tys A) {x y : Int64} {off : Int} {tgt : Nat} (hd : decode cc pc = .ok (.lcmp, 1)) (hd2 : decode cc (pc + 1) = .ok (.ifCond .lt off, 3)) (ht : ((pc + 1 : Nat) : Int) + off = (tgt : Int)) (kt : x < y → V p l e R s m args below meth c D A nL cells slots Q (ws) (lv) (tgt) (st)) (kf : ¬ x < y → V p l e R s m args below meth c D A nL cells slots Q (ws) (lv) (pc + 1 + 3) (st)) : V p l e R s m args below meth c D A nL cells slots Q (ws) (lv) (pc) (.long y :: .long x :: st) := fun H locs ls hP hD hS hl => W.lcmp F.1.1 F.1.2.1 hd (lv_if_lt F.1.1 F.1.2.1 hd2 ht (fun h => kt ((lc_lt x y).mp h) H locs ls hP hD hS hl) (fun h => kf (fun q => h ((lc_lt x y).mpr q)) H locs ls hP hD hS hl))
theorem V.lcmp_ge (F : Fx p m meth c cc nL s args own D tys A) {x y : Int64} {off : Int} {tgt : Nat} (hd : decode cc pc = .ok (.lcmp, 1)) (hd2 : decode cc (pc + 1) = .ok (.ifCond .ge off, 3)) (ht : ((pc + 1 : Nat) : Int) + off = (tgt : Int)) (kt : y ≤ x → V p l e R s m args below meth c D A nL cells slots Q (ws) (lv) (tgt) (st)) (kf : ¬ y ≤ x → V p l e R s m args below meth c D A nL cells slots Q (ws) (lv) (pc + 1 + 3) (st)) : V p l e R s m args below meth c D A nL cells slots Q (ws) (lv) (pc) (.long y :: .long x :: st) := fun H locs ls hP hD hS hl => W.lcmp F.1.1 F.1.2.1 hd (lv_if_ge F.1.1 F.1.2.1 hd2 ht (fun h => kt ((lc_ge x y).mp h) H locs ls hP hD hS hl) (fun h => kf (fun q => h ((lc_ge x y).mpr q)) H locs ls hP hD hS hl))
theorem V.lcmp_gt (F : Fx p m meth c cc nL s args own D tys A) {x y : Int64} {off : Int} {tgt : Nat} (hd : decode cc pc = .ok (.lcmp, 1)) (hd2 : decode cc (pc + 1) = .ok (.ifCond .gt off, 3)) (ht : ((pc + 1 : Nat) : Int) + off = (tgt : Int)) (kt : y < x → V p l e R s m args below meth c D A nL cells slots Q (ws) (lv) (tgt) (st)) (kf : ¬ y < x → V p l e R s m args below meth c D A nL cells slots Q (ws) (lv) (pc + 1 + 3) (st)) : V p l e R s m args below meth c D A nL cells slots Q (ws) (lv) (pc) (.long y :: .long x :: st) := fun H locs ls hP hD hS hl => W.lcmp F.1.1 F.1.2.1 hd (lv_if_gt F.1.1 F.1.2.1 hd2 ht (fun h => kt ((lc_gt x y).mp h) H locs ls hP hD hS hl) (fun h => kf (fun q => h ((lc_gt x y).mpr q)) H locs ls hP hD hS hl))
theorem V.lcmp_le (F : Fx p m meth c cc nL s args own D tys A) {x y : Int64} {off : Int} {tgt : Nat} (hd : decode cc pc = .ok (.lcmp, 1)) (hd2 : decode cc (pc + 1) = .ok (.ifCond .le off, 3)) (ht : ((pc + 1 : Nat) : Int) + off = (tgt : Int)) (kt : x ≤ y → V p l e R s m args below meth c D A nL cells slots Q (ws) (lv) (tgt) (st)) (kf : ¬ x ≤ y → V p l e R s m args below meth c D A nL cells slots Q (ws) (lv) (pc + 1 + 3) (st)) : V p l e R s m args below meth c D A nL cells slots Q (ws) (lv) (pc) (.long y :: .long x :: st) := fun H locs ls hP hD hS hl => W.lcmp F.1.1 F.1.2.1 hd (lv_if_le F.1.1 F.1.2.1 hd2 ht (fun h => kt ((lc_le x y).mp h) H locs ls hP hD hS hl) (fun h => kf (fun q => h ((lc_le x y).mpr q)) H locs ls hP hD hS hl))
theorem V.goto (F : Fx p m meth c cc nL s args own D tys A) {off : Int} {tgt : Nat} (hd : decode cc pc = .ok (.goto off, 3)) (ht : (pc : Int) + off = (tgt : Int)) (kk : V p l e R s m args below meth c D A nL cells slots Q (ws) (lv) (tgt) (st)) : V p l e R s m args below meth c D A nL cells slots Q (ws) (lv) (pc) (st) := fun H locs ls hP hD hS hl => lv_goto F.1.1 F.1.2.1 hd ht (kk H locs ls hP hD hS hl)
theorem V.ifnull (F : Fx p m meth c cc nL s args own D tys A) {x : Nat} {off : Int} (hd : decode cc pc = .ok (.ifnull off, 3)) (kk : V p l e R s m args below meth c D A nL cells slots Q (ws) (lv) (pc + 3) (st)) : V p l e R s m args below meth c D A nL cells slots Q (ws) (lv) (pc) (.ref x :: st) := fun H locs ls hP hD hS hl => lv_ifnull F.1.1 F.1.2.1 hd (kk H locs ls hP hD hS hl)
theorem V.ifnonnull (F : Fx p m meth c cc nL s args own D tys A) {x : Nat} {off : Int} {tgt : Nat} (hd : decode cc pc = .ok (.ifnonnull off, 3)) (ht : (pc : Int) + off = (tgt : Int)) (kk : V p l e R s m args below meth c D A nL cells slots Q (ws) (lv) (tgt) (st)) : V p l e R s m args below meth c D A nL cells slots Q (ws) (lv) (pc) (.ref x :: st) := fun H locs ls hP hD hS hl => lv_ifnonnull F.1.1 F.1.2.1 hd ht (kk H locs ls hP hD hS hl)
theorem V.ifnullN (F : Fx p m meth c cc nL s args own D tys A) {off : Int} {tgt : Nat} (hd : decode cc pc = .ok (.ifnull off, 3)) (ht : (pc : Int) + off = (tgt : Int)) (kk : V p l e R s m args below meth c D A nL cells slots Q (ws) (lv) (tgt) (st)) : V p l e R s m args below meth c D A nL cells slots Q (ws) (lv) (pc) (.null :: st) := fun H locs ls hP hD hS hl => lv_ifnullN F.1.1 F.1.2.1 hd ht (kk H locs ls hP hD hS hl)
theorem V.ifnonnullN (F : Fx p m meth c cc nL s args own D tys A) {off : Int} (hd : decode cc pc = .ok (.ifnonnull off, 3)) (kk : V p l e R s m args below meth c D A nL cells slots Q (ws) (lv) (pc + 3) (st)) : V p l e R s m args below meth c D A nL cells slots Q (ws) (lv) (pc) (.null :: st) := fun H locs ls hP hD hS hl => lv_ifnonnullN F.1.1 F.1.2.1 hd (kk H locs ls hP hD hS hl)
theorem V.tableOut (F : Fx p m meth c cc nL s args own D tys A) {dflt lo hi : Int} {offs : Array Int} {len : Nat} {x : Int32} {tgt : Nat} (hd : decode cc pc = .ok (.tableswitch dflt lo hi offs, len)) (h : x.toInt < lo ∨ hi < x.toInt) (ht : (pc : Int) + dflt = (tgt : Int)) (kk : V p l e R s m args below meth c D A nL cells slots Q (ws) (lv) (tgt) (st)) : V p l e R s m args below meth c D A nL cells slots Q (ws) (lv) (pc) (.int x :: st) := fun H locs ls hP hD hS hl => lv_tableOut F.1.1 F.1.2.1 hd h ht (kk H locs ls hP hD hS hl)
theorem V.tableIn (F : Fx p m meth c cc nL s args own D tys A) {dflt lo hi : Int} {offs : Array Int} {len : Nat} {x : Int32} {off : Int} {tgt : Nat} (hd : decode cc pc = .ok (.tableswitch dflt lo hi offs, len)) (h1 : ¬ x.toInt < lo) (h2 : ¬ hi < x.toInt) (ho : offs[(x.toInt - lo).toNat]? = some off) (ht : (pc : Int) + off = (tgt : Int)) (kk : V p l e R s m args below meth c D A nL cells slots Q (ws) (lv) (tgt) (st)) : V p l e R s m args below meth c D A nL cells slots Q (ws) (lv) (pc) (.int x :: st) := fun H locs ls hP hD hS hl => lv_tableIn F.1.1 F.1.2.1 hd h1 h2 ho ht (kk H locs ls hP hD hS hl)
theorem V.get (F : Fx p m meth c cc nL s args own D tys A) {ci : Nat} {C : String} {T : u_T} {N : Nat} {ty : Nat → FieldType} (hC : Ck ci C T N ty) {a index : Nat} {fs : List Value} {v : Value} (hd : decode cc pc = .ok (.getfield index, 3)) (k : Nat) (hk : k < N) (hlk : Cond.fieldLink own index C (T k).2.1 (T k).2.2.1 ∈ TB) (q0 : Nat) (he : ws[q0]? = some (a, .inr (ci, fs))) (hv : fs[k]? = some v) (kk : V p l e R s m args below meth c D A nL cells slots Q (ws) (lv) (pc + 3) (v :: st)) : V p l e R s m args below meth c D A nL cells slots Q (ws) (lv) (pc) (.ref a :: st) := fun H locs ls hP hD hS hl => va_get F.1.1 F.1.2.1 F.1.2.2.2.2 hC.2.1 F.1.2.2.2.1 F.2.1.1 hP q0 he hC.1 k hk (F.1.2.2.2.2 _ hlk) (fun x h => (hC.2.2.2.2 k hk) ▸ h) hv hd (kk H locs ls hP hD hS hl)
theorem V.put (F : Fx p m meth c cc nL s args own D tys A) {ci : Nat} {C : String} {T : u_T} {N : Nat} {ty : Nat → FieldType} (hC : Ck ci C T N ty) {a index : Nat} {fs : List Value} {v : Value} {ws2 : va_W} (hd : decode cc pc = .ok (.putfield index, 3)) (k : Nat) (hk : k < N) (hlk : Cond.fieldLink own index C (T k).2.1 (T k).2.2.1 ∈ TB) (q0 : Nat) (he : ws[q0]? = some (a, .inr (ci, fs))) (hfin : (T k).2.2.2 = false) (hn : narrow (ty k) v = v) (hfit : fits (ty k) v = true) (hlen : k < fs.length) (hw : ws.set q0 (a, .inr (ci, fs.set k v)) = ws2) (kk : V p l e R s m args below meth c D A nL cells slots Q (ws2) (lv) (pc + 3) (st)) : V p l e R s m args below meth c D A nL cells slots Q (ws) (lv) (pc) (v :: .ref a :: st) := fun H locs ls hP hD hS hl => va_put F.1.1 F.1.2.1 F.1.2.2.2.2 hC.2.1 ty hC.2.2.1 hC.2.2.2.1 F.1.2.2.2.1 F.2.1.1 hP hD hS q0 he hC.1 k hk (F.1.2.2.2.2 _ hlk) (fun x h => (hC.2.2.2.2 k hk) ▸ h) hfin (hC.2.2.1 k hk) hn hfit hlen hd (fun H1 locs1 hP1 hD1 hS1 => kk H1 locs1 ls (hw ▸ hP1) (hw ▸ hD1) hS1 hl)
theorem V.getN (F : Fx p m meth c cc nL s args own D tys A) {ci : Nat} {C : String} {T : u_T} {N : Nat} {ty : Nat → FieldType} (hC : Ck ci C T N ty) {a index : Nat} {fs : List Value} {v : Value} {host : String} (hd : decode cc pc = .ok (.getfield index, 3)) (k : Nat) (hk : k < N) (hlk : Cond.fieldLinkNest own index C (T k).2.1 (T k).2.2.1 host ∈ NW) (q0 : Nat) (he : ws[q0]? = some (a, .inr (ci, fs))) (hv : fs[k]? = some v) (kk : V p l e R s m args below meth c D A nL cells slots Q (ws) (lv) (pc + 3) (v :: st)) : V p l e R s m args below meth c D A nL cells slots Q (ws) (lv) (pc) (.ref a :: st) := fun H locs ls hP hD hS hl => va_getN F.1.1 F.1.2.1 F.1.2.2.2.2 hC.2.1 F.1.2.2.2.1 F.2.1.1 hP q0 he hC.1 k hk (va_Nw.use (NW_on _ hlk) (F.2.1.2.1 _ hlk)) (fun x h => (hC.2.2.2.2 k hk) ▸ h) hv hd (kk H locs ls hP hD hS hl)
theorem V.putN (F : Fx p m meth c cc nL s args own D tys A) {ci : Nat} {C : String} {T : u_T} {N : Nat} {ty : Nat → FieldType} (hC : Ck ci C T N ty) {a index : Nat} {fs : List Value} {v : Value} {ws2 : va_W} {host : String} (hd : decode cc pc = .ok (.putfield index, 3)) (k : Nat) (hk : k < N) (hlk : Cond.fieldLinkNest own index C (T k).2.1 (T k).2.2.1 host ∈ NW) (q0 : Nat) (he : ws[q0]? = some (a, .inr (ci, fs))) (hfin : (T k).2.2.2 = false) (hn : narrow (ty k) v = v) (hfit : fits (ty k) v = true) (hlen : k < fs.length) (hw : ws.set q0 (a, .inr (ci, fs.set k v)) = ws2) (kk : V p l e R s m args below meth c D A nL cells slots Q (ws2) (lv) (pc + 3) (st)) : V p l e R s m args below meth c D A nL cells slots Q (ws) (lv) (pc) (v :: .ref a :: st) := fun H locs ls hP hD hS hl => va_putN F.1.1 F.1.2.1 F.1.2.2.2.2 hC.2.1 ty hC.2.2.1 hC.2.2.2.1 F.1.2.2.2.1 F.2.1.1 hP hD hS q0 he hC.1 k hk (va_Nw.use (NW_on _ hlk) (F.2.1.2.1 _ hlk)) (fun x h => (hC.2.2.2.2 k hk) ▸ h) hfin (hC.2.2.1 k hk) hn hfit hlen hd (fun H1 locs1 hP1 hD1 hS1 => kk H1 locs1 ls (hw ▸ hP1) (hw ▸ hD1) hS1 hl)
theorem V.putF (F : Fx p m meth c cc nL s args own D tys A) {ci : Nat} {C : String} {T : u_T} {N : Nat} {ty : Nat → FieldType} (hC : Ck ci C T N ty) {a index : Nat} {fs : List Value} {v : Value} {ws2 : va_W} (hd : decode cc pc = .ok (.putfield index, 3)) (k : Nat) (hk : k < N) (hlk : Cond.fieldLink own index C (T k).2.1 (T k).2.2.1 ∈ TB) (q0 : Nat) (he : ws[q0]? = some (a, .inr (ci, fs))) (hfin : (T k).2.2.2 = true) (hin2 : meth.name = "<init>") (hoC : C = own) (hn : narrow (ty k) v = v) (hfit : fits (ty k) v = true) (hlen : k < fs.length) (hw : ws.set q0 (a, .inr (ci, fs.set k v)) = ws2) (kk : V p l e R s m args below meth c D A nL cells slots Q (ws2) (lv) (pc + 3) (st)) : V p l e R s m args below meth c D A nL cells slots Q (ws) (lv) (pc) (v :: .ref a :: st) := fun H locs ls hP hD hS hl => va_putF F.1.1 F.1.2.1 F.1.2.2.2.2 hC.2.1 ty hC.2.2.1 hC.2.2.2.1 F.1.2.2.2.1 F.2.1.1 hP hD hS q0 he hC.1 k hk (F.1.2.2.2.2 _ hlk) (fun x h => (hC.2.2.2.2 k hk) ▸ h) hfin hin2 ((hC.2.2.2.2 k hk).trans hoC) (hC.2.2.1 k hk) hn hfit hlen hd (fun H1 locs1 hP1 hD1 hS1 => kk H1 locs1 ls (hw ▸ hP1) (hw ▸ hD1) hS1 hl)
theorem cl_nI {i : Nat} (h : i < 2 ^ 31) : (nI i).toNatClampNeg = i := nI_clamp h
theorem V.iald (F : Fx p m meth c cc nL s args own D tys A) {a n i : Nat} {cA : ClassId} {f : Nat → Int32} {v : Int32} (hd : decode cc pc = .ok (.iaload, 1)) (q0 t0 : Nat) (ha : ws[q0]? = some (a, .inl (cA, n, .inl f))) (ht : tys[t0]? = some (cA, .int)) (hi : i < n) (hn : n < 2 ^ 31) (hv : f i = v) (kk : V p l e R s m args below meth c D A nL cells slots Q (ws) (lv) (pc + 1) (.int v :: st)) : V p l e R s m args below meth c D A nL cells slots Q (ws) (lv) (pc) (.int (nI i) :: .ref a :: st) := fun H locs ls hP hD hS hl => va_iald F.1.1 F.1.2.1 F.2.1.1 hP q0 t0 ha ht (vp_in_nI hi hn) hd (by rw [cl_nI (Nat.lt_trans hi hn), hv]; exact (kk H locs ls hP hD hS hl))
theorem V.lald (F : Fx p m meth c cc nL s args own D tys A) {a n i : Nat} {cA : ClassId} {f : Nat → Int64} {v : Int64} (hd : decode cc pc = .ok (.laload, 1)) (q0 t0 : Nat) (ha : ws[q0]? = some (a, .inl (cA, n, .inr (.inl f)))) (ht : tys[t0]? = some (cA, .long)) (hi : i < n) (hn : n < 2 ^ 31) (hv : f i = v) (kk : V p l e R s m args below meth c D A nL cells slots Q (ws) (lv) (pc + 1) (.long v :: st)) : V p l e R s m args below meth c D A nL cells slots Q (ws) (lv) (pc) (.int (nI i) :: .ref a :: st) := fun H locs ls hP hD hS hl => va_lald F.1.1 F.1.2.1 F.2.1.1 hP q0 t0 ha ht (vp_in_nI hi hn) hd (by rw [cl_nI (Nat.lt_trans hi hn), hv]; exact (kk H locs ls hP hD hS hl))
theorem V.aldq (F : Fx p m meth c cc nL s args own D tys A) {a n i : Nat} {cA : ClassId} {C : String} {f : Nat → Option Nat} {v : Value} (hd : decode cc pc = .ok (.aaload, 1)) (q0 t0 : Nat) (ha : ws[q0]? = some (a, .inl (cA, n, .inr (.inr (.inr (.inr f)))))) (ht : tys[t0]? = some (cA, .object C)) (hi : i < n) (hn : n < 2 ^ 31) (hv : va_rf (f i) = v) (kk : V p l e R s m args below meth c D A nL cells slots Q (ws) (lv) (pc + 1) (v :: st)) : V p l e R s m args below meth c D A nL cells slots Q (ws) (lv) (pc) (.int (nI i) :: .ref a :: st) := fun H locs ls hP hD hS hl => va_aldq F.1.1 F.1.2.1 F.2.1.1 hP q0 t0 ha ht (vp_in_nI hi hn) hd (by rw [cl_nI (Nat.lt_trans hi hn), hv]; exact (kk H locs ls hP hD hS hl))
theorem V.iast (F : Fx p m meth c cc nL s args own D tys A) {a n i : Nat} {cA : ClassId} {f : Nat → Int32} {x : Int32} {ws2 : va_W} (hd : decode cc pc = .ok (.iastore, 1)) (q0 t0 : Nat) (ha : ws[q0]? = some (a, .inl (cA, n, .inl f))) (ht : tys[t0]? = some (cA, .int)) (hi : i < n) (hn : n < 2 ^ 31) (hw : ws.set q0 (a, .inl (cA, n, .inl (upd f i x))) = ws2) (kk : V p l e R s m args below meth c D A nL cells slots Q (ws2) (lv) (pc + 1) (st)) : V p l e R s m args below meth c D A nL cells slots Q (ws) (lv) (pc) (.int x :: .int (nI i) :: .ref a :: st) := fun H locs ls hP hD hS hl => va_iast F.1.1 F.1.2.1 F.2.1.1 hP hD hS q0 t0 ha ht (vp_in_nI hi hn) hd (fun H1 locs1 hP1 hD1 hS1 => kk H1 locs1 ls (by rw [cl_nI (Nat.lt_trans hi hn)] at hP1; exact hw ▸ hP1) (by rw [cl_nI (Nat.lt_trans hi hn)] at hD1; exact hw ▸ hD1) hS1 hl)
theorem V.last (F : Fx p m meth c cc nL s args own D tys A) {a n i : Nat} {cA : ClassId} {f : Nat → Int64} {x : Int64} {ws2 : va_W} (hd : decode cc pc = .ok (.lastore, 1)) (q0 t0 : Nat) (ha : ws[q0]? = some (a, .inl (cA, n, .inr (.inl f)))) (ht : tys[t0]? = some (cA, .long)) (hi : i < n) (hn : n < 2 ^ 31) (hw : ws.set q0 (a, .inl (cA, n, .inr (.inl (vp_updL f i x)))) = ws2) (kk : V p l e R s m args below meth c D A nL cells slots Q (ws2) (lv) (pc + 1) (st)) : V p l e R s m args below meth c D A nL cells slots Q (ws) (lv) (pc) (.long x :: .int (nI i) :: .ref a :: st) := fun H locs ls hP hD hS hl => va_last F.1.1 F.1.2.1 F.2.1.1 hP hD hS q0 t0 ha ht (vp_in_nI hi hn) hd (fun H1 locs1 hP1 hD1 hS1 => kk H1 locs1 ls (by rw [cl_nI (Nat.lt_trans hi hn)] at hP1; exact hw ▸ hP1) (by rw [cl_nI (Nat.lt_trans hi hn)] at hD1; exact hw ▸ hD1) hS1 hl)
theorem V.astq (F : Fx p m meth c cc nL s args own D tys A) {a n i v ci : Nat} {cA : ClassId} {r : vw_C} {vs : List Value} {f : Nat → Option Nat} {ws2 : va_W} (hd : decode cc pc = .ok (.aastore, 1)) (q0 t0 qk : Nat) (ha : ws[q0]? = some (a, .inl (cA, n, .inr (.inr (.inr (.inr f)))))) (ht : tys[t0]? = some (cA, .object r.1)) (hv : ws[qk]? = some (v, .inr (ci, vs))) (hc : vwCl[ci]? = some r) (hi : i < n) (hn : n < 2 ^ 31) (hw : ws.set q0 (a, .inl (cA, n, .inr (.inr (.inr (.inr (va_up f i (some v))))))) = ws2) (kk : V p l e R s m args below meth c D A nL cells slots Q (ws2) (lv) (pc + 1) (st)) : V p l e R s m args below meth c D A nL cells slots Q (ws) (lv) (pc) (.ref v :: .int (nI i) :: .ref a :: st) := fun H locs ls hP hD hS hl => va_astq F.1.1 F.1.2.1 F.2.1.1 hP hD hS q0 t0 qk ci ha ht hv hc (vp_in_nI hi hn) hd (fun H1 locs1 hP1 hD1 hS1 => kk H1 locs1 ls (by rw [cl_nI (Nat.lt_trans hi hn)] at hP1; exact hw ▸ hP1) (by rw [cl_nI (Nat.lt_trans hi hn)] at hD1; exact hw ▸ hD1) hS1 hl)
theorem V.alen (F : Fx p m meth c cc nL s args own D tys A) {a : Nat} {cA : ClassId} {x : vp_A} {ty : FieldType} {v : Int32} (hd : decode cc pc = .ok (.arraylength, 1)) (q0 t0 : Nat) (ha : ws[q0]? = some (a, .inl (cA, x))) (ht : tys[t0]? = some (cA, ty)) (hv : Int32.ofNat x.1 = v) (kk : V p l e R s m args below meth c D A nL cells slots Q (ws) (lv) (pc + 1) (.int v :: st)) : V p l e R s m args below meth c D A nL cells slots Q (ws) (lv) (pc) (.ref a :: st) := fun H locs ls hP hD hS hl => va_alen F.1.1 F.1.2.1 F.2.1.1 hP q0 t0 ha ht hv hd (kk H locs ls hP hD hS hl)
theorem V.newa_i (F : Fx p m meth c cc nL s args own D tys A) {cA : ClassId} {n : Nat} (hd : decode cc pc = .ok (.newarray .int, 2)) (hw : Cond.arrayClass .int ∈ TB) (t0 : Nat) (ht : tys[t0]? = some (cA, .int)) (hn : n < 2 ^ 20) (hcells : cells + 1 ≤ R.cells) (hslots : slots + n ≤ R.slots) (kk : ∀ q : Nat, V p l e R s m args below meth c D A nL (cells + 1) (slots + n) Q (ws ++ [(q, .inl (cA, n, .inl (fun _ => 0)))]) (lv) (pc + 2) (.ref q :: st)) : V p l e R s m args below meth c D A nL cells slots Q (ws) (lv) (pc) (.int (nI n) :: st) := fun H locs ls hP hD hS hl => va_newa (atype := .int) (N' := n) (a0 := (n, .inl (fun _ => 0))) F.1.1 F.1.2.1 (F.1.2.2.2.2 _ hw) rfl F.2.1.1 hP hD hS F.2.2.1 (fun _ => rfl) (nI_pos (by omega)) (cl_nI (by omega)) (by show n * 4 ≤ _; omega) hcells hslots hd (fun q cA2 H1 hK1 hP1 hD1 hS1 => by
    have e1 := va_nm_int (F.2.1.1.2 t0 _ ht).2
    have e2 := va_nm_int (hK1.2 tys.length _ (by rw [List.getElem?_append_right (Nat.le_refl _), Nat.sub_self]; rfl)).2
    have e3 : cA2 = cA := Option.some.inj (e2.symm.trans e1)
    subst e3
    exact kk q H1 locs ls hP1 hD1 hS1 hl)
theorem V.newa_l (F : Fx p m meth c cc nL s args own D tys A) {cA : ClassId} {n : Nat} (hd : decode cc pc = .ok (.newarray .long, 2)) (hw : Cond.arrayClass .long ∈ TB) (t0 : Nat) (ht : tys[t0]? = some (cA, .long)) (hn : n < 2 ^ 20) (hcells : cells + 1 ≤ R.cells) (hslots : slots + n ≤ R.slots) (kk : ∀ q : Nat, V p l e R s m args below meth c D A nL (cells + 1) (slots + n) Q (ws ++ [(q, .inl (cA, n, .inr (.inl (fun _ => 0))))]) (lv) (pc + 2) (.ref q :: st)) : V p l e R s m args below meth c D A nL cells slots Q (ws) (lv) (pc) (.int (nI n) :: st) := fun H locs ls hP hD hS hl => va_newa (atype := .long) (N' := n) (a0 := (n, .inr (.inl (fun _ => 0)))) F.1.1 F.1.2.1 (F.1.2.2.2.2 _ hw) rfl F.2.1.1 hP hD hS F.2.2.1 (fun _ => rfl) (nI_pos (by omega)) (cl_nI (by omega)) (by show n * 8 ≤ _; omega) hcells hslots hd (fun q cA2 H1 hK1 hP1 hD1 hS1 => by
    have e1 := va_nm_long (F.2.1.1.2 t0 _ ht).2
    have e2 := va_nm_long (hK1.2 tys.length _ (by rw [List.getElem?_append_right (Nat.le_refl _), Nat.sub_self]; rfl)).2
    have e3 : cA2 = cA := Option.some.inj (e2.symm.trans e1)
    subst e3
    exact kk q H1 locs ls hP1 hD1 hS1 hl)
theorem V.newq (F : Fx p m meth c cc nL s args own D tys A) {cA : ClassId} {index n : Nat} (hd : decode cc pc = .ok (.anewarray index, 3)) (hw : Cond.classLink own index R_K ∈ TB) (t0 : Nat) (ht : tys[t0]? = some (cA, .object R_K)) (hn : n < 2 ^ 20) (hcells : cells + 1 ≤ R.cells) (hslots : slots + n ≤ R.slots) (kk : ∀ q : Nat, V p l e R s m args below meth c D A nL (cells + 1) (slots + n) Q (ws ++ [(q, .inl (cA, n, .inr (.inr (.inr (.inr (fun _ => none))))))]) (lv) (pc + 3) (.ref q :: st)) : V p l e R s m args below meth c D A nL cells slots Q (ws) (lv) (pc) (.int (nI n) :: st) := fun H locs ls hP hD hS hl => va_newq (N' := n) F.1.1 F.1.2.1 F.1.2.2.2.1 (F.1.2.2.2.2 _ hw) F.2.1.2.2 F.2.1.1 hP hD hS F.2.2.1 (nI_pos (by omega)) (cl_nI (by omega)) (by omega) hcells hslots hd (fun q cA2 H1 hK1 hP1 hD1 hS1 => by
    obtain ⟨_, _, _, _, _, e1⟩ := (F.2.1.1.2 t0 _ ht).2
    obtain ⟨_, _, _, _, _, e2⟩ := (hK1.2 tys.length _ (by rw [List.getElem?_append_right (Nat.le_refl _), Nat.sub_self]; rfl)).2
    have e3 : cA2 = cA := Option.some.inj (e2.symm.trans e1)
    subst e3
    exact kk q H1 locs ls hP1 hD1 hS1 hl)
theorem V.new (F : Fx p m meth c cc nL s args own D tys A) {ci : Nat} {C : String} {T : u_T} {N : Nat} {ty : Nat → FieldType} (hC : Ck ci C T N ty) {index : Nat} (hd : decode cc pc = .ok (.new index, 3)) (h1 : Cond.classLink own index C ∈ TB) (h2 : Cond.instantiable C N ∈ TB) (h3 : Cond.initialized C ∈ TB) {fs : List Value} (hfs : ∀ j, j < N → defaultValue (ty j) = vp_V fs j) (hcells : cells + 1 ≤ R.cells) (hslots : slots + N ≤ R.slots) (kk : ∀ q : Nat, V p l e R s m args below meth c D A nL (cells + 1) (slots + N) Q (ws ++ [(q, .inr (ci, fs))]) (lv) (pc + 3) (.ref q :: st)) : V p l e R s m args below meth c D A nL cells slots Q (ws) (lv) (pc) (st) := fun H locs ls hP hD hS hl => va_new F.1.1 F.1.2.1 F.1.2.2.2.2 hC.2.1 ty hC.2.2.1 F.1.2.2.2.1 (F.1.2.2.2.2 _ h1) (F.1.2.2.2.2 _ h2) (F.1.2.2.2.2 _ h3) F.2.1.1 hP hD hS F.2.2.1 hC.1 hfs hcells hslots hd (fun q H1 hP1 hD1 hS1 => kk q H1 locs ls hP1 hD1 hS1 hl)
theorem V.objInit (F : Fx p m meth c cc nL s args own D tys A) {a index : Nat} (hd : decode cc pc = .ok (.invokespecial index, 3)) (h1 : Cond.methodLink own index objectInit ∈ TB) (h2 : Cond.instanceMethod objectInit ∈ TB) (h3 : Cond.code objectInit ⟨#[0xb1]⟩ 1 none ∈ TB) (hfr : 1 ≤ R.frames) (hlo : (st.map fun v => v.category).sum + 12 ≤ R.locals) (kk : V p l e R s m args below meth c D A nL cells slots Q (ws) (lv) (pc + 3) (st)) : V p l e R s m args below meth c D A nL cells slots Q (ws) (lv) (pc) (.ref a :: st) := fun H locs ls hP hD hS hl => W.objInit F.1.1 F.1.2.1 F.1.2.2.2.1 (F.1.2.2.2.2 _ h1) (F.1.2.2.2.2 _ h2) (F.1.2.2.2.2 _ h3) rfl (hl.1.trans F.1.2.2.1.symm) rfl hd hfr (by show 2 * 0 + _ + 12 ≤ _; omega) (kk H locs ls hP hD hS hl)
def CI (l : Launch) (y : MethodName) (b : ByteArray) (mL : Nat) (rt : Option FieldType) (rm : Room) (D : va_G) (tys : List (ClassId × FieldType)) (ws : va_W) (av : List Value) (mc ms : Nat) (post : Int32 → va_W → Prop) : Prop :=
  ∀ sz : Nat, Met l y (Cond.code y b mL rt :: TB) rm (va_Pc av (fun U => U.heap.size = sz ∧ va_P D vwCl ws U.heap ∧ Kx D tys U ∧ va_D (fun _ => True) ws)) (va_Qi post (fun u t => va_P D vwCl u t.heap ∧ va_D (va_A ws sz) u) (va_A ws sz)) mc ms (va_A ws sz)
def EI (D : va_G) (below : List Frame) (ws : va_W) (args : Array Value) (s : State) (mc ms : Nat) (post : Int32 → va_W → Prop) : State → Prop := MQ below (va_Qi post (fun u t => va_P D vwCl u t.heap ∧ va_D (va_A ws s.heap.size) u) (va_A ws s.heap.size)) args s mc ms (va_A ws s.heap.size)
def CL (l : Launch) (y : MethodName) (b : ByteArray) (mL : Nat) (rt : Option FieldType) (rm : Room) (D : va_G) (tys : List (ClassId × FieldType)) (ws : va_W) (av : List Value) (mc ms : Nat) (post : Int64 → va_W → Prop) : Prop :=
  ∀ sz : Nat, Met l y (Cond.code y b mL rt :: TB) rm (va_Pc av (fun U => U.heap.size = sz ∧ va_P D vwCl ws U.heap ∧ Kx D tys U ∧ va_D (fun _ => True) ws)) (va_Ql post (fun u t => va_P D vwCl u t.heap ∧ va_D (va_A ws sz) u) (va_A ws sz)) mc ms (va_A ws sz)
def EL (D : va_G) (below : List Frame) (ws : va_W) (args : Array Value) (s : State) (mc ms : Nat) (post : Int64 → va_W → Prop) : State → Prop := MQ below (va_Ql post (fun u t => va_P D vwCl u t.heap ∧ va_D (va_A ws s.heap.size) u) (va_A ws s.heap.size)) args s mc ms (va_A ws s.heap.size)
def CQ (l : Launch) (y : MethodName) (b : ByteArray) (mL : Nat) (rt : Option FieldType) (rm : Room) (D : va_G) (tys : List (ClassId × FieldType)) (ws : va_W) (av : List Value) (mc ms : Nat) (post : Option Nat → va_W → Prop) : Prop :=
  ∀ sz : Nat, Met l y (Cond.code y b mL rt :: TB) rm (va_Pc av (fun U => U.heap.size = sz ∧ va_P D vwCl ws U.heap ∧ Kx D tys U ∧ va_D (fun _ => True) ws)) (va_Qq post (fun u t => va_P D vwCl u t.heap ∧ va_D (va_A ws sz) u) (va_A ws sz)) mc ms (va_A ws sz)
def EQ (D : va_G) (below : List Frame) (ws : va_W) (args : Array Value) (s : State) (mc ms : Nat) (post : Option Nat → va_W → Prop) : State → Prop := MQ below (va_Qq post (fun u t => va_P D vwCl u t.heap ∧ va_D (va_A ws s.heap.size) u) (va_A ws s.heap.size)) args s mc ms (va_A ws s.heap.size)
def CV (l : Launch) (y : MethodName) (b : ByteArray) (mL : Nat) (rt : Option FieldType) (rm : Room) (D : va_G) (tys : List (ClassId × FieldType)) (ws : va_W) (av : List Value) (mc ms : Nat) (post : va_W → Prop) : Prop :=
  ∀ sz : Nat, Met l y (Cond.code y b mL rt :: TB) rm (va_Pc av (fun U => U.heap.size = sz ∧ va_P D vwCl ws U.heap ∧ Kx D tys U ∧ va_D (fun _ => True) ws)) (va_Qv post (fun u t => va_P D vwCl u t.heap ∧ va_D (va_A ws sz) u) (va_A ws sz)) mc ms (va_A ws sz)
def EV (D : va_G) (below : List Frame) (ws : va_W) (args : Array Value) (s : State) (mc ms : Nat) (post : va_W → Prop) : State → Prop := MQ below (va_Qv post (fun u t => va_P D vwCl u t.heap ∧ va_D (va_A ws s.heap.size) u) (va_A ws s.heap.size)) args s mc ms (va_A ws s.heap.size)
theorem CI.start {l : Launch} {y : MethodName} {b : ByteArray} {mL : Nat} {rt : Option FieldType} {rm : Room} {D : va_G} {tys : List (ClassId × FieldType)} {ws : va_W} {av : List Value} {mc ms : Nat} {post : Int32 → va_W → Prop} (hy : plainName y.cls = true) (hn : (lg_sl av).length ≤ mL)
    (body : ∀ (p : Program) (e : Env) (s : State) (m : MethodId) (below : List Frame) (meth : Method) (c : Code), Fx p m meth c b mL s av.toArray y.cls D tys (va_A ws s.heap.size) → meth.sig.returnType = rt → meth.name = y.name → V p l e rm s m av.toArray below meth c D (va_A ws s.heap.size) mL 0 0 (EI D below ws av.toArray s mc ms post) ws (lv_args 0 av) 0 []) : CI l y b mL rt rm D tys ws av mc ms post := by
  intro sz
  refine Met.ofW (cc := b) (maxL := mL) (ret := rt) hy rfl ?_
  intro p e s m args below meth c s₁ B hml hv
  obtain ⟨rfl, hsz, hP, hK, hD0⟩ := hv
  have hts := atoms_spec (ws := Cond.code y b mL rt :: TB) B.pre
  subst hsz
  have hl := lv_entry av (n := mL) hn
  have h := body p e s m below meth c ⟨⟨B.exec, B.bytes, hml, findClass_of_methodNamed B.named, fun w hw => hts w (List.mem_cons_of_mem _ hw)⟩, hK, fun q hq => Or.inr hq, B.notSynchronized⟩ B.returns (name_of_methodNamed B.named B.method).1 s.heap [] _ hP hD0.self va_S.rf hl
  rw [lg_entry_eq]
  exact h
theorem CL.start {l : Launch} {y : MethodName} {b : ByteArray} {mL : Nat} {rt : Option FieldType} {rm : Room} {D : va_G} {tys : List (ClassId × FieldType)} {ws : va_W} {av : List Value} {mc ms : Nat} {post : Int64 → va_W → Prop} (hy : plainName y.cls = true) (hn : (lg_sl av).length ≤ mL)
    (body : ∀ (p : Program) (e : Env) (s : State) (m : MethodId) (below : List Frame) (meth : Method) (c : Code), Fx p m meth c b mL s av.toArray y.cls D tys (va_A ws s.heap.size) → meth.sig.returnType = rt → meth.name = y.name → V p l e rm s m av.toArray below meth c D (va_A ws s.heap.size) mL 0 0 (EL D below ws av.toArray s mc ms post) ws (lv_args 0 av) 0 []) : CL l y b mL rt rm D tys ws av mc ms post := by
  intro sz
  refine Met.ofW (cc := b) (maxL := mL) (ret := rt) hy rfl ?_
  intro p e s m args below meth c s₁ B hml hv
  obtain ⟨rfl, hsz, hP, hK, hD0⟩ := hv
  have hts := atoms_spec (ws := Cond.code y b mL rt :: TB) B.pre
  subst hsz
  have hl := lv_entry av (n := mL) hn
  have h := body p e s m below meth c ⟨⟨B.exec, B.bytes, hml, findClass_of_methodNamed B.named, fun w hw => hts w (List.mem_cons_of_mem _ hw)⟩, hK, fun q hq => Or.inr hq, B.notSynchronized⟩ B.returns (name_of_methodNamed B.named B.method).1 s.heap [] _ hP hD0.self va_S.rf hl
  rw [lg_entry_eq]
  exact h
theorem CQ.start {l : Launch} {y : MethodName} {b : ByteArray} {mL : Nat} {rt : Option FieldType} {rm : Room} {D : va_G} {tys : List (ClassId × FieldType)} {ws : va_W} {av : List Value} {mc ms : Nat} {post : Option Nat → va_W → Prop} (hy : plainName y.cls = true) (hn : (lg_sl av).length ≤ mL)
    (body : ∀ (p : Program) (e : Env) (s : State) (m : MethodId) (below : List Frame) (meth : Method) (c : Code), Fx p m meth c b mL s av.toArray y.cls D tys (va_A ws s.heap.size) → meth.sig.returnType = rt → meth.name = y.name → V p l e rm s m av.toArray below meth c D (va_A ws s.heap.size) mL 0 0 (EQ D below ws av.toArray s mc ms post) ws (lv_args 0 av) 0 []) : CQ l y b mL rt rm D tys ws av mc ms post := by
  intro sz
  refine Met.ofW (cc := b) (maxL := mL) (ret := rt) hy rfl ?_
  intro p e s m args below meth c s₁ B hml hv
  obtain ⟨rfl, hsz, hP, hK, hD0⟩ := hv
  have hts := atoms_spec (ws := Cond.code y b mL rt :: TB) B.pre
  subst hsz
  have hl := lv_entry av (n := mL) hn
  have h := body p e s m below meth c ⟨⟨B.exec, B.bytes, hml, findClass_of_methodNamed B.named, fun w hw => hts w (List.mem_cons_of_mem _ hw)⟩, hK, fun q hq => Or.inr hq, B.notSynchronized⟩ B.returns (name_of_methodNamed B.named B.method).1 s.heap [] _ hP hD0.self va_S.rf hl
  rw [lg_entry_eq]
  exact h
theorem CV.start {l : Launch} {y : MethodName} {b : ByteArray} {mL : Nat} {rt : Option FieldType} {rm : Room} {D : va_G} {tys : List (ClassId × FieldType)} {ws : va_W} {av : List Value} {mc ms : Nat} {post : va_W → Prop} (hy : plainName y.cls = true) (hn : (lg_sl av).length ≤ mL)
    (body : ∀ (p : Program) (e : Env) (s : State) (m : MethodId) (below : List Frame) (meth : Method) (c : Code), Fx p m meth c b mL s av.toArray y.cls D tys (va_A ws s.heap.size) → meth.sig.returnType = rt → meth.name = y.name → V p l e rm s m av.toArray below meth c D (va_A ws s.heap.size) mL 0 0 (EV D below ws av.toArray s mc ms post) ws (lv_args 0 av) 0 []) : CV l y b mL rt rm D tys ws av mc ms post := by
  intro sz
  refine Met.ofW (cc := b) (maxL := mL) (ret := rt) hy rfl ?_
  intro p e s m args below meth c s₁ B hml hv
  obtain ⟨rfl, hsz, hP, hK, hD0⟩ := hv
  have hts := atoms_spec (ws := Cond.code y b mL rt :: TB) B.pre
  subst hsz
  have hl := lv_entry av (n := mL) hn
  have h := body p e s m below meth c ⟨⟨B.exec, B.bytes, hml, findClass_of_methodNamed B.named, fun w hw => hts w (List.mem_cons_of_mem _ hw)⟩, hK, fun q hq => Or.inr hq, B.notSynchronized⟩ B.returns (name_of_methodNamed B.named B.method).1 s.heap [] _ hP hD0.self va_S.rf hl
  rw [lg_entry_eq]
  exact h
theorem V.iret {w0 : va_W} {post : Int32 → va_W → Prop} {v : Int32} (F : Fx p m meth c cc nL s args own D tys (va_A w0 s.heap.size)) (hr : meth.sig.returnType = some .int)  (hd : decode cc pc = .ok (.ireturn, 1)) (hp : post v ws) : V p l e R s m args below meth c D (va_A w0 s.heap.size) nL cells slots (EI D below w0 args s cells slots post) ws lv pc [.int v] := fun H locs ls hP hD hS hl => W.iret F.1.1 F.1.2.1 hr  (fun t ht hW => ⟨⟨v, ws, rfl, hp, by rw [ht]; exact hP, hD⟩, hS.F ht⟩) hS.2.2 hd F.2.2.2
theorem V.zret {w0 : va_W} {post : Int32 → va_W → Prop} {v : Int32} (F : Fx p m meth c cc nL s args own D tys (va_A w0 s.heap.size)) (hr : meth.sig.returnType = some .boolean) (hn : narrow .boolean (.int v) = .int v) (hd : decode cc pc = .ok (.ireturn, 1)) (hp : post v ws) : V p l e R s m args below meth c D (va_A w0 s.heap.size) nL cells slots (EI D below w0 args s cells slots post) ws lv pc [.int v] := fun H locs ls hP hD hS hl => W.zret F.1.1 F.1.2.1 hr hn (fun t ht hW => ⟨⟨v, ws, rfl, hp, by rw [ht]; exact hP, hD⟩, hS.F ht⟩) hS.2.2 hd F.2.2.2
theorem V.lret {w0 : va_W} {post : Int64 → va_W → Prop} {v : Int64} (F : Fx p m meth c cc nL s args own D tys (va_A w0 s.heap.size)) (hr : meth.sig.returnType = some .long)  (hd : decode cc pc = .ok (.lreturn, 1)) (hp : post v ws) : V p l e R s m args below meth c D (va_A w0 s.heap.size) nL cells slots (EL D below w0 args s cells slots post) ws lv pc [.long v] := fun H locs ls hP hD hS hl => W.lret F.1.1 F.1.2.1 hr  (fun t ht hW => ⟨⟨v, ws, rfl, hp, by rw [ht]; exact hP, hD⟩, hS.F ht⟩) hS.2.2 hd F.2.2.2
theorem V.vret {w0 : va_W} {post : va_W → Prop} (F : Fx p m meth c cc nL s args own D tys (va_A w0 s.heap.size)) (hr : meth.sig.returnType = none)  (hd : decode cc pc = .ok (.return_, 1)) (hp : post ws) : V p l e R s m args below meth c D (va_A w0 s.heap.size) nL cells slots (EV D below w0 args s cells slots post) ws lv pc [] := fun H locs ls hP hD hS hl => W.vret F.1.1 F.1.2.1 hr  (fun t ht hW => ⟨⟨ws, rfl, hp, by rw [ht]; exact hP, hD⟩, hS.F ht⟩) hS.2.2 hd F.2.2.2
theorem V.aret {C : String} {w0 : va_W} {post : Option Nat → va_W → Prop} {v : Option Nat} (F : Fx p m meth c cc nL s args own D tys (va_A w0 s.heap.size)) (hr : meth.sig.returnType = some (.object C))  (hd : decode cc pc = .ok (.areturn, 1)) (hp : post v ws) : V p l e R s m args below meth c D (va_A w0 s.heap.size) nL cells slots (EQ D below w0 args s cells slots post) ws lv pc [va_rf v] := fun H locs ls hP hD hS hl => W.aret F.1.1 F.1.2.1 hr (Or.inl ⟨_, rfl⟩) (va_rf_or v) (fun t ht hW => ⟨⟨v, ws, rfl, hp, by rw [ht]; exact hP, hD⟩, hS.F ht⟩) hS.2.2 hd F.2.2.2
theorem TB_pay {args : Array Value} {s : State} {y : MethodName} {b : ByteArray} {mL : Nat} {rt : Option FieldType} (hts : ∀ w ∈ TB, w.before args s = true) (h : Cond.code y b mL rt ∈ TB) : ∀ w ∈ (Cond.code y b mL rt :: TB), ∀ (a' : Array Value) (U : State), s.WarmedH U.vm → w.before a' U = true := pay_in (big := TB) hts (fun w hw => by
  rcases List.mem_cons.mp hw with rfl | hw
  · exact ⟨h, TB_good _ h⟩
  · exact ⟨hw, TB_good _ hw⟩)
theorem Pc_blind {av : List Value} {D : va_G} {tys : List (ClassId × FieldType)} {ws : va_W} {sz : Nat} : FrameBlind (va_Pc av (fun U => U.heap.size = sz ∧ va_P D vwCl ws U.heap ∧ Kx D tys U ∧ va_D (fun _ => True) ws)) := fun a U g mk q => by
  obtain ⟨q0, q1, qP, qK, qD⟩ := q
  exact ⟨q0, q1, qP, qK.same rfl, qD⟩
theorem fr_join {A0 : Nat → Prop} {D : va_G} {wa wc wb u : va_W} {H H1 : Heap} (hP : va_P D vwCl (wa ++ wc ++ wb) H) (hD : va_D A0 (wa ++ wc ++ wb)) (hk : ∀ q : Nat, q < H.size → ¬ va_A wc H.size q → H1[q]? = H[q]?) (hF : ∀ q, va_A wc H.size q → A0 q) (hP1 : va_P D vwCl u H1) (hD1 : va_D (va_A wc H.size) u) : va_P D vwCl (wa ++ u ++ wb) H1 ∧ va_D A0 (wa ++ u ++ wb) := by
  have ga : ∀ (k : Nat) (q : Nat × va_E), wa[k]? = some q → (wa ++ wc ++ wb)[k]? = some q := fun k q h => by
    have hl := (List.getElem?_eq_some_iff.mp h).1
    rw [List.append_assoc, List.getElem?_append_left hl]; exact h
  have gc : ∀ (k : Nat) (q : Nat × va_E), wc[k]? = some q → (wa ++ wc ++ wb)[wa.length + k]? = some q := fun k q h => by
    have hl := (List.getElem?_eq_some_iff.mp h).1
    rw [List.append_assoc, List.getElem?_append_right (by omega), Nat.add_sub_cancel_left, List.getElem?_append_left hl]; exact h
  have gb : ∀ (k : Nat) (q : Nat × va_E), wb[k]? = some q → (wa ++ wc ++ wb)[wa.length + wc.length + k]? = some q := fun k q h => by
    rw [List.append_assoc, List.getElem?_append_right (by omega), List.getElem?_append_right (by omega)]
    rw [show wa.length + wc.length + k - wa.length - wc.length = k by omega]; exact h
  have apA : ∀ (k : Nat) (q : Nat × va_E), wa[k]? = some q → q.1 < H.size ∧ ¬ va_A wc H.size q.1 := fun k q h => by
    have hl := (hP _ q (ga k q h)).lt
    refine ⟨hl, fun hz => ?_⟩
    rcases hz with ⟨k2, e, h2⟩ | h2
    · have := hD.1 _ _ q (q.1, e) (ga k q h) (gc k2 _ h2) rfl
      have := (List.getElem?_eq_some_iff.mp h).1
      omega
    · omega
  have apB : ∀ (k : Nat) (q : Nat × va_E), wb[k]? = some q → q.1 < H.size ∧ ¬ va_A wc H.size q.1 := fun k q h => by
    have hl := (hP _ q (gb k q h)).lt
    refine ⟨hl, fun hz => ?_⟩
    rcases hz with ⟨k2, e, h2⟩ | h2
    · have := hD.1 _ _ q (q.1, e) (gb k q h) (gc k2 _ h2) rfl
      have := (List.getElem?_eq_some_iff.mp h2).1
      omega
    · omega
  refine ⟨va_P.app (va_P.app (fun k q h => ?_) hP1) (fun k q h => ?_), va_D.app (va_D.app (hD.by (fun k => k) (fun k q h => ga k q h) (fun i j hi hj e => e)) (hD1.weaken (fun k q _ h => hF q.1 h)) (fun i j x y hx hy hxy => ?_)) (hD.by (fun k => wa.length + wc.length + k) (fun k q h => gb k q h) (fun i j hi hj e => by omega)) (fun i j x y hx hy hxy => ?_)⟩
  · obtain ⟨g1, g2⟩ := apA k q h
    exact (hP _ q (ga k q h)).kept (hk q.1 g1 g2)
  · obtain ⟨g1, g2⟩ := apB k q h
    exact (hP _ q (gb k q h)).kept (hk q.1 g1 g2)
  · exact (apA i x hx).2 (by rw [hxy]; exact hD1.2 j y hy)
  · rcases List.mem_append.mp (List.mem_of_getElem? hx) with h | h
    · obtain ⟨k, hk2⟩ := List.getElem?_of_mem h
      have e1 := hD.1 _ _ x y (ga k x hk2) (gb j y hy) hxy
      have := (List.getElem?_eq_some_iff.mp hk2).1
      omega
    · obtain ⟨k, hk2⟩ := List.getElem?_of_mem h
      exact (apB j y hy).2 (by rw [← hxy]; exact hD1.2 k x hk2)
theorem fr_cut {D : va_G} {wa wc wb : va_W} {H : Heap} (hP : va_P D vwCl (wa ++ wc ++ wb) H) : va_P D vwCl wc H := fun k q h => hP (wa.length + k) q (by
  have hl := (List.getElem?_eq_some_iff.mp h).1
  rw [List.append_assoc, List.getElem?_append_right (by omega), Nat.add_sub_cancel_left, List.getElem?_append_left hl]; exact h)
theorem fr_cutD {A0 B : Nat → Prop} {wa wc wb : va_W} (hD : va_D A0 (wa ++ wc ++ wb)) (hB : ∀ q, A0 q → B q) : va_D B wc := (hD.by (ws' := wc) (fun k => wa.length + k) (fun k q h => by
  have hl := (List.getElem?_eq_some_iff.mp h).1
  rw [List.append_assoc, List.getElem?_append_right (by omega), Nat.add_sub_cancel_left, List.getElem?_append_left hl]; exact h) (fun i j hi hj e => by omega)).weaken (fun _ q _ h => hB _ h)
theorem fr_free {A0 : Nat → Prop} {wa wc wb : va_W} {H0 H : Heap} {locs : List Loc} (hD : va_D A0 (wa ++ wc ++ wb)) (hS : va_S A0 H0 H locs) (hA : ∀ q, H0.size ≤ q → A0 q) : ∀ q, va_A wc H.size q → A0 q := by
  intro q h
  rcases h with ⟨k, e, h⟩ | h
  · exact (fr_cutD (B := A0) hD (fun _ h => h)).2 k (q, e) h
  · exact hA q (Nat.le_trans hS.1 h)
theorem V.callVI {y : MethodName} {bytes : ByteArray} {maxL n index mc ms : Nat} {ret : Option FieldType} {rm : Room} {As rest : List Value} {wc : va_W} {b : Nat} {post : Int32 → va_W → Prop} (F : Fx p m meth c cc nL s args own D tys A) (hM : CI l y bytes maxL ret rm D tys wc (.ref b :: As) mc ms post) (hd : decode cc pc = .ok (.invokevirtual index, 3)) (hs : Sv own index y bytes maxL ret n) (h2 : Cond.instanceMethod y ∈ TB) (h3 : Cond.selects y.cls y y ∈ TB) (wa wb : va_W) (hws : ws = wa ++ wc ++ wb) {ci : Nat} {r0 : vw_C} {fs : List Value} (q0 : Nat) (hq : ws[q0]? = some (b, .inr (ci, fs))) (hc : vwCl[ci]? = some r0) (hr0 : r0.1 = y.cls) (hst : st = As.reverse ++ .ref b :: rest) (hn : As.length = n) (hW : (rest.map fun v => v.category).sum ≤ 8) (hrm : rm.cells = mc ∧ rm.slots = ms ∧ rm.frames + 1 ≤ R.frames ∧ 8 + (maxL + 11) + rm.locals ≤ R.locals) (hf : cells + mc ≤ R.cells ∧ slots + ms ≤ R.slots)
    (kk : ∀ (r : Int32) (u : va_W), post r u → V p l e R s m args below meth c D A nL (cells + mc) (slots + ms) Q (wa ++ u ++ wb) (lv) (pc + 3) (.int r :: rest)) : V p l e R s m args below meth c D A nL cells slots Q (ws) (lv) (pc) (st) := by
  intro H locs ls hP hD hS hl
  have hpre : ∀ U : State, U.heap = H → s.WarmedH U.vm → va_Pc (.ref b :: As) (fun U => U.heap.size = H.size ∧ va_P D vwCl wc U.heap ∧ Kx D tys U ∧ va_D (fun _ => True) wc) ((.ref b :: As)).toArray U := fun U hU hWm => ⟨rfl, by rw [hU], by rw [hU]; exact fr_cut (hws ▸ hP), F.2.1.warm hWm, fr_cutD (hws ▸ hD) (fun _ _ => trivial)⟩
  have hFr := fr_free (hws ▸ hD : va_D A (wa ++ wc ++ wb)) hS F.2.2.1
  have hRun : va_Run p l e R s m args below meth c H locs cells slots mc ms (F0 m pc ls st) rest (va_Qi post (fun u t => va_P D vwCl u t.heap ∧ va_D (va_A wc H.size) u) (va_A wc H.size) ((.ref b :: As)).toArray) (va_A wc H.size) := by
    rcases hs.1 with hlk | ⟨host, hlk⟩
    · exact va_runV (As := As) (rest := rest) ⟨F.1.1, F.1.2.1, F.1.2.2.1, F.1.2.2.2.1, F.1.2.2.2.2⟩ (hM H.size) ⟨⟨hrm.1, hrm.2.1, hrm.2.2.1, hrm.2.2.2, TB_pay F.1.2.2.2.2 hs.2.1, List.mem_cons_self, F.1.2.2.2.2 _ hs.2.1, F.1.2.2.2.2 _ hs.2.2.1, ⟨hs.2.2.2.1, hs.2.2.2.2.1⟩, fun sig h => by have h9 := hs.2.2.2.2.2; rw [h] at h9; exact (Option.some.inj h9).symm, F.1.2.2.2.2 _ hlk⟩, F.1.2.2.2.2 _ h2, F.1.2.2.2.2 _ h3⟩ ⟨Pc_blind, by rw [← hr0]; exact va_recv F.2.1.1 hP hc hq, hpre⟩ rfl hn hl.1 hst (lv_room hW) hd hf
    · exact va_runVN (host := host) (As := As) (rest := rest) ⟨F.1.1, F.1.2.1, F.1.2.2.1, F.1.2.2.2.1, F.1.2.2.2.2⟩ (hM H.size) ⟨⟨⟨hrm.1, hrm.2.1, hrm.2.2.1, hrm.2.2.2, TB_pay F.1.2.2.2.2 hs.2.1, List.mem_cons_self⟩, F.1.2.2.2.2 _ hs.2.1, F.1.2.2.2.2 _ hs.2.2.1, ⟨hs.2.2.2.1, hs.2.2.2.2.1⟩, fun sig h => by have h9 := hs.2.2.2.2.2; rw [h] at h9; exact (Option.some.inj h9).symm, va_Nw.use (NW_on _ hlk) (F.2.1.2.1 _ hlk)⟩, F.1.2.2.2.2 _ h2, F.1.2.2.2.2 _ h3⟩ ⟨Pc_blind, by rw [← hr0]; exact va_recv F.2.1.1 hP hc hq, hpre⟩ rfl hn hl.1 hst (lv_room hW) hd hf
  refine va_calli hRun hS (fun q _ h => hFr q h) hFr (fun r u t H1 locs1 ht hvm hp hB hz1 hk1 hS1 => ?_)
  obtain ⟨hP1, hD1⟩ := hB
  rw [ht] at hP1
  obtain ⟨hP2, hD2⟩ := fr_join (hws ▸ hP : va_P D vwCl (wa ++ wc ++ wb) H) (hws ▸ hD) hk1 hFr hP1 hD1
  exact kk r u hp H1 locs1 ls hP2 hD2 hS1 hl
theorem V.callSI {y : MethodName} {bytes : ByteArray} {maxL n index mc ms : Nat} {ret : Option FieldType} {rm : Room} {As rest : List Value} {wc : va_W} {post : Int32 → va_W → Prop} (F : Fx p m meth c cc nL s args own D tys A) (hM : CI l y bytes maxL ret rm D tys wc As mc ms post) (hd : decode cc pc = .ok (.invokestatic index, 3)) (hs : Sv own index y bytes maxL ret n) (h2 : Cond.static y ∈ TB) (wa wb : va_W) (hws : ws = wa ++ wc ++ wb) (hst : st = As.reverse ++ rest) (hn : As.length = n) (hW : (rest.map fun v => v.category).sum ≤ 8) (hrm : rm.cells = mc ∧ rm.slots = ms ∧ rm.frames + 1 ≤ R.frames ∧ 8 + (maxL + 11) + rm.locals ≤ R.locals) (hf : cells + mc ≤ R.cells ∧ slots + ms ≤ R.slots)
    (kk : ∀ (r : Int32) (u : va_W), post r u → V p l e R s m args below meth c D A nL (cells + mc) (slots + ms) Q (wa ++ u ++ wb) (lv) (pc + 3) (.int r :: rest)) : V p l e R s m args below meth c D A nL cells slots Q (ws) (lv) (pc) (st) := by
  intro H locs ls hP hD hS hl
  have hpre : ∀ U : State, U.heap = H → s.WarmedH U.vm → va_Pc As (fun U => U.heap.size = H.size ∧ va_P D vwCl wc U.heap ∧ Kx D tys U ∧ va_D (fun _ => True) wc) (As).toArray U := fun U hU hWm => ⟨rfl, by rw [hU], by rw [hU]; exact fr_cut (hws ▸ hP), F.2.1.warm hWm, fr_cutD (hws ▸ hD) (fun _ _ => trivial)⟩
  have hFr := fr_free (hws ▸ hD : va_D A (wa ++ wc ++ wb)) hS F.2.2.1
  have hRun : va_Run p l e R s m args below meth c H locs cells slots mc ms (F0 m pc ls st) rest (va_Qi post (fun u t => va_P D vwCl u t.heap ∧ va_D (va_A wc H.size) u) (va_A wc H.size) (As).toArray) (va_A wc H.size) := by
    rcases hs.1 with hlk | ⟨host, hlk⟩
    · exact va_runS (As := As) (rest := rest) ⟨F.1.1, F.1.2.1, F.1.2.2.1, F.1.2.2.2.1, F.1.2.2.2.2⟩ (hM H.size) ⟨⟨hrm.1, hrm.2.1, hrm.2.2.1, hrm.2.2.2, TB_pay F.1.2.2.2.2 hs.2.1, List.mem_cons_self, F.1.2.2.2.2 _ hs.2.1, F.1.2.2.2.2 _ hs.2.2.1, ⟨hs.2.2.2.1, hs.2.2.2.2.1⟩, fun sig h => by have h9 := hs.2.2.2.2.2; rw [h] at h9; exact (Option.some.inj h9).symm, F.1.2.2.2.2 _ hlk⟩, F.1.2.2.2.2 _ h2⟩ ⟨Pc_blind, hpre⟩ rfl hn hl.1 hst (lv_room hW) hd hf
    · exact va_runSN (host := host) (As := As) (rest := rest) ⟨F.1.1, F.1.2.1, F.1.2.2.1, F.1.2.2.2.1, F.1.2.2.2.2⟩ (hM H.size) ⟨⟨⟨hrm.1, hrm.2.1, hrm.2.2.1, hrm.2.2.2, TB_pay F.1.2.2.2.2 hs.2.1, List.mem_cons_self⟩, F.1.2.2.2.2 _ hs.2.1, F.1.2.2.2.2 _ hs.2.2.1, ⟨hs.2.2.2.1, hs.2.2.2.2.1⟩, fun sig h => by have h9 := hs.2.2.2.2.2; rw [h] at h9; exact (Option.some.inj h9).symm, va_Nw.use (NW_on _ hlk) (F.2.1.2.1 _ hlk)⟩, F.1.2.2.2.2 _ h2, trivial⟩ ⟨Pc_blind, hpre⟩ rfl hn hl.1 hst (lv_room hW) hd hf
  refine va_calli hRun hS (fun q _ h => hFr q h) hFr (fun r u t H1 locs1 ht hvm hp hB hz1 hk1 hS1 => ?_)
  obtain ⟨hP1, hD1⟩ := hB
  rw [ht] at hP1
  obtain ⟨hP2, hD2⟩ := fr_join (hws ▸ hP : va_P D vwCl (wa ++ wc ++ wb) H) (hws ▸ hD) hk1 hFr hP1 hD1
  exact kk r u hp H1 locs1 ls hP2 hD2 hS1 hl
theorem V.callVL {y : MethodName} {bytes : ByteArray} {maxL n index mc ms : Nat} {ret : Option FieldType} {rm : Room} {As rest : List Value} {wc : va_W} {b : Nat} {post : Int64 → va_W → Prop} (F : Fx p m meth c cc nL s args own D tys A) (hM : CL l y bytes maxL ret rm D tys wc (.ref b :: As) mc ms post) (hd : decode cc pc = .ok (.invokevirtual index, 3)) (hs : Sv own index y bytes maxL ret n) (h2 : Cond.instanceMethod y ∈ TB) (h3 : Cond.selects y.cls y y ∈ TB) (wa wb : va_W) (hws : ws = wa ++ wc ++ wb) {ci : Nat} {r0 : vw_C} {fs : List Value} (q0 : Nat) (hq : ws[q0]? = some (b, .inr (ci, fs))) (hc : vwCl[ci]? = some r0) (hr0 : r0.1 = y.cls) (hst : st = As.reverse ++ .ref b :: rest) (hn : As.length = n) (hW : (rest.map fun v => v.category).sum ≤ 8) (hrm : rm.cells = mc ∧ rm.slots = ms ∧ rm.frames + 1 ≤ R.frames ∧ 8 + (maxL + 11) + rm.locals ≤ R.locals) (hf : cells + mc ≤ R.cells ∧ slots + ms ≤ R.slots)
    (kk : ∀ (r : Int64) (u : va_W), post r u → V p l e R s m args below meth c D A nL (cells + mc) (slots + ms) Q (wa ++ u ++ wb) (lv) (pc + 3) (.long r :: rest)) : V p l e R s m args below meth c D A nL cells slots Q (ws) (lv) (pc) (st) := by
  intro H locs ls hP hD hS hl
  have hpre : ∀ U : State, U.heap = H → s.WarmedH U.vm → va_Pc (.ref b :: As) (fun U => U.heap.size = H.size ∧ va_P D vwCl wc U.heap ∧ Kx D tys U ∧ va_D (fun _ => True) wc) ((.ref b :: As)).toArray U := fun U hU hWm => ⟨rfl, by rw [hU], by rw [hU]; exact fr_cut (hws ▸ hP), F.2.1.warm hWm, fr_cutD (hws ▸ hD) (fun _ _ => trivial)⟩
  have hFr := fr_free (hws ▸ hD : va_D A (wa ++ wc ++ wb)) hS F.2.2.1
  have hRun : va_Run p l e R s m args below meth c H locs cells slots mc ms (F0 m pc ls st) rest (va_Ql post (fun u t => va_P D vwCl u t.heap ∧ va_D (va_A wc H.size) u) (va_A wc H.size) ((.ref b :: As)).toArray) (va_A wc H.size) := by
    rcases hs.1 with hlk | ⟨host, hlk⟩
    · exact va_runV (As := As) (rest := rest) ⟨F.1.1, F.1.2.1, F.1.2.2.1, F.1.2.2.2.1, F.1.2.2.2.2⟩ (hM H.size) ⟨⟨hrm.1, hrm.2.1, hrm.2.2.1, hrm.2.2.2, TB_pay F.1.2.2.2.2 hs.2.1, List.mem_cons_self, F.1.2.2.2.2 _ hs.2.1, F.1.2.2.2.2 _ hs.2.2.1, ⟨hs.2.2.2.1, hs.2.2.2.2.1⟩, fun sig h => by have h9 := hs.2.2.2.2.2; rw [h] at h9; exact (Option.some.inj h9).symm, F.1.2.2.2.2 _ hlk⟩, F.1.2.2.2.2 _ h2, F.1.2.2.2.2 _ h3⟩ ⟨Pc_blind, by rw [← hr0]; exact va_recv F.2.1.1 hP hc hq, hpre⟩ rfl hn hl.1 hst (lv_room hW) hd hf
    · exact va_runVN (host := host) (As := As) (rest := rest) ⟨F.1.1, F.1.2.1, F.1.2.2.1, F.1.2.2.2.1, F.1.2.2.2.2⟩ (hM H.size) ⟨⟨⟨hrm.1, hrm.2.1, hrm.2.2.1, hrm.2.2.2, TB_pay F.1.2.2.2.2 hs.2.1, List.mem_cons_self⟩, F.1.2.2.2.2 _ hs.2.1, F.1.2.2.2.2 _ hs.2.2.1, ⟨hs.2.2.2.1, hs.2.2.2.2.1⟩, fun sig h => by have h9 := hs.2.2.2.2.2; rw [h] at h9; exact (Option.some.inj h9).symm, va_Nw.use (NW_on _ hlk) (F.2.1.2.1 _ hlk)⟩, F.1.2.2.2.2 _ h2, F.1.2.2.2.2 _ h3⟩ ⟨Pc_blind, by rw [← hr0]; exact va_recv F.2.1.1 hP hc hq, hpre⟩ rfl hn hl.1 hst (lv_room hW) hd hf
  refine va_calll hRun hS (fun q _ h => hFr q h) hFr (fun r u t H1 locs1 ht hvm hp hB hz1 hk1 hS1 => ?_)
  obtain ⟨hP1, hD1⟩ := hB
  rw [ht] at hP1
  obtain ⟨hP2, hD2⟩ := fr_join (hws ▸ hP : va_P D vwCl (wa ++ wc ++ wb) H) (hws ▸ hD) hk1 hFr hP1 hD1
  exact kk r u hp H1 locs1 ls hP2 hD2 hS1 hl
theorem V.callSL {y : MethodName} {bytes : ByteArray} {maxL n index mc ms : Nat} {ret : Option FieldType} {rm : Room} {As rest : List Value} {wc : va_W} {post : Int64 → va_W → Prop} (F : Fx p m meth c cc nL s args own D tys A) (hM : CL l y bytes maxL ret rm D tys wc As mc ms post) (hd : decode cc pc = .ok (.invokestatic index, 3)) (hs : Sv own index y bytes maxL ret n) (h2 : Cond.static y ∈ TB) (wa wb : va_W) (hws : ws = wa ++ wc ++ wb) (hst : st = As.reverse ++ rest) (hn : As.length = n) (hW : (rest.map fun v => v.category).sum ≤ 8) (hrm : rm.cells = mc ∧ rm.slots = ms ∧ rm.frames + 1 ≤ R.frames ∧ 8 + (maxL + 11) + rm.locals ≤ R.locals) (hf : cells + mc ≤ R.cells ∧ slots + ms ≤ R.slots)
    (kk : ∀ (r : Int64) (u : va_W), post r u → V p l e R s m args below meth c D A nL (cells + mc) (slots + ms) Q (wa ++ u ++ wb) (lv) (pc + 3) (.long r :: rest)) : V p l e R s m args below meth c D A nL cells slots Q (ws) (lv) (pc) (st) := by
  intro H locs ls hP hD hS hl
  have hpre : ∀ U : State, U.heap = H → s.WarmedH U.vm → va_Pc As (fun U => U.heap.size = H.size ∧ va_P D vwCl wc U.heap ∧ Kx D tys U ∧ va_D (fun _ => True) wc) (As).toArray U := fun U hU hWm => ⟨rfl, by rw [hU], by rw [hU]; exact fr_cut (hws ▸ hP), F.2.1.warm hWm, fr_cutD (hws ▸ hD) (fun _ _ => trivial)⟩
  have hFr := fr_free (hws ▸ hD : va_D A (wa ++ wc ++ wb)) hS F.2.2.1
  have hRun : va_Run p l e R s m args below meth c H locs cells slots mc ms (F0 m pc ls st) rest (va_Ql post (fun u t => va_P D vwCl u t.heap ∧ va_D (va_A wc H.size) u) (va_A wc H.size) (As).toArray) (va_A wc H.size) := by
    rcases hs.1 with hlk | ⟨host, hlk⟩
    · exact va_runS (As := As) (rest := rest) ⟨F.1.1, F.1.2.1, F.1.2.2.1, F.1.2.2.2.1, F.1.2.2.2.2⟩ (hM H.size) ⟨⟨hrm.1, hrm.2.1, hrm.2.2.1, hrm.2.2.2, TB_pay F.1.2.2.2.2 hs.2.1, List.mem_cons_self, F.1.2.2.2.2 _ hs.2.1, F.1.2.2.2.2 _ hs.2.2.1, ⟨hs.2.2.2.1, hs.2.2.2.2.1⟩, fun sig h => by have h9 := hs.2.2.2.2.2; rw [h] at h9; exact (Option.some.inj h9).symm, F.1.2.2.2.2 _ hlk⟩, F.1.2.2.2.2 _ h2⟩ ⟨Pc_blind, hpre⟩ rfl hn hl.1 hst (lv_room hW) hd hf
    · exact va_runSN (host := host) (As := As) (rest := rest) ⟨F.1.1, F.1.2.1, F.1.2.2.1, F.1.2.2.2.1, F.1.2.2.2.2⟩ (hM H.size) ⟨⟨⟨hrm.1, hrm.2.1, hrm.2.2.1, hrm.2.2.2, TB_pay F.1.2.2.2.2 hs.2.1, List.mem_cons_self⟩, F.1.2.2.2.2 _ hs.2.1, F.1.2.2.2.2 _ hs.2.2.1, ⟨hs.2.2.2.1, hs.2.2.2.2.1⟩, fun sig h => by have h9 := hs.2.2.2.2.2; rw [h] at h9; exact (Option.some.inj h9).symm, va_Nw.use (NW_on _ hlk) (F.2.1.2.1 _ hlk)⟩, F.1.2.2.2.2 _ h2, trivial⟩ ⟨Pc_blind, hpre⟩ rfl hn hl.1 hst (lv_room hW) hd hf
  refine va_calll hRun hS (fun q _ h => hFr q h) hFr (fun r u t H1 locs1 ht hvm hp hB hz1 hk1 hS1 => ?_)
  obtain ⟨hP1, hD1⟩ := hB
  rw [ht] at hP1
  obtain ⟨hP2, hD2⟩ := fr_join (hws ▸ hP : va_P D vwCl (wa ++ wc ++ wb) H) (hws ▸ hD) hk1 hFr hP1 hD1
  exact kk r u hp H1 locs1 ls hP2 hD2 hS1 hl
theorem V.callVQ {y : MethodName} {bytes : ByteArray} {maxL n index mc ms : Nat} {ret : Option FieldType} {rm : Room} {As rest : List Value} {wc : va_W} {b : Nat} {post : Option Nat → va_W → Prop} (F : Fx p m meth c cc nL s args own D tys A) (hM : CQ l y bytes maxL ret rm D tys wc (.ref b :: As) mc ms post) (hd : decode cc pc = .ok (.invokevirtual index, 3)) (hs : Sv own index y bytes maxL ret n) (h2 : Cond.instanceMethod y ∈ TB) (h3 : Cond.selects y.cls y y ∈ TB) (wa wb : va_W) (hws : ws = wa ++ wc ++ wb) {ci : Nat} {r0 : vw_C} {fs : List Value} (q0 : Nat) (hq : ws[q0]? = some (b, .inr (ci, fs))) (hc : vwCl[ci]? = some r0) (hr0 : r0.1 = y.cls) (hst : st = As.reverse ++ .ref b :: rest) (hn : As.length = n) (hW : (rest.map fun v => v.category).sum ≤ 8) (hrm : rm.cells = mc ∧ rm.slots = ms ∧ rm.frames + 1 ≤ R.frames ∧ 8 + (maxL + 11) + rm.locals ≤ R.locals) (hf : cells + mc ≤ R.cells ∧ slots + ms ≤ R.slots)
    (kk : ∀ (r : Option Nat) (u : va_W), post r u → V p l e R s m args below meth c D A nL (cells + mc) (slots + ms) Q (wa ++ u ++ wb) (lv) (pc + 3) (va_rf r :: rest)) : V p l e R s m args below meth c D A nL cells slots Q (ws) (lv) (pc) (st) := by
  intro H locs ls hP hD hS hl
  have hpre : ∀ U : State, U.heap = H → s.WarmedH U.vm → va_Pc (.ref b :: As) (fun U => U.heap.size = H.size ∧ va_P D vwCl wc U.heap ∧ Kx D tys U ∧ va_D (fun _ => True) wc) ((.ref b :: As)).toArray U := fun U hU hWm => ⟨rfl, by rw [hU], by rw [hU]; exact fr_cut (hws ▸ hP), F.2.1.warm hWm, fr_cutD (hws ▸ hD) (fun _ _ => trivial)⟩
  have hFr := fr_free (hws ▸ hD : va_D A (wa ++ wc ++ wb)) hS F.2.2.1
  have hRun : va_Run p l e R s m args below meth c H locs cells slots mc ms (F0 m pc ls st) rest (va_Qq post (fun u t => va_P D vwCl u t.heap ∧ va_D (va_A wc H.size) u) (va_A wc H.size) ((.ref b :: As)).toArray) (va_A wc H.size) := by
    rcases hs.1 with hlk | ⟨host, hlk⟩
    · exact va_runV (As := As) (rest := rest) ⟨F.1.1, F.1.2.1, F.1.2.2.1, F.1.2.2.2.1, F.1.2.2.2.2⟩ (hM H.size) ⟨⟨hrm.1, hrm.2.1, hrm.2.2.1, hrm.2.2.2, TB_pay F.1.2.2.2.2 hs.2.1, List.mem_cons_self, F.1.2.2.2.2 _ hs.2.1, F.1.2.2.2.2 _ hs.2.2.1, ⟨hs.2.2.2.1, hs.2.2.2.2.1⟩, fun sig h => by have h9 := hs.2.2.2.2.2; rw [h] at h9; exact (Option.some.inj h9).symm, F.1.2.2.2.2 _ hlk⟩, F.1.2.2.2.2 _ h2, F.1.2.2.2.2 _ h3⟩ ⟨Pc_blind, by rw [← hr0]; exact va_recv F.2.1.1 hP hc hq, hpre⟩ rfl hn hl.1 hst (lv_room hW) hd hf
    · exact va_runVN (host := host) (As := As) (rest := rest) ⟨F.1.1, F.1.2.1, F.1.2.2.1, F.1.2.2.2.1, F.1.2.2.2.2⟩ (hM H.size) ⟨⟨⟨hrm.1, hrm.2.1, hrm.2.2.1, hrm.2.2.2, TB_pay F.1.2.2.2.2 hs.2.1, List.mem_cons_self⟩, F.1.2.2.2.2 _ hs.2.1, F.1.2.2.2.2 _ hs.2.2.1, ⟨hs.2.2.2.1, hs.2.2.2.2.1⟩, fun sig h => by have h9 := hs.2.2.2.2.2; rw [h] at h9; exact (Option.some.inj h9).symm, va_Nw.use (NW_on _ hlk) (F.2.1.2.1 _ hlk)⟩, F.1.2.2.2.2 _ h2, F.1.2.2.2.2 _ h3⟩ ⟨Pc_blind, by rw [← hr0]; exact va_recv F.2.1.1 hP hc hq, hpre⟩ rfl hn hl.1 hst (lv_room hW) hd hf
  refine va_callq hRun hS (fun q _ h => hFr q h) hFr (fun r u t H1 locs1 ht hvm hp hB hz1 hk1 hS1 => ?_)
  obtain ⟨hP1, hD1⟩ := hB
  rw [ht] at hP1
  obtain ⟨hP2, hD2⟩ := fr_join (hws ▸ hP : va_P D vwCl (wa ++ wc ++ wb) H) (hws ▸ hD) hk1 hFr hP1 hD1
  exact kk r u hp H1 locs1 ls hP2 hD2 hS1 hl
theorem V.callSQ {y : MethodName} {bytes : ByteArray} {maxL n index mc ms : Nat} {ret : Option FieldType} {rm : Room} {As rest : List Value} {wc : va_W} {post : Option Nat → va_W → Prop} (F : Fx p m meth c cc nL s args own D tys A) (hM : CQ l y bytes maxL ret rm D tys wc As mc ms post) (hd : decode cc pc = .ok (.invokestatic index, 3)) (hs : Sv own index y bytes maxL ret n) (h2 : Cond.static y ∈ TB) (wa wb : va_W) (hws : ws = wa ++ wc ++ wb) (hst : st = As.reverse ++ rest) (hn : As.length = n) (hW : (rest.map fun v => v.category).sum ≤ 8) (hrm : rm.cells = mc ∧ rm.slots = ms ∧ rm.frames + 1 ≤ R.frames ∧ 8 + (maxL + 11) + rm.locals ≤ R.locals) (hf : cells + mc ≤ R.cells ∧ slots + ms ≤ R.slots)
    (kk : ∀ (r : Option Nat) (u : va_W), post r u → V p l e R s m args below meth c D A nL (cells + mc) (slots + ms) Q (wa ++ u ++ wb) (lv) (pc + 3) (va_rf r :: rest)) : V p l e R s m args below meth c D A nL cells slots Q (ws) (lv) (pc) (st) := by
  intro H locs ls hP hD hS hl
  have hpre : ∀ U : State, U.heap = H → s.WarmedH U.vm → va_Pc As (fun U => U.heap.size = H.size ∧ va_P D vwCl wc U.heap ∧ Kx D tys U ∧ va_D (fun _ => True) wc) (As).toArray U := fun U hU hWm => ⟨rfl, by rw [hU], by rw [hU]; exact fr_cut (hws ▸ hP), F.2.1.warm hWm, fr_cutD (hws ▸ hD) (fun _ _ => trivial)⟩
  have hFr := fr_free (hws ▸ hD : va_D A (wa ++ wc ++ wb)) hS F.2.2.1
  have hRun : va_Run p l e R s m args below meth c H locs cells slots mc ms (F0 m pc ls st) rest (va_Qq post (fun u t => va_P D vwCl u t.heap ∧ va_D (va_A wc H.size) u) (va_A wc H.size) (As).toArray) (va_A wc H.size) := by
    rcases hs.1 with hlk | ⟨host, hlk⟩
    · exact va_runS (As := As) (rest := rest) ⟨F.1.1, F.1.2.1, F.1.2.2.1, F.1.2.2.2.1, F.1.2.2.2.2⟩ (hM H.size) ⟨⟨hrm.1, hrm.2.1, hrm.2.2.1, hrm.2.2.2, TB_pay F.1.2.2.2.2 hs.2.1, List.mem_cons_self, F.1.2.2.2.2 _ hs.2.1, F.1.2.2.2.2 _ hs.2.2.1, ⟨hs.2.2.2.1, hs.2.2.2.2.1⟩, fun sig h => by have h9 := hs.2.2.2.2.2; rw [h] at h9; exact (Option.some.inj h9).symm, F.1.2.2.2.2 _ hlk⟩, F.1.2.2.2.2 _ h2⟩ ⟨Pc_blind, hpre⟩ rfl hn hl.1 hst (lv_room hW) hd hf
    · exact va_runSN (host := host) (As := As) (rest := rest) ⟨F.1.1, F.1.2.1, F.1.2.2.1, F.1.2.2.2.1, F.1.2.2.2.2⟩ (hM H.size) ⟨⟨⟨hrm.1, hrm.2.1, hrm.2.2.1, hrm.2.2.2, TB_pay F.1.2.2.2.2 hs.2.1, List.mem_cons_self⟩, F.1.2.2.2.2 _ hs.2.1, F.1.2.2.2.2 _ hs.2.2.1, ⟨hs.2.2.2.1, hs.2.2.2.2.1⟩, fun sig h => by have h9 := hs.2.2.2.2.2; rw [h] at h9; exact (Option.some.inj h9).symm, va_Nw.use (NW_on _ hlk) (F.2.1.2.1 _ hlk)⟩, F.1.2.2.2.2 _ h2, trivial⟩ ⟨Pc_blind, hpre⟩ rfl hn hl.1 hst (lv_room hW) hd hf
  refine va_callq hRun hS (fun q _ h => hFr q h) hFr (fun r u t H1 locs1 ht hvm hp hB hz1 hk1 hS1 => ?_)
  obtain ⟨hP1, hD1⟩ := hB
  rw [ht] at hP1
  obtain ⟨hP2, hD2⟩ := fr_join (hws ▸ hP : va_P D vwCl (wa ++ wc ++ wb) H) (hws ▸ hD) hk1 hFr hP1 hD1
  exact kk r u hp H1 locs1 ls hP2 hD2 hS1 hl
theorem V.callVV {y : MethodName} {bytes : ByteArray} {maxL n index mc ms : Nat} {ret : Option FieldType} {rm : Room} {As rest : List Value} {wc : va_W} {b : Nat} {post : va_W → Prop} (F : Fx p m meth c cc nL s args own D tys A) (hM : CV l y bytes maxL ret rm D tys wc (.ref b :: As) mc ms post) (hd : decode cc pc = .ok (.invokevirtual index, 3)) (hs : Sv own index y bytes maxL ret n) (h2 : Cond.instanceMethod y ∈ TB) (h3 : Cond.selects y.cls y y ∈ TB) (wa wb : va_W) (hws : ws = wa ++ wc ++ wb) {ci : Nat} {r0 : vw_C} {fs : List Value} (q0 : Nat) (hq : ws[q0]? = some (b, .inr (ci, fs))) (hc : vwCl[ci]? = some r0) (hr0 : r0.1 = y.cls) (hst : st = As.reverse ++ .ref b :: rest) (hn : As.length = n) (hW : (rest.map fun v => v.category).sum ≤ 8) (hrm : rm.cells = mc ∧ rm.slots = ms ∧ rm.frames + 1 ≤ R.frames ∧ 8 + (maxL + 11) + rm.locals ≤ R.locals) (hf : cells + mc ≤ R.cells ∧ slots + ms ≤ R.slots)
    (kk : ∀ (u : va_W), post u → V p l e R s m args below meth c D A nL (cells + mc) (slots + ms) Q (wa ++ u ++ wb) (lv) (pc + 3) (rest)) : V p l e R s m args below meth c D A nL cells slots Q (ws) (lv) (pc) (st) := by
  intro H locs ls hP hD hS hl
  have hpre : ∀ U : State, U.heap = H → s.WarmedH U.vm → va_Pc (.ref b :: As) (fun U => U.heap.size = H.size ∧ va_P D vwCl wc U.heap ∧ Kx D tys U ∧ va_D (fun _ => True) wc) ((.ref b :: As)).toArray U := fun U hU hWm => ⟨rfl, by rw [hU], by rw [hU]; exact fr_cut (hws ▸ hP), F.2.1.warm hWm, fr_cutD (hws ▸ hD) (fun _ _ => trivial)⟩
  have hFr := fr_free (hws ▸ hD : va_D A (wa ++ wc ++ wb)) hS F.2.2.1
  have hRun : va_Run p l e R s m args below meth c H locs cells slots mc ms (F0 m pc ls st) rest (va_Qv post (fun u t => va_P D vwCl u t.heap ∧ va_D (va_A wc H.size) u) (va_A wc H.size) ((.ref b :: As)).toArray) (va_A wc H.size) := by
    rcases hs.1 with hlk | ⟨host, hlk⟩
    · exact va_runV (As := As) (rest := rest) ⟨F.1.1, F.1.2.1, F.1.2.2.1, F.1.2.2.2.1, F.1.2.2.2.2⟩ (hM H.size) ⟨⟨hrm.1, hrm.2.1, hrm.2.2.1, hrm.2.2.2, TB_pay F.1.2.2.2.2 hs.2.1, List.mem_cons_self, F.1.2.2.2.2 _ hs.2.1, F.1.2.2.2.2 _ hs.2.2.1, ⟨hs.2.2.2.1, hs.2.2.2.2.1⟩, fun sig h => by have h9 := hs.2.2.2.2.2; rw [h] at h9; exact (Option.some.inj h9).symm, F.1.2.2.2.2 _ hlk⟩, F.1.2.2.2.2 _ h2, F.1.2.2.2.2 _ h3⟩ ⟨Pc_blind, by rw [← hr0]; exact va_recv F.2.1.1 hP hc hq, hpre⟩ rfl hn hl.1 hst (lv_room hW) hd hf
    · exact va_runVN (host := host) (As := As) (rest := rest) ⟨F.1.1, F.1.2.1, F.1.2.2.1, F.1.2.2.2.1, F.1.2.2.2.2⟩ (hM H.size) ⟨⟨⟨hrm.1, hrm.2.1, hrm.2.2.1, hrm.2.2.2, TB_pay F.1.2.2.2.2 hs.2.1, List.mem_cons_self⟩, F.1.2.2.2.2 _ hs.2.1, F.1.2.2.2.2 _ hs.2.2.1, ⟨hs.2.2.2.1, hs.2.2.2.2.1⟩, fun sig h => by have h9 := hs.2.2.2.2.2; rw [h] at h9; exact (Option.some.inj h9).symm, va_Nw.use (NW_on _ hlk) (F.2.1.2.1 _ hlk)⟩, F.1.2.2.2.2 _ h2, F.1.2.2.2.2 _ h3⟩ ⟨Pc_blind, by rw [← hr0]; exact va_recv F.2.1.1 hP hc hq, hpre⟩ rfl hn hl.1 hst (lv_room hW) hd hf
  refine va_callv hRun hS (fun q _ h => hFr q h) hFr (fun u t H1 locs1 ht hvm hp hB hz1 hk1 hS1 => ?_)
  obtain ⟨hP1, hD1⟩ := hB
  rw [ht] at hP1
  obtain ⟨hP2, hD2⟩ := fr_join (hws ▸ hP : va_P D vwCl (wa ++ wc ++ wb) H) (hws ▸ hD) hk1 hFr hP1 hD1
  exact kk u hp H1 locs1 ls hP2 hD2 hS1 hl
theorem V.callSV {y : MethodName} {bytes : ByteArray} {maxL n index mc ms : Nat} {ret : Option FieldType} {rm : Room} {As rest : List Value} {wc : va_W} {post : va_W → Prop} (F : Fx p m meth c cc nL s args own D tys A) (hM : CV l y bytes maxL ret rm D tys wc As mc ms post) (hd : decode cc pc = .ok (.invokestatic index, 3)) (hs : Sv own index y bytes maxL ret n) (h2 : Cond.static y ∈ TB) (wa wb : va_W) (hws : ws = wa ++ wc ++ wb) (hst : st = As.reverse ++ rest) (hn : As.length = n) (hW : (rest.map fun v => v.category).sum ≤ 8) (hrm : rm.cells = mc ∧ rm.slots = ms ∧ rm.frames + 1 ≤ R.frames ∧ 8 + (maxL + 11) + rm.locals ≤ R.locals) (hf : cells + mc ≤ R.cells ∧ slots + ms ≤ R.slots)
    (kk : ∀ (u : va_W), post u → V p l e R s m args below meth c D A nL (cells + mc) (slots + ms) Q (wa ++ u ++ wb) (lv) (pc + 3) (rest)) : V p l e R s m args below meth c D A nL cells slots Q (ws) (lv) (pc) (st) := by
  intro H locs ls hP hD hS hl
  have hpre : ∀ U : State, U.heap = H → s.WarmedH U.vm → va_Pc As (fun U => U.heap.size = H.size ∧ va_P D vwCl wc U.heap ∧ Kx D tys U ∧ va_D (fun _ => True) wc) (As).toArray U := fun U hU hWm => ⟨rfl, by rw [hU], by rw [hU]; exact fr_cut (hws ▸ hP), F.2.1.warm hWm, fr_cutD (hws ▸ hD) (fun _ _ => trivial)⟩
  have hFr := fr_free (hws ▸ hD : va_D A (wa ++ wc ++ wb)) hS F.2.2.1
  have hRun : va_Run p l e R s m args below meth c H locs cells slots mc ms (F0 m pc ls st) rest (va_Qv post (fun u t => va_P D vwCl u t.heap ∧ va_D (va_A wc H.size) u) (va_A wc H.size) (As).toArray) (va_A wc H.size) := by
    rcases hs.1 with hlk | ⟨host, hlk⟩
    · exact va_runS (As := As) (rest := rest) ⟨F.1.1, F.1.2.1, F.1.2.2.1, F.1.2.2.2.1, F.1.2.2.2.2⟩ (hM H.size) ⟨⟨hrm.1, hrm.2.1, hrm.2.2.1, hrm.2.2.2, TB_pay F.1.2.2.2.2 hs.2.1, List.mem_cons_self, F.1.2.2.2.2 _ hs.2.1, F.1.2.2.2.2 _ hs.2.2.1, ⟨hs.2.2.2.1, hs.2.2.2.2.1⟩, fun sig h => by have h9 := hs.2.2.2.2.2; rw [h] at h9; exact (Option.some.inj h9).symm, F.1.2.2.2.2 _ hlk⟩, F.1.2.2.2.2 _ h2⟩ ⟨Pc_blind, hpre⟩ rfl hn hl.1 hst (lv_room hW) hd hf
    · exact va_runSN (host := host) (As := As) (rest := rest) ⟨F.1.1, F.1.2.1, F.1.2.2.1, F.1.2.2.2.1, F.1.2.2.2.2⟩ (hM H.size) ⟨⟨⟨hrm.1, hrm.2.1, hrm.2.2.1, hrm.2.2.2, TB_pay F.1.2.2.2.2 hs.2.1, List.mem_cons_self⟩, F.1.2.2.2.2 _ hs.2.1, F.1.2.2.2.2 _ hs.2.2.1, ⟨hs.2.2.2.1, hs.2.2.2.2.1⟩, fun sig h => by have h9 := hs.2.2.2.2.2; rw [h] at h9; exact (Option.some.inj h9).symm, va_Nw.use (NW_on _ hlk) (F.2.1.2.1 _ hlk)⟩, F.1.2.2.2.2 _ h2, trivial⟩ ⟨Pc_blind, hpre⟩ rfl hn hl.1 hst (lv_room hW) hd hf
  refine va_callv hRun hS (fun q _ h => hFr q h) hFr (fun u t H1 locs1 ht hvm hp hB hz1 hk1 hS1 => ?_)
  obtain ⟨hP1, hD1⟩ := hB
  rw [ht] at hP1
  obtain ⟨hP2, hD2⟩ := fr_join (hws ▸ hP : va_P D vwCl (wa ++ wc ++ wb) H) (hws ▸ hD) hk1 hFr hP1 hD1
  exact kk u hp H1 locs1 ls hP2 hD2 hS1 hl
theorem V.callIV {y : MethodName} {bytes : ByteArray} {maxL n index mc ms : Nat} {rm : Room} {As rest : List Value} {wc : va_W} {b : Nat} {post : va_W → Prop} (F : Fx p m meth c cc nL s args own D tys A) (hM : CV l y bytes maxL none rm D tys wc (.ref b :: As) mc ms post) (hd : decode cc pc = .ok (.invokespecial index, 3)) (hs : Sv own index y bytes maxL none n) (h2 : Cond.instanceMethod y ∈ TB) (h3 : y.name = "<init>") (wa wb : va_W) (hws : ws = wa ++ wc ++ wb) (hst : st = As.reverse ++ .ref b :: rest) (hn : As.length = n) (hW : (rest.map fun v => v.category).sum ≤ 8) (hrm : rm.cells = mc ∧ rm.slots = ms ∧ rm.frames + 1 ≤ R.frames ∧ 8 + (maxL + 11) + rm.locals ≤ R.locals) (hf : cells + mc ≤ R.cells ∧ slots + ms ≤ R.slots)
    (kk : ∀ (u : va_W), post u → V p l e R s m args below meth c D A nL (cells + mc) (slots + ms) Q (wa ++ u ++ wb) (lv) (pc + 3) (rest)) : V p l e R s m args below meth c D A nL cells slots Q (ws) (lv) (pc) (st) := by
  intro H locs ls hP hD hS hl
  have hpre : ∀ U : State, U.heap = H → s.WarmedH U.vm → va_Pc (.ref b :: As) (fun U => U.heap.size = H.size ∧ va_P D vwCl wc U.heap ∧ Kx D tys U ∧ va_D (fun _ => True) wc) ((.ref b :: As)).toArray U := fun U hU hWm => ⟨rfl, by rw [hU], by rw [hU]; exact fr_cut (hws ▸ hP), F.2.1.warm hWm, fr_cutD (hws ▸ hD) (fun _ _ => trivial)⟩
  have hFr := fr_free (hws ▸ hD : va_D A (wa ++ wc ++ wb)) hS F.2.2.1
  have hRun : va_Run p l e R s m args below meth c H locs cells slots mc ms (F0 m pc ls st) rest (va_Qv post (fun u t => va_P D vwCl u t.heap ∧ va_D (va_A wc H.size) u) (va_A wc H.size) ((.ref b :: As)).toArray) (va_A wc H.size) := by
    rcases hs.1 with hlk | ⟨host, hlk⟩
    · exact va_runI (As := As) (rest := rest) ⟨F.1.1, F.1.2.1, F.1.2.2.1, F.1.2.2.2.1, F.1.2.2.2.2⟩ (hM H.size) ⟨⟨hrm.1, hrm.2.1, hrm.2.2.1, hrm.2.2.2, TB_pay F.1.2.2.2.2 hs.2.1, List.mem_cons_self, F.1.2.2.2.2 _ hs.2.1, F.1.2.2.2.2 _ hs.2.2.1, ⟨hs.2.2.2.1, hs.2.2.2.2.1⟩, fun sig h => by have h9 := hs.2.2.2.2.2; rw [h] at h9; exact (Option.some.inj h9).symm, F.1.2.2.2.2 _ hlk⟩, h3, F.1.2.2.2.2 _ h2⟩ ⟨Pc_blind, hpre⟩ rfl hn hl.1 hst (lv_room hW) hd hf
    · exact va_runIN (host := host) (As := As) (rest := rest) ⟨F.1.1, F.1.2.1, F.1.2.2.1, F.1.2.2.2.1, F.1.2.2.2.2⟩ (hM H.size) ⟨⟨⟨hrm.1, hrm.2.1, hrm.2.2.1, hrm.2.2.2, TB_pay F.1.2.2.2.2 hs.2.1, List.mem_cons_self⟩, F.1.2.2.2.2 _ hs.2.1, F.1.2.2.2.2 _ hs.2.2.1, ⟨hs.2.2.2.1, hs.2.2.2.2.1⟩, fun sig h => by have h9 := hs.2.2.2.2.2; rw [h] at h9; exact (Option.some.inj h9).symm, va_Nw.use (NW_on _ hlk) (F.2.1.2.1 _ hlk)⟩, h3, F.1.2.2.2.2 _ h2⟩ ⟨Pc_blind, hpre⟩ rfl hn hl.1 hst (lv_room hW) hd hf
  refine va_callv hRun hS (fun q _ h => hFr q h) hFr (fun u t H1 locs1 ht hvm hp hB hz1 hk1 hS1 => ?_)
  obtain ⟨hP1, hD1⟩ := hB
  rw [ht] at hP1
  obtain ⟨hP2, hD2⟩ := fr_join (hws ▸ hP : va_P D vwCl (wa ++ wc ++ wb) H) (hws ▸ hD) hk1 hFr hP1 hD1
  exact kk u hp H1 locs1 ls hP2 hD2 hS1 hl
theorem V.mmaxN (F : Fx p m meth c cc nL s args own D tys A) {a b index : Nat} (hd : decode cc pc = .ok (.invokestatic index, 3)) (h1 : Cond.methodLink own index Lib.Math.max.name ∈ TB) (h2 : Cond.static Lib.Math.max.name ∈ TB) (h3 : Cond.initialized "java/lang/Math" ∈ TB) (h4 : Cond.code Lib.Math.max.name Lib.Math.max.code 2 (some .int) ∈ TB) (hfr : 1 ≤ R.frames) (hlo : (st.map fun v => v.category).sum + 13 ≤ R.locals) (hcl : cells ≤ R.cells) (hsl : slots ≤ R.slots) (ha : a < 2 ^ 31) (hb : b < 2 ^ 31) (kk : V p l e R s m args below meth c D A nL cells slots Q (ws) (lv) (pc + 3) (.int (nI (max a b)) :: st)) : V p l e R s m args below meth c D A nL cells slots Q (ws) (lv) (pc) (.int (nI b) :: .int (nI a) :: st) := fun H locs ls hP hD hS hl => va_mmax F.1.1 F.1.2.1 (F.1.2.2.1.trans hl.1.symm) F.1.2.2.2.1 (F.1.2.2.2.2 _ h1) (F.1.2.2.2.2 _ h2) (F.1.2.2.2.2 _ h3) (F.1.2.2.2.2 _ h4) hfr hlo hcl hsl hd (by
    have e : (if nI a < nI b then nI b else nI a) = nI (max a b) := by
      by_cases h : a < b
      · rw [if_pos ((nI_ltI ha hb).mpr h), Nat.max_eq_right (by omega)]
      · rw [if_neg (fun q => h ((nI_ltI ha hb).mp q)), Nat.max_eq_left (by omega)]
    rw [e]; exact (kk H locs ls hP hD hS hl))
theorem V.callVI0 {y : MethodName} {bytes : ByteArray} {maxL n index : Nat} {ret : Option FieldType} {rm : Room} {As rest : List Value} {b : Nat} {post : Int32 → va_W → Prop} (F : Fx p m meth c cc nL s args own D tys A) (hM : CI l y bytes maxL ret rm D tys ws (.ref b :: As) 0 0 post) (hd : decode cc pc = .ok (.invokevirtual index, 3)) (hs : Sv own index y bytes maxL ret n) (h2 : Cond.instanceMethod y ∈ TB) (h3 : Cond.selects y.cls y y ∈ TB) {ci : Nat} {r0 : vw_C} {fs : List Value} (q0 : Nat) (hq : ws[q0]? = some (b, .inr (ci, fs))) (hc : vwCl[ci]? = some r0) (hr0 : r0.1 = y.cls) (hst : st = As.reverse ++ .ref b :: rest) (hn : As.length = n) (hW : (rest.map fun v => v.category).sum ≤ 8) (hrm : rm.cells = 0 ∧ rm.slots = 0 ∧ rm.frames + 1 ≤ R.frames ∧ 8 + (maxL + 11) + rm.locals ≤ R.locals) (hf : cells ≤ R.cells ∧ slots ≤ R.slots)
    (kk : ∀ (r : Int32) (u : va_W), post r u → V p l e R s m args below meth c D A nL cells slots Q (u) (lv) (pc + 3) (.int r :: rest)) : V p l e R s m args below meth c D A nL cells slots Q (ws) (lv) (pc) (st) :=
  V.callVI F hM hd hs h2 h3 [] [] (by rw [List.nil_append, List.append_nil]) q0 hq hc hr0 hst hn hW hrm hf (fun r u hp => by rw [List.nil_append, List.append_nil]; exact kk r u hp)
theorem V.callSI0 {y : MethodName} {bytes : ByteArray} {maxL n index : Nat} {ret : Option FieldType} {rm : Room} {As rest : List Value} {post : Int32 → va_W → Prop} (F : Fx p m meth c cc nL s args own D tys A) (hM : CI l y bytes maxL ret rm D tys ws As 0 0 post) (hd : decode cc pc = .ok (.invokestatic index, 3)) (hs : Sv own index y bytes maxL ret n) (h2 : Cond.static y ∈ TB) (hst : st = As.reverse ++ rest) (hn : As.length = n) (hW : (rest.map fun v => v.category).sum ≤ 8) (hrm : rm.cells = 0 ∧ rm.slots = 0 ∧ rm.frames + 1 ≤ R.frames ∧ 8 + (maxL + 11) + rm.locals ≤ R.locals) (hf : cells ≤ R.cells ∧ slots ≤ R.slots)
    (kk : ∀ (r : Int32) (u : va_W), post r u → V p l e R s m args below meth c D A nL cells slots Q (u) (lv) (pc + 3) (.int r :: rest)) : V p l e R s m args below meth c D A nL cells slots Q (ws) (lv) (pc) (st) :=
  V.callSI F hM hd hs h2 [] [] (by rw [List.nil_append, List.append_nil]) hst hn hW hrm hf (fun r u hp => by rw [List.nil_append, List.append_nil]; exact kk r u hp)
theorem V.callVL0 {y : MethodName} {bytes : ByteArray} {maxL n index : Nat} {ret : Option FieldType} {rm : Room} {As rest : List Value} {b : Nat} {post : Int64 → va_W → Prop} (F : Fx p m meth c cc nL s args own D tys A) (hM : CL l y bytes maxL ret rm D tys ws (.ref b :: As) 0 0 post) (hd : decode cc pc = .ok (.invokevirtual index, 3)) (hs : Sv own index y bytes maxL ret n) (h2 : Cond.instanceMethod y ∈ TB) (h3 : Cond.selects y.cls y y ∈ TB) {ci : Nat} {r0 : vw_C} {fs : List Value} (q0 : Nat) (hq : ws[q0]? = some (b, .inr (ci, fs))) (hc : vwCl[ci]? = some r0) (hr0 : r0.1 = y.cls) (hst : st = As.reverse ++ .ref b :: rest) (hn : As.length = n) (hW : (rest.map fun v => v.category).sum ≤ 8) (hrm : rm.cells = 0 ∧ rm.slots = 0 ∧ rm.frames + 1 ≤ R.frames ∧ 8 + (maxL + 11) + rm.locals ≤ R.locals) (hf : cells ≤ R.cells ∧ slots ≤ R.slots)
    (kk : ∀ (r : Int64) (u : va_W), post r u → V p l e R s m args below meth c D A nL cells slots Q (u) (lv) (pc + 3) (.long r :: rest)) : V p l e R s m args below meth c D A nL cells slots Q (ws) (lv) (pc) (st) :=
  V.callVL F hM hd hs h2 h3 [] [] (by rw [List.nil_append, List.append_nil]) q0 hq hc hr0 hst hn hW hrm hf (fun r u hp => by rw [List.nil_append, List.append_nil]; exact kk r u hp)
theorem V.callSL0 {y : MethodName} {bytes : ByteArray} {maxL n index : Nat} {ret : Option FieldType} {rm : Room} {As rest : List Value} {post : Int64 → va_W → Prop} (F : Fx p m meth c cc nL s args own D tys A) (hM : CL l y bytes maxL ret rm D tys ws As 0 0 post) (hd : decode cc pc = .ok (.invokestatic index, 3)) (hs : Sv own index y bytes maxL ret n) (h2 : Cond.static y ∈ TB) (hst : st = As.reverse ++ rest) (hn : As.length = n) (hW : (rest.map fun v => v.category).sum ≤ 8) (hrm : rm.cells = 0 ∧ rm.slots = 0 ∧ rm.frames + 1 ≤ R.frames ∧ 8 + (maxL + 11) + rm.locals ≤ R.locals) (hf : cells ≤ R.cells ∧ slots ≤ R.slots)
    (kk : ∀ (r : Int64) (u : va_W), post r u → V p l e R s m args below meth c D A nL cells slots Q (u) (lv) (pc + 3) (.long r :: rest)) : V p l e R s m args below meth c D A nL cells slots Q (ws) (lv) (pc) (st) :=
  V.callSL F hM hd hs h2 [] [] (by rw [List.nil_append, List.append_nil]) hst hn hW hrm hf (fun r u hp => by rw [List.nil_append, List.append_nil]; exact kk r u hp)
theorem V.callVQ0 {y : MethodName} {bytes : ByteArray} {maxL n index : Nat} {ret : Option FieldType} {rm : Room} {As rest : List Value} {b : Nat} {post : Option Nat → va_W → Prop} (F : Fx p m meth c cc nL s args own D tys A) (hM : CQ l y bytes maxL ret rm D tys ws (.ref b :: As) 0 0 post) (hd : decode cc pc = .ok (.invokevirtual index, 3)) (hs : Sv own index y bytes maxL ret n) (h2 : Cond.instanceMethod y ∈ TB) (h3 : Cond.selects y.cls y y ∈ TB) {ci : Nat} {r0 : vw_C} {fs : List Value} (q0 : Nat) (hq : ws[q0]? = some (b, .inr (ci, fs))) (hc : vwCl[ci]? = some r0) (hr0 : r0.1 = y.cls) (hst : st = As.reverse ++ .ref b :: rest) (hn : As.length = n) (hW : (rest.map fun v => v.category).sum ≤ 8) (hrm : rm.cells = 0 ∧ rm.slots = 0 ∧ rm.frames + 1 ≤ R.frames ∧ 8 + (maxL + 11) + rm.locals ≤ R.locals) (hf : cells ≤ R.cells ∧ slots ≤ R.slots)
    (kk : ∀ (r : Option Nat) (u : va_W), post r u → V p l e R s m args below meth c D A nL cells slots Q (u) (lv) (pc + 3) (va_rf r :: rest)) : V p l e R s m args below meth c D A nL cells slots Q (ws) (lv) (pc) (st) :=
  V.callVQ F hM hd hs h2 h3 [] [] (by rw [List.nil_append, List.append_nil]) q0 hq hc hr0 hst hn hW hrm hf (fun r u hp => by rw [List.nil_append, List.append_nil]; exact kk r u hp)
theorem V.callSQ0 {y : MethodName} {bytes : ByteArray} {maxL n index : Nat} {ret : Option FieldType} {rm : Room} {As rest : List Value} {post : Option Nat → va_W → Prop} (F : Fx p m meth c cc nL s args own D tys A) (hM : CQ l y bytes maxL ret rm D tys ws As 0 0 post) (hd : decode cc pc = .ok (.invokestatic index, 3)) (hs : Sv own index y bytes maxL ret n) (h2 : Cond.static y ∈ TB) (hst : st = As.reverse ++ rest) (hn : As.length = n) (hW : (rest.map fun v => v.category).sum ≤ 8) (hrm : rm.cells = 0 ∧ rm.slots = 0 ∧ rm.frames + 1 ≤ R.frames ∧ 8 + (maxL + 11) + rm.locals ≤ R.locals) (hf : cells ≤ R.cells ∧ slots ≤ R.slots)
    (kk : ∀ (r : Option Nat) (u : va_W), post r u → V p l e R s m args below meth c D A nL cells slots Q (u) (lv) (pc + 3) (va_rf r :: rest)) : V p l e R s m args below meth c D A nL cells slots Q (ws) (lv) (pc) (st) :=
  V.callSQ F hM hd hs h2 [] [] (by rw [List.nil_append, List.append_nil]) hst hn hW hrm hf (fun r u hp => by rw [List.nil_append, List.append_nil]; exact kk r u hp)
theorem V.callVV0 {y : MethodName} {bytes : ByteArray} {maxL n index : Nat} {ret : Option FieldType} {rm : Room} {As rest : List Value} {b : Nat} {post : va_W → Prop} (F : Fx p m meth c cc nL s args own D tys A) (hM : CV l y bytes maxL ret rm D tys ws (.ref b :: As) 0 0 post) (hd : decode cc pc = .ok (.invokevirtual index, 3)) (hs : Sv own index y bytes maxL ret n) (h2 : Cond.instanceMethod y ∈ TB) (h3 : Cond.selects y.cls y y ∈ TB) {ci : Nat} {r0 : vw_C} {fs : List Value} (q0 : Nat) (hq : ws[q0]? = some (b, .inr (ci, fs))) (hc : vwCl[ci]? = some r0) (hr0 : r0.1 = y.cls) (hst : st = As.reverse ++ .ref b :: rest) (hn : As.length = n) (hW : (rest.map fun v => v.category).sum ≤ 8) (hrm : rm.cells = 0 ∧ rm.slots = 0 ∧ rm.frames + 1 ≤ R.frames ∧ 8 + (maxL + 11) + rm.locals ≤ R.locals) (hf : cells ≤ R.cells ∧ slots ≤ R.slots)
    (kk : ∀ (u : va_W), post u → V p l e R s m args below meth c D A nL cells slots Q (u) (lv) (pc + 3) (rest)) : V p l e R s m args below meth c D A nL cells slots Q (ws) (lv) (pc) (st) :=
  V.callVV F hM hd hs h2 h3 [] [] (by rw [List.nil_append, List.append_nil]) q0 hq hc hr0 hst hn hW hrm hf (fun u hp => by rw [List.nil_append, List.append_nil]; exact kk u hp)
theorem V.callSV0 {y : MethodName} {bytes : ByteArray} {maxL n index : Nat} {ret : Option FieldType} {rm : Room} {As rest : List Value} {post : va_W → Prop} (F : Fx p m meth c cc nL s args own D tys A) (hM : CV l y bytes maxL ret rm D tys ws As 0 0 post) (hd : decode cc pc = .ok (.invokestatic index, 3)) (hs : Sv own index y bytes maxL ret n) (h2 : Cond.static y ∈ TB) (hst : st = As.reverse ++ rest) (hn : As.length = n) (hW : (rest.map fun v => v.category).sum ≤ 8) (hrm : rm.cells = 0 ∧ rm.slots = 0 ∧ rm.frames + 1 ≤ R.frames ∧ 8 + (maxL + 11) + rm.locals ≤ R.locals) (hf : cells ≤ R.cells ∧ slots ≤ R.slots)
    (kk : ∀ (u : va_W), post u → V p l e R s m args below meth c D A nL cells slots Q (u) (lv) (pc + 3) (rest)) : V p l e R s m args below meth c D A nL cells slots Q (ws) (lv) (pc) (st) :=
  V.callSV F hM hd hs h2 [] [] (by rw [List.nil_append, List.append_nil]) hst hn hW hrm hf (fun u hp => by rw [List.nil_append, List.append_nil]; exact kk u hp)
theorem V.sld (F : Fx p m meth c cc nL s args own D tys A) {b L i : Nat} {xs : Nat → Int32} {v : Int32} (hd : decode cc pc = .ok (.iaload, 1)) (hX : va_X b L xs s s.heap) (hbl : b < s.heap.size) (hbA : ¬ A b) (hi : i < L) (hL : L < 2 ^ 31) (hv : xs i = v) (kk : V p l e R s m args below meth c D A nL cells slots Q (ws) (lv) (pc + 1) (.int v :: st)) : V p l e R s m args below meth c D A nL cells slots Q (ws) (lv) (pc) (.int (nI i) :: .ref b :: st) := fun H locs ls hP hD hS hl => va_sld F.1.1 F.1.2.1 hX hbl hbA hS (vp_in_nI hi hL) hd (by rw [cl_nI (Nat.lt_trans hi hL), hv]; exact (kk H locs ls hP hD hS hl))
theorem V.slen (F : Fx p m meth c cc nL s args own D tys A) {b L : Nat} {xs : Nat → Int32} (hd : decode cc pc = .ok (.arraylength, 1)) (hX : va_X b L xs s s.heap) (hbl : b < s.heap.size) (hbA : ¬ A b) (kk : V p l e R s m args below meth c D A nL cells slots Q (ws) (lv) (pc + 1) (.int (nI L) :: st)) : V p l e R s m args below meth c D A nL cells slots Q (ws) (lv) (pc) (.ref b :: st) := fun H locs ls hP hD hS hl => va_slen F.1.1 F.1.2.1 hX hbl hbA hS hd (kk H locs ls hP hD hS hl)
end VV
end
section
def bvS (g : Nat → Bool) : Nat → BitVec 64
  | 0 => 0#64
  | k + 1 => bvS g k ||| (if g k = true then BitVec.twoPow 64 k else 0#64)
theorem bvS_get (g : Nat → Bool) : ∀ (k i : Nat), k ≤ 64 → (bvS g k).getLsbD i = (decide (i < k) && g i)
  | 0, i, _ => by simp [bvS]
  | k + 1, i, h => by
    rw [bvS, BitVec.getLsbD_or, bvS_get g k i (by omega)]
    by_cases hg : g k = true
    · rw [if_pos hg, BitVec.getLsbD_twoPow]
      by_cases hik : k = i
      · subst hik
        simp [hg]
        omega
      · have e1 : decide (i < k + 1) = decide (i < k) := by
          by_cases h1 : i < k
          · simp [h1]; omega
          · simp [h1]; omega
        rw [e1]
        simp [hik]
    · rw [if_neg hg]
      by_cases hik : k = i
      · subst hik
        simp [hg]
      · have e1 : decide (i < k + 1) = decide (i < k) := by
          by_cases h1 : i < k
          · simp [h1]; omega
          · simp [h1]; omega
        rw [e1]
        simp
def wd (S : Nat → Bool) (w : Nat) : Int64 := Int64.ofBitVec (bvS (fun b => S (64 * w + b)) 64)
theorem wd_bv (S : Nat → Bool) (w : Nat) : (wd S w).toBitVec = bvS (fun b => S (64 * w + b)) 64 := rfl
theorem wd_get (S : Nat → Bool) (w : Nat) {i : Nat} (h : i < 64) : (wd S w).toBitVec.getLsbD i = S (64 * w + i) := by
  rw [wd_bv, bvS_get _ 64 i (Nat.le_refl _)]
  simp [h]
theorem i64_ext {x y : Int64} (h : ∀ i, i < 64 → x.toBitVec.getLsbD i = y.toBitVec.getLsbD i) : x = y := by
  apply Int64.toBitVec_inj.mp
  apply BitVec.eq_of_getLsbD_eq
  intro i hi
  exact h i hi
theorem sh_1 : ∀ k, k < 64 → ((1 : Int64) <<< ((nI k).toInt64 &&& 63)).toBitVec = BitVec.twoPow 64 k := by decide +kernel
theorem wd_eq {S T : Nat → Bool} {w : Nat} (h : ∀ b, b < 64 → S (64 * w + b) = T (64 * w + b)) : wd S w = wd T w := i64_ext fun i hi => by rw [wd_get S w hi, wd_get T w hi]; exact h i hi
theorem wd_eq_iff {S T : Nat → Bool} {w : Nat} : wd S w = wd T w ↔ ∀ b, b < 64 → S (64 * w + b) = T (64 * w + b) := ⟨fun h b hb => by rw [← wd_get S w hb, ← wd_get T w hb, h], wd_eq⟩
theorem dm64 (n : Nat) : 64 * (n / 64) + n % 64 = n := Nat.div_add_mod n 64
theorem wd_bit (S : Nat → Bool) (n : Nat) : (wd S (n / 64) &&& ((1 : Int64) <<< ((nI (n % 64)).toInt64 &&& 63))) = 0 ↔ S n = false := by
  have hk : n % 64 < 64 := Nat.mod_lt _ (by decide)
  have e1 := wd_get S (n / 64) hk
  rw [dm64] at e1
  rw [← Int64.toBitVec_inj, Int64.toBitVec_and, sh_1 _ hk, BitVec.and_twoPow, e1]
  by_cases h : S n = true
  · rw [if_pos h, h]
    constructor
    · intro q
      have q2 := congrArg (fun v : BitVec 64 => v.getLsbD (n % 64)) q
      simp [BitVec.getLsbD_twoPow] at q2
      omega
    · intro q
      exact absurd q (by decide)
  · rw [if_neg h]
    simp at h
    simp [h]
theorem wd_or1 (S : Nat → Bool) (n : Nat) : (wd S (n / 64) ||| ((1 : Int64) <<< ((nI (n % 64)).toInt64 &&& 63))) = wd (fun k => S k || decide (k = n)) (n / 64) := by
  have hk : n % 64 < 64 := Nat.mod_lt _ (by decide)
  refine i64_ext fun i hi => ?_
  rw [Int64.toBitVec_or, sh_1 _ hk, BitVec.getLsbD_or, wd_get _ _ hi, wd_get _ _ hi, BitVec.getLsbD_twoPow]
  have e : (decide (n % 64 < 64) && decide (n % 64 = i)) = decide (64 * (n / 64) + i = n) := by
    by_cases h : n % 64 = i
    · subst h
      rw [dm64]
      simp [hk]
    · have h2 : ¬ 64 * (n / 64) + i = n := by omega
      simp [h, h2]
  rw [e]
theorem wd_or (S T : Nat → Bool) (w : Nat) : (wd S w ||| wd T w) = wd (fun k => S k || T k) w := by
  refine i64_ext fun i hi => ?_
  rw [Int64.toBitVec_or, BitVec.getLsbD_or, wd_get _ _ hi, wd_get _ _ hi, wd_get _ _ hi]
theorem wd_0 (w : Nat) : wd (fun _ => false) w = 0 := by
  refine i64_ext fun i hi => ?_
  rw [wd_get _ _ hi]
  simp
theorem wd_and0 (S T : Nat → Bool) (w : Nat) : (wd S w &&& wd T w) = 0 ↔ ∀ b, b < 64 → (S (64 * w + b) && T (64 * w + b)) = false := by
  constructor
  · intro h b hb
    have q2 := congrArg (fun v : Int64 => v.toBitVec.getLsbD b) h
    simp only [Int64.toBitVec_and, BitVec.getLsbD_and, wd_get _ _ hb] at q2
    rw [q2]
    simp
  · intro h
    refine i64_ext fun i hi => ?_
    rw [Int64.toBitVec_and, BitVec.getLsbD_and, wd_get _ _ hi, wd_get _ _ hi, h i hi]
    simp
theorem wd_upd {S S2 : Nat → Bool} {w : Nat} {x : Int64} (hx : x = wd S2 w) (h : ∀ n, n / 64 ≠ w → S2 n = S n) : vp_updL (wd S) w x = wd S2 := by
  funext j
  unfold vp_updL
  by_cases hj : j = w
  · rw [if_pos hj, hx, hj]
  · rw [if_neg hj]
    exact wd_eq fun b hb => (h _ (by omega)).symm
theorem upd_nF (g : Nat → Nat) (i x : Nat) : upd (nF g) i (nI x) = nF (va_up g i x) := by
  funext j
  by_cases h : j = i
  · subst h; show _ = nI (va_up g j x j); rw [va_up_self]; simp [upd]
  · show _ = nI (va_up g i x j); rw [va_up_ne _ _ h]; simp [upd, h]
theorem updL_up (f : Nat → Int64) (i : Nat) (x : Int64) : vp_updL f i x = va_up f i x := rfl
def cnt (g : Nat → Bool) : Nat → Nat
  | 0 => 0
  | k + 1 => cnt g k + (if g k = true then 1 else 0)
theorem cnt_le (g : Nat → Bool) : ∀ k, cnt g k ≤ k
  | 0 => Nat.le_refl _
  | k + 1 => by
    have := cnt_le g k
    rw [cnt]
    split <;> omega
theorem cnt_congr {g h : Nat → Bool} : ∀ {k : Nat}, (∀ i, i < k → g i = h i) → cnt g k = cnt h k
  | 0, _ => rfl
  | k + 1, H => by rw [cnt, cnt, cnt_congr (fun i hi => H i (by omega)), H k (by omega)]
theorem cnt_add (g : Nat → Bool) (a : Nat) : ∀ b, cnt g (a + b) = cnt g a + cnt (fun i => g (a + i)) b
  | 0 => rfl
  | b + 1 => by rw [← Nat.add_assoc, cnt, cnt, cnt_add g a b, Nat.add_assoc]
end
section
theorem la_split (a b c d : Nat) (ha : a < 256) (hc : c < 256) : (a + 256 * b) &&& (c + 256 * d) = (a &&& c) + 256 * (b &&& d) := by
  have hac : a &&& c < 256 := Nat.lt_of_le_of_lt Nat.and_le_left ha
  apply Nat.eq_of_testBit_eq
  intro i
  have e : ∀ x y : Nat, x < 256 → (x + 256 * y).testBit i = if i < 8 then x.testBit i else y.testBit (i - 8) := by
    intro x y hx
    rw [show x + 256 * y = 2 ^ 8 * y + x by omega]
    by_cases h : i < 8
    · rw [if_pos h, Nat.testBit_two_pow_mul_add y hx i, if_pos h]
    · rw [if_neg h, Nat.testBit_two_pow_mul_add y hx i, if_neg h]
  rw [Nat.testBit_and, e a b ha, e c d hc, e _ _ hac]
  split
  · rw [Nat.testBit_and]
  · rw [Nat.testBit_and]
def m55 : Nat → Nat
  | 0 => 0
  | k + 1 => 85 + 256 * m55 k
def m33 : Nat → Nat
  | 0 => 0
  | k + 1 => 51 + 256 * m33 k
def m0f : Nat → Nat
  | 0 => 0
  | k + 1 => 15 + 256 * m0f k
def s1 (k x : Nat) : Nat := x - ((x / 2) &&& m55 k)
def s2 (k x : Nat) : Nat := (x &&& m33 k) + ((x / 4) &&& m33 k)
def s3 (k x : Nat) : Nat := (x + x / 16) &&& m0f k
theorem q1 : ∀ v, v < 256 → ∀ r, r < 2 → ((v / 2 + 128 * r) &&& 85) = ((v / 2) &&& 85) := by decide +kernel
theorem q2 : ∀ v, v < 256 → ∀ r, r < 4 → ((v / 4 + 64 * r) &&& 51) = ((v / 4) &&& 51) := by decide +kernel
theorem s1_step (k v x : Nat) (hv : v < 256) : s1 (k + 1) (v + 256 * x) = (v - ((v / 2) &&& 85)) + 256 * s1 k x := by
  unfold s1
  have e1 : (v + 256 * x) / 2 = (v / 2 + 128 * (x % 2)) + 256 * (x / 2) := by omega
  rw [e1, m55, la_split _ _ _ _ (by omega) (by decide), q1 v hv (x % 2) (Nat.mod_lt _ (by decide))]
  have h1 : ((v / 2) &&& 85) ≤ v / 2 := Nat.and_le_left
  have h2 : ((x / 2) &&& m55 k) ≤ x / 2 := Nat.and_le_left
  omega
theorem s2_step (k v x : Nat) (hv : v < 256) : s2 (k + 1) (v + 256 * x) = ((v &&& 51) + ((v / 4) &&& 51)) + 256 * s2 k x := by
  unfold s2
  have e1 : (v + 256 * x) / 4 = (v / 4 + 64 * (x % 4)) + 256 * (x / 4) := by omega
  rw [e1, m33, la_split v x 51 (m33 k) hv (by decide), la_split (v / 4 + 64 * (x % 4)) (x / 4) 51 (m33 k) (by omega) (by decide), q2 v hv (x % 4) (Nat.mod_lt _ (by decide))]
  omega
def w2 (v : Nat) : Nat := ((v - ((v / 2) &&& 85)) &&& 51) + (((v - ((v / 2) &&& 85)) / 4) &&& 51)
def pc8 (v : Nat) : Nat := cnt (fun i => v.testBit i) 8
theorem q3 : ∀ v, v < 256 → ∀ r, r < 5 → (w2 v + w2 v / 16 + 16 * r < 256) ∧ ((w2 v + w2 v / 16 + 16 * r) &&& 15) = pc8 v ∧ w2 v % 16 < 5 ∧ v - ((v / 2) &&& 85) < 256 := by decide +kernel
theorem s12_step (k v x : Nat) (hv : v < 256) : s2 (k + 1) (s1 (k + 1) (v + 256 * x)) = w2 v + 256 * s2 k (s1 k x) := by
  rw [s1_step k v x hv, s2_step k _ _ (q3 v hv 0 (by decide)).2.2.2]
  rfl
theorem s12_low : ∀ (k x : Nat), x < 256 ^ k → s2 k (s1 k x) % 16 < 5
  | 0, x, h => by
    have : x = 0 := by simpa using h
    subst this
    decide
  | k + 1, x, h => by
    have e : x = x % 256 + 256 * (x / 256) := by omega
    rw [e, s12_step k _ _ (Nat.mod_lt _ (by decide))]
    have := (q3 (x % 256) (Nat.mod_lt _ (by decide)) 0 (by decide)).2.2.1
    omega
theorem s123_step (k v x : Nat) (hv : v < 256) (hx : x < 256 ^ k) : s3 (k + 1) (s2 (k + 1) (s1 (k + 1) (v + 256 * x))) = pc8 v + 256 * s3 k (s2 k (s1 k x)) := by
  rw [s12_step k v x hv]
  have hl := s12_low k x hx
  generalize s2 k (s1 k x) = P at hl ⊢
  obtain ⟨h1, h2, -, -⟩ := q3 v hv (P % 16) hl
  unfold s3
  have e1 : w2 v + 256 * P + (w2 v + 256 * P) / 16 = (w2 v + w2 v / 16 + 16 * (P % 16)) + 256 * (P + P / 16) := by omega
  rw [e1, m0f, la_split _ _ _ _ h1 (by decide), h2]
def byteSum (f : Nat → Nat) : Nat → Nat → Nat
  | 0, _ => 0
  | k + 1, x => f (x % 256) + 256 * byteSum f k (x / 256)
theorem s123 : ∀ (k x : Nat), x < 256 ^ k → s3 k (s2 k (s1 k x)) = byteSum pc8 k x
  | 0, x, h => by
    have : x = 0 := by simpa using h
    subst this
    decide
  | k + 1, x, h => by
    have e : x = x % 256 + 256 * (x / 256) := by omega
    have hx : x / 256 < 256 ^ k := by
      rw [Nat.pow_succ] at h
      omega
    rw [byteSum, ← s123 k (x / 256) hx, ← s123_step k _ _ (Nat.mod_lt _ (by decide)) hx, ← e]
theorem pc8_le (v : Nat) : pc8 v ≤ 8 := cnt_le _ 8
theorem cnt_bytes (x : Nat) : ∀ k, cnt (fun i => x.testBit i) (8 * k) = (List.range k).foldr (fun j a => pc8 (x / 256 ^ j) + a) 0
  | 0 => rfl
  | k + 1 => by
    rw [show 8 * (k + 1) = 8 * k + 8 by omega, cnt_add, cnt_bytes x k, List.range_succ, List.foldr_append]
    have e : cnt (fun i => x.testBit (8 * k + i)) 8 = pc8 (x / 256 ^ k) := by
      unfold pc8
      refine cnt_congr fun i _ => ?_
      rw [show 256 ^ k = 2 ^ (8 * k) by rw [Nat.pow_mul], Nat.testBit_div_two_pow]
      congr 1
      omega
    rw [e]
    have g : ∀ (l : List Nat) (z : Nat), l.foldr (fun j a => pc8 (x / 256 ^ j) + a) z = l.foldr (fun j a => pc8 (x / 256 ^ j) + a) 0 + z := by
      intro l
      induction l with
      | nil => intro z; simp
      | cons a t ih => intro z; simp only [List.foldr_cons]; rw [ih z]; omega
    rw [List.foldr_cons, List.foldr_nil, g _ (pc8 (x / 256 ^ k) + 0)]
    omega
def swar (x : Nat) : Nat :=
  let a := s3 8 (s2 8 (s1 8 x))
  let b := a + a / 256
  let c := b + b / 65536
  (c + c / 4294967296) % 128
theorem pc8_mod (v : Nat) : pc8 (v % 256) = pc8 v := by
  unfold pc8
  refine cnt_congr fun i hi => ?_
  rw [show 256 = 2 ^ 8 by decide, Nat.testBit_mod_two_pow]
  simp [hi]
theorem dv (x A : Nat) (h : x < 256) : (x + 256 * A) / 256 = A := by omega
theorem md (x A : Nat) (h : x < 128) : (x + 256 * A) % 128 = x := by omega
theorem swar_eq (x : Nat) (h : x < 2 ^ 64) : swar x = cnt (fun i => x.testBit i) 64 := by
  have e := cnt_bytes x 8
  rw [show 8 * 8 = 64 by decide] at e
  rw [e]
  unfold swar
  rw [s123 8 x (by rw [show 256 ^ 8 = 2 ^ 64 by decide]; exact h)]
  simp only [byteSum, List.range, List.range.loop, List.foldr_cons, List.foldr_nil]
  simp only [Nat.div_div_eq_div_mul, pc8_mod]
  simp only [show 256 * 256 = 65536 by decide, show 65536 * 256 = 16777216 by decide, show 16777216 * 256 = 4294967296 by decide, show 4294967296 * 256 = 1099511627776 by decide, show 1099511627776 * 256 = 281474976710656 by decide, show 281474976710656 * 256 = 72057594037927936 by decide, show 256 ^ 0 = 1 by decide, show 256 ^ 1 = 256 by decide, show 256 ^ 2 = 65536 by decide, show 256 ^ 3 = 16777216 by decide, show 256 ^ 4 = 4294967296 by decide, show 256 ^ 5 = 1099511627776 by decide, show 256 ^ 6 = 281474976710656 by decide, show 256 ^ 7 = 72057594037927936 by decide, Nat.div_one]
  have h0 := pc8_le x
  have h1 := pc8_le (x / 256)
  have h2 := pc8_le (x / 65536)
  have h3 := pc8_le (x / 16777216)
  have h4 := pc8_le (x / 4294967296)
  have h5 := pc8_le (x / 1099511627776)
  have h6 := pc8_le (x / 281474976710656)
  have h7 := pc8_le (x / 72057594037927936)
  generalize pc8 x = y0 at *
  generalize pc8 (x / 256) = y1 at *
  generalize pc8 (x / 65536) = y2 at *
  generalize pc8 (x / 16777216) = y3 at *
  generalize pc8 (x / 4294967296) = y4 at *
  generalize pc8 (x / 1099511627776) = y5 at *
  generalize pc8 (x / 281474976710656) = y6 at *
  generalize pc8 (x / 72057594037927936) = y7 at *
  have e1 : (y0 + 256 * (y1 + 256 * (y2 + 256 * (y3 + 256 * (y4 + 256 * (y5 + 256 * (y6 + 256 * (y7 + 256 * 0)))))))) / 256 = (y1 + 256 * (y2 + 256 * (y3 + 256 * (y4 + 256 * (y5 + 256 * (y6 + 256 * (y7 + 256 * 0))))))) := dv _ _ (by omega)
  rw [e1]
  clear e1
  have e2 : (y0 + 256 * (y1 + 256 * (y2 + 256 * (y3 + 256 * (y4 + 256 * (y5 + 256 * (y6 + 256 * (y7 + 256 * 0)))))))) + (y1 + 256 * (y2 + 256 * (y3 + 256 * (y4 + 256 * (y5 + 256 * (y6 + 256 * (y7 + 256 * 0))))))) = ((y0 + y1) + 256 * ((y1 + y2) + 256 * ((y2 + y3) + 256 * ((y3 + y4) + 256 * ((y4 + y5) + 256 * ((y5 + y6) + 256 * ((y6 + y7) + 256 * (y7 + 256 * 0)))))))) := by clear h0 h1 h2 h3 h4 h5 h6 h7; omega
  rw [e2]
  clear e2
  have f1 : ((y0 + y1) + 256 * ((y1 + y2) + 256 * ((y2 + y3) + 256 * ((y3 + y4) + 256 * ((y4 + y5) + 256 * ((y5 + y6) + 256 * ((y6 + y7) + 256 * (y7 + 256 * 0)))))))) / 65536 = ((y2 + y3) + 256 * ((y3 + y4) + 256 * ((y4 + y5) + 256 * ((y5 + y6) + 256 * ((y6 + y7) + 256 * (y7 + 256 * 0)))))) := by
    rw [show 65536 = 256 * 256 by decide, ← Nat.div_div_eq_div_mul, dv _ _ (by omega), dv _ _ (by omega)]
  rw [f1]
  clear f1
  have f2 : ((y0 + y1) + 256 * ((y1 + y2) + 256 * ((y2 + y3) + 256 * ((y3 + y4) + 256 * ((y4 + y5) + 256 * ((y5 + y6) + 256 * ((y6 + y7) + 256 * (y7 + 256 * 0)))))))) + ((y2 + y3) + 256 * ((y3 + y4) + 256 * ((y4 + y5) + 256 * ((y5 + y6) + 256 * ((y6 + y7) + 256 * (y7 + 256 * 0)))))) = (((y0 + y1) + (y2 + y3)) + 256 * (((y1 + y2) + (y3 + y4)) + 256 * (((y2 + y3) + (y4 + y5)) + 256 * (((y3 + y4) + (y5 + y6)) + 256 * (((y4 + y5) + (y6 + y7)) + 256 * (((y5 + y6) + y7) + 256 * ((y6 + y7) + 256 * (y7 + 256 * 0)))))))) := by clear h0 h1 h2 h3 h4 h5 h6 h7; omega
  rw [f2]
  clear f2
  have h9 : (((y0 + y1) + (y2 + y3)) + 256 * (((y1 + y2) + (y3 + y4)) + 256 * (((y2 + y3) + (y4 + y5)) + 256 * (((y3 + y4) + (y5 + y6)) + 256 * (((y4 + y5) + (y6 + y7)) + 256 * (((y5 + y6) + y7) + 256 * ((y6 + y7) + 256 * (y7 + 256 * 0)))))))) / 4294967296 = (((y4 + y5) + (y6 + y7)) + 256 * (((y5 + y6) + y7) + 256 * ((y6 + y7) + 256 * (y7 + 256 * 0)))) := by
    rw [show 4294967296 = 256 * 256 * 256 * 256 by decide, ← Nat.div_div_eq_div_mul, ← Nat.div_div_eq_div_mul, ← Nat.div_div_eq_div_mul, dv _ _ (by omega), dv _ _ (by omega), dv _ _ (by omega), dv _ _ (by omega)]
  rw [h9]
  clear h9
  have k9 : (((y0 + y1) + (y2 + y3)) + 256 * (((y1 + y2) + (y3 + y4)) + 256 * (((y2 + y3) + (y4 + y5)) + 256 * (((y3 + y4) + (y5 + y6)) + 256 * (((y4 + y5) + (y6 + y7)) + 256 * (((y5 + y6) + y7) + 256 * ((y6 + y7) + 256 * (y7 + 256 * 0)))))))) + (((y4 + y5) + (y6 + y7)) + 256 * (((y5 + y6) + y7) + 256 * ((y6 + y7) + 256 * (y7 + 256 * 0)))) = ((((y0 + y1) + (y2 + y3)) + ((y4 + y5) + (y6 + y7))) + 256 * ((((y1 + y2) + (y3 + y4)) + ((y5 + y6) + y7)) + 256 * ((((y2 + y3) + (y4 + y5)) + (y6 + y7)) + 256 * ((((y3 + y4) + (y5 + y6)) + y7) + 256 * (((y4 + y5) + (y6 + y7)) + 256 * (((y5 + y6) + y7) + 256 * ((y6 + y7) + 256 * (y7 + 256 * 0)))))))) := by clear h0 h1 h2 h3 h4 h5 h6 h7; omega
  rw [k9, md _ _ (by omega)]
  clear k9
  omega
end
section
def uN (x : Int64) : Nat := x.toUInt64.toNat
theorem uN_lt (x : Int64) : uN x < 18446744073709551616 := x.toUInt64.toNat_lt
theorem uN_bv (x : Int64) : uN x = x.toBitVec.toNat := rfl
theorem uN_add {x y : Int64} {a b : Nat} (hx : uN x = a) (hy : uN y = b) (h : a + b < 18446744073709551616) : uN (x + y) = a + b := by
  have e : uN (x + y) = (uN x + uN y) % 18446744073709551616 := by
    show (x.toUInt64 + y.toUInt64).toNat = _
    rw [UInt64.toNat_add]; rfl
  rw [e, hx, hy, Nat.mod_eq_of_lt h]
theorem uN_sub {x y : Int64} {a b : Nat} (hx : uN x = a) (hy : uN y = b) (h : b ≤ a) : uN (x - y) = a - b := by
  have hle : y.toUInt64 ≤ x.toUInt64 := by
    rw [UInt64.le_iff_toNat_le]
    show uN y ≤ uN x
    omega
  have e : uN (x - y) = uN x - uN y := by
    show (x.toUInt64 - y.toUInt64).toNat = _
    exact UInt64.toNat_sub_of_le _ _ hle
  rw [e, hx, hy]
theorem uN_and {x y : Int64} {a b : Nat} (hx : uN x = a) (hy : uN y = b) : uN (x &&& y) = a &&& b := by
  have e : uN (x &&& y) = uN x &&& uN y := UInt64.toNat_and _ _
  rw [e, hx, hy]
theorem uN_shr (x : Int64) (s : UInt64) : uN (x.toUInt64 >>> s).toInt64 = uN x / 2 ^ (s.toNat % 64) := by
  show (x.toUInt64 >>> s).toNat = _
  rw [UInt64.toNat_shiftRight, Nat.shiftRight_eq_div_pow]
  rfl
theorem u63 : ∀ k, k < 64 → (((nI k).toInt64.toUInt64 &&& Int64.toUInt64 63)).toNat % 64 = k := by decide +kernel
theorem uN_sk {x : Int64} {a k : Nat} (hx : uN x = a) (hk : k < 64) : uN (x.toUInt64 >>> ((nI k).toInt64.toUInt64 &&& Int64.toUInt64 63)).toInt64 = a / 2 ^ k := by
  rw [uN_shr, u63 k hk, hx]
theorem bc_127 (x : Int64) : x.toInt32 &&& nI 127 = nI (uN x % 128) := by
  rw [pk_and x.toInt32 (m := nI 127) 7 (by decide)]
  congr 1
  show (x.toBitVec.signExtend 32).toNat % 2 ^ 7 = x.toBitVec.toNat % 128
  rw [BitVec.signExtend_eq_setWidth_of_le _ (by decide), BitVec.toNat_setWidth]
  omega
theorem m55_8 : m55 8 = 6148914691236517205 := by decide
theorem m33_8 : m33 8 = 3689348814741910323 := by decide
theorem m0f_8 : m0f 8 = 1085102592571150095 := by decide
def ones : Nat → Nat
  | 0 => 0
  | k + 1 => 1 + 256 * ones k
theorem bs_ar {w y o : Nat} (h1 : w ≤ 8 * o) (h2 : y ≤ 8) : y + 256 * w ≤ 8 * (1 + 256 * o) := by omega
theorem bs_le : ∀ k x, byteSum pc8 k x ≤ 8 * ones k
  | 0, x => Nat.le_refl _
  | k + 1, x => bs_ar (bs_le k (x / 256)) (pc8_le (x % 256))
theorem bc_eq {x i1 i2 i3 i4 i5 i6 : Int64} (e1 : i1 = x - ((x.toUInt64 >>> ((nI 1).toInt64.toUInt64 &&& Int64.toUInt64 63)).toInt64 &&& 6148914691236517205)) (e2 : i2 = (i1 &&& 3689348814741910323) + ((i1.toUInt64 >>> ((nI 2).toInt64.toUInt64 &&& Int64.toUInt64 63)).toInt64 &&& 3689348814741910323)) (e3 : i3 = (i2 + (i2.toUInt64 >>> ((nI 4).toInt64.toUInt64 &&& Int64.toUInt64 63)).toInt64) &&& 1085102592571150095) (e4 : i4 = i3 + (i3.toUInt64 >>> ((nI 8).toInt64.toUInt64 &&& Int64.toUInt64 63)).toInt64) (e5 : i5 = i4 + (i4.toUInt64 >>> ((nI 16).toInt64.toUInt64 &&& Int64.toUInt64 63)).toInt64) (e6 : i6 = i5 + (i5.toUInt64 >>> ((nI 32).toInt64.toUInt64 &&& Int64.toUInt64 63)).toInt64) : i6.toInt32 &&& nI 127 = nI (cnt (fun b => x.toBitVec.getLsbD b) 64) := by
  obtain ⟨n, hn⟩ : ∃ n, uN x = n := ⟨_, rfl⟩
  have hlt : n < 18446744073709551616 := hn ▸ uN_lt x
  have k55 : uN (6148914691236517205 : Int64) = m55 8 := by decide
  have k33 : uN (3689348814741910323 : Int64) = m33 8 := by decide
  have k0f : uN (1085102592571150095 : Int64) = m0f 8 := by decide
  have h1 : uN i1 = s1 8 n := by
    rw [e1]
    have := uN_and (uN_sk (k := 1) hn (by decide)) k55
    exact uN_sub hn this (Nat.le_trans Nat.and_le_left (Nat.div_le_self _ _))
  have h2 : uN i2 = s2 8 (s1 8 n) := by
    rw [e2]
    have hA := uN_and h1 k33
    have hB := uN_and (uN_sk (k := 2) h1 (by decide)) k33
    refine uN_add hA hB ?_
    have a1 : (s1 8 n &&& m33 8) ≤ m33 8 := Nat.and_le_right
    have a2 : (s1 8 n / 4 &&& m33 8) ≤ m33 8 := Nat.and_le_right
    rw [m33_8] at *
    omega
  have b2 : s2 8 (s1 8 n) ≤ 2 * 3689348814741910323 := by
    unfold s2
    have a1 : (s1 8 n &&& m33 8) ≤ m33 8 := Nat.and_le_right
    have a2 : (s1 8 n / 4 &&& m33 8) ≤ m33 8 := Nat.and_le_right
    rw [m33_8] at *
    omega
  have h3 : uN i3 = s3 8 (s2 8 (s1 8 n)) := by
    rw [e3]
    refine uN_and (uN_add h2 (uN_sk (k := 4) h2 (by decide)) ?_) k0f
    omega
  have hs := s123 8 n (by rw [show 256 ^ 8 = 18446744073709551616 by decide]; exact hlt)
  have hb := bs_le 8 n
  rw [← hs, show ones 8 = 72340172838076673 by decide] at hb
  have hw : swar n = cnt (fun i => n.testBit i) 64 := swar_eq n hlt
  unfold swar at hw
  generalize hA : s3 8 (s2 8 (s1 8 n)) = a at *
  have h4 : uN i4 = a + a / 256 := by
    rw [e4]
    exact uN_add h3 (uN_sk (k := 8) h3 (by decide)) (by omega)
  have h5 : uN i5 = (a + a / 256) + (a + a / 256) / 65536 := by
    rw [e5]
    exact uN_add h4 (uN_sk (k := 16) h4 (by decide)) (by omega)
  have h6 : uN i6 = ((a + a / 256) + (a + a / 256) / 65536) + ((a + a / 256) + (a + a / 256) / 65536) / 4294967296 := by
    rw [e6]
    exact uN_add h5 (uN_sk (k := 32) h5 (by decide)) (by omega)
  rw [bc_127, h6]
  congr 1
  rw [← hn] at hw
  exact hw.trans (cnt_congr fun i hi => rfl)
end
section
def oI (o : Option Nat) : Int32 := match o with
  | none => -1
  | some b => nI b
abbrev aI (ct : Nat → ClassId) (n : Nat) (g : Nat → Nat) : va_E := .inl (ct 0, n, .inl (nF g))
abbrev aL (ct : Nat → ClassId) (n : Nat) (f : Nat → Int64) : va_E := .inl (ct 1, n, .inr (.inl f))
def dkA (da : Nat → Nat → Nat) (nd : Nat) : Nat → Option Nat := fun j => if j < nd then some (da j 0) else none
def rpW (rep : Nat → Nat → Bool) : Nat → Int64 := fun j => wd (rep (j / 5)) (j % 5)
def fl (f : Nat → va_W) : Nat → va_W
  | 0 => []
  | n + 1 => fl f n ++ f n
theorem fl_len {f : Nat → va_W} (h : ∀ i, (f i).length = 5) : ∀ n, (fl f n).length = 5 * n
  | 0 => rfl
  | n + 1 => by rw [fl, List.length_append, fl_len h n, h n]; omega
theorem fl_get {f : Nat → va_W} (h : ∀ i, (f i).length = 5) : ∀ (n i j : Nat), i < n → j < 5 → (fl f n)[5 * i + j]? = (f i)[j]?
  | 0, i, j, hi, _ => absurd hi (Nat.not_lt_zero _)
  | n + 1, i, j, hi, hj => by
    rw [fl]
    by_cases hin : i < n
    · rw [List.getElem?_append_left (by rw [fl_len h n]; omega)]
      exact fl_get h n i j hin hj
    · have e : i = n := by omega
      subst e
      rw [List.getElem?_append_right (by rw [fl_len h i]; omega), fl_len h i, Nat.add_sub_cancel_left]
theorem fl_congr {f g : Nat → va_W} : ∀ {n : Nat}, (∀ i, i < n → f i = g i) → fl f n = fl g n
  | 0, _ => rfl
  | n + 1, H => by rw [fl, fl, fl_congr (fun i hi => H i (by omega)), H n (by omega)]
theorem fl_set {f g : Nat → va_W} (h : ∀ i, (f i).length = 5) {i j : Nat} {x : Nat × va_E} (hj : j < 5) (hg : ∀ k, k ≠ i → g k = f k) (hi : g i = (f i).set j x) : ∀ n, i < n → (fl f n).set (5 * i + j) x = fl g n
  | 0, hn => absurd hn (Nat.not_lt_zero _)
  | n + 1, hn => by
    rw [fl, fl]
    by_cases hin : i < n
    · rw [List.set_append_left _ _ (by rw [fl_len h n]; omega), fl_set h hj hg hi n hin, hg n (by omega)]
    · have e : i = n := by omega
      subst e
      rw [List.set_append_right _ _ (by rw [fl_len h i]; omega), fl_len h i, Nat.add_sub_cancel_left, hi, fl_congr (f := f) (g := g) (fun k hk => (hg k (by omega)).symm)]
abbrev dkC (ct : Nat → ClassId) (da : Nat → Nat → Nat) (kn : Nat → Nat → Bool) (pe : Nat → Nat → Bool) (clk : Nat → Nat) (tol : Nat → Nat) (opn : Nat → Option Nat) (i : Nat) : va_W := [(da i 0, .inr (3, [.int (nI i), .ref (da i 1), .ref (da i 3), .int (nI (clk i)), .int (nI (tol i)), .int (oI (opn i))])), (da i 1, .inr (1, [.ref (da i 2)])), (da i 2, aL ct 5 (wd (kn i))), (da i 3, .inr (1, [.ref (da i 4)])), (da i 4, aL ct 5 (wd (pe i)))]
def CW (ct : Nat → ClassId) (ad : Nat → Nat) (da : Nat → Nat → Nat) (nd : Nat) (nb : Nat) (nf : Nat) (bdk : Nat → Nat) (num : Nat → Nat) (spt : Nat → Nat) (val : Nat → Int64) (tim : Nat → Nat) (rep : Nat → Nat → Bool) (byN : Nat → Nat) (byS : Nat → Nat) (pk : Nat → Bool) (kn : Nat → Nat → Bool) (pe : Nat → Nat → Bool) (clk : Nat → Nat) (tol : Nat → Nat) (opn : Nat → Option Nat) : va_W := [(ad 0, .inr (0, [.ref (ad 1), .ref (ad 2), .ref (ad 3), .ref (ad 11), .int (nI nd), .int (nI nb)])), (ad 1, .inl (ct 2, 8, .inr (.inr (.inr (.inr (dkA da nd)))))), (ad 2, aI ct 40 bdk), (ad 3, .inr (2, [.ref (ad 4), .ref (ad 5), .ref (ad 6), .ref (ad 7), .ref (ad 8), .ref (ad 9), .ref (ad 10), .int (nI nf)])), (ad 4, aI ct 300 num), (ad 5, aI ct 300 spt), (ad 6, aL ct 300 val), (ad 7, aI ct 300 tim), (ad 8, aL ct 1500 (rpW rep)), (ad 9, aI ct 300 byN), (ad 10, aI ct 300 byS), (ad 11, .inr (1, [.ref (ad 12)])), (ad 12, aL ct 5 (wd pk))] ++ fl (dkC ct da kn pe clk tol opn) nd
section CWS
variable {ct : Nat → ClassId} {ad : Nat → Nat} {da : Nat → Nat → Nat} {nd : Nat} {nb : Nat} {nf : Nat} {bdk : Nat → Nat} {num : Nat → Nat} {spt : Nat → Nat} {val : Nat → Int64} {tim : Nat → Nat} {rep : Nat → Nat → Bool} {byN : Nat → Nat} {byS : Nat → Nat} {pk : Nat → Bool} {kn : Nat → Nat → Bool} {pe : Nat → Nat → Bool} {clk : Nat → Nat} {tol : Nat → Nat} {opn : Nat → Option Nat}
theorem cw_d0 {i : Nat} (h : i < nd) : (CW ct ad da nd nb nf bdk num spt val tim rep byN byS pk kn pe clk tol opn)[13 + (5 * i + 0)]? = some (da i 0, .inr (3, [.int (nI i), .ref (da i 1), .ref (da i 3), .int (nI (clk i)), .int (nI (tol i)), .int (oI (opn i))])) := by
  unfold CW
  rw [List.getElem?_append_right (by show 13 ≤ _; omega)]
  show (fl _ nd)[13 + (5 * i + 0) - 13]? = _
  rw [Nat.add_sub_cancel_left]
  exact fl_get (fun _ => rfl) nd i 0 h (by decide)
theorem cw_d1 {i : Nat} (h : i < nd) : (CW ct ad da nd nb nf bdk num spt val tim rep byN byS pk kn pe clk tol opn)[13 + (5 * i + 1)]? = some (da i 1, .inr (1, [.ref (da i 2)])) := by
  unfold CW
  rw [List.getElem?_append_right (by show 13 ≤ _; omega)]
  show (fl _ nd)[13 + (5 * i + 1) - 13]? = _
  rw [Nat.add_sub_cancel_left]
  exact fl_get (fun _ => rfl) nd i 1 h (by decide)
theorem cw_d2 {i : Nat} (h : i < nd) : (CW ct ad da nd nb nf bdk num spt val tim rep byN byS pk kn pe clk tol opn)[13 + (5 * i + 2)]? = some (da i 2, aL ct 5 (wd (kn i))) := by
  unfold CW
  rw [List.getElem?_append_right (by show 13 ≤ _; omega)]
  show (fl _ nd)[13 + (5 * i + 2) - 13]? = _
  rw [Nat.add_sub_cancel_left]
  exact fl_get (fun _ => rfl) nd i 2 h (by decide)
theorem cw_d3 {i : Nat} (h : i < nd) : (CW ct ad da nd nb nf bdk num spt val tim rep byN byS pk kn pe clk tol opn)[13 + (5 * i + 3)]? = some (da i 3, .inr (1, [.ref (da i 4)])) := by
  unfold CW
  rw [List.getElem?_append_right (by show 13 ≤ _; omega)]
  show (fl _ nd)[13 + (5 * i + 3) - 13]? = _
  rw [Nat.add_sub_cancel_left]
  exact fl_get (fun _ => rfl) nd i 3 h (by decide)
theorem cw_d4 {i : Nat} (h : i < nd) : (CW ct ad da nd nb nf bdk num spt val tim rep byN byS pk kn pe clk tol opn)[13 + (5 * i + 4)]? = some (da i 4, aL ct 5 (wd (pe i))) := by
  unfold CW
  rw [List.getElem?_append_right (by show 13 ≤ _; omega)]
  show (fl _ nd)[13 + (5 * i + 4) - 13]? = _
  rw [Nat.add_sub_cancel_left]
  exact fl_get (fun _ => rfl) nd i 4 h (by decide)
theorem cw_set_clk {i : Nat} {x : Nat} (h : i < nd) : (CW ct ad da nd nb nf bdk num spt val tim rep byN byS pk kn pe clk tol opn).set (13 + (5 * i + 0)) (da i 0, .inr (3, [.int (nI i), .ref (da i 1), .ref (da i 3), .int (nI x), .int (nI (tol i)), .int (oI (opn i))])) = CW ct ad da nd nb nf bdk num spt val tim rep byN byS pk kn pe (va_up clk i x) tol opn := by
  unfold CW
  rw [List.set_append_right _ _ (by show 13 ≤ _; omega)]
  show _ ++ (fl _ nd).set (13 + (5 * i + 0) - 13) _ = _
  rw [Nat.add_sub_cancel_left, fl_set (fun _ => rfl) (by decide : 0 < 5) (g := dkC ct da kn pe (va_up clk i x) tol opn) (fun k hk => by simp only [dkC, va_up_ne _ _ hk]) (by first | (simp only [dkC, va_up_self]; done) | (simp only [dkC, va_up_self]; rfl)) nd h]
theorem cw_set_tol {i : Nat} {x : Nat} (h : i < nd) : (CW ct ad da nd nb nf bdk num spt val tim rep byN byS pk kn pe clk tol opn).set (13 + (5 * i + 0)) (da i 0, .inr (3, [.int (nI i), .ref (da i 1), .ref (da i 3), .int (nI (clk i)), .int (nI x), .int (oI (opn i))])) = CW ct ad da nd nb nf bdk num spt val tim rep byN byS pk kn pe clk (va_up tol i x) opn := by
  unfold CW
  rw [List.set_append_right _ _ (by show 13 ≤ _; omega)]
  show _ ++ (fl _ nd).set (13 + (5 * i + 0) - 13) _ = _
  rw [Nat.add_sub_cancel_left, fl_set (fun _ => rfl) (by decide : 0 < 5) (g := dkC ct da kn pe clk (va_up tol i x) opn) (fun k hk => by simp only [dkC, va_up_ne _ _ hk]) (by first | (simp only [dkC, va_up_self]; done) | (simp only [dkC, va_up_self]; rfl)) nd h]
theorem cw_set_opn {i : Nat} {x : Option Nat} (h : i < nd) : (CW ct ad da nd nb nf bdk num spt val tim rep byN byS pk kn pe clk tol opn).set (13 + (5 * i + 0)) (da i 0, .inr (3, [.int (nI i), .ref (da i 1), .ref (da i 3), .int (nI (clk i)), .int (nI (tol i)), .int (oI x)])) = CW ct ad da nd nb nf bdk num spt val tim rep byN byS pk kn pe clk tol (va_up opn i x) := by
  unfold CW
  rw [List.set_append_right _ _ (by show 13 ≤ _; omega)]
  show _ ++ (fl _ nd).set (13 + (5 * i + 0) - 13) _ = _
  rw [Nat.add_sub_cancel_left, fl_set (fun _ => rfl) (by decide : 0 < 5) (g := dkC ct da kn pe clk tol (va_up opn i x)) (fun k hk => by simp only [dkC, va_up_ne _ _ hk]) (by first | (simp only [dkC, va_up_self]; done) | (simp only [dkC, va_up_self]; rfl)) nd h]
theorem cw_set_kn {i : Nat} {x : Nat → Bool} (h : i < nd) : (CW ct ad da nd nb nf bdk num spt val tim rep byN byS pk kn pe clk tol opn).set (13 + (5 * i + 2)) (da i 2, aL ct 5 (wd x)) = CW ct ad da nd nb nf bdk num spt val tim rep byN byS pk (va_up kn i x) pe clk tol opn := by
  unfold CW
  rw [List.set_append_right _ _ (by show 13 ≤ _; omega)]
  show _ ++ (fl _ nd).set (13 + (5 * i + 2) - 13) _ = _
  rw [Nat.add_sub_cancel_left, fl_set (fun _ => rfl) (by decide : 2 < 5) (g := dkC ct da (va_up kn i x) pe clk tol opn) (fun k hk => by simp only [dkC, va_up_ne _ _ hk]) (by first | (simp only [dkC, va_up_self]; done) | (simp only [dkC, va_up_self]; rfl)) nd h]
theorem cw_set_pe {i : Nat} {x : Nat → Bool} (h : i < nd) : (CW ct ad da nd nb nf bdk num spt val tim rep byN byS pk kn pe clk tol opn).set (13 + (5 * i + 4)) (da i 4, aL ct 5 (wd x)) = CW ct ad da nd nb nf bdk num spt val tim rep byN byS pk kn (va_up pe i x) clk tol opn := by
  unfold CW
  rw [List.set_append_right _ _ (by show 13 ≤ _; omega)]
  show _ ++ (fl _ nd).set (13 + (5 * i + 4) - 13) _ = _
  rw [Nat.add_sub_cancel_left, fl_set (fun _ => rfl) (by decide : 4 < 5) (g := dkC ct da kn (va_up pe i x) clk tol opn) (fun k hk => by simp only [dkC, va_up_ne _ _ hk]) (by first | (simp only [dkC, va_up_self]; done) | (simp only [dkC, va_up_self]; rfl)) nd h]
theorem cw_set_nb {x : Nat} : (CW ct ad da nd nb nf bdk num spt val tim rep byN byS pk kn pe clk tol opn).set 0 (ad 0, .inr (0, [.ref (ad 1), .ref (ad 2), .ref (ad 3), .ref (ad 11), .int (nI nd), .int (nI x)])) = CW ct ad da nd x nf bdk num spt val tim rep byN byS pk kn pe clk tol opn := rfl
theorem cw_set_nf {x : Nat} : (CW ct ad da nd nb nf bdk num spt val tim rep byN byS pk kn pe clk tol opn).set 3 (ad 3, .inr (2, [.ref (ad 4), .ref (ad 5), .ref (ad 6), .ref (ad 7), .ref (ad 8), .ref (ad 9), .ref (ad 10), .int (nI x)])) = CW ct ad da nd nb x bdk num spt val tim rep byN byS pk kn pe clk tol opn := rfl
theorem cw_set_bdk {x : Nat → Nat} : (CW ct ad da nd nb nf bdk num spt val tim rep byN byS pk kn pe clk tol opn).set 2 (ad 2, aI ct 40 x) = CW ct ad da nd nb nf x num spt val tim rep byN byS pk kn pe clk tol opn := rfl
theorem cw_set_num {x : Nat → Nat} : (CW ct ad da nd nb nf bdk num spt val tim rep byN byS pk kn pe clk tol opn).set 4 (ad 4, aI ct 300 x) = CW ct ad da nd nb nf bdk x spt val tim rep byN byS pk kn pe clk tol opn := rfl
theorem cw_set_spt {x : Nat → Nat} : (CW ct ad da nd nb nf bdk num spt val tim rep byN byS pk kn pe clk tol opn).set 5 (ad 5, aI ct 300 x) = CW ct ad da nd nb nf bdk num x val tim rep byN byS pk kn pe clk tol opn := rfl
theorem cw_set_tim {x : Nat → Nat} : (CW ct ad da nd nb nf bdk num spt val tim rep byN byS pk kn pe clk tol opn).set 7 (ad 7, aI ct 300 x) = CW ct ad da nd nb nf bdk num spt val x rep byN byS pk kn pe clk tol opn := rfl
theorem cw_set_byN {x : Nat → Nat} : (CW ct ad da nd nb nf bdk num spt val tim rep byN byS pk kn pe clk tol opn).set 9 (ad 9, aI ct 300 x) = CW ct ad da nd nb nf bdk num spt val tim rep x byS pk kn pe clk tol opn := rfl
theorem cw_set_byS {x : Nat → Nat} : (CW ct ad da nd nb nf bdk num spt val tim rep byN byS pk kn pe clk tol opn).set 10 (ad 10, aI ct 300 x) = CW ct ad da nd nb nf bdk num spt val tim rep byN x pk kn pe clk tol opn := rfl
theorem cw_set_val {x : Nat → Int64} : (CW ct ad da nd nb nf bdk num spt val tim rep byN byS pk kn pe clk tol opn).set 6 (ad 6, aL ct 300 x) = CW ct ad da nd nb nf bdk num spt x tim rep byN byS pk kn pe clk tol opn := rfl
theorem cw_set_rep {x : Nat → Nat → Bool} : (CW ct ad da nd nb nf bdk num spt val tim rep byN byS pk kn pe clk tol opn).set 8 (ad 8, aL ct 1500 (rpW x)) = CW ct ad da nd nb nf bdk num spt val tim x byN byS pk kn pe clk tol opn := rfl
theorem cw_set_pk {x : Nat → Bool} : (CW ct ad da nd nb nf bdk num spt val tim rep byN byS pk kn pe clk tol opn).set 12 (ad 12, aL ct 5 (wd x)) = CW ct ad da nd nb nf bdk num spt val tim rep byN byS x kn pe clk tol opn := rfl
def fsP : Option (Nat × Bool) → Nat
  | none => 11
  | some (i, false) => 13 + (5 * i + 1)
  | some (i, true) => 13 + (5 * i + 3)
def fsX : Option (Nat × Bool) → Nat
  | none => 12
  | some (i, false) => 13 + (5 * i + 2)
  | some (i, true) => 13 + (5 * i + 4)
def fsO (ad : Nat → Nat) (da : Nat → Nat → Nat) : Option (Nat × Bool) → Nat
  | none => ad 11
  | some (i, false) => da i 1
  | some (i, true) => da i 3
def fsW (ad : Nat → Nat) (da : Nat → Nat → Nat) : Option (Nat × Bool) → Nat
  | none => ad 12
  | some (i, false) => da i 2
  | some (i, true) => da i 4
def fsS (pk : Nat → Bool) (kn pe : Nat → Nat → Bool) : Option (Nat × Bool) → Nat → Bool
  | none => pk
  | some (i, false) => kn i
  | some (i, true) => pe i
def fsOk (nd : Nat) : Option (Nat × Bool) → Prop
  | none => True
  | some (i, _) => i < nd
def fsPk (q : Option (Nat × Bool)) (S pk : Nat → Bool) : Nat → Bool := match q with
  | none => S
  | _ => pk
def fsKn (q : Option (Nat × Bool)) (S : Nat → Bool) (kn : Nat → Nat → Bool) : Nat → Nat → Bool := match q with
  | some (i, false) => va_up kn i S
  | _ => kn
def fsPe (q : Option (Nat × Bool)) (S : Nat → Bool) (pe : Nat → Nat → Bool) : Nat → Nat → Bool := match q with
  | some (i, true) => va_up pe i S
  | _ => pe
theorem cw_fs {q : Option (Nat × Bool)} (h : fsOk nd q) : (CW ct ad da nd nb nf bdk num spt val tim rep byN byS pk kn pe clk tol opn)[fsP q]? = some (fsO ad da q, .inr (1, [.ref (fsW ad da q)])) := by
  match q, h with
  | none, _ => rfl
  | some (i, false), h => exact cw_d1 h
  | some (i, true), h => exact cw_d3 h
theorem cw_fw {q : Option (Nat × Bool)} (h : fsOk nd q) : (CW ct ad da nd nb nf bdk num spt val tim rep byN byS pk kn pe clk tol opn)[fsX q]? = some (fsW ad da q, aL ct 5 (wd (fsS pk kn pe q))) := by
  match q, h with
  | none, _ => rfl
  | some (i, false), h => exact cw_d2 h
  | some (i, true), h => exact cw_d4 h
theorem cw_set_fw {q : Option (Nat × Bool)} {S : Nat → Bool} (h : fsOk nd q) : (CW ct ad da nd nb nf bdk num spt val tim rep byN byS pk kn pe clk tol opn).set (fsX q) (fsW ad da q, aL ct 5 (wd S)) = CW ct ad da nd nb nf bdk num spt val tim rep byN byS (fsPk q S pk) (fsKn q S kn) (fsPe q S pe) clk tol opn := by
  match q, h with
  | none, _ => rfl
  | some (i, false), h => exact cw_set_kn h
  | some (i, true), h => exact cw_set_pe h
end CWS
theorem fsS_up {q : Option (Nat × Bool)} {S pk : Nat → Bool} {kn pe : Nat → Nat → Bool} : fsS (fsPk q S pk) (fsKn q S kn) (fsPe q S pe) q = S := by
  match q with
  | none => rfl
  | some (i, false) => exact va_up_self kn i S
  | some (i, true) => exact va_up_self pe i S
theorem fsPk2 {q : Option (Nat × Bool)} {S S2 pk : Nat → Bool} : fsPk q S2 (fsPk q S pk) = fsPk q S2 pk := by
  match q with
  | none => rfl
  | some (i, false) => rfl
  | some (i, true) => rfl
theorem fsKn2 {q : Option (Nat × Bool)} {S S2 : Nat → Bool} {kn : Nat → Nat → Bool} : fsKn q S2 (fsKn q S kn) = fsKn q S2 kn := by
  match q with
  | none => rfl
  | some (i, false) => exact bx_uu kn i S S2
  | some (i, true) => rfl
theorem fsPe2 {q : Option (Nat × Bool)} {S S2 : Nat → Bool} {pe : Nat → Nat → Bool} : fsPe q S2 (fsPe q S pe) = fsPe q S2 pe := by
  match q with
  | none => rfl
  | some (i, false) => rfl
  | some (i, true) => exact bx_uu pe i S S2
theorem va_up_id {α : Type} (f : Nat → α) (k : Nat) : va_up f k (f k) = f := by
  funext j
  by_cases h : j = k
  · subst h; exact va_up_self f j (f j)
  · exact va_up_ne f _ h
theorem fsPk0 {q : Option (Nat × Bool)} {pk : Nat → Bool} {kn pe : Nat → Nat → Bool} : fsPk q (fsS pk kn pe q) pk = pk := by
  match q with
  | none => rfl
  | some (i, false) => rfl
  | some (i, true) => rfl
theorem fsKn0 {q : Option (Nat × Bool)} {pk : Nat → Bool} {kn pe : Nat → Nat → Bool} : fsKn q (fsS pk kn pe q) kn = kn := by
  match q with
  | none => rfl
  | some (i, false) => exact va_up_id kn i
  | some (i, true) => rfl
theorem fsPe0 {q : Option (Nat × Bool)} {pk : Nat → Bool} {kn pe : Nat → Nat → Bool} : fsPe q (fsS pk kn pe q) pe = pe := by
  match q with
  | none => rfl
  | some (i, false) => rfl
  | some (i, true) => exact va_up_id pe i
theorem fsS_ne {q r : Option (Nat × Bool)} {S pk : Nat → Bool} {kn pe : Nat → Nat → Bool} (h : r ≠ q) : fsS (fsPk q S pk) (fsKn q S kn) (fsPe q S pe) r = fsS pk kn pe r := by
  match q, r, h with
  | none, none, h => exact absurd rfl h
  | none, some (i, false), _ => rfl
  | none, some (i, true), _ => rfl
  | some (i, false), none, _ => rfl
  | some (i, true), none, _ => rfl
  | some (i, false), some (j, true), _ => rfl
  | some (i, true), some (j, false), _ => rfl
  | some (i, false), some (j, false), h => exact va_up_ne kn S (fun e => h (by rw [e]))
  | some (i, true), some (j, true), h => exact va_up_ne pe S (fun e => h (by rw [e]))
end
section
theorem bI_or (a b : Bool) : bI a ||| bI b = bI (a || b) := by cases a <;> cases b <;> decide
theorem vn_b (b : Bool) : vp_nar .boolean (bI b) = bI b := by cases b <;> rfl
section VV2
variable {p : Program} {l : Launch} {e : Env} {R : Room} {s : State} {m : MethodId} {args : Array Value} {below : List Frame} {meth : Method} {c : Code} {cc : ByteArray} {nL cells slots : Nat} {own : String} {D : va_G} {tys : List (ClassId × FieldType)} {A : Nat → Prop} {Q : State → Prop} {ws : va_W} {lv : List (Nat × Value)} {pc : Nat} {st : List Value}
theorem V.zald (F : Fx p m meth c cc nL s args own D tys A) {a n i : Nat} {cA : ClassId} {f : Nat → Int32} {v : Int32} (hd : decode cc pc = .ok (.baload, 1)) (q0 t0 : Nat) (ha : ws[q0]? = some (a, .inl (cA, n, .inl f))) (ht : tys[t0]? = some (cA, .boolean)) (hi : i < n) (hn : n < 2 ^ 31) (hv : f i = v) (kk : V p l e R s m args below meth c D A nL cells slots Q (ws) (lv) (pc + 1) (.int v :: st)) : V p l e R s m args below meth c D A nL cells slots Q (ws) (lv) (pc) (.int (nI i) :: .ref a :: st) := fun H locs ls hP hD hS hl => va_zald F.1.1 F.1.2.1 F.2.1.1 hP q0 t0 ha ht (vp_in_nI hi hn) hd (by rw [cl_nI (Nat.lt_trans hi hn), hv]; exact (kk H locs ls hP hD hS hl))
theorem V.zast (F : Fx p m meth c cc nL s args own D tys A) {a n i : Nat} {cA : ClassId} {f : Nat → Int32} {b : Bool} {ws2 : va_W} (hd : decode cc pc = .ok (.bastore, 1)) (q0 t0 : Nat) (ha : ws[q0]? = some (a, .inl (cA, n, .inl f))) (ht : tys[t0]? = some (cA, .boolean)) (hi : i < n) (hn : n < 2 ^ 31) (hw : ws.set q0 (a, .inl (cA, n, .inl (upd f i (bI b)))) = ws2) (kk : V p l e R s m args below meth c D A nL cells slots Q (ws2) (lv) (pc + 1) (st)) : V p l e R s m args below meth c D A nL cells slots Q (ws) (lv) (pc) (.int (bI b) :: .int (nI i) :: .ref a :: st) := fun H locs ls hP hD hS hl => va_zast F.1.1 F.1.2.1 F.2.1.1 hP hD hS q0 t0 ha ht (vp_in_nI hi hn) hd (fun H1 locs1 hP1 hD1 hS1 => kk H1 locs1 ls (by rw [cl_nI (Nat.lt_trans hi hn), vn_b] at hP1; exact hw ▸ hP1) (by rw [cl_nI (Nat.lt_trans hi hn), vn_b] at hD1; exact hw ▸ hD1) hS1 hl)
theorem V.iorB (F : Fx p m meth c cc nL s args own D tys A) {a b : Bool} (hd : decode cc pc = .ok (.ior, 1)) (kk : V p l e R s m args below meth c D A nL cells slots Q (ws) (lv) (pc + 1) (.int (bI (a || b)) :: st)) : V p l e R s m args below meth c D A nL cells slots Q (ws) (lv) (pc) (.int (bI b) :: .int (bI a) :: st) := fun H locs ls hP hD hS hl => lv_ior F.1.1 F.1.2.1 hd ((bI_or a b).symm ▸ (kk H locs ls hP hD hS hl))
theorem V.newa_z (F : Fx p m meth c cc nL s args own D tys A) {cA : ClassId} {n : Nat} (hd : decode cc pc = .ok (.newarray .boolean, 2)) (hw : Cond.arrayClass .boolean ∈ TB) (t0 : Nat) (ht : tys[t0]? = some (cA, .boolean)) (hn : n < 2 ^ 20) (hcells : cells + 1 ≤ R.cells) (hslots : slots + n ≤ R.slots) (kk : ∀ q : Nat, V p l e R s m args below meth c D A nL (cells + 1) (slots + n) Q (ws ++ [(q, .inl (cA, n, .inl (fun _ => 0)))]) (lv) (pc + 2) (.ref q :: st)) : V p l e R s m args below meth c D A nL cells slots Q (ws) (lv) (pc) (.int (nI n) :: st) := fun H locs ls hP hD hS hl => va_newa (atype := .boolean) (N' := n) (a0 := (n, .inl (fun _ => 0))) F.1.1 F.1.2.1 (F.1.2.2.2.2 _ hw) rfl F.2.1.1 hP hD hS F.2.2.1 (fun _ => rfl) (nI_pos (by omega)) (cl_nI (by omega)) (by show n * 1 ≤ _; omega) hcells hslots hd (fun q cA2 H1 hK1 hP1 hD1 hS1 => by
    have e1 := va_nm_boolean (F.2.1.1.2 t0 _ ht).2
    have e2 := va_nm_boolean (hK1.2 tys.length _ (by rw [List.getElem?_append_right (Nat.le_refl _), Nat.sub_self]; rfl)).2
    have e3 : cA2 = cA := Option.some.inj (e2.symm.trans e1)
    subst e3
    exact kk q H1 locs ls hP1 hD1 hS1 hl)
end VV2
end
section
theorem bI_f : nI 0 = bI false := by decide
theorem bI_t : nI 1 = bI true := by decide
theorem nar_0 : narrow .boolean (.int (nI 0)) = .int (nI 0) := rfl
theorem nar_1 : narrow .boolean (.int (nI 1)) = .int (nI 1) := rfl
theorem nar_b (b : Bool) : narrow .boolean (.int (bI b)) = .int (bI b) := by cases b <;> rfl
theorem wd_bitT {S : Nat → Bool} {n : Nat} (h : ¬ (wd S (n / 64) &&& ((1 : Int64) <<< ((nI (n % 64)).toInt64 &&& 63))) = 0) : S n = true := by
  cases hs : S n with
  | true => rfl
  | false => exact absurd ((wd_bit S n).mpr hs) h
abbrev tyL (ct : Nat → ClassId) : List (ClassId × FieldType) := [(ct 0, .int), (ct 1, .long), (ct 2, .object R_K), (ct 3, .boolean)]
abbrev rmK (k mc ms : Nat) : Room := { frames := k, cells := mc, slots := ms, locals := 40 * k }
section FSS
variable {ct : Nat → ClassId} {ad : Nat → Nat} {da : Nat → Nat → Nat} {nd : Nat} {nb : Nat} {nf : Nat} {bdk : Nat → Nat} {num : Nat → Nat} {spt : Nat → Nat} {val : Nat → Int64} {tim : Nat → Nat} {rep : Nat → Nat → Bool} {byN : Nat → Nat} {byS : Nat → Nat} {pk : Nat → Bool} {kn : Nat → Nat → Bool} {pe : Nat → Nat → Bool} {clk : Nat → Nat} {tol : Nat → Nat} {opn : Nat → Option Nat}
theorem cw_intoS (q : Option (Nat × Bool)) : CW ct ad da nd nb nf bdk num spt val tim rep byN byS pk kn pe clk tol opn = CW ct ad da nd nb nf bdk num spt val tim rep byN byS (fsPk q (fsS pk kn pe q) pk) (fsKn q (fsS pk kn pe q) kn) (fsPe q (fsS pk kn pe q) pe) clk tol opn := by
  rw [fsPk0, fsKn0, fsPe0]
theorem cw_fwS {q : Option (Nat × Bool)} {S : Nat → Bool} (h : fsOk nd q) : (CW ct ad da nd nb nf bdk num spt val tim rep byN byS (fsPk q (S) pk) (fsKn q (S) kn) (fsPe q (S) pe) clk tol opn)[fsX q]? = some (fsW ad da q, aL ct 5 (wd S)) := by
  have e := cw_fw (ct := ct) (ad := ad) (da := da) (nb := nb) (nf := nf) (bdk := bdk) (num := num) (spt := spt) (val := val) (tim := tim) (rep := rep) (byN := byN) (byS := byS) (pk := fsPk q S pk) (kn := fsKn q S kn) (pe := fsPe q S pe) (clk := clk) (tol := tol) (opn := opn) h
  rw [fsS_up] at e
  exact e
theorem cw_fwN {q r : Option (Nat × Bool)} {S : Nat → Bool} (h : fsOk nd r) (hn : r ≠ q) : (CW ct ad da nd nb nf bdk num spt val tim rep byN byS (fsPk q (S) pk) (fsKn q (S) kn) (fsPe q (S) pe) clk tol opn)[fsX r]? = some (fsW ad da r, aL ct 5 (wd (fsS pk kn pe r))) := by
  have e := cw_fw (ct := ct) (ad := ad) (da := da) (nb := nb) (nf := nf) (bdk := bdk) (num := num) (spt := spt) (val := val) (tim := tim) (rep := rep) (byN := byN) (byS := byS) (pk := fsPk q S pk) (kn := fsKn q S kn) (pe := fsPe q S pe) (clk := clk) (tol := tol) (opn := opn) h
  rw [fsS_ne hn] at e
  exact e
theorem cw_setS {q : Option (Nat × Bool)} {S S2 : Nat → Bool} {i : Nat} {x : Int64} (h : fsOk nd q) (hx : vp_updL (wd S) i x = wd S2) : (CW ct ad da nd nb nf bdk num spt val tim rep byN byS (fsPk q (S) pk) (fsKn q (S) kn) (fsPe q (S) pe) clk tol opn).set (fsX q) (fsW ad da q, .inl (ct 1, 5, .inr (.inl (vp_updL (wd S) i x)))) = CW ct ad da nd nb nf bdk num spt val tim rep byN byS (fsPk q (S2) pk) (fsKn q (S2) kn) (fsPe q (S2) pe) clk tol opn := by
  rw [hx]
  have e := cw_set_fw (ct := ct) (ad := ad) (da := da) (nb := nb) (nf := nf) (bdk := bdk) (num := num) (spt := spt) (val := val) (tim := tim) (rep := rep) (byN := byN) (byS := byS) (pk := fsPk q S pk) (kn := fsKn q S kn) (pe := fsPe q S pe) (clk := clk) (tol := tol) (opn := opn) (S := S2) h
  rw [fsPk2, fsKn2, fsPe2] at e
  exact e
theorem cw_setQ {q : Option (Nat × Bool)} {S2 : Nat → Bool} {i : Nat} {x : Int64} (h : fsOk nd q) (hx : vp_updL (wd (fsS pk kn pe q)) i x = wd S2) : (CW ct ad da nd nb nf bdk num spt val tim rep byN byS pk kn pe clk tol opn).set (fsX q) (fsW ad da q, .inl (ct 1, 5, .inr (.inl (vp_updL (wd (fsS pk kn pe q)) i x)))) = CW ct ad da nd nb nf bdk num spt val tim rep byN byS (fsPk q (S2) pk) (fsKn q (S2) kn) (fsPe q (S2) pe) clk tol opn := by
  rw [hx]
  exact cw_set_fw h
end FSS
theorem wd_clr (S : Nat → Bool) (i : Nat) : wd (fun k => decide (i + 1 ≤ k / 64) && S k) i = 0 := by
  refine i64_ext fun b hb => ?_
  rw [wd_get _ _ hb, show decide (i + 1 ≤ (64 * i + b) / 64) = false from decide_eq_false (by omega)]
  simp
theorem same_step {S T : Nat → Bool} {i : Nat} (h : ∀ b, b < 64 → S (64 * i + b) = T (64 * i + b)) (h0 : ∀ k, k < 64 * i → S k = T k) (k : Nat) (hk : k < 64 * (i + 1)) : S k = T k := by
  by_cases hlt : k < 64 * i
  · exact h0 k hlt
  · have := h (k - 64 * i) (by omega)
    rw [show 64 * i + (k - 64 * i) = k by omega] at this
    exact this
theorem size_step (S : Nat → Bool) (i : Nat) : cnt S (64 * i) + cnt (fun b => (wd S i).toBitVec.getLsbD b) 64 = cnt S (64 * (i + 1)) := by
  rw [show 64 * (i + 1) = 64 * i + 64 by omega, cnt_add]
  congr 1
  exact cnt_congr fun b hb => wd_get S i hb
def sameB (S T : Nat → Bool) : Nat → Bool
  | 0 => true
  | n + 1 => sameB S T n && (S n == T n)
theorem sameB_iff (S T : Nat → Bool) : ∀ n, sameB S T n = true ↔ ∀ k, k < n → S k = T k
  | 0 => ⟨fun _ k hk => absurd hk (Nat.not_lt_zero k), fun _ => rfl⟩
  | n + 1 => by
    rw [sameB, Bool.and_eq_true, sameB_iff S T n]
    constructor
    · intro h k hk
      by_cases e : k = n
      · subst e; exact eq_of_beq h.2
      · exact h.1 k (by omega)
    · intro h
      exact ⟨fun k hk => h k (by omega), by rw [h n (by omega)]; exact beq_self_eq_true _⟩
theorem sameB_f {S T : Nat → Bool} {n : Nat} (h : ¬ ∀ k, k < n → S k = T k) : sameB S T n = false := by
  cases e : sameB S T n with
  | false => rfl
  | true => exact absurd ((sameB_iff S T n).mp e) h
set_option maxHeartbeats 4000000 in
set_option maxRecDepth 100000 in
theorem c_bitCount (l : Launch) (D : va_G) (ws : va_W) {ct : Nat → ClassId} (x : Int64) : CI l y_J_bitCount b_J_bitCount 2 (some .int) (rmK 0 0 0) D (tyL ct) (ws) [.long (x)] 0 0 (fun r u => r = nI (cnt (fun b => x.toBitVec.getLsbD b) 64) ∧ u = ws) := by
  refine CI.start (by decide) (Nat.le_of_ble_eq_true rfl) ?_
  intro p e s m below meth c F hr hnm
  show V p l e (rmK 0 0 0) s m [.long (x)].toArray below meth c D (va_A (ws) s.heap.size) 2 0 0 (EI D below (ws) [.long (x)].toArray s 0 0 (fun r u => r = nI (cnt (fun b => x.toBitVec.getLsbD b) 64) ∧ u = ws)) (ws) [(0, .long (x))] 0 []
  refine V.lload_n F d_J_bitCount_0 rfl 0 rfl ?_
  refine V.lload_n F d_J_bitCount_1 rfl 0 rfl ?_
  refine V.iconst F d_J_bitCount_2 (v := nI (1)) (by decide) ?_
  refine V.lushr F d_J_bitCount_3 (v := (((x).toUInt64 >>> ((nI (1)).toInt64.toUInt64 &&& Int64.toUInt64 63)).toInt64)) rfl ?_
  refine V.ldc2 F d_J_bitCount_4 (v := 6148914691236517205) lk_J_314 ?_
  refine V.land F d_J_bitCount_7 (v := ((((x).toUInt64 >>> ((nI (1)).toInt64.toUInt64 &&& Int64.toUInt64 63)).toInt64)) &&& (6148914691236517205)) rfl ?_
  obtain ⟨i1, e_i1⟩ : ∃ y9 : Int64, y9 = (x) - (((((x).toUInt64 >>> ((nI (1)).toInt64.toUInt64 &&& Int64.toUInt64 63)).toInt64)) &&& (6148914691236517205)) := ⟨_, rfl⟩
  refine V.lsub F d_J_bitCount_8 (v := i1) e_i1.symm ?_
  refine V.lstore_n (lv2 := [(0, .long (i1))]) F d_J_bitCount_9 rfl (by decide) rfl ?_
  refine V.lload_n F d_J_bitCount_10 rfl 0 rfl ?_
  refine V.ldc2 F d_J_bitCount_11 (v := 3689348814741910323) lk_J_316 ?_
  refine V.land F d_J_bitCount_14 (v := (i1) &&& (3689348814741910323)) rfl ?_
  refine V.lload_n F d_J_bitCount_15 rfl 0 rfl ?_
  refine V.iconst F d_J_bitCount_16 (v := nI (2)) (by decide) ?_
  refine V.lushr F d_J_bitCount_17 (v := (((i1).toUInt64 >>> ((nI (2)).toInt64.toUInt64 &&& Int64.toUInt64 63)).toInt64)) rfl ?_
  refine V.ldc2 F d_J_bitCount_18 (v := 3689348814741910323) lk_J_316 ?_
  refine V.land F d_J_bitCount_21 (v := ((((i1).toUInt64 >>> ((nI (2)).toInt64.toUInt64 &&& Int64.toUInt64 63)).toInt64)) &&& (3689348814741910323)) rfl ?_
  obtain ⟨i2, e_i2⟩ : ∃ y9 : Int64, y9 = ((i1) &&& (3689348814741910323)) + (((((i1).toUInt64 >>> ((nI (2)).toInt64.toUInt64 &&& Int64.toUInt64 63)).toInt64)) &&& (3689348814741910323)) := ⟨_, rfl⟩
  refine V.ladd F d_J_bitCount_22 (v := i2) e_i2.symm ?_
  refine V.lstore_n (lv2 := [(0, .long (i2))]) F d_J_bitCount_23 rfl (by decide) rfl ?_
  refine V.lload_n F d_J_bitCount_24 rfl 0 rfl ?_
  refine V.lload_n F d_J_bitCount_25 rfl 0 rfl ?_
  refine V.iconst F d_J_bitCount_26 (v := nI (4)) (by decide) ?_
  refine V.lushr F d_J_bitCount_27 (v := (((i2).toUInt64 >>> ((nI (4)).toInt64.toUInt64 &&& Int64.toUInt64 63)).toInt64)) rfl ?_
  refine V.ladd F d_J_bitCount_28 (v := (i2) + ((((i2).toUInt64 >>> ((nI (4)).toInt64.toUInt64 &&& Int64.toUInt64 63)).toInt64))) rfl ?_
  refine V.ldc2 F d_J_bitCount_29 (v := 1085102592571150095) lk_J_318 ?_
  obtain ⟨i3, e_i3⟩ : ∃ y9 : Int64, y9 = ((i2) + ((((i2).toUInt64 >>> ((nI (4)).toInt64.toUInt64 &&& Int64.toUInt64 63)).toInt64))) &&& (1085102592571150095) := ⟨_, rfl⟩
  refine V.land F d_J_bitCount_32 (v := i3) e_i3.symm ?_
  refine V.lstore_n (lv2 := [(0, .long (i3))]) F d_J_bitCount_33 rfl (by decide) rfl ?_
  refine V.lload_n F d_J_bitCount_34 rfl 0 rfl ?_
  refine V.lload_n F d_J_bitCount_35 rfl 0 rfl ?_
  refine V.bipush F d_J_bitCount_36 (v := nI (8)) (by decide) ?_
  refine V.lushr F d_J_bitCount_38 (v := (((i3).toUInt64 >>> ((nI (8)).toInt64.toUInt64 &&& Int64.toUInt64 63)).toInt64)) rfl ?_
  obtain ⟨i4, e_i4⟩ : ∃ y9 : Int64, y9 = (i3) + ((((i3).toUInt64 >>> ((nI (8)).toInt64.toUInt64 &&& Int64.toUInt64 63)).toInt64)) := ⟨_, rfl⟩
  refine V.ladd F d_J_bitCount_39 (v := i4) e_i4.symm ?_
  refine V.lstore_n (lv2 := [(0, .long (i4))]) F d_J_bitCount_40 rfl (by decide) rfl ?_
  refine V.lload_n F d_J_bitCount_41 rfl 0 rfl ?_
  refine V.lload_n F d_J_bitCount_42 rfl 0 rfl ?_
  refine V.bipush F d_J_bitCount_43 (v := nI (16)) (by decide) ?_
  refine V.lushr F d_J_bitCount_45 (v := (((i4).toUInt64 >>> ((nI (16)).toInt64.toUInt64 &&& Int64.toUInt64 63)).toInt64)) rfl ?_
  obtain ⟨i5, e_i5⟩ : ∃ y9 : Int64, y9 = (i4) + ((((i4).toUInt64 >>> ((nI (16)).toInt64.toUInt64 &&& Int64.toUInt64 63)).toInt64)) := ⟨_, rfl⟩
  refine V.ladd F d_J_bitCount_46 (v := i5) e_i5.symm ?_
  refine V.lstore_n (lv2 := [(0, .long (i5))]) F d_J_bitCount_47 rfl (by decide) rfl ?_
  refine V.lload_n F d_J_bitCount_48 rfl 0 rfl ?_
  refine V.lload_n F d_J_bitCount_49 rfl 0 rfl ?_
  refine V.bipush F d_J_bitCount_50 (v := nI (32)) (by decide) ?_
  refine V.lushr F d_J_bitCount_52 (v := (((i5).toUInt64 >>> ((nI (32)).toInt64.toUInt64 &&& Int64.toUInt64 63)).toInt64)) rfl ?_
  obtain ⟨i6, e_i6⟩ : ∃ y9 : Int64, y9 = (i5) + ((((i5).toUInt64 >>> ((nI (32)).toInt64.toUInt64 &&& Int64.toUInt64 63)).toInt64)) := ⟨_, rfl⟩
  refine V.ladd F d_J_bitCount_53 (v := i6) e_i6.symm ?_
  refine V.lstore_n (lv2 := [(0, .long (i6))]) F d_J_bitCount_54 rfl (by decide) rfl ?_
  refine V.lload_n F d_J_bitCount_55 rfl 0 rfl ?_
  refine V.l2i F d_J_bitCount_56 (v := (i6).toInt32) rfl ?_
  refine V.bipush F d_J_bitCount_57 (v := nI (127)) (by decide) ?_
  refine V.iand F d_J_bitCount_59 (v := ((i6).toInt32) &&& (nI (127))) rfl ?_
  exact V.iret F hr d_J_bitCount_60 (⟨bc_eq e_i1 e_i2 e_i3 e_i4 e_i5 e_i6, rfl⟩)

set_option maxHeartbeats 4000000 in
set_option maxRecDepth 100000 in
theorem c_has (l : Launch) (D : va_G) {ct : Nat → ClassId} {ad : Nat → Nat} {da : Nat → Nat → Nat} {nd : Nat} {nb : Nat} {nf : Nat} {bdk : Nat → Nat} {num : Nat → Nat} {spt : Nat → Nat} {val : Nat → Int64} {tim : Nat → Nat} {rep : Nat → Nat → Bool} {byN : Nat → Nat} {byS : Nat → Nat} {pk : Nat → Bool} {kn : Nat → Nat → Bool} {pe : Nat → Nat → Bool} {clk : Nat → Nat} {tol : Nat → Nat} {opn : Nat → Option Nat} (q : Option (Nat × Bool)) (hq : fsOk nd q) (n : Nat) (hn : n < 320) : CI l y_S_has b_S_has 2 (some .boolean) (rmK 0 0 0) D (tyL ct) (CW ct ad da nd nb nf bdk num spt val tim rep byN byS pk kn pe clk tol opn) [.ref (fsO ad da (q)), .int (nI (n))] 0 0 (fun r u => r = bI (fsS pk kn pe q n) ∧ u = CW ct ad da nd nb nf bdk num spt val tim rep byN byS pk kn pe clk tol opn) := by
  refine CI.start (by decide) (Nat.le_of_ble_eq_true rfl) ?_
  intro p e s m below meth c F hr hnm
  show V p l e (rmK 0 0 0) s m [.ref (fsO ad da (q)), .int (nI (n))].toArray below meth c D (va_A (CW ct ad da nd nb nf bdk num spt val tim rep byN byS pk kn pe clk tol opn) s.heap.size) 2 0 0 (EI D below (CW ct ad da nd nb nf bdk num spt val tim rep byN byS pk kn pe clk tol opn) [.ref (fsO ad da (q)), .int (nI (n))].toArray s 0 0 (fun r u => r = bI (fsS pk kn pe q n) ∧ u = CW ct ad da nd nb nf bdk num spt val tim rep byN byS pk kn pe clk tol opn)) (CW ct ad da nd nb nf bdk num spt val tim rep byN byS pk kn pe clk tol opn) [(0, .ref (fsO ad da (q))), (1, .int (nI (n)))] 0 []
  refine V.aload_n F d_S_has_0 rfl 0 rfl ?_
  refine V.get F ck_S d_S_has_1 0 (by decide) lk_S_11 (fsP (q)) (cw_fs hq) rfl ?_
  refine V.iload_n F d_S_has_4 rfl 1 rfl ?_
  refine V.bipush F d_S_has_5 (v := nI (64)) (by decide) ?_
  refine V.idivN F d_S_has_7 (by omega) (by decide) (by decide) ?_
  refine V.lald (v := wd (fsS pk kn pe (q)) ((n) / (64))) F d_S_has_8 (fsX (q)) 1 (cw_fw hq) rfl (by omega) (by decide) rfl ?_
  refine V.lconst F d_S_has_9 (v := 1) (by decide) ?_
  refine V.iload_n F d_S_has_10 rfl 1 rfl ?_
  refine V.bipush F d_S_has_11 (v := nI (64)) (by decide) ?_
  refine V.iremN F d_S_has_13 (by omega) (by decide) (by decide) ?_
  refine V.lshl F d_S_has_14 (v := (1) <<< ((nI ((n) % (64))).toInt64 &&& 63)) rfl ?_
  refine V.land F d_S_has_15 (v := (wd (fsS pk kn pe (q)) ((n) / (64))) &&& ((1) <<< ((nI ((n) % (64))).toInt64 &&& 63))) rfl ?_
  refine V.lconst F d_S_has_16 (v := 0) (by decide) ?_
  refine V.lcmp_eq (tgt := 25) F d_S_has_17 d_S_has_18 (by decide) (fun c17 => ?_) (fun c17 => ?_)
  · skip
    refine V.iconst F d_S_has_25 (v := nI (0)) (by decide) ?_
    exact V.zret F hr (nar_0) d_S_has_26 (⟨by rw [(wd_bit _ _).mp c17]; exact bI_f, rfl⟩)
  · skip
    refine V.iconst F d_S_has_21 (v := nI (1)) (by decide) ?_
    refine V.goto (tgt := 26) F d_S_has_22 (by decide) ?_
    exact V.zret F hr (nar_1) d_S_has_26 (⟨by rw [wd_bitT c17]; exact bI_t, rfl⟩)

set_option maxHeartbeats 4000000 in
set_option maxRecDepth 100000 in
theorem c_add (l : Launch) (D : va_G) {ct : Nat → ClassId} {ad : Nat → Nat} {da : Nat → Nat → Nat} {nd : Nat} {nb : Nat} {nf : Nat} {bdk : Nat → Nat} {num : Nat → Nat} {spt : Nat → Nat} {val : Nat → Int64} {tim : Nat → Nat} {rep : Nat → Nat → Bool} {byN : Nat → Nat} {byS : Nat → Nat} {pk : Nat → Bool} {kn : Nat → Nat → Bool} {pe : Nat → Nat → Bool} {clk : Nat → Nat} {tol : Nat → Nat} {opn : Nat → Option Nat} (q : Option (Nat × Bool)) (hq : fsOk nd q) (n : Nat) (hn : n < 320) : CV l y_S_add b_S_add 2 none (rmK 0 0 0) D (tyL ct) (CW ct ad da nd nb nf bdk num spt val tim rep byN byS pk kn pe clk tol opn) [.ref (fsO ad da (q)), .int (nI (n))] 0 0 (fun u => u = CW ct ad da nd nb nf bdk num spt val tim rep byN byS (fsPk q (fun k => fsS pk kn pe q k || decide (k = n)) pk) (fsKn q (fun k => fsS pk kn pe q k || decide (k = n)) kn) (fsPe q (fun k => fsS pk kn pe q k || decide (k = n)) pe) clk tol opn) := by
  refine CV.start (by decide) (Nat.le_of_ble_eq_true rfl) ?_
  intro p e s m below meth c F hr hnm
  show V p l e (rmK 0 0 0) s m [.ref (fsO ad da (q)), .int (nI (n))].toArray below meth c D (va_A (CW ct ad da nd nb nf bdk num spt val tim rep byN byS pk kn pe clk tol opn) s.heap.size) 2 0 0 (EV D below (CW ct ad da nd nb nf bdk num spt val tim rep byN byS pk kn pe clk tol opn) [.ref (fsO ad da (q)), .int (nI (n))].toArray s 0 0 (fun u => u = CW ct ad da nd nb nf bdk num spt val tim rep byN byS (fsPk q (fun k => fsS pk kn pe q k || decide (k = n)) pk) (fsKn q (fun k => fsS pk kn pe q k || decide (k = n)) kn) (fsPe q (fun k => fsS pk kn pe q k || decide (k = n)) pe) clk tol opn)) (CW ct ad da nd nb nf bdk num spt val tim rep byN byS pk kn pe clk tol opn) [(0, .ref (fsO ad da (q))), (1, .int (nI (n)))] 0 []
  refine V.aload_n F d_S_add_0 rfl 0 rfl ?_
  refine V.get F ck_S d_S_add_1 0 (by decide) lk_S_11 (fsP (q)) (cw_fs hq) rfl ?_
  refine V.iload_n F d_S_add_4 rfl 1 rfl ?_
  refine V.bipush F d_S_add_5 (v := nI (64)) (by decide) ?_
  refine V.idivN F d_S_add_7 (by omega) (by decide) (by decide) ?_
  refine V.dup2_11 F d_S_add_8 rfl rfl ?_
  refine V.lald (v := wd (fsS pk kn pe (q)) ((n) / (64))) F d_S_add_9 (fsX (q)) 1 (cw_fw hq) rfl (by omega) (by decide) rfl ?_
  refine V.lconst F d_S_add_10 (v := 1) (by decide) ?_
  refine V.iload_n F d_S_add_11 rfl 1 rfl ?_
  refine V.bipush F d_S_add_12 (v := nI (64)) (by decide) ?_
  refine V.iremN F d_S_add_14 (by omega) (by decide) (by decide) ?_
  refine V.lshl F d_S_add_15 (v := (1) <<< ((nI ((n) % (64))).toInt64 &&& 63)) rfl ?_
  refine V.lor F d_S_add_16 (v := (wd (fsS pk kn pe (q)) ((n) / (64))) ||| ((1) <<< ((nI ((n) % (64))).toInt64 &&& 63))) rfl ?_
  refine V.last (ws2 := CW ct ad da nd nb nf bdk num spt val tim rep byN byS (fsPk q (fun k => fsS pk kn pe q k || decide (k = n)) pk) (fsKn q (fun k => fsS pk kn pe q k || decide (k = n)) kn) (fsPe q (fun k => fsS pk kn pe q k || decide (k = n)) pe) clk tol opn) F d_S_add_17 (fsX (q)) 1 (cw_fw hq) rfl (by omega) (by decide) (cw_setQ hq (wd_upd (wd_or1 _ _) (fun k hk => by rw [show decide (k = n) = false from decide_eq_false (fun e => hk (by rw [e]))]; simp))) ?_
  exact V.vret F hr d_S_add_18 (rfl)

set_option maxHeartbeats 4000000 in
set_option maxRecDepth 100000 in
theorem c_clear (l : Launch) (D : va_G) {ct : Nat → ClassId} {ad : Nat → Nat} {da : Nat → Nat → Nat} {nd : Nat} {nb : Nat} {nf : Nat} {bdk : Nat → Nat} {num : Nat → Nat} {spt : Nat → Nat} {val : Nat → Int64} {tim : Nat → Nat} {rep : Nat → Nat → Bool} {byN : Nat → Nat} {byS : Nat → Nat} {pk : Nat → Bool} {kn : Nat → Nat → Bool} {pe : Nat → Nat → Bool} {clk : Nat → Nat} {tol : Nat → Nat} {opn : Nat → Option Nat} (q : Option (Nat × Bool)) (hq : fsOk nd q) : CV l y_S_clear b_S_clear 2 none (rmK 0 0 0) D (tyL ct) (CW ct ad da nd nb nf bdk num spt val tim rep byN byS pk kn pe clk tol opn) [.ref (fsO ad da (q))] 0 0 (fun u => u = CW ct ad da nd nb nf bdk num spt val tim rep byN byS (fsPk q (fun k => decide (5 ≤ k / 64) && fsS pk kn pe q k) pk) (fsKn q (fun k => decide (5 ≤ k / 64) && fsS pk kn pe q k) kn) (fsPe q (fun k => decide (5 ≤ k / 64) && fsS pk kn pe q k) pe) clk tol opn) := by
  refine CV.start (by decide) (Nat.le_of_ble_eq_true rfl) ?_
  intro p e s m below meth c F hr hnm
  show V p l e (rmK 0 0 0) s m [.ref (fsO ad da (q))].toArray below meth c D (va_A (CW ct ad da nd nb nf bdk num spt val tim rep byN byS pk kn pe clk tol opn) s.heap.size) 2 0 0 (EV D below (CW ct ad da nd nb nf bdk num spt val tim rep byN byS pk kn pe clk tol opn) [.ref (fsO ad da (q))].toArray s 0 0 (fun u => u = CW ct ad da nd nb nf bdk num spt val tim rep byN byS (fsPk q (fun k => decide (5 ≤ k / 64) && fsS pk kn pe q k) pk) (fsKn q (fun k => decide (5 ≤ k / 64) && fsS pk kn pe q k) kn) (fsPe q (fun k => decide (5 ≤ k / 64) && fsS pk kn pe q k) pe) clk tol opn)) (CW ct ad da nd nb nf bdk num spt val tim rep byN byS pk kn pe clk tol opn) [(0, .ref (fsO ad da (q)))] 0 []
  refine V.ws_eq (ws2 := CW ct ad da nd nb nf bdk num spt val tim rep byN byS (fsPk q (fun k => decide (0 ≤ k / 64) && fsS pk kn pe q k) pk) (fsKn q (fun k => decide (0 ≤ k / 64) && fsS pk kn pe q k) kn) (fsPe q (fun k => decide (0 ≤ k / 64) && fsS pk kn pe q k) pe) clk tol opn) (by simpa using cw_intoS q) ?_
  refine V.iconst F d_S_clear_0 (v := nI (0)) (by decide) ?_
  refine V.istore_n (lv2 := [(1, .int (nI (0))), (0, .ref (fsO ad da (q)))]) F d_S_clear_1 rfl (by decide) rfl ?_
  have L2 : ∀ (n9 : Nat) (i : Nat), 5 - i < n9 → (i ≤ 5) → V p l e (rmK 0 0 0) s m [.ref (fsO ad da (q))].toArray below meth c D (va_A (CW ct ad da nd nb nf bdk num spt val tim rep byN byS pk kn pe clk tol opn) s.heap.size) 2 0 0 (EV D below (CW ct ad da nd nb nf bdk num spt val tim rep byN byS pk kn pe clk tol opn) [.ref (fsO ad da (q))].toArray s 0 0 (fun u => u = CW ct ad da nd nb nf bdk num spt val tim rep byN byS (fsPk q (fun k => decide (5 ≤ k / 64) && fsS pk kn pe q k) pk) (fsKn q (fun k => decide (5 ≤ k / 64) && fsS pk kn pe q k) kn) (fsPe q (fun k => decide (5 ≤ k / 64) && fsS pk kn pe q k) pe) clk tol opn)) (CW ct ad da nd nb nf bdk num spt val tim rep byN byS (fsPk q (fun k => decide (i ≤ k / 64) && fsS pk kn pe q k) pk) (fsKn q (fun k => decide (i ≤ k / 64) && fsS pk kn pe q k) kn) (fsPe q (fun k => decide (i ≤ k / 64) && fsS pk kn pe q k) pe) clk tol opn) [(1, .int (nI (i))), (0, .ref (fsO ad da (q)))] 2 [] := by
    intro n9
    induction n9 with
    | zero => intro i h9 hi5; exact absurd h9 (Nat.not_lt_zero _)
    | succ n9 ih2 =>
      intro i h9 hi5
      refine V.iload_n F d_S_clear_2 rfl 0 rfl ?_
      refine V.iconst F d_S_clear_3 (v := nI (5)) (by decide) ?_
      refine V.icmp_geN (tgt := 20) F d_S_clear_4 (by decide) (by omega) (by omega) (fun c4 => ?_) (fun c4 => ?_)
      · skip
        exact V.vret F hr d_S_clear_20 (by rw [show i = 5 by omega])
      · skip
        refine V.aload_n F d_S_clear_7 rfl 1 rfl ?_
        refine V.get F ck_S d_S_clear_8 0 (by decide) lk_S_11 (fsP (q)) (cw_fs hq) rfl ?_
        refine V.iload_n F d_S_clear_11 rfl 0 rfl ?_
        refine V.lconst F d_S_clear_12 (v := 0) (by decide) ?_
        refine V.last (ws2 := CW ct ad da nd nb nf bdk num spt val tim rep byN byS (fsPk q (fun k => decide (i + 1 ≤ k / 64) && fsS pk kn pe q k) pk) (fsKn q (fun k => decide (i + 1 ≤ k / 64) && fsS pk kn pe q k) kn) (fsPe q (fun k => decide (i + 1 ≤ k / 64) && fsS pk kn pe q k) pe) clk tol opn) F d_S_clear_13 (fsX q) 1 (cw_fwS hq) rfl (by omega) (by decide) (cw_setS hq (wd_upd (S2 := fun k => decide (i + 1 ≤ k / 64) && fsS pk kn pe q k) ((wd_clr _ i).symm) (fun k hk => by rw [show decide (i + 1 ≤ k / 64) = decide (i ≤ k / 64) from by rw [decide_eq_decide]; omega]))) ?_
        refine V.iincN (k := 1) (lv2 := [(1, .int (nI (i + 1))), (0, .ref (fsO ad da (q)))]) F d_S_clear_14 0 rfl (by decide) (by decide) rfl ?_
        refine V.goto (tgt := 2) F d_S_clear_17 (by decide) ?_
        exact ih2 (i + 1) (by omega) (by omega)
  exact L2 _ (0) (Nat.lt_succ_self _) (by omega)

set_option maxHeartbeats 4000000 in
set_option maxRecDepth 100000 in
theorem c_addAll (l : Launch) (D : va_G) {ct : Nat → ClassId} {ad : Nat → Nat} {da : Nat → Nat → Nat} {nd : Nat} {nb : Nat} {nf : Nat} {bdk : Nat → Nat} {num : Nat → Nat} {spt : Nat → Nat} {val : Nat → Int64} {tim : Nat → Nat} {rep : Nat → Nat → Bool} {byN : Nat → Nat} {byS : Nat → Nat} {pk : Nat → Bool} {kn : Nat → Nat → Bool} {pe : Nat → Nat → Bool} {clk : Nat → Nat} {tol : Nat → Nat} {opn : Nat → Option Nat} (q : Option (Nat × Bool)) (hq : fsOk nd q) (r : Option (Nat × Bool)) (hr0 : fsOk nd r) (hne : r ≠ q) : CV l y_S_addAll b_S_addAll 3 none (rmK 0 0 0) D (tyL ct) (CW ct ad da nd nb nf bdk num spt val tim rep byN byS pk kn pe clk tol opn) [.ref (fsO ad da (q)), .ref (fsO ad da (r))] 0 0 (fun u => u = CW ct ad da nd nb nf bdk num spt val tim rep byN byS (fsPk q (fun k => fsS pk kn pe q k || (decide (k / 64 < 5) && fsS pk kn pe r k)) pk) (fsKn q (fun k => fsS pk kn pe q k || (decide (k / 64 < 5) && fsS pk kn pe r k)) kn) (fsPe q (fun k => fsS pk kn pe q k || (decide (k / 64 < 5) && fsS pk kn pe r k)) pe) clk tol opn) := by
  refine CV.start (by decide) (Nat.le_of_ble_eq_true rfl) ?_
  intro p e s m below meth c F hr hnm
  show V p l e (rmK 0 0 0) s m [.ref (fsO ad da (q)), .ref (fsO ad da (r))].toArray below meth c D (va_A (CW ct ad da nd nb nf bdk num spt val tim rep byN byS pk kn pe clk tol opn) s.heap.size) 3 0 0 (EV D below (CW ct ad da nd nb nf bdk num spt val tim rep byN byS pk kn pe clk tol opn) [.ref (fsO ad da (q)), .ref (fsO ad da (r))].toArray s 0 0 (fun u => u = CW ct ad da nd nb nf bdk num spt val tim rep byN byS (fsPk q (fun k => fsS pk kn pe q k || (decide (k / 64 < 5) && fsS pk kn pe r k)) pk) (fsKn q (fun k => fsS pk kn pe q k || (decide (k / 64 < 5) && fsS pk kn pe r k)) kn) (fsPe q (fun k => fsS pk kn pe q k || (decide (k / 64 < 5) && fsS pk kn pe r k)) pe) clk tol opn)) (CW ct ad da nd nb nf bdk num spt val tim rep byN byS pk kn pe clk tol opn) [(0, .ref (fsO ad da (q))), (1, .ref (fsO ad da (r)))] 0 []
  refine V.ws_eq (ws2 := CW ct ad da nd nb nf bdk num spt val tim rep byN byS (fsPk q (fun k => fsS pk kn pe q k || (decide (k / 64 < 0) && fsS pk kn pe r k)) pk) (fsKn q (fun k => fsS pk kn pe q k || (decide (k / 64 < 0) && fsS pk kn pe r k)) kn) (fsPe q (fun k => fsS pk kn pe q k || (decide (k / 64 < 0) && fsS pk kn pe r k)) pe) clk tol opn) (by simpa using cw_intoS q) ?_
  refine V.iconst F d_S_addAll_0 (v := nI (0)) (by decide) ?_
  refine V.istore_n (lv2 := [(2, .int (nI (0))), (0, .ref (fsO ad da (q))), (1, .ref (fsO ad da (r)))]) F d_S_addAll_1 rfl (by decide) rfl ?_
  have L2 : ∀ (n9 : Nat) (i : Nat), 5 - i < n9 → (i ≤ 5) → V p l e (rmK 0 0 0) s m [.ref (fsO ad da (q)), .ref (fsO ad da (r))].toArray below meth c D (va_A (CW ct ad da nd nb nf bdk num spt val tim rep byN byS pk kn pe clk tol opn) s.heap.size) 3 0 0 (EV D below (CW ct ad da nd nb nf bdk num spt val tim rep byN byS pk kn pe clk tol opn) [.ref (fsO ad da (q)), .ref (fsO ad da (r))].toArray s 0 0 (fun u => u = CW ct ad da nd nb nf bdk num spt val tim rep byN byS (fsPk q (fun k => fsS pk kn pe q k || (decide (k / 64 < 5) && fsS pk kn pe r k)) pk) (fsKn q (fun k => fsS pk kn pe q k || (decide (k / 64 < 5) && fsS pk kn pe r k)) kn) (fsPe q (fun k => fsS pk kn pe q k || (decide (k / 64 < 5) && fsS pk kn pe r k)) pe) clk tol opn)) (CW ct ad da nd nb nf bdk num spt val tim rep byN byS (fsPk q (fun k => fsS pk kn pe q k || (decide (k / 64 < i) && fsS pk kn pe r k)) pk) (fsKn q (fun k => fsS pk kn pe q k || (decide (k / 64 < i) && fsS pk kn pe r k)) kn) (fsPe q (fun k => fsS pk kn pe q k || (decide (k / 64 < i) && fsS pk kn pe r k)) pe) clk tol opn) [(2, .int (nI (i))), (0, .ref (fsO ad da (q))), (1, .ref (fsO ad da (r)))] 2 [] := by
    intro n9
    induction n9 with
    | zero => intro i h9 hi5; exact absurd h9 (Nat.not_lt_zero _)
    | succ n9 ih2 =>
      intro i h9 hi5
      refine V.iload_n F d_S_addAll_2 rfl 0 rfl ?_
      refine V.iconst F d_S_addAll_3 (v := nI (5)) (by decide) ?_
      refine V.icmp_geN (tgt := 28) F d_S_addAll_4 (by decide) (by omega) (by omega) (fun c4 => ?_) (fun c4 => ?_)
      · skip
        exact V.vret F hr d_S_addAll_28 (by rw [show i = 5 by omega])
      · skip
        refine V.aload_n F d_S_addAll_7 rfl 1 rfl ?_
        refine V.get F ck_S d_S_addAll_8 0 (by decide) lk_S_11 (fsP (q)) (cw_fs hq) rfl ?_
        refine V.iload_n F d_S_addAll_11 rfl 0 rfl ?_
        refine V.dup2_11 F d_S_addAll_12 rfl rfl ?_
        refine V.lald (v := wd (fun k => fsS pk kn pe q k || (decide (k / 64 < i) && fsS pk kn pe r k)) (i)) F d_S_addAll_13 (fsX q) 1 (cw_fwS hq) rfl (by omega) (by decide) rfl ?_
        refine V.aload_n F d_S_addAll_14 rfl 2 rfl ?_
        refine V.get F ck_S d_S_addAll_15 0 (by decide) lk_S_11 (fsP (r)) (cw_fs hr0) rfl ?_
        refine V.iload_n F d_S_addAll_18 rfl 0 rfl ?_
        refine V.lald (v := wd (fsS pk kn pe (r)) (i)) F d_S_addAll_19 (fsX (r)) 1 (cw_fwN hr0 hne) rfl (by omega) (by decide) rfl ?_
        refine V.lor F d_S_addAll_20 (v := (wd (fun k => fsS pk kn pe q k || (decide (k / 64 < i) && fsS pk kn pe r k)) (i)) ||| (wd (fsS pk kn pe (r)) (i))) rfl ?_
        refine V.last (ws2 := CW ct ad da nd nb nf bdk num spt val tim rep byN byS (fsPk q (fun k => fsS pk kn pe q k || (decide (k / 64 < i + 1) && fsS pk kn pe r k)) pk) (fsKn q (fun k => fsS pk kn pe q k || (decide (k / 64 < i + 1) && fsS pk kn pe r k)) kn) (fsPe q (fun k => fsS pk kn pe q k || (decide (k / 64 < i + 1) && fsS pk kn pe r k)) pe) clk tol opn) F d_S_addAll_21 (fsX q) 1 (cw_fwS hq) rfl (by omega) (by decide) (cw_setS hq (wd_upd (S2 := fun k => fsS pk kn pe q k || (decide (k / 64 < i + 1) && fsS pk kn pe r k)) ((wd_or _ _ _).trans (wd_eq fun b hb => by rw [show (64 * i + b) / 64 = i by omega]; simp)) (fun k hk => by rw [show decide (k / 64 < i + 1) = decide (k / 64 < i) from by rw [decide_eq_decide]; omega]))) ?_
        refine V.iincN (k := 1) (lv2 := [(2, .int (nI (i + 1))), (0, .ref (fsO ad da (q))), (1, .ref (fsO ad da (r)))]) F d_S_addAll_22 0 rfl (by decide) (by decide) rfl ?_
        refine V.goto (tgt := 2) F d_S_addAll_25 (by decide) ?_
        exact ih2 (i + 1) (by omega) (by omega)
  exact L2 _ (0) (Nat.lt_succ_self _) (by omega)

set_option maxHeartbeats 4000000 in
set_option maxRecDepth 100000 in
theorem c_isSameAs (l : Launch) (D : va_G) {ct : Nat → ClassId} {ad : Nat → Nat} {da : Nat → Nat → Nat} {nd : Nat} {nb : Nat} {nf : Nat} {bdk : Nat → Nat} {num : Nat → Nat} {spt : Nat → Nat} {val : Nat → Int64} {tim : Nat → Nat} {rep : Nat → Nat → Bool} {byN : Nat → Nat} {byS : Nat → Nat} {pk : Nat → Bool} {kn : Nat → Nat → Bool} {pe : Nat → Nat → Bool} {clk : Nat → Nat} {tol : Nat → Nat} {opn : Nat → Option Nat} (q : Option (Nat × Bool)) (hq : fsOk nd q) (r : Option (Nat × Bool)) (hr0 : fsOk nd r) : CI l y_S_isSameAs b_S_isSameAs 3 (some .boolean) (rmK 0 0 0) D (tyL ct) (CW ct ad da nd nb nf bdk num spt val tim rep byN byS pk kn pe clk tol opn) [.ref (fsO ad da (q)), .ref (fsO ad da (r))] 0 0 (fun x u => x = bI (sameB (fsS pk kn pe q) (fsS pk kn pe r) 320) ∧ u = CW ct ad da nd nb nf bdk num spt val tim rep byN byS pk kn pe clk tol opn) := by
  refine CI.start (by decide) (Nat.le_of_ble_eq_true rfl) ?_
  intro p e s m below meth c F hr hnm
  show V p l e (rmK 0 0 0) s m [.ref (fsO ad da (q)), .ref (fsO ad da (r))].toArray below meth c D (va_A (CW ct ad da nd nb nf bdk num spt val tim rep byN byS pk kn pe clk tol opn) s.heap.size) 3 0 0 (EI D below (CW ct ad da nd nb nf bdk num spt val tim rep byN byS pk kn pe clk tol opn) [.ref (fsO ad da (q)), .ref (fsO ad da (r))].toArray s 0 0 (fun x u => x = bI (sameB (fsS pk kn pe q) (fsS pk kn pe r) 320) ∧ u = CW ct ad da nd nb nf bdk num spt val tim rep byN byS pk kn pe clk tol opn)) (CW ct ad da nd nb nf bdk num spt val tim rep byN byS pk kn pe clk tol opn) [(0, .ref (fsO ad da (q))), (1, .ref (fsO ad da (r)))] 0 []
  refine V.iconst F d_S_isSameAs_0 (v := nI (0)) (by decide) ?_
  refine V.istore_n (lv2 := [(2, .int (nI (0))), (0, .ref (fsO ad da (q))), (1, .ref (fsO ad da (r)))]) F d_S_isSameAs_1 rfl (by decide) rfl ?_
  have L2 : ∀ (n9 : Nat) (i : Nat), 5 - i < n9 → (i ≤ 5) → (∀ k, k < 64 * i → fsS pk kn pe q k = fsS pk kn pe r k) → V p l e (rmK 0 0 0) s m [.ref (fsO ad da (q)), .ref (fsO ad da (r))].toArray below meth c D (va_A (CW ct ad da nd nb nf bdk num spt val tim rep byN byS pk kn pe clk tol opn) s.heap.size) 3 0 0 (EI D below (CW ct ad da nd nb nf bdk num spt val tim rep byN byS pk kn pe clk tol opn) [.ref (fsO ad da (q)), .ref (fsO ad da (r))].toArray s 0 0 (fun x u => x = bI (sameB (fsS pk kn pe q) (fsS pk kn pe r) 320) ∧ u = CW ct ad da nd nb nf bdk num spt val tim rep byN byS pk kn pe clk tol opn)) (CW ct ad da nd nb nf bdk num spt val tim rep byN byS pk kn pe clk tol opn) [(2, .int (nI (i))), (0, .ref (fsO ad da (q))), (1, .ref (fsO ad da (r)))] 2 [] := by
    intro n9
    induction n9 with
    | zero => intro i h9 hi5 hin; exact absurd h9 (Nat.not_lt_zero _)
    | succ n9 ih2 =>
      intro i h9 hi5 hin
      refine V.iload_n F d_S_isSameAs_2 rfl 0 rfl ?_
      refine V.iconst F d_S_isSameAs_3 (v := nI (5)) (by decide) ?_
      refine V.icmp_geN (tgt := 31) F d_S_isSameAs_4 (by decide) (by omega) (by omega) (fun c4 => ?_) (fun c4 => ?_)
      · skip
        refine V.iconst F d_S_isSameAs_31 (v := nI (1)) (by decide) ?_
        exact V.zret F hr (nar_1) d_S_isSameAs_32 (⟨by rw [(sameB_iff _ _ _).mpr (fun k hk => hin k (by omega))]; exact bI_t, rfl⟩)
      · skip
        refine V.aload_n F d_S_isSameAs_7 rfl 1 rfl ?_
        refine V.get F ck_S d_S_isSameAs_8 0 (by decide) lk_S_11 (fsP (q)) (cw_fs hq) rfl ?_
        refine V.iload_n F d_S_isSameAs_11 rfl 0 rfl ?_
        refine V.lald (v := wd (fsS pk kn pe (q)) (i)) F d_S_isSameAs_12 (fsX (q)) 1 (cw_fw hq) rfl (by omega) (by decide) rfl ?_
        refine V.aload_n F d_S_isSameAs_13 rfl 2 rfl ?_
        refine V.get F ck_S d_S_isSameAs_14 0 (by decide) lk_S_11 (fsP (r)) (cw_fs hr0) rfl ?_
        refine V.iload_n F d_S_isSameAs_17 rfl 0 rfl ?_
        refine V.lald (v := wd (fsS pk kn pe (r)) (i)) F d_S_isSameAs_18 (fsX (r)) 1 (cw_fw hr0) rfl (by omega) (by decide) rfl ?_
        refine V.lcmp_eq (tgt := 25) F d_S_isSameAs_19 d_S_isSameAs_20 (by decide) (fun c19 => ?_) (fun c19 => ?_)
        · skip
          refine V.iincN (k := 1) (lv2 := [(2, .int (nI (i + 1))), (0, .ref (fsO ad da (q))), (1, .ref (fsO ad da (r)))]) F d_S_isSameAs_25 0 rfl (by decide) (by decide) rfl ?_
          refine V.goto (tgt := 2) F d_S_isSameAs_28 (by decide) ?_
          exact ih2 (i + 1) (by omega) (by omega) (fun k hk => same_step (wd_eq_iff.mp c19) hin k hk)
        · skip
          refine V.iconst F d_S_isSameAs_23 (v := nI (0)) (by decide) ?_
          exact V.zret F hr (nar_0) d_S_isSameAs_24 (⟨by rw [sameB_f (fun hz => c19 (wd_eq fun b hb => hz _ (by omega)))]; exact bI_f, rfl⟩)
  exact L2 _ (0) (Nat.lt_succ_self _) (by omega) (fun k hk => absurd hk (by omega))

set_option maxHeartbeats 4000000 in
set_option maxRecDepth 100000 in
theorem c_size (l : Launch) (D : va_G) {ct : Nat → ClassId} {ad : Nat → Nat} {da : Nat → Nat → Nat} {nd : Nat} {nb : Nat} {nf : Nat} {bdk : Nat → Nat} {num : Nat → Nat} {spt : Nat → Nat} {val : Nat → Int64} {tim : Nat → Nat} {rep : Nat → Nat → Bool} {byN : Nat → Nat} {byS : Nat → Nat} {pk : Nat → Bool} {kn : Nat → Nat → Bool} {pe : Nat → Nat → Bool} {clk : Nat → Nat} {tol : Nat → Nat} {opn : Nat → Option Nat} (q : Option (Nat × Bool)) (hq : fsOk nd q) : CI l y_S_size b_S_size 3 (some .int) (rmK 1 0 0) D (tyL ct) (CW ct ad da nd nb nf bdk num spt val tim rep byN byS pk kn pe clk tol opn) [.ref (fsO ad da (q))] 0 0 (fun x u => x = nI (cnt (fsS pk kn pe q) 320) ∧ u = CW ct ad da nd nb nf bdk num spt val tim rep byN byS pk kn pe clk tol opn) := by
  refine CI.start (by decide) (Nat.le_of_ble_eq_true rfl) ?_
  intro p e s m below meth c F hr hnm
  show V p l e (rmK 1 0 0) s m [.ref (fsO ad da (q))].toArray below meth c D (va_A (CW ct ad da nd nb nf bdk num spt val tim rep byN byS pk kn pe clk tol opn) s.heap.size) 3 0 0 (EI D below (CW ct ad da nd nb nf bdk num spt val tim rep byN byS pk kn pe clk tol opn) [.ref (fsO ad da (q))].toArray s 0 0 (fun x u => x = nI (cnt (fsS pk kn pe q) 320) ∧ u = CW ct ad da nd nb nf bdk num spt val tim rep byN byS pk kn pe clk tol opn)) (CW ct ad da nd nb nf bdk num spt val tim rep byN byS pk kn pe clk tol opn) [(0, .ref (fsO ad da (q)))] 0 []
  refine V.iconst F d_S_size_0 (v := nI (0)) (by decide) ?_
  refine V.istore_n (lv2 := [(1, .int (nI (0))), (0, .ref (fsO ad da (q)))]) F d_S_size_1 rfl (by decide) rfl ?_
  refine V.iconst F d_S_size_2 (v := nI (0)) (by decide) ?_
  refine V.istore_n (lv2 := [(2, .int (nI (0))), (1, .int (nI (0))), (0, .ref (fsO ad da (q)))]) F d_S_size_3 rfl (by decide) rfl ?_
  have L4 : ∀ (n9 : Nat) (i : Nat) (z : Nat), 5 - i < n9 → (i ≤ 5) → (z = cnt (fsS pk kn pe q) (64 * i)) → V p l e (rmK 1 0 0) s m [.ref (fsO ad da (q))].toArray below meth c D (va_A (CW ct ad da nd nb nf bdk num spt val tim rep byN byS pk kn pe clk tol opn) s.heap.size) 3 0 0 (EI D below (CW ct ad da nd nb nf bdk num spt val tim rep byN byS pk kn pe clk tol opn) [.ref (fsO ad da (q))].toArray s 0 0 (fun x u => x = nI (cnt (fsS pk kn pe q) 320) ∧ u = CW ct ad da nd nb nf bdk num spt val tim rep byN byS pk kn pe clk tol opn)) (CW ct ad da nd nb nf bdk num spt val tim rep byN byS pk kn pe clk tol opn) [(2, .int (nI (i))), (1, .int (nI (z))), (0, .ref (fsO ad da (q)))] 4 [] := by
    intro n9
    induction n9 with
    | zero => intro i z h9 hi5 hz; exact absurd h9 (Nat.not_lt_zero _)
    | succ n9 ih4 =>
      intro i z h9 hi5 hz
      refine V.iload_n F d_S_size_4 rfl 0 rfl ?_
      refine V.iconst F d_S_size_5 (v := nI (5)) (by decide) ?_
      refine V.icmp_geN (tgt := 27) F d_S_size_6 (by decide) (by omega) (by omega) (fun c6 => ?_) (fun c6 => ?_)
      · skip
        refine V.iload_n F d_S_size_27 rfl 1 rfl ?_
        exact V.iret F hr d_S_size_28 (⟨by rw [hz, show i = 5 by omega], rfl⟩)
      · skip
        refine V.iload_n F d_S_size_9 rfl 1 rfl ?_
        refine V.aload_n F d_S_size_10 rfl 2 rfl ?_
        refine V.get F ck_S d_S_size_11 0 (by decide) lk_S_11 (fsP (q)) (cw_fs hq) rfl ?_
        refine V.iload_n F d_S_size_14 rfl 0 rfl ?_
        refine V.lald (v := wd (fsS pk kn pe (q)) (i)) F d_S_size_15 (fsX (q)) 1 (cw_fw hq) rfl (by omega) (by decide) rfl ?_
        refine V.callSI0 (As := [.long (wd (fsS pk kn pe (q)) (i))]) (rest := [.int (nI (z))]) F (c_bitCount l D _ _) d_S_size_16 sv_S_15 st_y_J_bitCount rfl rfl (Nat.le_of_ble_eq_true rfl) ⟨rfl, rfl, (Nat.le_of_ble_eq_true rfl), (Nat.le_of_ble_eq_true rfl)⟩ ⟨(Nat.le_of_ble_eq_true rfl), (Nat.le_of_ble_eq_true rfl)⟩ (fun r9 u9 h9 => ?_)
        obtain ⟨rfl, rfl⟩ := h9
        refine V.iaddN F d_S_size_19 ?_
        refine V.istore_n (lv2 := [(1, .int (nI ((z) + (cnt (fun b => (wd (fsS pk kn pe (q)) (i)).toBitVec.getLsbD b) 64)))), (2, .int (nI (i))), (0, .ref (fsO ad da (q)))]) F d_S_size_20 rfl (by decide) rfl ?_
        refine V.iincN (k := 1) (lv2 := [(2, .int (nI (i + 1))), (1, .int (nI ((z) + (cnt (fun b => (wd (fsS pk kn pe (q)) (i)).toBitVec.getLsbD b) 64)))), (0, .ref (fsO ad da (q)))]) F d_S_size_21 1 rfl (by decide) (by decide) rfl ?_
        refine V.goto (tgt := 4) F d_S_size_24 (by decide) ?_
        exact ih4 (i + 1) (z + cnt (fun b => (wd (fsS pk kn pe q) i).toBitVec.getLsbD b) 64) (by omega) (by omega) (by rw [hz]; exact size_step _ i)
  exact L4 _ (0) (0) (Nat.lt_succ_self _) (by omega) (rfl)
end
section
def anyB (p : Nat → Bool) : Nat → Bool
  | 0 => false
  | n + 1 => anyB p n || p n
theorem anyB_iff (p : Nat → Bool) : ∀ n, anyB p n = true ↔ ∃ k, k < n ∧ p k = true
  | 0 => ⟨fun h => (by cases h), fun ⟨k, h, _⟩ => absurd h (Nat.not_lt_zero k)⟩
  | n + 1 => by
    rw [anyB, Bool.or_eq_true, anyB_iff p n]
    constructor
    · rintro (⟨k, h1, h2⟩ | h)
      · exact ⟨k, by omega, h2⟩
      · exact ⟨n, by omega, h⟩
    · rintro ⟨k, h1, h2⟩
      by_cases e : k = n
      · subst e; exact Or.inr h2
      · exact Or.inl ⟨k, by omega, h2⟩
theorem anyB_true {p : Nat → Bool} {n k : Nat} (h : k < n) (hp : p k = true) : anyB p n = true := (anyB_iff p n).mpr ⟨k, h, hp⟩
theorem anyB_false {p : Nat → Bool} {n : Nat} (h : ∀ k, k < n → p k = false) : anyB p n = false := by
  cases e : anyB p n with
  | false => rfl
  | true =>
    obtain ⟨k, h1, h2⟩ := (anyB_iff p n).mp e
    rw [h k h1] at h2
    cases h2
def stB (S : Nat → Bool) (rep : Nat → Nat → Bool) (f : Nat) : Bool := S f && !(anyB (fun k => rep f k && S k) 320)
theorem step64 {P : Nat → Prop} {i : Nat} (h : ∀ b, b < 64 → P (64 * i + b)) (h0 : ∀ k, k < 64 * i → P k) (k : Nat) (hk : k < 64 * (i + 1)) : P k := by
  by_cases hlt : k < 64 * i
  · exact h0 k hlt
  · have := h (k - 64 * i) (by omega)
    rw [show 64 * i + (k - 64 * i) = k by omega] at this
    exact this
theorem rpW_at {rep : Nat → Nat → Bool} {f i : Nat} (h : i < 5) : rpW rep (f * 5 + i) = wd (rep f) i := by
  unfold rpW
  rw [show (f * 5 + i) / 5 = f by omega, show (f * 5 + i) % 5 = i by omega]
theorem stB_hit {S : Nat → Bool} {rep : Nat → Nat → Bool} {f i : Nat} (hi : i < 5) (h : ¬ (wd (rep f) i &&& wd S i) = 0) : stB S rep f = false := by
  have : ∃ b, b < 64 ∧ (rep f (64 * i + b) && S (64 * i + b)) = true := by
    apply Classical.byContradiction
    intro hn
    apply h
    rw [wd_and0]
    intro b hb
    cases e : (rep f (64 * i + b) && S (64 * i + b)) with
    | false => rfl
    | true => exact absurd ⟨b, hb, e⟩ hn
  obtain ⟨b, hb, e⟩ := this
  unfold stB
  rw [anyB_true (k := 64 * i + b) (by omega) e]
  simp
theorem stB_all {S : Nat → Bool} {rep : Nat → Nat → Bool} {f : Nat} (h0 : S f = true) (h : ∀ k, k < 320 → (rep f k && S k) = false) : stB S rep f = true := by
  unfold stB
  rw [anyB_false h, h0]
  rfl
theorem stB_no {S : Nat → Bool} {rep : Nat → Nat → Bool} {f : Nat} (h0 : S f = false) : stB S rep f = false := by
  unfold stB
  rw [h0]
  rfl
theorem pick_add {P C : Nat → Bool} {i : Nat} (h : ∀ k, k < 320 → P k = (decide (k < i) && C k)) (hc : C i = true) : ∀ k, k < 320 → (P k || decide (k = i)) = (decide (k < i + 1) && C k) := by
  intro k hk
  rw [h k hk]
  by_cases e : k = i
  · subst e
    simp [hc]
  · rw [decide_eq_false e, Bool.or_false, show decide (k < i + 1) = decide (k < i) from by rw [decide_eq_decide]; omega]
theorem pick_skip {P C : Nat → Bool} {i : Nat} (h : ∀ k, k < 320 → P k = (decide (k < i) && C k)) (hc : C i = false) : ∀ k, k < 320 → P k = (decide (k < i + 1) && C k) := by
  intro k hk
  rw [h k hk]
  by_cases e : k = i
  · subst e
    simp [hc]
  · rw [show decide (k < i + 1) = decide (k < i) from by rw [decide_eq_decide]; omega]
theorem pick_0 {P C : Nat → Bool} (h : ∀ k, k < 320 → P k = false) : ∀ k, k < 320 → P k = (decide (k < 0) && C k) := fun k hk => by rw [h k hk]; simp
theorem clr_0 (S : Nat → Bool) : ∀ k, k < 320 → (fun k => decide (5 ≤ k / 64) && S k) k = false := fun k hk => by
  show (decide (5 ≤ k / 64) && S k) = false
  rw [decide_eq_false (by omega)]
  rfl
theorem oI_none {b : Option Nat} (hb : ∀ g, b = some g → g < 2 ^ 31) (h : oI b = -1) : b = none := by
  cases b with
  | none => rfl
  | some g => exact absurd (show nI g = -1 from h) (fun q => by have := congrArg Int32.toInt q; rw [nI_toInt (hb g rfl)] at this; exact absurd this (by have : ((-1 : Int32)).toInt = -1 := by decide
                                                                                                                                                        rw [this]; omega))
theorem oI_some {b : Option Nat} (h : ¬ oI b = -1) : ∃ g, b = some g := by
  cases b with
  | none => exact absurd rfl h
  | some g => exact ⟨g, rfl⟩
def ltB (spt tim num : Nat → Nat) (f g : Nat) : Bool := if spt f ≠ spt g then decide (spt g < spt f) else if tim f ≠ tim g then decide (tim g < tim f) else decide (num g < num f)
def isF (spt byS : Nat → Nat) (j : Nat) : Bool := decide (j = 0) || decide (spt (byS (j - 1)) ≠ spt (byS j))
def cfB (spt : Nat → Nat) (val : Nat → Int64) (st : Nat → Bool) (nf s : Nat) : Bool := anyB (fun f => (decide (spt f = s) && st f) && anyB (fun g => (decide (spt g = s) && st g) && decide (val f ≠ val g)) nf) nf
theorem cfB_iff {spt : Nat → Nat} {val : Nat → Int64} {st : Nat → Bool} {nf s : Nat} : cfB spt val st nf s = true ↔ ∃ f g, f < nf ∧ g < nf ∧ spt f = s ∧ spt g = s ∧ st f = true ∧ st g = true ∧ val f ≠ val g := by
  unfold cfB
  rw [anyB_iff]
  constructor
  · rintro ⟨f, hf, h⟩
    rw [Bool.and_eq_true, Bool.and_eq_true, anyB_iff] at h
    obtain ⟨⟨h1, h2⟩, g, hg, h3⟩ := h
    rw [Bool.and_eq_true, Bool.and_eq_true] at h3
    exact ⟨f, g, hf, hg, of_decide_eq_true h1, of_decide_eq_true h3.1.1, h2, h3.1.2, of_decide_eq_true h3.2⟩
  · rintro ⟨f, g, hf, hg, h1, h2, h3, h4, h5⟩
    refine ⟨f, hf, ?_⟩
    rw [Bool.and_eq_true, Bool.and_eq_true, anyB_iff]
    exact ⟨⟨decide_eq_true h1, h3⟩, g, hg, by rw [Bool.and_eq_true, Bool.and_eq_true]; exact ⟨⟨decide_eq_true h2, h4⟩, decide_eq_true h5⟩⟩
theorem ord_step {p : Nat → Bool} {f : Nat → Nat} {k : Int32} {i : Nat} (h : ∀ m, m < i → p m = true → ¬ k = nI (f m)) (hi : p i = true → k = nI (f i) → False) : ∀ m, m < i + 1 → p m = true → ¬ k = nI (f m) := fun m hm hp q => by
  by_cases e : m = i
  · subst e; exact hi hp q
  · exact h m (by omega) hp q
theorem ltB_irr {spt tim num : Nat → Nat} (f : Nat) : ltB spt tim num f f = false := by
  unfold ltB
  rw [if_neg (fun q => q rfl), if_neg (fun q => q rfl), decide_eq_false (Nat.lt_irrefl _)]
theorem ltB_tr {spt tim num : Nat → Nat} {k g i : Nat} (h1 : ltB spt tim num k g = false) (h2 : ltB spt tim num i g = true) : ltB spt tim num k i = false := by
  unfold ltB at *
  split at h1 <;> split at h2 <;> split <;> try (simp only [decide_eq_false_iff_not, decide_eq_true_eq] at *; omega)
  all_goals (split at h1 <;> split at h2 <;> split <;> simp only [decide_eq_false_iff_not, decide_eq_true_eq] at * <;> omega)
theorem best_skip {CA : Nat → Prop} {lt : Nat → Nat → Bool} {i : Nat} {b : Option Nat} (hb : (∀ g, b = some g → g < i ∧ CA g ∧ ∀ k, k < i → CA k → lt k g = false) ∧ (b = none → ∀ k, k < i → ¬ CA k)) (hn : ¬ CA i) : (∀ g, b = some g → g < i + 1 ∧ CA g ∧ ∀ k, k < i + 1 → CA k → lt k g = false) ∧ (b = none → ∀ k, k < i + 1 → ¬ CA k) := by
  refine ⟨fun g e => ?_, fun e k hk => ?_⟩
  · obtain ⟨h1, h2, h3⟩ := hb.1 g e
    refine ⟨by omega, h2, fun k hk hc => ?_⟩
    by_cases q : k = i
    · subst q; exact absurd hc hn
    · exact h3 k (by omega) hc
  · by_cases q : k = i
    · subst q; exact hn
    · exact hb.2 e k (by omega)
theorem best_keep {CA : Nat → Prop} {lt : Nat → Nat → Bool} {i g : Nat} (hb : (∀ x, some g = some x → x < i ∧ CA x ∧ ∀ k, k < i → CA k → lt k x = false) ∧ (some g = none → ∀ k, k < i → ¬ CA k)) (hn : lt i g = false) : (∀ x, some g = some x → x < i + 1 ∧ CA x ∧ ∀ k, k < i + 1 → CA k → lt k x = false) ∧ (some g = none → ∀ k, k < i + 1 → ¬ CA k) := by
  refine ⟨fun x e => ?_, fun e => by cases e⟩
  obtain ⟨h1, h2, h3⟩ := hb.1 x e
  cases e
  refine ⟨by omega, h2, fun k hk hc => ?_⟩
  by_cases q : k = i
  · subst q; exact hn
  · exact h3 k (by omega) hc
theorem best_first {CA : Nat → Prop} {lt : Nat → Nat → Bool} (hirr : ∀ k, lt k k = false) {i : Nat} {b : Option Nat} (hb : (∀ g, b = some g → g < i ∧ CA g ∧ ∀ k, k < i → CA k → lt k g = false) ∧ (b = none → ∀ k, k < i → ¬ CA k)) (hn : b = none) (hc : CA i) : (∀ g, some i = some g → g < i + 1 ∧ CA g ∧ ∀ k, k < i + 1 → CA k → lt k g = false) ∧ (some i = none → ∀ k, k < i + 1 → ¬ CA k) := by
  refine ⟨fun g e => ?_, fun e => by cases e⟩
  cases e
  refine ⟨by omega, hc, fun k hk hk2 => ?_⟩
  by_cases q : k = i
  · subst q; exact hirr _
  · exact absurd hk2 (hb.2 hn k (by omega))
theorem best_up {CA : Nat → Prop} {lt : Nat → Nat → Bool} (hirr : ∀ k, lt k k = false) (htr : ∀ {k g i}, lt k g = false → lt i g = true → lt k i = false) {i g : Nat} (hb : (∀ x, some g = some x → x < i ∧ CA x ∧ ∀ k, k < i → CA k → lt k x = false) ∧ (some g = none → ∀ k, k < i → ¬ CA k)) (hn : lt i g = true) (hc : CA i) : (∀ x, some i = some x → x < i + 1 ∧ CA x ∧ ∀ k, k < i + 1 → CA k → lt k x = false) ∧ (some i = none → ∀ k, k < i + 1 → ¬ CA k) := by
  refine ⟨fun x e => ?_, fun e => by cases e⟩
  cases e
  refine ⟨by omega, hc, fun k hk hk2 => ?_⟩
  by_cases q : k = i
  · subst q; exact hirr _
  · exact htr ((hb.1 g rfl).2.2 k (by omega) hk2) hn
theorem nI_nm1 {g : Nat} (h : g < 2 ^ 31) : ¬ nI g = -1 := fun q => by
  have q2 := congrArg Int32.toInt q
  rw [nI_toInt h, show ((-1 : Int32)).toInt = -1 from by decide] at q2
  omega
set_option maxHeartbeats 4000000 in
set_option maxRecDepth 100000 in
theorem c_dayOf (l : Launch) (D : va_G) (ws : va_W) (ct : Nat → ClassId) (n : Nat) (hn : n < 2 ^ 31) : CI l y_T_dayOf b_T_dayOf 1 (some .int) (rmK 0 0 0) D (tyL ct) (ws) [.int (nI (n))] 0 0 (fun r u => r = nI (n % 100001) ∧ u = ws) := by
  refine CI.start (by decide) (Nat.le_of_ble_eq_true rfl) ?_
  intro p e s m below meth c F hr hnm
  show V p l e (rmK 0 0 0) s m [.int (nI (n))].toArray below meth c D (va_A (ws) s.heap.size) 1 0 0 (EI D below (ws) [.int (nI (n))].toArray s 0 0 (fun r u => r = nI (n % 100001) ∧ u = ws)) (ws) [(0, .int (nI (n)))] 0 []
  refine V.iload_n F d_T_dayOf_0 rfl 0 rfl ?_
  refine V.ldc F d_T_dayOf_1 (v := nI (100001)) lk_T_181 ?_
  refine V.iremN F d_T_dayOf_3 (by omega) (by decide) (by decide) ?_
  exact V.iret F hr d_T_dayOf_4 (⟨rfl, rfl⟩)

set_option maxHeartbeats 4000000 in
set_option maxRecDepth 100000 in
theorem c_kindOf (l : Launch) (D : va_G) (ws : va_W) (ct : Nat → ClassId) (n : Nat) (hn : n < 2 ^ 31) : CI l y_T_kindOf b_T_kindOf 1 (some .int) (rmK 0 0 0) D (tyL ct) (ws) [.int (nI (n))] 0 0 (fun r u => r = nI (n / 100001 % 10) ∧ u = ws) := by
  refine CI.start (by decide) (Nat.le_of_ble_eq_true rfl) ?_
  intro p e s m below meth c F hr hnm
  show V p l e (rmK 0 0 0) s m [.int (nI (n))].toArray below meth c D (va_A (ws) s.heap.size) 1 0 0 (EI D below (ws) [.int (nI (n))].toArray s 0 0 (fun r u => r = nI (n / 100001 % 10) ∧ u = ws)) (ws) [(0, .int (nI (n)))] 0 []
  refine V.iload_n F d_T_kindOf_0 rfl 0 rfl ?_
  refine V.ldc F d_T_kindOf_1 (v := nI (100001)) lk_T_181 ?_
  refine V.idivN F d_T_kindOf_3 (by omega) (by decide) (by decide) ?_
  refine V.bipush F d_T_kindOf_4 (v := nI (10)) (by decide) ?_
  refine V.iremN F d_T_kindOf_6 (by omega) (by decide) (by decide) ?_
  exact V.iret F hr d_T_kindOf_7 (⟨rfl, rfl⟩)

set_option maxHeartbeats 4000000 in
set_option maxRecDepth 100000 in
theorem c_thingOf (l : Launch) (D : va_G) (ws : va_W) (ct : Nat → ClassId) (n : Nat) (hn : n < 2 ^ 31) : CI l y_T_thingOf b_T_thingOf 1 (some .int) (rmK 0 0 0) D (tyL ct) (ws) [.int (nI (n))] 0 0 (fun r u => r = nI (n / 100001 / 10) ∧ u = ws) := by
  refine CI.start (by decide) (Nat.le_of_ble_eq_true rfl) ?_
  intro p e s m below meth c F hr hnm
  show V p l e (rmK 0 0 0) s m [.int (nI (n))].toArray below meth c D (va_A (ws) s.heap.size) 1 0 0 (EI D below (ws) [.int (nI (n))].toArray s 0 0 (fun r u => r = nI (n / 100001 / 10) ∧ u = ws)) (ws) [(0, .int (nI (n)))] 0 []
  refine V.iload_n F d_T_thingOf_0 rfl 0 rfl ?_
  refine V.ldc F d_T_thingOf_1 (v := nI (100001)) lk_T_181 ?_
  refine V.idivN F d_T_thingOf_3 (by omega) (by decide) (by decide) ?_
  refine V.bipush F d_T_thingOf_4 (v := nI (10)) (by decide) ?_
  refine V.idivN F d_T_thingOf_6 (by omega) (by decide) (by decide) ?_
  exact V.iret F hr d_T_thingOf_7 (⟨rfl, rfl⟩)

set_option maxHeartbeats 4000000 in
set_option maxRecDepth 100000 in
theorem c_spotOf (l : Launch) (D : va_G) (ws : va_W) (ct : Nat → ClassId) (a b d : Nat) : CI l y_T_spotOf b_T_spotOf 3 (some .int) (rmK 0 0 0) D (tyL ct) (ws) [.int (nI (a)), .int (nI (b)), .int (nI (d))] 0 0 (fun r u => r = nI ((a * 10 + b) * 100001 + d) ∧ u = ws) := by
  refine CI.start (by decide) (Nat.le_of_ble_eq_true rfl) ?_
  intro p e s m below meth c F hr hnm
  show V p l e (rmK 0 0 0) s m [.int (nI (a)), .int (nI (b)), .int (nI (d))].toArray below meth c D (va_A (ws) s.heap.size) 3 0 0 (EI D below (ws) [.int (nI (a)), .int (nI (b)), .int (nI (d))].toArray s 0 0 (fun r u => r = nI ((a * 10 + b) * 100001 + d) ∧ u = ws)) (ws) [(0, .int (nI (a))), (1, .int (nI (b))), (2, .int (nI (d)))] 0 []
  refine V.iload_n F d_T_spotOf_0 rfl 0 rfl ?_
  refine V.bipush F d_T_spotOf_1 (v := nI (10)) (by decide) ?_
  refine V.imulN F d_T_spotOf_3 ?_
  refine V.iload_n F d_T_spotOf_4 rfl 1 rfl ?_
  refine V.iaddN F d_T_spotOf_5 ?_
  refine V.ldc F d_T_spotOf_6 (v := nI (100001)) lk_T_181 ?_
  refine V.imulN F d_T_spotOf_8 ?_
  refine V.iload_n F d_T_spotOf_9 rfl 2 rfl ?_
  refine V.iaddN F d_T_spotOf_10 ?_
  exact V.iret F hr d_T_spotOf_11 (⟨rfl, rfl⟩)

set_option maxHeartbeats 4000000 in
set_option maxRecDepth 100000 in
theorem c_areTK (l : Launch) (D : va_G) (ws : va_W) (ct : Nat → ClassId) (x y : Int32) : CI l y_T_areThingAndKind b_T_areThingAndKind 2 (some .boolean) (rmK 0 0 0) D (tyL ct) (ws) [.int (x), .int (y)] 0 0 (fun r u => r = bI (decide (¬ x < 0 ∧ ¬ nI 100 ≤ x ∧ ¬ y < 0 ∧ ¬ nI 10 ≤ y)) ∧ u = ws) := by
  refine CI.start (by decide) (Nat.le_of_ble_eq_true rfl) ?_
  intro p e s m below meth c F hr hnm
  show V p l e (rmK 0 0 0) s m [.int (x), .int (y)].toArray below meth c D (va_A (ws) s.heap.size) 2 0 0 (EI D below (ws) [.int (x), .int (y)].toArray s 0 0 (fun r u => r = bI (decide (¬ x < 0 ∧ ¬ nI 100 ≤ x ∧ ¬ y < 0 ∧ ¬ nI 10 ≤ y)) ∧ u = ws)) (ws) [(0, .int (x)), (1, .int (y))] 0 []
  refine V.iload_n F d_T_areThingAndKind_0 rfl 0 rfl ?_
  refine V.if_lt (x := x) (tgt := 24) F d_T_areThingAndKind_1 (by decide) (fun c1 => ?_) (fun c1 => ?_)
  · skip
    refine V.iconst F d_T_areThingAndKind_24 (v := nI (0)) (by decide) ?_
    exact V.zret F hr (nar_0) d_T_areThingAndKind_25 (⟨by rw [decide_eq_false (fun z => z.1 c1)]; exact bI_f, rfl⟩)
  · skip
    refine V.iload_n F d_T_areThingAndKind_4 rfl 0 rfl ?_
    refine V.bipush F d_T_areThingAndKind_5 (v := nI (100)) (by decide) ?_
    refine V.icmp_ge (x := x) (y := nI (100)) (tgt := 24) F d_T_areThingAndKind_7 (by decide) (fun c7 => ?_) (fun c7 => ?_)
    · skip
      refine V.iconst F d_T_areThingAndKind_24 (v := nI (0)) (by decide) ?_
      exact V.zret F hr (nar_0) d_T_areThingAndKind_25 (⟨by rw [decide_eq_false (fun z => z.2.1 c7)]; exact bI_f, rfl⟩)
    · skip
      refine V.iload_n F d_T_areThingAndKind_10 rfl 1 rfl ?_
      refine V.if_lt (x := y) (tgt := 24) F d_T_areThingAndKind_11 (by decide) (fun c11 => ?_) (fun c11 => ?_)
      · skip
        refine V.iconst F d_T_areThingAndKind_24 (v := nI (0)) (by decide) ?_
        exact V.zret F hr (nar_0) d_T_areThingAndKind_25 (⟨by rw [decide_eq_false (fun z => z.2.2.1 c11)]; exact bI_f, rfl⟩)
      · skip
        refine V.iload_n F d_T_areThingAndKind_14 rfl 1 rfl ?_
        refine V.bipush F d_T_areThingAndKind_15 (v := nI (10)) (by decide) ?_
        refine V.icmp_ge (x := y) (y := nI (10)) (tgt := 24) F d_T_areThingAndKind_17 (by decide) (fun c17 => ?_) (fun c17 => ?_)
        · skip
          refine V.iconst F d_T_areThingAndKind_24 (v := nI (0)) (by decide) ?_
          exact V.zret F hr (nar_0) d_T_areThingAndKind_25 (⟨by rw [decide_eq_false (fun z => z.2.2.2 c17)]; exact bI_f, rfl⟩)
        · skip
          refine V.iconst F d_T_areThingAndKind_20 (v := nI (1)) (by decide) ?_
          refine V.goto (tgt := 25) F d_T_areThingAndKind_21 (by decide) ?_
          exact V.zret F hr (nar_1) d_T_areThingAndKind_25 (⟨by rw [decide_eq_true ⟨c1, c7, c11, c17⟩]; exact bI_t, rfl⟩)

set_option maxHeartbeats 4000000 in
set_option maxRecDepth 100000 in
theorem c_stands (l : Launch) (D : va_G) {ct : Nat → ClassId} {ad : Nat → Nat} {da : Nat → Nat → Nat} {nd : Nat} {nb : Nat} {nf : Nat} {bdk : Nat → Nat} {num : Nat → Nat} {spt : Nat → Nat} {val : Nat → Int64} {tim : Nat → Nat} {rep : Nat → Nat → Bool} {byN : Nat → Nat} {byS : Nat → Nat} {pk : Nat → Bool} {kn : Nat → Nat → Bool} {pe : Nat → Nat → Bool} {clk : Nat → Nat} {tol : Nat → Nat} {opn : Nat → Option Nat} (q : Option (Nat × Bool)) (hq : fsOk nd q) (f : Nat) (hf : f < 300) : CI l y_A_standsAmong b_A_standsAmong 4 (some .boolean) (rmK 1 0 0) D (tyL ct) (CW ct ad da nd nb nf bdk num spt val tim rep byN byS pk kn pe clk tol opn) [.ref (ad 3), .ref (fsO ad da (q)), .int (nI (f))] 0 0 (fun r u => r = bI (stB (fsS pk kn pe q) rep f) ∧ u = CW ct ad da nd nb nf bdk num spt val tim rep byN byS pk kn pe clk tol opn) := by
  refine CI.start (by decide) (Nat.le_of_ble_eq_true rfl) ?_
  intro p e s m below meth c F hr hnm
  show V p l e (rmK 1 0 0) s m [.ref (ad 3), .ref (fsO ad da (q)), .int (nI (f))].toArray below meth c D (va_A (CW ct ad da nd nb nf bdk num spt val tim rep byN byS pk kn pe clk tol opn) s.heap.size) 4 0 0 (EI D below (CW ct ad da nd nb nf bdk num spt val tim rep byN byS pk kn pe clk tol opn) [.ref (ad 3), .ref (fsO ad da (q)), .int (nI (f))].toArray s 0 0 (fun r u => r = bI (stB (fsS pk kn pe q) rep f) ∧ u = CW ct ad da nd nb nf bdk num spt val tim rep byN byS pk kn pe clk tol opn)) (CW ct ad da nd nb nf bdk num spt val tim rep byN byS pk kn pe clk tol opn) [(0, .ref (ad 3)), (1, .ref (fsO ad da (q))), (2, .int (nI (f)))] 0 []
  refine V.aload_n F d_A_standsAmong_0 rfl 1 rfl ?_
  refine V.iload_n F d_A_standsAmong_1 rfl 2 rfl ?_
  refine V.callVI0 (As := [.int (nI (f))]) (rest := []) F (c_has l D q hq f (by omega)) d_A_standsAmong_2 sv_A_40 im_y_S_has sl_y_S_has (fsP (q)) (cw_fs hq) rfl rfl rfl rfl (Nat.le_of_ble_eq_true rfl) ⟨rfl, rfl, (Nat.le_of_ble_eq_true rfl), (Nat.le_of_ble_eq_true rfl)⟩ ⟨(Nat.le_of_ble_eq_true rfl), (Nat.le_of_ble_eq_true rfl)⟩ (fun r9 u9 h9 => ?_)
  obtain ⟨rfl, rfl⟩ := h9
  refine V.if_neB (b := fsS pk kn pe (q) (f)) (tgt := 10) F d_A_standsAmong_5 (by decide) (fun c5 => ?_) (fun c5 => ?_)
  · skip
    refine V.iconst F d_A_standsAmong_10 (v := nI (0)) (by decide) ?_
    refine V.istore_n (lv2 := [(3, .int (nI (0))), (0, .ref (ad 3)), (1, .ref (fsO ad da (q))), (2, .int (nI (f)))]) F d_A_standsAmong_11 rfl (by decide) rfl ?_
    have L12 : ∀ (n9 : Nat) (i : Nat), 5 - i < n9 → (i ≤ 5) → (∀ k, k < 64 * i → (rep f k && fsS pk kn pe q k) = false) → V p l e (rmK 1 0 0) s m [.ref (ad 3), .ref (fsO ad da (q)), .int (nI (f))].toArray below meth c D (va_A (CW ct ad da nd nb nf bdk num spt val tim rep byN byS pk kn pe clk tol opn) s.heap.size) 4 0 0 (EI D below (CW ct ad da nd nb nf bdk num spt val tim rep byN byS pk kn pe clk tol opn) [.ref (ad 3), .ref (fsO ad da (q)), .int (nI (f))].toArray s 0 0 (fun r u => r = bI (stB (fsS pk kn pe q) rep f) ∧ u = CW ct ad da nd nb nf bdk num spt val tim rep byN byS pk kn pe clk tol opn)) (CW ct ad da nd nb nf bdk num spt val tim rep byN byS pk kn pe clk tol opn) [(3, .int (nI (i))), (0, .ref (ad 3)), (1, .ref (fsO ad da (q))), (2, .int (nI (f)))] 12 [] := by
      intro n9
      induction n9 with
      | zero => intro i h9 hi5 hin; exact absurd h9 (Nat.not_lt_zero _)
      | succ n9 ih12 =>
        intro i h9 hi5 hin
        refine V.iload_n F d_A_standsAmong_12 rfl 0 rfl ?_
        refine V.iconst F d_A_standsAmong_13 (v := nI (5)) (by decide) ?_
        refine V.icmp_geN (tgt := 47) F d_A_standsAmong_14 (by decide) (by omega) (by omega) (fun c14 => ?_) (fun c14 => ?_)
        · skip
          refine V.iconst F d_A_standsAmong_47 (v := nI (1)) (by decide) ?_
          exact V.zret F hr (nar_1) d_A_standsAmong_48 (⟨by rw [stB_all c5 (fun k hk => hin k (by omega))]; exact bI_t, rfl⟩)
        · skip
          refine V.aload_n F d_A_standsAmong_17 rfl 1 rfl ?_
          refine V.get F ck_A d_A_standsAmong_18 4 (by decide) lk_A_27 3 rfl rfl ?_
          refine V.iload_n F d_A_standsAmong_21 rfl 3 rfl ?_
          refine V.iconst F d_A_standsAmong_22 (v := nI (5)) (by decide) ?_
          refine V.imulN F d_A_standsAmong_23 ?_
          refine V.iload_n F d_A_standsAmong_24 rfl 0 rfl ?_
          refine V.iaddN F d_A_standsAmong_25 ?_
          refine V.lald (v := wd (rep f) (i)) F d_A_standsAmong_26 8 1 rfl rfl (by omega) (by decide) (rpW_at (by omega)) ?_
          refine V.aload_n F d_A_standsAmong_27 rfl 2 rfl ?_
          refine V.getN F ck_S d_A_standsAmong_28 0 (by decide) lk_A_48 (fsP (q)) (cw_fs hq) rfl ?_
          refine V.iload_n F d_A_standsAmong_31 rfl 0 rfl ?_
          refine V.lald (v := wd (fsS pk kn pe (q)) (i)) F d_A_standsAmong_32 (fsX (q)) 1 (cw_fw hq) rfl (by omega) (by decide) rfl ?_
          refine V.land F d_A_standsAmong_33 (v := (wd (rep f) (i)) &&& (wd (fsS pk kn pe (q)) (i))) rfl ?_
          refine V.lconst F d_A_standsAmong_34 (v := 0) (by decide) ?_
          refine V.lcmp_eq (tgt := 41) F d_A_standsAmong_35 d_A_standsAmong_36 (by decide) (fun c35 => ?_) (fun c35 => ?_)
          · skip
            refine V.iincN (k := 1) (lv2 := [(3, .int (nI (i + 1))), (0, .ref (ad 3)), (1, .ref (fsO ad da (q))), (2, .int (nI (f)))]) F d_A_standsAmong_41 0 rfl (by decide) (by decide) rfl ?_
            refine V.goto (tgt := 12) F d_A_standsAmong_44 (by decide) ?_
            exact ih12 (i + 1) (by omega) (by omega) (step64 (P := fun k => (rep f k && fsS pk kn pe q k) = false) ((wd_and0 _ _ _).mp c35) hin)
          · skip
            refine V.iconst F d_A_standsAmong_39 (v := nI (0)) (by decide) ?_
            exact V.zret F hr (nar_0) d_A_standsAmong_40 (⟨by rw [stB_hit (by omega) c35]; exact bI_f, rfl⟩)
    exact L12 _ (0) (Nat.lt_succ_self _) (by omega) (fun k hk => absurd hk (by omega))
  · skip
    refine V.iconst F d_A_standsAmong_8 (v := nI (0)) (by decide) ?_
    exact V.zret F hr (nar_0) d_A_standsAmong_9 (⟨by rw [stB_no c5]; exact bI_f, rfl⟩)

set_option maxHeartbeats 4000000 in
set_option maxRecDepth 100000 in
theorem c_withNumber (l : Launch) (D : va_G) {ct : Nat → ClassId} {ad : Nat → Nat} {da : Nat → Nat → Nat} {nd : Nat} {nb : Nat} {nf : Nat} {bdk : Nat → Nat} {num : Nat → Nat} {spt : Nat → Nat} {val : Nat → Int64} {tim : Nat → Nat} {rep : Nat → Nat → Bool} {byN : Nat → Nat} {byS : Nat → Nat} {pk : Nat → Bool} {kn : Nat → Nat → Bool} {pe : Nat → Nat → Bool} {clk : Nat → Nat} {tol : Nat → Nat} {opn : Nat → Option Nat} (hnf : nf ≤ 300) (x : Int32) : CI l y_A_withNumber b_A_withNumber 3 (some .int) (rmK 0 0 0) D (tyL ct) (CW ct ad da nd nb nf bdk num spt val tim rep byN byS pk kn pe clk tol opn) [.ref (ad 3), .int (x)] 0 0 (fun r u => ((∃ f, f < nf ∧ nI (num f) = x ∧ (∀ k, k < f → ¬ nI (num k) = x) ∧ r = nI f) ∨ ((∀ k, k < nf → ¬ nI (num k) = x) ∧ r = -1)) ∧ u = CW ct ad da nd nb nf bdk num spt val tim rep byN byS pk kn pe clk tol opn) := by
  refine CI.start (by decide) (Nat.le_of_ble_eq_true rfl) ?_
  intro p e s m below meth c F hr hnm
  show V p l e (rmK 0 0 0) s m [.ref (ad 3), .int (x)].toArray below meth c D (va_A (CW ct ad da nd nb nf bdk num spt val tim rep byN byS pk kn pe clk tol opn) s.heap.size) 3 0 0 (EI D below (CW ct ad da nd nb nf bdk num spt val tim rep byN byS pk kn pe clk tol opn) [.ref (ad 3), .int (x)].toArray s 0 0 (fun r u => ((∃ f, f < nf ∧ nI (num f) = x ∧ (∀ k, k < f → ¬ nI (num k) = x) ∧ r = nI f) ∨ ((∀ k, k < nf → ¬ nI (num k) = x) ∧ r = -1)) ∧ u = CW ct ad da nd nb nf bdk num spt val tim rep byN byS pk kn pe clk tol opn)) (CW ct ad da nd nb nf bdk num spt val tim rep byN byS pk kn pe clk tol opn) [(0, .ref (ad 3)), (1, .int (x))] 0 []
  refine V.iconst F d_A_withNumber_0 (v := nI (0)) (by decide) ?_
  refine V.istore_n (lv2 := [(2, .int (nI (0))), (0, .ref (ad 3)), (1, .int (x))]) F d_A_withNumber_1 rfl (by decide) rfl ?_
  have L2 : ∀ (n9 : Nat) (i : Nat), nf - i < n9 → (i ≤ nf) → (∀ k, k < i → ¬ nI (num k) = x) → V p l e (rmK 0 0 0) s m [.ref (ad 3), .int (x)].toArray below meth c D (va_A (CW ct ad da nd nb nf bdk num spt val tim rep byN byS pk kn pe clk tol opn) s.heap.size) 3 0 0 (EI D below (CW ct ad da nd nb nf bdk num spt val tim rep byN byS pk kn pe clk tol opn) [.ref (ad 3), .int (x)].toArray s 0 0 (fun r u => ((∃ f, f < nf ∧ nI (num f) = x ∧ (∀ k, k < f → ¬ nI (num k) = x) ∧ r = nI f) ∨ ((∀ k, k < nf → ¬ nI (num k) = x) ∧ r = -1)) ∧ u = CW ct ad da nd nb nf bdk num spt val tim rep byN byS pk kn pe clk tol opn)) (CW ct ad da nd nb nf bdk num spt val tim rep byN byS pk kn pe clk tol opn) [(2, .int (nI (i))), (0, .ref (ad 3)), (1, .int (x))] 2 [] := by
    intro n9
    induction n9 with
    | zero => intro i h9 hi hin; exact absurd h9 (Nat.not_lt_zero _)
    | succ n9 ih2 =>
      intro i h9 hi hin
      refine V.iload_n F d_A_withNumber_2 rfl 0 rfl ?_
      refine V.aload_n F d_A_withNumber_3 rfl 1 rfl ?_
      refine V.get F ck_A d_A_withNumber_4 7 (by decide) lk_A_36 3 rfl rfl ?_
      refine V.icmp_geN (tgt := 28) F d_A_withNumber_7 (by decide) (by omega) (by omega) (fun c7 => ?_) (fun c7 => ?_)
      · skip
        refine V.iconst F d_A_withNumber_28 (v := -1) (by decide) ?_
        exact V.iret F hr d_A_withNumber_29 (⟨Or.inr ⟨fun k hk => hin k (by omega), rfl⟩, rfl⟩)
      · skip
        refine V.aload_n F d_A_withNumber_10 rfl 1 rfl ?_
        refine V.get F ck_A d_A_withNumber_11 0 (by decide) lk_A_9 3 rfl rfl ?_
        refine V.iload_n F d_A_withNumber_14 rfl 0 rfl ?_
        refine V.iald (v := nI (num (i))) F d_A_withNumber_15 4 0 rfl rfl (by omega) (by decide) rfl ?_
        refine V.iload_n F d_A_withNumber_16 rfl 2 rfl ?_
        refine V.icmp_ne (x := nI (num (i))) (y := x) (tgt := 22) F d_A_withNumber_17 (by decide) (fun c17 => ?_) (fun c17 => ?_)
        · skip
          refine V.iincN (k := 1) (lv2 := [(2, .int (nI (i + 1))), (0, .ref (ad 3)), (1, .int (x))]) F d_A_withNumber_22 0 rfl (by decide) (by decide) rfl ?_
          refine V.goto (tgt := 2) F d_A_withNumber_25 (by decide) ?_
          exact ih2 (i + 1) (by omega) (by omega) (fun k hk => by
          by_cases e9 : k = i
          · rw [e9]; exact c17
          · exact hin k (by omega))
        · skip
          refine V.iload_n F d_A_withNumber_20 rfl 0 rfl ?_
          exact V.iret F hr d_A_withNumber_21 (⟨Or.inl ⟨i, by omega, c17, hin, rfl⟩, rfl⟩)
  exact L2 _ (0) (Nat.lt_succ_self _) (by omega) (fun k hk => absurd hk (by omega))

set_option maxHeartbeats 4000000 in
set_option maxRecDepth 100000 in
theorem c_inOrder (l : Launch) (D : va_G) {ct : Nat → ClassId} {ad : Nat → Nat} {da : Nat → Nat → Nat} {nd : Nat} {nb : Nat} {nf : Nat} {bdk : Nat → Nat} {num : Nat → Nat} {spt : Nat → Nat} {val : Nat → Int64} {tim : Nat → Nat} {rep : Nat → Nat → Bool} {byN : Nat → Nat} {byS : Nat → Nat} {pk : Nat → Bool} {kn : Nat → Nat → Bool} {pe : Nat → Nat → Bool} {clk : Nat → Nat} {tol : Nat → Nat} {opn : Nat → Option Nat} (hnf : nf ≤ 300) (hbN : ∀ j, j < nf → byN j < nf) (k : Int32) : CI l y_A_inOrder b_A_inOrder 6 (some .int) (rmK 1 0 0) D (tyL ct) (CW ct ad da nd nb nf bdk num spt val tim rep byN byS pk kn pe clk tol opn) [.ref (ad 3), .ref (ad 11), .int (k)] 0 0 (fun r u => ((∃ m, m < nf ∧ pk (byN m) = true ∧ k = nI (cnt (fun j => pk (byN j)) m) ∧ r = nI (byN m)) ∨ ((∀ m, m < nf → pk (byN m) = true → ¬ k = nI (cnt (fun j => pk (byN j)) m)) ∧ r = -1)) ∧ u = CW ct ad da nd nb nf bdk num spt val tim rep byN byS pk kn pe clk tol opn) := by
  refine CI.start (by decide) (Nat.le_of_ble_eq_true rfl) ?_
  intro p e s m below meth c F hr hnm
  show V p l e (rmK 1 0 0) s m [.ref (ad 3), .ref (ad 11), .int (k)].toArray below meth c D (va_A (CW ct ad da nd nb nf bdk num spt val tim rep byN byS pk kn pe clk tol opn) s.heap.size) 6 0 0 (EI D below (CW ct ad da nd nb nf bdk num spt val tim rep byN byS pk kn pe clk tol opn) [.ref (ad 3), .ref (ad 11), .int (k)].toArray s 0 0 (fun r u => ((∃ m, m < nf ∧ pk (byN m) = true ∧ k = nI (cnt (fun j => pk (byN j)) m) ∧ r = nI (byN m)) ∨ ((∀ m, m < nf → pk (byN m) = true → ¬ k = nI (cnt (fun j => pk (byN j)) m)) ∧ r = -1)) ∧ u = CW ct ad da nd nb nf bdk num spt val tim rep byN byS pk kn pe clk tol opn)) (CW ct ad da nd nb nf bdk num spt val tim rep byN byS pk kn pe clk tol opn) [(0, .ref (ad 3)), (1, .ref (ad 11)), (2, .int (k))] 0 []
  refine V.iconst F d_A_inOrder_0 (v := nI (0)) (by decide) ?_
  refine V.istore_n (lv2 := [(3, .int (nI (0))), (0, .ref (ad 3)), (1, .ref (ad 11)), (2, .int (k))]) F d_A_inOrder_1 rfl (by decide) rfl ?_
  refine V.iconst F d_A_inOrder_2 (v := nI (0)) (by decide) ?_
  refine V.istore (lv2 := [(4, .int (nI (0))), (3, .int (nI (0))), (0, .ref (ad 3)), (1, .ref (ad 11)), (2, .int (k))]) F d_A_inOrder_3 (by decide) rfl ?_
  have L5 : ∀ (n9 : Nat) (i : Nat) (z : Nat), nf - i < n9 → (i ≤ nf) → (z = cnt (fun j => pk (byN j)) i) → (∀ m, m < i → pk (byN m) = true → ¬ k = nI (cnt (fun j => pk (byN j)) m)) → V p l e (rmK 1 0 0) s m [.ref (ad 3), .ref (ad 11), .int (k)].toArray below meth c D (va_A (CW ct ad da nd nb nf bdk num spt val tim rep byN byS pk kn pe clk tol opn) s.heap.size) 6 0 0 (EI D below (CW ct ad da nd nb nf bdk num spt val tim rep byN byS pk kn pe clk tol opn) [.ref (ad 3), .ref (ad 11), .int (k)].toArray s 0 0 (fun r u => ((∃ m, m < nf ∧ pk (byN m) = true ∧ k = nI (cnt (fun j => pk (byN j)) m) ∧ r = nI (byN m)) ∨ ((∀ m, m < nf → pk (byN m) = true → ¬ k = nI (cnt (fun j => pk (byN j)) m)) ∧ r = -1)) ∧ u = CW ct ad da nd nb nf bdk num spt val tim rep byN byS pk kn pe clk tol opn)) (CW ct ad da nd nb nf bdk num spt val tim rep byN byS pk kn pe clk tol opn) [(4, .int (nI (i))), (3, .int (nI (z))), (0, .ref (ad 3)), (1, .ref (ad 11)), (2, .int (k))] 5 [] := by
    intro n9
    induction n9 with
    | zero => intro i z h9 hi hz hin; exact absurd h9 (Nat.not_lt_zero _)
    | succ n9 ih5 =>
      intro i z h9 hi hz hin
      refine V.iload F d_A_inOrder_5 0 rfl ?_
      refine V.aload_n F d_A_inOrder_7 rfl 2 rfl ?_
      refine V.get F ck_A d_A_inOrder_8 7 (by decide) lk_A_36 3 rfl rfl ?_
      refine V.icmp_geN (tgt := 49) F d_A_inOrder_11 (by decide) (by omega) (by omega) (fun c11 => ?_) (fun c11 => ?_)
      · skip
        refine V.iconst F d_A_inOrder_49 (v := -1) (by decide) ?_
        exact V.iret F hr d_A_inOrder_50 (⟨Or.inr ⟨fun m hm => hin m (by omega), rfl⟩, rfl⟩)
      · skip
        refine V.aload_n F d_A_inOrder_14 rfl 2 rfl ?_
        refine V.get F ck_A d_A_inOrder_15 5 (by decide) lk_A_30 3 rfl rfl ?_
        refine V.iload F d_A_inOrder_18 0 rfl ?_
        refine V.iald (v := nI (byN (i))) F d_A_inOrder_20 9 0 rfl rfl (by omega) (by decide) rfl ?_
        refine V.istore (lv2 := [(5, .int (nI (byN (i)))), (4, .int (nI (i))), (3, .int (nI (z))), (0, .ref (ad 3)), (1, .ref (ad 11)), (2, .int (k))]) F d_A_inOrder_21 (by decide) rfl ?_
        refine V.aload_n F d_A_inOrder_23 rfl 4 rfl ?_
        refine V.iload F d_A_inOrder_24 0 rfl ?_
        refine V.callVI0 (As := [.int (nI (byN (i)))]) (rest := []) F (c_has l D none trivial (byN i) (by have := hbN i (by omega); omega)) d_A_inOrder_26 sv_A_40 im_y_S_has sl_y_S_has 11 rfl rfl rfl rfl rfl (Nat.le_of_ble_eq_true rfl) ⟨rfl, rfl, (Nat.le_of_ble_eq_true rfl), (Nat.le_of_ble_eq_true rfl)⟩ ⟨(Nat.le_of_ble_eq_true rfl), (Nat.le_of_ble_eq_true rfl)⟩ (fun r9 u9 h9 => ?_)
        obtain ⟨rfl, rfl⟩ := h9
        refine V.if_eqB (b := pk (byN (i))) (tgt := 43) F d_A_inOrder_29 (by decide) (fun c29 => ?_) (fun c29 => ?_)
        · skip
          refine V.iincN (k := 1) (lv2 := [(4, .int (nI (i + 1))), (5, .int (nI (byN (i)))), (3, .int (nI (z))), (0, .ref (ad 3)), (1, .ref (ad 11)), (2, .int (k))]) F d_A_inOrder_43 1 rfl (by decide) (by decide) rfl ?_
          refine V.goto (tgt := 5) F d_A_inOrder_46 (by decide) ?_
          refine V.lvs [0, 2, 3, 4, 5] rfl ?_
          exact ih5 (i + 1) (z) (by omega) (by omega) (by rw [hz, cnt, if_neg (by rw [c29]; decide)]; rfl) (ord_step hin (fun q _ => by rw [c29] at q; cases q))
        · skip
          refine V.iload_n F d_A_inOrder_32 rfl 2 rfl ?_
          refine V.iload_n F d_A_inOrder_33 rfl 5 rfl ?_
          refine V.icmp_ne (x := nI (z)) (y := k) (tgt := 40) F d_A_inOrder_34 (by decide) (fun c34 => ?_) (fun c34 => ?_)
          · skip
            refine V.iincN (k := 1) (lv2 := [(3, .int (nI (z + 1))), (5, .int (nI (byN (i)))), (4, .int (nI (i))), (0, .ref (ad 3)), (1, .ref (ad 11)), (2, .int (k))]) F d_A_inOrder_40 2 rfl (by decide) (by decide) rfl ?_
            refine V.iincN (k := 1) (lv2 := [(4, .int (nI (i + 1))), (3, .int (nI (z + 1))), (5, .int (nI (byN (i)))), (0, .ref (ad 3)), (1, .ref (ad 11)), (2, .int (k))]) F d_A_inOrder_43 2 rfl (by decide) (by decide) rfl ?_
            refine V.goto (tgt := 5) F d_A_inOrder_46 (by decide) ?_
            refine V.lvs [0, 1, 3, 4, 5] rfl ?_
            exact ih5 (i + 1) (z + 1) (by omega) (by omega) (by rw [hz, cnt, if_pos c29]) (ord_step hin (fun _ q => c34 (by rw [hz]; exact q.symm)))
          · skip
            refine V.iload F d_A_inOrder_37 0 rfl ?_
            exact V.iret F hr d_A_inOrder_39 (⟨Or.inl ⟨i, by omega, c29, by rw [← hz]; exact c34.symm, rfl⟩, rfl⟩)
  exact L5 _ (0) (0) (Nat.lt_succ_self _) (by omega) (rfl) (fun m hm => absurd hm (by omega))

set_option maxHeartbeats 4000000 in
set_option maxRecDepth 100000 in
theorem c_pickStanding (l : Launch) (D : va_G) {ct : Nat → ClassId} {ad : Nat → Nat} {da : Nat → Nat → Nat} {nd : Nat} {nb : Nat} {nf : Nat} {bdk : Nat → Nat} {num : Nat → Nat} {spt : Nat → Nat} {val : Nat → Int64} {tim : Nat → Nat} {rep : Nat → Nat → Bool} {byN : Nat → Nat} {byS : Nat → Nat} {pk : Nat → Bool} {kn : Nat → Nat → Bool} {pe : Nat → Nat → Bool} {clk : Nat → Nat} {tol : Nat → Nat} {opn : Nat → Option Nat} (hnf : nf ≤ 300) (d : Nat) (hd0 : d < nd) (sp : Nat) (hsp : sp < 2 ^ 31) (hspt : ∀ k, k < nf → spt k < 2 ^ 31) : CV l y_A_pickStanding b_A_pickStanding 5 none (rmK 2 0 0) D (tyL ct) (CW ct ad da nd nb nf bdk num spt val tim rep byN byS pk kn pe clk tol opn) [.ref (ad 3), .ref (da (d) 1), .int (nI (sp)), .ref (ad 11)] 0 0 (fun u => ∃ P : Nat → Bool, (∀ k, k < 320 → P k = (decide (k < nf) && (decide (spt k = sp) && stB (kn d) rep k))) ∧ u = CW ct ad da nd nb nf bdk num spt val tim rep byN byS P kn pe clk tol opn) := by
  refine CV.start (by decide) (Nat.le_of_ble_eq_true rfl) ?_
  intro p e s m below meth c F hr hnm
  show V p l e (rmK 2 0 0) s m [.ref (ad 3), .ref (da (d) 1), .int (nI (sp)), .ref (ad 11)].toArray below meth c D (va_A (CW ct ad da nd nb nf bdk num spt val tim rep byN byS pk kn pe clk tol opn) s.heap.size) 5 0 0 (EV D below (CW ct ad da nd nb nf bdk num spt val tim rep byN byS pk kn pe clk tol opn) [.ref (ad 3), .ref (da (d) 1), .int (nI (sp)), .ref (ad 11)].toArray s 0 0 (fun u => ∃ P : Nat → Bool, (∀ k, k < 320 → P k = (decide (k < nf) && (decide (spt k = sp) && stB (kn d) rep k))) ∧ u = CW ct ad da nd nb nf bdk num spt val tim rep byN byS P kn pe clk tol opn)) (CW ct ad da nd nb nf bdk num spt val tim rep byN byS pk kn pe clk tol opn) [(0, .ref (ad 3)), (1, .ref (da (d) 1)), (2, .int (nI (sp))), (3, .ref (ad 11))] 0 []
  refine V.aload_n F d_A_pickStanding_0 rfl 3 rfl ?_
  refine V.callVV0 (As := []) (rest := []) F (c_clear l D none trivial) d_A_pickStanding_1 sv_A_51 im_y_S_clear sl_y_S_clear 11 rfl rfl rfl rfl rfl (Nat.le_of_ble_eq_true rfl) ⟨rfl, rfl, (Nat.le_of_ble_eq_true rfl), (Nat.le_of_ble_eq_true rfl)⟩ ⟨(Nat.le_of_ble_eq_true rfl), (Nat.le_of_ble_eq_true rfl)⟩ (fun u9 h9 => ?_)
  obtain rfl := h9
  refine V.ws_eq (ws2 := CW ct ad da nd nb nf bdk num spt val tim rep byN byS (fun k => decide (5 ≤ k / 64) && pk k) kn pe clk tol opn) rfl ?_
  refine V.iconst F d_A_pickStanding_4 (v := nI (0)) (by decide) ?_
  refine V.istore (lv2 := [(4, .int (nI (0))), (0, .ref (ad 3)), (1, .ref (da (d) 1)), (2, .int (nI (sp))), (3, .ref (ad 11))]) F d_A_pickStanding_5 (by decide) rfl ?_
  have L7 : ∀ (n9 : Nat) (i : Nat) (P : Nat → Bool), nf - i < n9 → (i ≤ nf) → (∀ k, k < 320 → P k = (decide (k < i) && (decide (spt k = sp) && stB (kn d) rep k))) → V p l e (rmK 2 0 0) s m [.ref (ad 3), .ref (da (d) 1), .int (nI (sp)), .ref (ad 11)].toArray below meth c D (va_A (CW ct ad da nd nb nf bdk num spt val tim rep byN byS pk kn pe clk tol opn) s.heap.size) 5 0 0 (EV D below (CW ct ad da nd nb nf bdk num spt val tim rep byN byS pk kn pe clk tol opn) [.ref (ad 3), .ref (da (d) 1), .int (nI (sp)), .ref (ad 11)].toArray s 0 0 (fun u => ∃ P : Nat → Bool, (∀ k, k < 320 → P k = (decide (k < nf) && (decide (spt k = sp) && stB (kn d) rep k))) ∧ u = CW ct ad da nd nb nf bdk num spt val tim rep byN byS P kn pe clk tol opn)) (CW ct ad da nd nb nf bdk num spt val tim rep byN byS P kn pe clk tol opn) [(4, .int (nI (i))), (0, .ref (ad 3)), (1, .ref (da (d) 1)), (2, .int (nI (sp))), (3, .ref (ad 11))] 7 [] := by
    intro n9
    induction n9 with
    | zero => intro i P h9 hi hP; exact absurd h9 (Nat.not_lt_zero _)
    | succ n9 ih7 =>
      intro i P h9 hi hP
      refine V.iload F d_A_pickStanding_7 0 rfl ?_
      refine V.aload_n F d_A_pickStanding_9 rfl 1 rfl ?_
      refine V.get F ck_A d_A_pickStanding_10 7 (by decide) lk_A_36 3 rfl rfl ?_
      refine V.icmp_geN (tgt := 49) F d_A_pickStanding_13 (by decide) (by omega) (by omega) (fun c13 => ?_) (fun c13 => ?_)
      · skip
        exact V.vret F hr d_A_pickStanding_49 (⟨P, by rw [show nf = i by omega]; exact hP, rfl⟩)
      · skip
        have hs9 := hspt i (by omega)
        refine V.aload_n F d_A_pickStanding_16 rfl 1 rfl ?_
        refine V.get F ck_A d_A_pickStanding_17 1 (by decide) lk_A_15 3 rfl rfl ?_
        refine V.iload F d_A_pickStanding_20 0 rfl ?_
        refine V.iald (v := nI (spt (i))) F d_A_pickStanding_22 5 0 rfl rfl (by omega) (by decide) rfl ?_
        refine V.iload_n F d_A_pickStanding_23 rfl 3 rfl ?_
        refine V.icmp_neN (tgt := 43) F d_A_pickStanding_24 (by decide) (by omega) (by omega) (fun c24 => ?_) (fun c24 => ?_)
        · skip
          refine V.iincN (k := 1) (lv2 := [(4, .int (nI (i + 1))), (0, .ref (ad 3)), (1, .ref (da (d) 1)), (2, .int (nI (sp))), (3, .ref (ad 11))]) F d_A_pickStanding_43 0 rfl (by decide) (by decide) rfl ?_
          refine V.goto (tgt := 7) F d_A_pickStanding_46 (by decide) ?_
          exact ih7 (i + 1) (P) (by omega) (by omega) (pick_skip (C := fun k => decide (spt k = sp) && stB (kn d) rep k) hP (by show (decide (spt i = sp) && stB (kn d) rep i) = false; rw [decide_eq_false c24]; rfl))
        · skip
          refine V.aload_n F d_A_pickStanding_27 rfl 1 rfl ?_
          refine V.aload_n F d_A_pickStanding_28 rfl 2 rfl ?_
          refine V.iload F d_A_pickStanding_29 0 rfl ?_
          refine V.callVI0 (As := [.ref (da (d) 1), .int (nI (i))]) (rest := []) F (c_stands l D (some (d, false)) hd0 i (by omega)) d_A_pickStanding_31 sv_A_54 im_y_A_standsAmong sl_y_A_standsAmong 3 rfl rfl rfl rfl rfl (Nat.le_of_ble_eq_true rfl) ⟨rfl, rfl, (Nat.le_of_ble_eq_true rfl), (Nat.le_of_ble_eq_true rfl)⟩ ⟨(Nat.le_of_ble_eq_true rfl), (Nat.le_of_ble_eq_true rfl)⟩ (fun r9 u9 h9 => ?_)
          obtain ⟨rfl, rfl⟩ := h9
          refine V.if_eqB (b := stB (kn (d)) rep (i)) (tgt := 43) F d_A_pickStanding_34 (by decide) (fun c34 => ?_) (fun c34 => ?_)
          · skip
            refine V.iincN (k := 1) (lv2 := [(4, .int (nI (i + 1))), (0, .ref (ad 3)), (1, .ref (da (d) 1)), (2, .int (nI (sp))), (3, .ref (ad 11))]) F d_A_pickStanding_43 0 rfl (by decide) (by decide) rfl ?_
            refine V.goto (tgt := 7) F d_A_pickStanding_46 (by decide) ?_
            exact ih7 (i + 1) (P) (by omega) (by omega) (pick_skip (C := fun k => decide (spt k = sp) && stB (kn d) rep k) hP (by show (decide (spt i = sp) && stB (kn d) rep i) = false; rw [c34, Bool.and_false]))
          · skip
            refine V.aload_n F d_A_pickStanding_37 rfl 4 rfl ?_
            refine V.iload F d_A_pickStanding_38 0 rfl ?_
            refine V.callVV0 (As := [.int (nI (i))]) (rest := []) F (c_add l D none trivial i (by omega)) d_A_pickStanding_40 sv_A_58 im_y_S_add sl_y_S_add 11 rfl rfl rfl rfl rfl (Nat.le_of_ble_eq_true rfl) ⟨rfl, rfl, (Nat.le_of_ble_eq_true rfl), (Nat.le_of_ble_eq_true rfl)⟩ ⟨(Nat.le_of_ble_eq_true rfl), (Nat.le_of_ble_eq_true rfl)⟩ (fun u9 h9 => ?_)
            obtain rfl := h9
            refine V.ws_eq (ws2 := CW ct ad da nd nb nf bdk num spt val tim rep byN byS (fun k => P k || decide (k = i)) kn pe clk tol opn) rfl ?_
            refine V.iincN (k := 1) (lv2 := [(4, .int (nI (i + 1))), (0, .ref (ad 3)), (1, .ref (da (d) 1)), (2, .int (nI (sp))), (3, .ref (ad 11))]) F d_A_pickStanding_43 0 rfl (by decide) (by decide) rfl ?_
            refine V.goto (tgt := 7) F d_A_pickStanding_46 (by decide) ?_
            exact ih7 (i + 1) (fun k => P k || decide (k = i)) (by omega) (by omega) (pick_add (C := fun k => decide (spt k = sp) && stB (kn d) rep k) hP (by show (decide (spt i = sp) && stB (kn d) rep i) = true; rw [decide_eq_true c24, c34]; rfl))
  exact L7 _ (0) (fun k => decide (5 ≤ k / 64) && pk k) (Nat.lt_succ_self _) (by omega) (pick_0 (clr_0 pk))

set_option maxHeartbeats 4000000 in
set_option maxRecDepth 100000 in
theorem c_pickToldBy (l : Launch) (D : va_G) {ct : Nat → ClassId} {ad : Nat → Nat} {da : Nat → Nat → Nat} {nd : Nat} {nb : Nat} {nf : Nat} {bdk : Nat → Nat} {num : Nat → Nat} {spt : Nat → Nat} {val : Nat → Int64} {tim : Nat → Nat} {rep : Nat → Nat → Bool} {byN : Nat → Nat} {byS : Nat → Nat} {pk : Nat → Bool} {kn : Nat → Nat → Bool} {pe : Nat → Nat → Bool} {clk : Nat → Nat} {tol : Nat → Nat} {opn : Nat → Option Nat} (hnf : nf ≤ 300) (d : Nat) (hd0 : d < nd) (t : Int64) (htim : ∀ k, k < nf → tim k < 2 ^ 31) : CV l y_A_pickToldBy b_A_pickToldBy 6 none (rmK 2 0 0) D (tyL ct) (CW ct ad da nd nb nf bdk num spt val tim rep byN byS pk kn pe clk tol opn) [.ref (ad 3), .long (t), .ref (da (d) 1), .ref (ad 11)] 0 0 (fun u => ∃ P : Nat → Bool, (∀ k, k < 320 → P k = (decide (k < nf) && (decide (¬ t < lN (tim k)) && kn d k))) ∧ u = CW ct ad da nd nb nf bdk num spt val tim rep byN byS P kn pe clk tol opn) := by
  refine CV.start (by decide) (Nat.le_of_ble_eq_true rfl) ?_
  intro p e s m below meth c F hr hnm
  show V p l e (rmK 2 0 0) s m [.ref (ad 3), .long (t), .ref (da (d) 1), .ref (ad 11)].toArray below meth c D (va_A (CW ct ad da nd nb nf bdk num spt val tim rep byN byS pk kn pe clk tol opn) s.heap.size) 6 0 0 (EV D below (CW ct ad da nd nb nf bdk num spt val tim rep byN byS pk kn pe clk tol opn) [.ref (ad 3), .long (t), .ref (da (d) 1), .ref (ad 11)].toArray s 0 0 (fun u => ∃ P : Nat → Bool, (∀ k, k < 320 → P k = (decide (k < nf) && (decide (¬ t < lN (tim k)) && kn d k))) ∧ u = CW ct ad da nd nb nf bdk num spt val tim rep byN byS P kn pe clk tol opn)) (CW ct ad da nd nb nf bdk num spt val tim rep byN byS pk kn pe clk tol opn) [(0, .ref (ad 3)), (1, .long (t)), (3, .ref (da (d) 1)), (4, .ref (ad 11))] 0 []
  refine V.aload F d_A_pickToldBy_0 3 rfl ?_
  refine V.callVV0 (As := []) (rest := []) F (c_clear l D none trivial) d_A_pickToldBy_2 sv_A_51 im_y_S_clear sl_y_S_clear 11 rfl rfl rfl rfl rfl (Nat.le_of_ble_eq_true rfl) ⟨rfl, rfl, (Nat.le_of_ble_eq_true rfl), (Nat.le_of_ble_eq_true rfl)⟩ ⟨(Nat.le_of_ble_eq_true rfl), (Nat.le_of_ble_eq_true rfl)⟩ (fun u9 h9 => ?_)
  obtain rfl := h9
  refine V.ws_eq (ws2 := CW ct ad da nd nb nf bdk num spt val tim rep byN byS (fun k => decide (5 ≤ k / 64) && pk k) kn pe clk tol opn) rfl ?_
  refine V.iconst F d_A_pickToldBy_5 (v := nI (0)) (by decide) ?_
  refine V.istore (lv2 := [(5, .int (nI (0))), (0, .ref (ad 3)), (1, .long (t)), (3, .ref (da (d) 1)), (4, .ref (ad 11))]) F d_A_pickToldBy_6 (by decide) rfl ?_
  have L8 : ∀ (n9 : Nat) (i : Nat) (P : Nat → Bool), nf - i < n9 → (i ≤ nf) → (∀ k, k < 320 → P k = (decide (k < i) && (decide (¬ t < lN (tim k)) && kn d k))) → V p l e (rmK 2 0 0) s m [.ref (ad 3), .long (t), .ref (da (d) 1), .ref (ad 11)].toArray below meth c D (va_A (CW ct ad da nd nb nf bdk num spt val tim rep byN byS pk kn pe clk tol opn) s.heap.size) 6 0 0 (EV D below (CW ct ad da nd nb nf bdk num spt val tim rep byN byS pk kn pe clk tol opn) [.ref (ad 3), .long (t), .ref (da (d) 1), .ref (ad 11)].toArray s 0 0 (fun u => ∃ P : Nat → Bool, (∀ k, k < 320 → P k = (decide (k < nf) && (decide (¬ t < lN (tim k)) && kn d k))) ∧ u = CW ct ad da nd nb nf bdk num spt val tim rep byN byS P kn pe clk tol opn)) (CW ct ad da nd nb nf bdk num spt val tim rep byN byS P kn pe clk tol opn) [(5, .int (nI (i))), (0, .ref (ad 3)), (1, .long (t)), (3, .ref (da (d) 1)), (4, .ref (ad 11))] 8 [] := by
    intro n9
    induction n9 with
    | zero => intro i P h9 hi hP; exact absurd h9 (Nat.not_lt_zero _)
    | succ n9 ih8 =>
      intro i P h9 hi hP
      refine V.iload F d_A_pickToldBy_8 0 rfl ?_
      refine V.aload_n F d_A_pickToldBy_10 rfl 1 rfl ?_
      refine V.get F ck_A d_A_pickToldBy_11 7 (by decide) lk_A_36 3 rfl rfl ?_
      refine V.icmp_geN (tgt := 52) F d_A_pickToldBy_14 (by decide) (by omega) (by omega) (fun c14 => ?_) (fun c14 => ?_)
      · skip
        exact V.vret F hr d_A_pickToldBy_52 (⟨P, by rw [show nf = i by omega]; exact hP, rfl⟩)
      · skip
        have hs9 := htim i (by omega)
        refine V.aload_n F d_A_pickToldBy_17 rfl 1 rfl ?_
        refine V.get F ck_A d_A_pickToldBy_18 3 (by decide) lk_A_22 3 rfl rfl ?_
        refine V.iload F d_A_pickToldBy_21 0 rfl ?_
        refine V.iald (v := nI (tim (i))) F d_A_pickToldBy_23 7 0 rfl rfl (by omega) (by decide) rfl ?_
        refine V.i2l F d_A_pickToldBy_24 (nI_l (by omega)) ?_
        refine V.lload_n F d_A_pickToldBy_25 rfl 2 rfl ?_
        refine V.lcmp_gt (tgt := 46) F d_A_pickToldBy_26 d_A_pickToldBy_27 (by decide) (fun c26 => ?_) (fun c26 => ?_)
        · skip
          refine V.iincN (k := 1) (lv2 := [(5, .int (nI (i + 1))), (0, .ref (ad 3)), (1, .long (t)), (3, .ref (da (d) 1)), (4, .ref (ad 11))]) F d_A_pickToldBy_46 0 rfl (by decide) (by decide) rfl ?_
          refine V.goto (tgt := 8) F d_A_pickToldBy_49 (by decide) ?_
          exact ih8 (i + 1) (P) (by omega) (by omega) (pick_skip (C := fun k => decide (¬ t < lN (tim k)) && kn d k) hP (by show (decide (¬ t < lN (tim i)) && kn d i) = false; rw [decide_eq_false (fun q => q c26)]; rfl))
        · skip
          refine V.aload_n F d_A_pickToldBy_30 rfl 3 rfl ?_
          refine V.iload F d_A_pickToldBy_31 0 rfl ?_
          refine V.callVI0 (As := [.int (nI (i))]) (rest := []) F (c_has l D (some (d, false)) hd0 i (by omega)) d_A_pickToldBy_33 sv_A_40 im_y_S_has sl_y_S_has (13 + (5 * (d) + 1)) (cw_d1 hd0) rfl rfl rfl rfl (Nat.le_of_ble_eq_true rfl) ⟨rfl, rfl, (Nat.le_of_ble_eq_true rfl), (Nat.le_of_ble_eq_true rfl)⟩ ⟨(Nat.le_of_ble_eq_true rfl), (Nat.le_of_ble_eq_true rfl)⟩ (fun r9 u9 h9 => ?_)
          obtain ⟨rfl, rfl⟩ := h9
          refine V.if_eqB (b := kn (d) (i)) (tgt := 46) F d_A_pickToldBy_36 (by decide) (fun c36 => ?_) (fun c36 => ?_)
          · skip
            refine V.iincN (k := 1) (lv2 := [(5, .int (nI (i + 1))), (0, .ref (ad 3)), (1, .long (t)), (3, .ref (da (d) 1)), (4, .ref (ad 11))]) F d_A_pickToldBy_46 0 rfl (by decide) (by decide) rfl ?_
            refine V.goto (tgt := 8) F d_A_pickToldBy_49 (by decide) ?_
            exact ih8 (i + 1) (P) (by omega) (by omega) (pick_skip (C := fun k => decide (¬ t < lN (tim k)) && kn d k) hP (by show (decide (¬ t < lN (tim i)) && kn d i) = false; rw [c36, Bool.and_false]))
          · skip
            refine V.aload F d_A_pickToldBy_39 4 rfl ?_
            refine V.iload F d_A_pickToldBy_41 0 rfl ?_
            refine V.callVV0 (As := [.int (nI (i))]) (rest := []) F (c_add l D none trivial i (by omega)) d_A_pickToldBy_43 sv_A_58 im_y_S_add sl_y_S_add 11 rfl rfl rfl rfl rfl (Nat.le_of_ble_eq_true rfl) ⟨rfl, rfl, (Nat.le_of_ble_eq_true rfl), (Nat.le_of_ble_eq_true rfl)⟩ ⟨(Nat.le_of_ble_eq_true rfl), (Nat.le_of_ble_eq_true rfl)⟩ (fun u9 h9 => ?_)
            obtain rfl := h9
            refine V.ws_eq (ws2 := CW ct ad da nd nb nf bdk num spt val tim rep byN byS (fun k => P k || decide (k = i)) kn pe clk tol opn) rfl ?_
            refine V.iincN (k := 1) (lv2 := [(5, .int (nI (i + 1))), (0, .ref (ad 3)), (1, .long (t)), (3, .ref (da (d) 1)), (4, .ref (ad 11))]) F d_A_pickToldBy_46 0 rfl (by decide) (by decide) rfl ?_
            refine V.goto (tgt := 8) F d_A_pickToldBy_49 (by decide) ?_
            exact ih8 (i + 1) (fun k => P k || decide (k = i)) (by omega) (by omega) (pick_add (C := fun k => decide (¬ t < lN (tim k)) && kn d k) hP (by show (decide (¬ t < lN (tim i)) && kn d i) = true; rw [decide_eq_true c26, c36]; rfl))
  exact L8 _ (0) (fun k => decide (5 ≤ k / 64) && pk k) (Nat.lt_succ_self _) (by omega) (pick_0 (clr_0 pk))

set_option maxHeartbeats 4000000 in
set_option maxRecDepth 100000 in
theorem c_pickEqual (l : Launch) (D : va_G) {ct : Nat → ClassId} {ad : Nat → Nat} {da : Nat → Nat → Nat} {nd : Nat} {nb : Nat} {nf : Nat} {bdk : Nat → Nat} {num : Nat → Nat} {spt : Nat → Nat} {val : Nat → Int64} {tim : Nat → Nat} {rep : Nat → Nat → Bool} {byN : Nat → Nat} {byS : Nat → Nat} {pk : Nat → Bool} {kn : Nat → Nat → Bool} {pe : Nat → Nat → Bool} {clk : Nat → Nat} {tol : Nat → Nat} {opn : Nat → Option Nat} (hnf : nf ≤ 300) (d : Nat) (hd0 : d < nd) (kd : Int32) (v : Int64) (hspt : ∀ k, k < nf → spt k < 2 ^ 31) : CV l y_A_pickEqual b_A_pickEqual 7 none (rmK 2 0 0) D (tyL ct) (CW ct ad da nd nb nf bdk num spt val tim rep byN byS pk kn pe clk tol opn) [.ref (ad 3), .ref (da (d) 1), .int (kd), .long (v), .ref (ad 11)] 0 0 (fun u => ∃ P : Nat → Bool, (∀ k, k < 320 → P k = (decide (k < nf) && (decide (val k = v) && (decide (nI (spt k / 100001 % 10) = kd) && kn d k)))) ∧ u = CW ct ad da nd nb nf bdk num spt val tim rep byN byS P kn pe clk tol opn) := by
  refine CV.start (by decide) (Nat.le_of_ble_eq_true rfl) ?_
  intro p e s m below meth c F hr hnm
  show V p l e (rmK 2 0 0) s m [.ref (ad 3), .ref (da (d) 1), .int (kd), .long (v), .ref (ad 11)].toArray below meth c D (va_A (CW ct ad da nd nb nf bdk num spt val tim rep byN byS pk kn pe clk tol opn) s.heap.size) 7 0 0 (EV D below (CW ct ad da nd nb nf bdk num spt val tim rep byN byS pk kn pe clk tol opn) [.ref (ad 3), .ref (da (d) 1), .int (kd), .long (v), .ref (ad 11)].toArray s 0 0 (fun u => ∃ P : Nat → Bool, (∀ k, k < 320 → P k = (decide (k < nf) && (decide (val k = v) && (decide (nI (spt k / 100001 % 10) = kd) && kn d k)))) ∧ u = CW ct ad da nd nb nf bdk num spt val tim rep byN byS P kn pe clk tol opn)) (CW ct ad da nd nb nf bdk num spt val tim rep byN byS pk kn pe clk tol opn) [(0, .ref (ad 3)), (1, .ref (da (d) 1)), (2, .int (kd)), (3, .long (v)), (5, .ref (ad 11))] 0 []
  refine V.aload F d_A_pickEqual_0 4 rfl ?_
  refine V.callVV0 (As := []) (rest := []) F (c_clear l D none trivial) d_A_pickEqual_2 sv_A_51 im_y_S_clear sl_y_S_clear 11 rfl rfl rfl rfl rfl (Nat.le_of_ble_eq_true rfl) ⟨rfl, rfl, (Nat.le_of_ble_eq_true rfl), (Nat.le_of_ble_eq_true rfl)⟩ ⟨(Nat.le_of_ble_eq_true rfl), (Nat.le_of_ble_eq_true rfl)⟩ (fun u9 h9 => ?_)
  obtain rfl := h9
  refine V.ws_eq (ws2 := CW ct ad da nd nb nf bdk num spt val tim rep byN byS (fun k => decide (5 ≤ k / 64) && pk k) kn pe clk tol opn) rfl ?_
  refine V.iconst F d_A_pickEqual_5 (v := nI (0)) (by decide) ?_
  refine V.istore (lv2 := [(6, .int (nI (0))), (0, .ref (ad 3)), (1, .ref (da (d) 1)), (2, .int (kd)), (3, .long (v)), (5, .ref (ad 11))]) F d_A_pickEqual_6 (by decide) rfl ?_
  have L8 : ∀ (n9 : Nat) (i : Nat) (P : Nat → Bool), nf - i < n9 → (i ≤ nf) → (∀ k, k < 320 → P k = (decide (k < i) && (decide (val k = v) && (decide (nI (spt k / 100001 % 10) = kd) && kn d k)))) → V p l e (rmK 2 0 0) s m [.ref (ad 3), .ref (da (d) 1), .int (kd), .long (v), .ref (ad 11)].toArray below meth c D (va_A (CW ct ad da nd nb nf bdk num spt val tim rep byN byS pk kn pe clk tol opn) s.heap.size) 7 0 0 (EV D below (CW ct ad da nd nb nf bdk num spt val tim rep byN byS pk kn pe clk tol opn) [.ref (ad 3), .ref (da (d) 1), .int (kd), .long (v), .ref (ad 11)].toArray s 0 0 (fun u => ∃ P : Nat → Bool, (∀ k, k < 320 → P k = (decide (k < nf) && (decide (val k = v) && (decide (nI (spt k / 100001 % 10) = kd) && kn d k)))) ∧ u = CW ct ad da nd nb nf bdk num spt val tim rep byN byS P kn pe clk tol opn)) (CW ct ad da nd nb nf bdk num spt val tim rep byN byS P kn pe clk tol opn) [(6, .int (nI (i))), (0, .ref (ad 3)), (1, .ref (da (d) 1)), (2, .int (kd)), (3, .long (v)), (5, .ref (ad 11))] 8 [] := by
    intro n9
    induction n9 with
    | zero => intro i P h9 hi hP; exact absurd h9 (Nat.not_lt_zero _)
    | succ n9 ih8 =>
      intro i P h9 hi hP
      refine V.iload F d_A_pickEqual_8 0 rfl ?_
      refine V.aload_n F d_A_pickEqual_10 rfl 1 rfl ?_
      refine V.get F ck_A d_A_pickEqual_11 7 (by decide) lk_A_36 3 rfl rfl ?_
      refine V.icmp_geN (tgt := 65) F d_A_pickEqual_14 (by decide) (by omega) (by omega) (fun c14 => ?_) (fun c14 => ?_)
      · skip
        exact V.vret F hr d_A_pickEqual_65 (⟨P, by rw [show nf = i by omega]; exact hP, rfl⟩)
      · skip
        refine V.aload_n F d_A_pickEqual_17 rfl 1 rfl ?_
        refine V.get F ck_A d_A_pickEqual_18 2 (by decide) lk_A_18 3 rfl rfl ?_
        refine V.iload F d_A_pickEqual_21 0 rfl ?_
        refine V.lald (v := val (i)) F d_A_pickEqual_23 6 1 rfl rfl (by omega) (by decide) rfl ?_
        refine V.lload_n F d_A_pickEqual_24 rfl 4 rfl ?_
        refine V.lcmp_ne (tgt := 59) F d_A_pickEqual_25 d_A_pickEqual_26 (by decide) (fun c25 => ?_) (fun c25 => ?_)
        · skip
          refine V.iincN (k := 1) (lv2 := [(6, .int (nI (i + 1))), (0, .ref (ad 3)), (1, .ref (da (d) 1)), (2, .int (kd)), (3, .long (v)), (5, .ref (ad 11))]) F d_A_pickEqual_59 0 rfl (by decide) (by decide) rfl ?_
          refine V.goto (tgt := 8) F d_A_pickEqual_62 (by decide) ?_
          exact ih8 (i + 1) (P) (by omega) (by omega) (pick_skip (C := fun k => decide (val k = v) && (decide (nI (spt k / 100001 % 10) = kd) && kn d k)) hP (by show (decide (val i = v) && (decide (nI (spt i / 100001 % 10) = kd) && kn d i)) = false; rw [decide_eq_false c25]; rfl))
        · skip
          refine V.aload_n F d_A_pickEqual_29 rfl 1 rfl ?_
          refine V.get F ck_A d_A_pickEqual_30 1 (by decide) lk_A_15 3 rfl rfl ?_
          refine V.iload F d_A_pickEqual_33 0 rfl ?_
          refine V.iald (v := nI (spt (i))) F d_A_pickEqual_35 5 0 rfl rfl (by omega) (by decide) rfl ?_
          refine V.callSI0 (As := [.int (nI (spt (i)))]) (rest := []) F (c_kindOf l D _ ct (spt i) (hspt i (by omega))) d_A_pickEqual_36 sv_A_62 st_y_T_kindOf rfl rfl (Nat.le_of_ble_eq_true rfl) ⟨rfl, rfl, (Nat.le_of_ble_eq_true rfl), (Nat.le_of_ble_eq_true rfl)⟩ ⟨(Nat.le_of_ble_eq_true rfl), (Nat.le_of_ble_eq_true rfl)⟩ (fun r9 u9 h9 => ?_)
          obtain ⟨rfl, rfl⟩ := h9
          refine V.iload_n F d_A_pickEqual_39 rfl 3 rfl ?_
          refine V.icmp_ne (x := nI (spt (i) / 100001 % 10)) (y := kd) (tgt := 59) F d_A_pickEqual_40 (by decide) (fun c40 => ?_) (fun c40 => ?_)
          · skip
            refine V.iincN (k := 1) (lv2 := [(6, .int (nI (i + 1))), (0, .ref (ad 3)), (1, .ref (da (d) 1)), (2, .int (kd)), (3, .long (v)), (5, .ref (ad 11))]) F d_A_pickEqual_59 0 rfl (by decide) (by decide) rfl ?_
            refine V.goto (tgt := 8) F d_A_pickEqual_62 (by decide) ?_
            exact ih8 (i + 1) (P) (by omega) (by omega) (pick_skip (C := fun k => decide (val k = v) && (decide (nI (spt k / 100001 % 10) = kd) && kn d k)) hP (by show (decide (val i = v) && (decide (nI (spt i / 100001 % 10) = kd) && kn d i)) = false; rw [decide_eq_false c40, Bool.false_and, Bool.and_false]))
          · skip
            refine V.aload_n F d_A_pickEqual_43 rfl 2 rfl ?_
            refine V.iload F d_A_pickEqual_44 0 rfl ?_
            refine V.callVI0 (As := [.int (nI (i))]) (rest := []) F (c_has l D (some (d, false)) hd0 i (by omega)) d_A_pickEqual_46 sv_A_40 im_y_S_has sl_y_S_has (13 + (5 * (d) + 1)) (cw_d1 hd0) rfl rfl rfl rfl (Nat.le_of_ble_eq_true rfl) ⟨rfl, rfl, (Nat.le_of_ble_eq_true rfl), (Nat.le_of_ble_eq_true rfl)⟩ ⟨(Nat.le_of_ble_eq_true rfl), (Nat.le_of_ble_eq_true rfl)⟩ (fun r9 u9 h9 => ?_)
            obtain ⟨rfl, rfl⟩ := h9
            refine V.if_eqB (b := kn (d) (i)) (tgt := 59) F d_A_pickEqual_49 (by decide) (fun c49 => ?_) (fun c49 => ?_)
            · skip
              refine V.iincN (k := 1) (lv2 := [(6, .int (nI (i + 1))), (0, .ref (ad 3)), (1, .ref (da (d) 1)), (2, .int (kd)), (3, .long (v)), (5, .ref (ad 11))]) F d_A_pickEqual_59 0 rfl (by decide) (by decide) rfl ?_
              refine V.goto (tgt := 8) F d_A_pickEqual_62 (by decide) ?_
              exact ih8 (i + 1) (P) (by omega) (by omega) (pick_skip (C := fun k => decide (val k = v) && (decide (nI (spt k / 100001 % 10) = kd) && kn d k)) hP (by show (decide (val i = v) && (decide (nI (spt i / 100001 % 10) = kd) && kn d i)) = false; rw [c49, Bool.and_false, Bool.and_false]))
            · skip
              refine V.aload F d_A_pickEqual_52 5 rfl ?_
              refine V.iload F d_A_pickEqual_54 0 rfl ?_
              refine V.callVV0 (As := [.int (nI (i))]) (rest := []) F (c_add l D none trivial i (by omega)) d_A_pickEqual_56 sv_A_58 im_y_S_add sl_y_S_add 11 rfl rfl rfl rfl rfl (Nat.le_of_ble_eq_true rfl) ⟨rfl, rfl, (Nat.le_of_ble_eq_true rfl), (Nat.le_of_ble_eq_true rfl)⟩ ⟨(Nat.le_of_ble_eq_true rfl), (Nat.le_of_ble_eq_true rfl)⟩ (fun u9 h9 => ?_)
              obtain rfl := h9
              refine V.ws_eq (ws2 := CW ct ad da nd nb nf bdk num spt val tim rep byN byS (fun k => P k || decide (k = i)) kn pe clk tol opn) rfl ?_
              refine V.iincN (k := 1) (lv2 := [(6, .int (nI (i + 1))), (0, .ref (ad 3)), (1, .ref (da (d) 1)), (2, .int (kd)), (3, .long (v)), (5, .ref (ad 11))]) F d_A_pickEqual_59 0 rfl (by decide) (by decide) rfl ?_
              refine V.goto (tgt := 8) F d_A_pickEqual_62 (by decide) ?_
              exact ih8 (i + 1) (fun k => P k || decide (k = i)) (by omega) (by omega) (pick_add (C := fun k => decide (val k = v) && (decide (nI (spt k / 100001 % 10) = kd) && kn d k)) hP (by show (decide (val i = v) && (decide (nI (spt i / 100001 % 10) = kd) && kn d i)) = true; rw [decide_eq_true c25, decide_eq_true c40, c49]; rfl))
  exact L8 _ (0) (fun k => decide (5 ≤ k / 64) && pk k) (Nat.lt_succ_self _) (by omega) (pick_0 (clr_0 pk))

set_option maxHeartbeats 4000000 in
set_option maxRecDepth 100000 in
theorem c_isLater (l : Launch) (D : va_G) {ct : Nat → ClassId} {ad : Nat → Nat} {da : Nat → Nat → Nat} {nd : Nat} {nb : Nat} {nf : Nat} {bdk : Nat → Nat} {num : Nat → Nat} {spt : Nat → Nat} {val : Nat → Int64} {tim : Nat → Nat} {rep : Nat → Nat → Bool} {byN : Nat → Nat} {byS : Nat → Nat} {pk : Nat → Bool} {kn : Nat → Nat → Bool} {pe : Nat → Nat → Bool} {clk : Nat → Nat} {tol : Nat → Nat} {opn : Nat → Option Nat} (f g : Nat) (hf : f < 300) (hg : g < 300) (h1 : spt f < 2 ^ 31) (h2 : spt g < 2 ^ 31) (h3 : tim f < 2 ^ 31) (h4 : tim g < 2 ^ 31) (h5 : num f < 2 ^ 31) (h6 : num g < 2 ^ 31) : CI l y_A_isLater b_A_isLater 3 (some .boolean) (rmK 0 0 0) D (tyL ct) (CW ct ad da nd nb nf bdk num spt val tim rep byN byS pk kn pe clk tol opn) [.ref (ad 3), .int (nI (f)), .int (nI (g))] 0 0 (fun r u => r = bI (ltB spt tim num f g) ∧ u = CW ct ad da nd nb nf bdk num spt val tim rep byN byS pk kn pe clk tol opn) := by
  refine CI.start (by decide) (Nat.le_of_ble_eq_true rfl) ?_
  intro p e s m below meth c F hr hnm
  show V p l e (rmK 0 0 0) s m [.ref (ad 3), .int (nI (f)), .int (nI (g))].toArray below meth c D (va_A (CW ct ad da nd nb nf bdk num spt val tim rep byN byS pk kn pe clk tol opn) s.heap.size) 3 0 0 (EI D below (CW ct ad da nd nb nf bdk num spt val tim rep byN byS pk kn pe clk tol opn) [.ref (ad 3), .int (nI (f)), .int (nI (g))].toArray s 0 0 (fun r u => r = bI (ltB spt tim num f g) ∧ u = CW ct ad da nd nb nf bdk num spt val tim rep byN byS pk kn pe clk tol opn)) (CW ct ad da nd nb nf bdk num spt val tim rep byN byS pk kn pe clk tol opn) [(0, .ref (ad 3)), (1, .int (nI (f))), (2, .int (nI (g)))] 0 []
  refine V.aload_n F d_A_isLater_0 rfl 0 rfl ?_
  refine V.get F ck_A d_A_isLater_1 1 (by decide) lk_A_15 3 rfl rfl ?_
  refine V.iload_n F d_A_isLater_4 rfl 1 rfl ?_
  refine V.iald (v := nI (spt (f))) F d_A_isLater_5 5 0 rfl rfl (by omega) (by decide) rfl ?_
  refine V.aload_n F d_A_isLater_6 rfl 0 rfl ?_
  refine V.get F ck_A d_A_isLater_7 1 (by decide) lk_A_15 3 rfl rfl ?_
  refine V.iload_n F d_A_isLater_10 rfl 2 rfl ?_
  refine V.iald (v := nI (spt (g))) F d_A_isLater_11 5 0 rfl rfl (by omega) (by decide) rfl ?_
  refine V.icmp_eqN (tgt := 36) F d_A_isLater_12 (by decide) (by omega) (by omega) (fun c12 => ?_) (fun c12 => ?_)
  · skip
    refine V.aload_n F d_A_isLater_36 rfl 0 rfl ?_
    refine V.get F ck_A d_A_isLater_37 3 (by decide) lk_A_22 3 rfl rfl ?_
    refine V.iload_n F d_A_isLater_40 rfl 1 rfl ?_
    refine V.iald (v := nI (tim (f))) F d_A_isLater_41 7 0 rfl rfl (by omega) (by decide) rfl ?_
    refine V.aload_n F d_A_isLater_42 rfl 0 rfl ?_
    refine V.get F ck_A d_A_isLater_43 3 (by decide) lk_A_22 3 rfl rfl ?_
    refine V.iload_n F d_A_isLater_46 rfl 2 rfl ?_
    refine V.iald (v := nI (tim (g))) F d_A_isLater_47 7 0 rfl rfl (by omega) (by decide) rfl ?_
    refine V.icmp_eqN (tgt := 72) F d_A_isLater_48 (by decide) (by omega) (by omega) (fun c48 => ?_) (fun c48 => ?_)
    · skip
      refine V.aload_n F d_A_isLater_72 rfl 0 rfl ?_
      refine V.get F ck_A d_A_isLater_73 0 (by decide) lk_A_9 3 rfl rfl ?_
      refine V.iload_n F d_A_isLater_76 rfl 1 rfl ?_
      refine V.iald (v := nI (num (f))) F d_A_isLater_77 4 0 rfl rfl (by omega) (by decide) rfl ?_
      refine V.aload_n F d_A_isLater_78 rfl 0 rfl ?_
      refine V.get F ck_A d_A_isLater_79 0 (by decide) lk_A_9 3 rfl rfl ?_
      refine V.iload_n F d_A_isLater_82 rfl 2 rfl ?_
      refine V.iald (v := nI (num (g))) F d_A_isLater_83 4 0 rfl rfl (by omega) (by decide) rfl ?_
      refine V.icmp_leN (tgt := 91) F d_A_isLater_84 (by decide) (by omega) (by omega) (fun c84 => ?_) (fun c84 => ?_)
      · skip
        refine V.iconst F d_A_isLater_91 (v := nI (0)) (by decide) ?_
        exact V.zret F hr (nar_0) d_A_isLater_92 (⟨by unfold ltB; rw [if_neg (fun q => q c12), if_neg (fun q => q c48), decide_eq_false (by omega)]; exact bI_f, rfl⟩)
      · skip
        refine V.iconst F d_A_isLater_87 (v := nI (1)) (by decide) ?_
        refine V.goto (tgt := 92) F d_A_isLater_88 (by decide) ?_
        exact V.zret F hr (nar_1) d_A_isLater_92 (⟨by unfold ltB; rw [if_neg (fun q => q c12), if_neg (fun q => q c48), decide_eq_true c84]; exact bI_t, rfl⟩)
    · skip
      refine V.aload_n F d_A_isLater_51 rfl 0 rfl ?_
      refine V.get F ck_A d_A_isLater_52 3 (by decide) lk_A_22 3 rfl rfl ?_
      refine V.iload_n F d_A_isLater_55 rfl 1 rfl ?_
      refine V.iald (v := nI (tim (f))) F d_A_isLater_56 7 0 rfl rfl (by omega) (by decide) rfl ?_
      refine V.aload_n F d_A_isLater_57 rfl 0 rfl ?_
      refine V.get F ck_A d_A_isLater_58 3 (by decide) lk_A_22 3 rfl rfl ?_
      refine V.iload_n F d_A_isLater_61 rfl 2 rfl ?_
      refine V.iald (v := nI (tim (g))) F d_A_isLater_62 7 0 rfl rfl (by omega) (by decide) rfl ?_
      refine V.icmp_leN (tgt := 70) F d_A_isLater_63 (by decide) (by omega) (by omega) (fun c63 => ?_) (fun c63 => ?_)
      · skip
        refine V.iconst F d_A_isLater_70 (v := nI (0)) (by decide) ?_
        exact V.zret F hr (nar_0) d_A_isLater_71 (⟨by unfold ltB; rw [if_neg (fun q => q c12), if_pos c48, decide_eq_false (by omega)]; exact bI_f, rfl⟩)
      · skip
        refine V.iconst F d_A_isLater_66 (v := nI (1)) (by decide) ?_
        refine V.goto (tgt := 71) F d_A_isLater_67 (by decide) ?_
        exact V.zret F hr (nar_1) d_A_isLater_71 (⟨by unfold ltB; rw [if_neg (fun q => q c12), if_pos c48, decide_eq_true c63]; exact bI_t, rfl⟩)
  · skip
    refine V.aload_n F d_A_isLater_15 rfl 0 rfl ?_
    refine V.get F ck_A d_A_isLater_16 1 (by decide) lk_A_15 3 rfl rfl ?_
    refine V.iload_n F d_A_isLater_19 rfl 1 rfl ?_
    refine V.iald (v := nI (spt (f))) F d_A_isLater_20 5 0 rfl rfl (by omega) (by decide) rfl ?_
    refine V.aload_n F d_A_isLater_21 rfl 0 rfl ?_
    refine V.get F ck_A d_A_isLater_22 1 (by decide) lk_A_15 3 rfl rfl ?_
    refine V.iload_n F d_A_isLater_25 rfl 2 rfl ?_
    refine V.iald (v := nI (spt (g))) F d_A_isLater_26 5 0 rfl rfl (by omega) (by decide) rfl ?_
    refine V.icmp_leN (tgt := 34) F d_A_isLater_27 (by decide) (by omega) (by omega) (fun c27 => ?_) (fun c27 => ?_)
    · skip
      refine V.iconst F d_A_isLater_34 (v := nI (0)) (by decide) ?_
      exact V.zret F hr (nar_0) d_A_isLater_35 (⟨by unfold ltB; rw [if_pos c12, decide_eq_false (by omega)]; exact bI_f, rfl⟩)
    · skip
      refine V.iconst F d_A_isLater_30 (v := nI (1)) (by decide) ?_
      refine V.goto (tgt := 35) F d_A_isLater_31 (by decide) ?_
      exact V.zret F hr (nar_1) d_A_isLater_35 (⟨by unfold ltB; rw [if_pos c12, decide_eq_true c27]; exact bI_t, rfl⟩)

set_option maxHeartbeats 4000000 in
set_option maxRecDepth 100000 in
theorem c_latest (l : Launch) (D : va_G) {ct : Nat → ClassId} {ad : Nat → Nat} {da : Nat → Nat → Nat} {nd : Nat} {nb : Nat} {nf : Nat} {bdk : Nat → Nat} {num : Nat → Nat} {spt : Nat → Nat} {val : Nat → Int64} {tim : Nat → Nat} {rep : Nat → Nat → Bool} {byN : Nat → Nat} {byS : Nat → Nat} {pk : Nat → Bool} {kn : Nat → Nat → Bool} {pe : Nat → Nat → Bool} {clk : Nat → Nat} {tol : Nat → Nat} {opn : Nat → Option Nat} (hnf : nf ≤ 300) (t kd : Nat) (ht : t < 100) (hkd : kd < 10) (y : Int64) (hspt : ∀ k, k < nf → spt k < 2 ^ 31) (htim : ∀ k, k < nf → tim k < 2 ^ 31) (hnum : ∀ k, k < nf → num k < 2 ^ 31) : CI l y_A_latestStanding b_A_latestStanding 9 (some .int) (rmK 2 0 0) D (tyL ct) (CW ct ad da nd nb nf bdk num spt val tim rep byN byS pk kn pe clk tol opn) [.ref (ad 3), .ref (ad 11), .int (nI (t)), .int (nI (kd)), .long (y)] 0 0 (fun r u => (∃ b : Option Nat, r = oI b ∧ (∀ g, b = some g → g < nf ∧ (spt g / 100001 = t * 10 + kd ∧ ¬ y < lN (spt g % 100001) ∧ stB pk rep g = true) ∧ ∀ k, k < nf → (spt k / 100001 = t * 10 + kd ∧ ¬ y < lN (spt k % 100001) ∧ stB pk rep k = true) → ltB spt tim num k g = false) ∧ (b = none → ∀ k, k < nf → ¬ (spt k / 100001 = t * 10 + kd ∧ ¬ y < lN (spt k % 100001) ∧ stB pk rep k = true))) ∧ u = CW ct ad da nd nb nf bdk num spt val tim rep byN byS pk kn pe clk tol opn) := by
  refine CI.start (by decide) (Nat.le_of_ble_eq_true rfl) ?_
  intro p e s m below meth c F hr hnm
  show V p l e (rmK 2 0 0) s m [.ref (ad 3), .ref (ad 11), .int (nI (t)), .int (nI (kd)), .long (y)].toArray below meth c D (va_A (CW ct ad da nd nb nf bdk num spt val tim rep byN byS pk kn pe clk tol opn) s.heap.size) 9 0 0 (EI D below (CW ct ad da nd nb nf bdk num spt val tim rep byN byS pk kn pe clk tol opn) [.ref (ad 3), .ref (ad 11), .int (nI (t)), .int (nI (kd)), .long (y)].toArray s 0 0 (fun r u => (∃ b : Option Nat, r = oI b ∧ (∀ g, b = some g → g < nf ∧ (spt g / 100001 = t * 10 + kd ∧ ¬ y < lN (spt g % 100001) ∧ stB pk rep g = true) ∧ ∀ k, k < nf → (spt k / 100001 = t * 10 + kd ∧ ¬ y < lN (spt k % 100001) ∧ stB pk rep k = true) → ltB spt tim num k g = false) ∧ (b = none → ∀ k, k < nf → ¬ (spt k / 100001 = t * 10 + kd ∧ ¬ y < lN (spt k % 100001) ∧ stB pk rep k = true))) ∧ u = CW ct ad da nd nb nf bdk num spt val tim rep byN byS pk kn pe clk tol opn)) (CW ct ad da nd nb nf bdk num spt val tim rep byN byS pk kn pe clk tol opn) [(0, .ref (ad 3)), (1, .ref (ad 11)), (2, .int (nI (t))), (3, .int (nI (kd))), (4, .long (y))] 0 []
  refine V.iconst F d_A_latestStanding_0 (v := -1) (by decide) ?_
  refine V.istore (lv2 := [(6, .int (-1)), (0, .ref (ad 3)), (1, .ref (ad 11)), (2, .int (nI (t))), (3, .int (nI (kd))), (4, .long (y))]) F d_A_latestStanding_1 (by decide) rfl ?_
  refine V.iconst F d_A_latestStanding_3 (v := nI (0)) (by decide) ?_
  refine V.istore (lv2 := [(7, .int (nI (0))), (6, .int (-1)), (0, .ref (ad 3)), (1, .ref (ad 11)), (2, .int (nI (t))), (3, .int (nI (kd))), (4, .long (y))]) F d_A_latestStanding_4 (by decide) rfl ?_
  have L6 : ∀ (n9 : Nat) (i : Nat) (b : Option Nat), nf - i < n9 → (i ≤ nf) → ((∀ g, b = some g → g < i ∧ (spt g / 100001 = t * 10 + kd ∧ ¬ y < lN (spt g % 100001) ∧ stB pk rep g = true) ∧ ∀ k, k < i → (spt k / 100001 = t * 10 + kd ∧ ¬ y < lN (spt k % 100001) ∧ stB pk rep k = true) → ltB spt tim num k g = false) ∧ (b = none → ∀ k, k < i → ¬ (spt k / 100001 = t * 10 + kd ∧ ¬ y < lN (spt k % 100001) ∧ stB pk rep k = true))) → V p l e (rmK 2 0 0) s m [.ref (ad 3), .ref (ad 11), .int (nI (t)), .int (nI (kd)), .long (y)].toArray below meth c D (va_A (CW ct ad da nd nb nf bdk num spt val tim rep byN byS pk kn pe clk tol opn) s.heap.size) 9 0 0 (EI D below (CW ct ad da nd nb nf bdk num spt val tim rep byN byS pk kn pe clk tol opn) [.ref (ad 3), .ref (ad 11), .int (nI (t)), .int (nI (kd)), .long (y)].toArray s 0 0 (fun r u => (∃ b : Option Nat, r = oI b ∧ (∀ g, b = some g → g < nf ∧ (spt g / 100001 = t * 10 + kd ∧ ¬ y < lN (spt g % 100001) ∧ stB pk rep g = true) ∧ ∀ k, k < nf → (spt k / 100001 = t * 10 + kd ∧ ¬ y < lN (spt k % 100001) ∧ stB pk rep k = true) → ltB spt tim num k g = false) ∧ (b = none → ∀ k, k < nf → ¬ (spt k / 100001 = t * 10 + kd ∧ ¬ y < lN (spt k % 100001) ∧ stB pk rep k = true))) ∧ u = CW ct ad da nd nb nf bdk num spt val tim rep byN byS pk kn pe clk tol opn)) (CW ct ad da nd nb nf bdk num spt val tim rep byN byS pk kn pe clk tol opn) [(7, .int (nI (i))), (6, .int (oI b)), (0, .ref (ad 3)), (1, .ref (ad 11)), (2, .int (nI (t))), (3, .int (nI (kd))), (4, .long (y))] 6 [] := by
    intro n9
    induction n9 with
    | zero => intro i b h9 hi hb; exact absurd h9 (Nat.not_lt_zero _)
    | succ n9 ih6 =>
      intro i b h9 hi hb
      refine V.iload F d_A_latestStanding_6 0 rfl ?_
      refine V.aload_n F d_A_latestStanding_8 rfl 2 rfl ?_
      refine V.get F ck_A d_A_latestStanding_9 7 (by decide) lk_A_36 3 rfl rfl ?_
      refine V.icmp_geN (tgt := 87) F d_A_latestStanding_12 (by decide) (by omega) (by omega) (fun c12 => ?_) (fun c12 => ?_)
      · skip
        refine V.iload F d_A_latestStanding_87 1 rfl ?_
        exact V.iret F hr d_A_latestStanding_89 (⟨⟨b, rfl, by rw [show nf = i by omega]; exact hb⟩, rfl⟩)
      · skip
        have hs9 := hspt i (by omega)
        have ht9 := htim i (by omega)
        have hn9 := hnum i (by omega)
        refine V.aload_n F d_A_latestStanding_15 rfl 2 rfl ?_
        refine V.get F ck_A d_A_latestStanding_16 1 (by decide) lk_A_15 3 rfl rfl ?_
        refine V.iload F d_A_latestStanding_19 0 rfl ?_
        refine V.iald (v := nI (spt (i))) F d_A_latestStanding_21 5 0 rfl rfl (by omega) (by decide) rfl ?_
        refine V.istore (lv2 := [(8, .int (nI (spt (i)))), (7, .int (nI (i))), (6, .int (oI b)), (0, .ref (ad 3)), (1, .ref (ad 11)), (2, .int (nI (t))), (3, .int (nI (kd))), (4, .long (y))]) F d_A_latestStanding_22 (by decide) rfl ?_
        refine V.iload F d_A_latestStanding_24 0 rfl ?_
        refine V.ldc F d_A_latestStanding_26 (v := nI (100001)) lk_A_66 ?_
        refine V.idivN F d_A_latestStanding_28 (by omega) (by decide) (by decide) ?_
        refine V.iload_n F d_A_latestStanding_29 rfl 5 rfl ?_
        refine V.bipush F d_A_latestStanding_30 (v := nI (10)) (by decide) ?_
        refine V.imulN F d_A_latestStanding_32 ?_
        refine V.iload_n F d_A_latestStanding_33 rfl 6 rfl ?_
        refine V.iaddN F d_A_latestStanding_34 ?_
        refine V.icmp_neN (tgt := 81) F d_A_latestStanding_35 (by decide) (by omega) (by omega) (fun c35 => ?_) (fun c35 => ?_)
        · skip
          refine V.iincN (k := 1) (lv2 := [(7, .int (nI (i + 1))), (8, .int (nI (spt (i)))), (6, .int (oI b)), (0, .ref (ad 3)), (1, .ref (ad 11)), (2, .int (nI (t))), (3, .int (nI (kd))), (4, .long (y))]) F d_A_latestStanding_81 1 rfl (by decide) (by decide) rfl ?_
          refine V.goto (tgt := 6) F d_A_latestStanding_84 (by decide) ?_
          refine V.lvs [0, 2, 3, 4, 5, 6, 7] rfl ?_
          exact ih6 (i + 1) (b) (by omega) (by omega) (best_skip (CA := fun k => spt k / 100001 = t * 10 + kd ∧ ¬ y < lN (spt k % 100001) ∧ stB pk rep k = true) (lt := ltB spt tim num) hb (fun q => c35 q.1))
        · skip
          refine V.iload F d_A_latestStanding_38 0 rfl ?_
          refine V.callSI0 (As := [.int (nI (spt (i)))]) (rest := []) F (c_dayOf l D _ ct (spt i) hs9) d_A_latestStanding_40 sv_A_67 st_y_T_dayOf rfl rfl (Nat.le_of_ble_eq_true rfl) ⟨rfl, rfl, (Nat.le_of_ble_eq_true rfl), (Nat.le_of_ble_eq_true rfl)⟩ ⟨(Nat.le_of_ble_eq_true rfl), (Nat.le_of_ble_eq_true rfl)⟩ (fun r9 u9 h9 => ?_)
          obtain ⟨rfl, rfl⟩ := h9
          refine V.i2l F d_A_latestStanding_43 (nI_l (by omega)) ?_
          refine V.lload F d_A_latestStanding_44 7 rfl ?_
          refine V.lcmp_gt (tgt := 81) F d_A_latestStanding_46 d_A_latestStanding_47 (by decide) (fun c46 => ?_) (fun c46 => ?_)
          · skip
            refine V.iincN (k := 1) (lv2 := [(7, .int (nI (i + 1))), (8, .int (nI (spt (i)))), (6, .int (oI b)), (0, .ref (ad 3)), (1, .ref (ad 11)), (2, .int (nI (t))), (3, .int (nI (kd))), (4, .long (y))]) F d_A_latestStanding_81 1 rfl (by decide) (by decide) rfl ?_
            refine V.goto (tgt := 6) F d_A_latestStanding_84 (by decide) ?_
            refine V.lvs [0, 2, 3, 4, 5, 6, 7] rfl ?_
            exact ih6 (i + 1) (b) (by omega) (by omega) (best_skip (CA := fun k => spt k / 100001 = t * 10 + kd ∧ ¬ y < lN (spt k % 100001) ∧ stB pk rep k = true) (lt := ltB spt tim num) hb (fun q => q.2.1 c46))
          · skip
            refine V.aload_n F d_A_latestStanding_50 rfl 3 rfl ?_
            refine V.aload_n F d_A_latestStanding_51 rfl 4 rfl ?_
            refine V.iload F d_A_latestStanding_52 1 rfl ?_
            refine V.callVI0 (As := [.ref (ad 11), .int (nI (i))]) (rest := []) F (c_stands l D none trivial i (by omega)) d_A_latestStanding_54 sv_A_54 im_y_A_standsAmong sl_y_A_standsAmong 3 rfl rfl rfl rfl rfl (Nat.le_of_ble_eq_true rfl) ⟨rfl, rfl, (Nat.le_of_ble_eq_true rfl), (Nat.le_of_ble_eq_true rfl)⟩ ⟨(Nat.le_of_ble_eq_true rfl), (Nat.le_of_ble_eq_true rfl)⟩ (fun r9 u9 h9 => ?_)
            obtain ⟨rfl, rfl⟩ := h9
            refine V.if_eqB (b := stB pk rep (i)) (tgt := 81) F d_A_latestStanding_57 (by decide) (fun c57 => ?_) (fun c57 => ?_)
            · skip
              refine V.iincN (k := 1) (lv2 := [(7, .int (nI (i + 1))), (8, .int (nI (spt (i)))), (6, .int (oI b)), (0, .ref (ad 3)), (1, .ref (ad 11)), (2, .int (nI (t))), (3, .int (nI (kd))), (4, .long (y))]) F d_A_latestStanding_81 1 rfl (by decide) (by decide) rfl ?_
              refine V.goto (tgt := 6) F d_A_latestStanding_84 (by decide) ?_
              refine V.lvs [0, 2, 3, 4, 5, 6, 7] rfl ?_
              exact ih6 (i + 1) (b) (by omega) (by omega) (best_skip (CA := fun k => spt k / 100001 = t * 10 + kd ∧ ¬ y < lN (spt k % 100001) ∧ stB pk rep k = true) (lt := ltB spt tim num) hb (fun q => by rw [q.2.2] at c57; cases c57))
            · skip
              refine V.iload F d_A_latestStanding_60 2 rfl ?_
              refine V.iconst F d_A_latestStanding_62 (v := -1) (by decide) ?_
              refine V.icmp_eq (x := oI b) (y := -1) (tgt := 77) F d_A_latestStanding_63 (by decide) (fun c63 => ?_) (fun c63 => ?_)
              · skip
                refine V.iload F d_A_latestStanding_77 1 rfl ?_
                refine V.istore (lv2 := [(6, .int (nI (i))), (8, .int (nI (spt (i)))), (7, .int (nI (i))), (0, .ref (ad 3)), (1, .ref (ad 11)), (2, .int (nI (t))), (3, .int (nI (kd))), (4, .long (y))]) F d_A_latestStanding_79 (by decide) rfl ?_
                refine V.iincN (k := 1) (lv2 := [(7, .int (nI (i + 1))), (6, .int (nI (i))), (8, .int (nI (spt (i)))), (0, .ref (ad 3)), (1, .ref (ad 11)), (2, .int (nI (t))), (3, .int (nI (kd))), (4, .long (y))]) F d_A_latestStanding_81 2 rfl (by decide) (by decide) rfl ?_
                refine V.goto (tgt := 6) F d_A_latestStanding_84 (by decide) ?_
                refine V.lvs [0, 1, 3, 4, 5, 6, 7] rfl ?_
                exact ih6 (i + 1) (some i) (by omega) (by omega) (best_first (CA := fun k => spt k / 100001 = t * 10 + kd ∧ ¬ y < lN (spt k % 100001) ∧ stB pk rep k = true) (lt := ltB spt tim num) ltB_irr hb (oI_none (fun g e9 => by have := (hb.1 g e9).1; omega) c63) ⟨c35, c46, c57⟩)
              · skip
                obtain ⟨g, rfl⟩ := oI_some c63
                have hg9 := (hb.1 g rfl).1
                have hs8 := hspt g (by omega)
                have ht8 := htim g (by omega)
                have hn8 := hnum g (by omega)
                refine V.aload_n F d_A_latestStanding_66 rfl 3 rfl ?_
                refine V.iload F d_A_latestStanding_67 1 rfl ?_
                refine V.iload F d_A_latestStanding_69 2 rfl ?_
                refine V.callVI0 (As := [.int (nI (i)), .int (nI (g))]) (rest := []) F (c_isLater l D i g (by omega) (by omega) hs9 hs8 ht9 ht8 hn9 hn8) d_A_latestStanding_71 sv_A_70 im_y_A_isLater sl_y_A_isLater 3 rfl rfl rfl rfl rfl (Nat.le_of_ble_eq_true rfl) ⟨rfl, rfl, (Nat.le_of_ble_eq_true rfl), (Nat.le_of_ble_eq_true rfl)⟩ ⟨(Nat.le_of_ble_eq_true rfl), (Nat.le_of_ble_eq_true rfl)⟩ (fun r9 u9 h9 => ?_)
                obtain ⟨rfl, rfl⟩ := h9
                refine V.if_eqB (b := ltB spt tim num (i) (g)) (tgt := 81) F d_A_latestStanding_74 (by decide) (fun c74 => ?_) (fun c74 => ?_)
                · skip
                  refine V.iincN (k := 1) (lv2 := [(7, .int (nI (i + 1))), (8, .int (nI (spt (i)))), (6, .int (nI (g))), (0, .ref (ad 3)), (1, .ref (ad 11)), (2, .int (nI (t))), (3, .int (nI (kd))), (4, .long (y))]) F d_A_latestStanding_81 1 rfl (by decide) (by decide) rfl ?_
                  refine V.goto (tgt := 6) F d_A_latestStanding_84 (by decide) ?_
                  refine V.lvs [0, 2, 3, 4, 5, 6, 7] rfl ?_
                  exact ih6 (i + 1) (some g) (by omega) (by omega) (best_keep (CA := fun k => spt k / 100001 = t * 10 + kd ∧ ¬ y < lN (spt k % 100001) ∧ stB pk rep k = true) (lt := ltB spt tim num) hb c74)
                · skip
                  refine V.iload F d_A_latestStanding_77 1 rfl ?_
                  refine V.istore (lv2 := [(6, .int (nI (i))), (8, .int (nI (spt (i)))), (7, .int (nI (i))), (0, .ref (ad 3)), (1, .ref (ad 11)), (2, .int (nI (t))), (3, .int (nI (kd))), (4, .long (y))]) F d_A_latestStanding_79 (by decide) rfl ?_
                  refine V.iincN (k := 1) (lv2 := [(7, .int (nI (i + 1))), (6, .int (nI (i))), (8, .int (nI (spt (i)))), (0, .ref (ad 3)), (1, .ref (ad 11)), (2, .int (nI (t))), (3, .int (nI (kd))), (4, .long (y))]) F d_A_latestStanding_81 2 rfl (by decide) (by decide) rfl ?_
                  refine V.goto (tgt := 6) F d_A_latestStanding_84 (by decide) ?_
                  refine V.lvs [0, 1, 3, 4, 5, 6, 7] rfl ?_
                  exact ih6 (i + 1) (some i) (by omega) (by omega) (best_up (CA := fun k => spt k / 100001 = t * 10 + kd ∧ ¬ y < lN (spt k % 100001) ∧ stB pk rep k = true) (lt := ltB spt tim num) ltB_irr ltB_tr hb c74 ⟨c35, c46, c57⟩)
  exact L6 _ (0) (none) (Nat.lt_succ_self _) (by omega) (⟨fun g q => (by cases q), fun _ k hk => absurd hk (by omega)⟩)

set_option maxHeartbeats 4000000 in
set_option maxRecDepth 100000 in
theorem c_isFirst (l : Launch) (D : va_G) {ct : Nat → ClassId} {ad : Nat → Nat} {da : Nat → Nat → Nat} {nd : Nat} {nb : Nat} {nf : Nat} {bdk : Nat → Nat} {num : Nat → Nat} {spt : Nat → Nat} {val : Nat → Int64} {tim : Nat → Nat} {rep : Nat → Nat → Bool} {byN : Nat → Nat} {byS : Nat → Nat} {pk : Nat → Bool} {kn : Nat → Nat → Bool} {pe : Nat → Nat → Bool} {clk : Nat → Nat} {tol : Nat → Nat} {opn : Nat → Option Nat} (hnf : nf ≤ 300) (hbS : ∀ j, j < nf → byS j < nf) (hspt : ∀ k, k < nf → spt k < 2 ^ 31) (j : Nat) (hj : j < nf) : CI l y_A_isFirstOfSpot b_A_isFirstOfSpot 2 (some .boolean) (rmK 0 0 0) D (tyL ct) (CW ct ad da nd nb nf bdk num spt val tim rep byN byS pk kn pe clk tol opn) [.ref (ad 3), .int (nI (j))] 0 0 (fun r u => r = bI (isF spt byS j) ∧ u = CW ct ad da nd nb nf bdk num spt val tim rep byN byS pk kn pe clk tol opn) := by
  refine CI.start (by decide) (Nat.le_of_ble_eq_true rfl) ?_
  intro p e s m below meth c F hr hnm
  show V p l e (rmK 0 0 0) s m [.ref (ad 3), .int (nI (j))].toArray below meth c D (va_A (CW ct ad da nd nb nf bdk num spt val tim rep byN byS pk kn pe clk tol opn) s.heap.size) 2 0 0 (EI D below (CW ct ad da nd nb nf bdk num spt val tim rep byN byS pk kn pe clk tol opn) [.ref (ad 3), .int (nI (j))].toArray s 0 0 (fun r u => r = bI (isF spt byS j) ∧ u = CW ct ad da nd nb nf bdk num spt val tim rep byN byS pk kn pe clk tol opn)) (CW ct ad da nd nb nf bdk num spt val tim rep byN byS pk kn pe clk tol opn) [(0, .ref (ad 3)), (1, .int (nI (j)))] 0 []
  have hb1 := hbS j hj
  have hs1 := hspt _ hb1
  refine V.iload_n F d_A_isFirstOfSpot_0 rfl 1 rfl ?_
  refine V.if_eqN (a := j) (tgt := 31) F d_A_isFirstOfSpot_1 (by decide) (by omega) (fun c1 => ?_) (fun c1 => ?_)
  · skip
    refine V.iconst F d_A_isFirstOfSpot_31 (v := nI (1)) (by decide) ?_
    refine V.goto (tgt := 36) F d_A_isFirstOfSpot_32 (by decide) ?_
    exact V.zret F hr (nar_1) d_A_isFirstOfSpot_36 (⟨by unfold isF; rw [decide_eq_true c1]; exact bI_t, rfl⟩)
  · skip
    have hb2 := hbS (j - 1) (by omega)
    have hs2 := hspt _ hb2
    refine V.aload_n F d_A_isFirstOfSpot_4 rfl 0 rfl ?_
    refine V.get F ck_A d_A_isFirstOfSpot_5 1 (by decide) lk_A_15 3 rfl rfl ?_
    refine V.aload_n F d_A_isFirstOfSpot_8 rfl 0 rfl ?_
    refine V.get F ck_A d_A_isFirstOfSpot_9 6 (by decide) lk_A_33 3 rfl rfl ?_
    refine V.iload_n F d_A_isFirstOfSpot_12 rfl 1 rfl ?_
    refine V.iconst F d_A_isFirstOfSpot_13 (v := nI (1)) (by decide) ?_
    refine V.isubN F d_A_isFirstOfSpot_14 (by omega) ?_
    refine V.iald (v := nI (byS ((j) - (1)))) F d_A_isFirstOfSpot_15 10 0 rfl rfl (by omega) (by decide) rfl ?_
    refine V.iald (v := nI (spt (byS ((j) - (1))))) F d_A_isFirstOfSpot_16 5 0 rfl rfl (by omega) (by decide) rfl ?_
    refine V.aload_n F d_A_isFirstOfSpot_17 rfl 0 rfl ?_
    refine V.get F ck_A d_A_isFirstOfSpot_18 1 (by decide) lk_A_15 3 rfl rfl ?_
    refine V.aload_n F d_A_isFirstOfSpot_21 rfl 0 rfl ?_
    refine V.get F ck_A d_A_isFirstOfSpot_22 6 (by decide) lk_A_33 3 rfl rfl ?_
    refine V.iload_n F d_A_isFirstOfSpot_25 rfl 1 rfl ?_
    refine V.iald (v := nI (byS (j))) F d_A_isFirstOfSpot_26 10 0 rfl rfl (by omega) (by decide) rfl ?_
    refine V.iald (v := nI (spt (byS (j)))) F d_A_isFirstOfSpot_27 5 0 rfl rfl (by omega) (by decide) rfl ?_
    refine V.icmp_eqN (tgt := 35) F d_A_isFirstOfSpot_28 (by decide) (by omega) (by omega) (fun c28 => ?_) (fun c28 => ?_)
    · skip
      refine V.iconst F d_A_isFirstOfSpot_35 (v := nI (0)) (by decide) ?_
      exact V.zret F hr (nar_0) d_A_isFirstOfSpot_36 (⟨by unfold isF; rw [decide_eq_false c1, decide_eq_false (fun q => q c28)]; exact bI_f, rfl⟩)
    · skip
      refine V.iconst F d_A_isFirstOfSpot_31 (v := nI (1)) (by decide) ?_
      refine V.goto (tgt := 36) F d_A_isFirstOfSpot_32 (by decide) ?_
      exact V.zret F hr (nar_1) d_A_isFirstOfSpot_36 (⟨by unfold isF; rw [decide_eq_true c28, Bool.or_true]; exact bI_t, rfl⟩)
end
section
theorem cf_run {spt byS : Nat → Nat} {nf j p : Nat} (hso : ∀ a b, a ≤ b → b < nf → spt (byS a) ≤ spt (byS b)) (hsu : ∀ f, f < nf → ∃ a, a < nf ∧ byS a = f) (hj : j < nf) (hfi : isF spt byS j = true) (hend : nf ≤ p ∨ (p < nf ∧ j ≤ p ∧ spt (byS p) ≠ spt (byS j))) {f : Nat} (hf : f < nf) (hs : spt f = spt (byS j)) : ∃ a, j ≤ a ∧ a < p ∧ a < nf ∧ byS a = f := by
  obtain ⟨a, ha, rfl⟩ := hsu f hf
  refine ⟨a, ?_, ?_, ha, rfl⟩
  · apply Nat.le_of_not_lt
    intro hlt
    have h1 := hso a (j - 1) (by omega) (by omega)
    have h2 := hso (j - 1) j (by omega) hj
    unfold isF at hfi
    rw [Bool.or_eq_true] at hfi
    rcases hfi with h | h
    · have := of_decide_eq_true h; omega
    · have := of_decide_eq_true h; omega
  · rcases hend with h | ⟨h1, h2, h3⟩
    · omega
    · apply Nat.lt_of_not_le
      intro hle
      have e1 := hso j p h2 h1
      have e2 := hso p a hle ha
      omega
theorem cf_no {spt byS : Nat → Nat} {val : Nat → Int64} {st : Nat → Bool} {nf j p : Nat} {b : Option Nat} (hso : ∀ a b, a ≤ b → b < nf → spt (byS a) ≤ spt (byS b)) (hsu : ∀ f, f < nf → ∃ a, a < nf ∧ byS a = f) (hj : j < nf) (hfi : isF spt byS j = true) (hend : nf ≤ p ∨ (p < nf ∧ j ≤ p ∧ spt (byS p) ≠ spt (byS j))) (hb : (b = none → ∀ a, j ≤ a → a < p → st (byS a) = false) ∧ ∀ g, b = some g → (g < nf ∧ spt g = spt (byS j) ∧ st g = true) ∧ ∀ a, j ≤ a → a < p → st (byS a) = true → val (byS a) = val g) : cfB spt val st nf (spt (byS j)) = false := by
  cases e : cfB spt val st nf (spt (byS j)) with
  | false => rfl
  | true =>
    obtain ⟨f, g, hf, hg, h1, h2, h3, h4, h5⟩ := cfB_iff.mp e
    obtain ⟨a, a1, a2, -, rfl⟩ := cf_run hso hsu hj hfi hend hf h1
    obtain ⟨c, c1, c2, -, rfl⟩ := cf_run hso hsu hj hfi hend hg h2
    cases b with
    | none => rw [hb.1 rfl a a1 a2] at h3; cases h3
    | some x =>
      obtain ⟨-, hx⟩ := hb.2 x rfl
      exact absurd ((hx a a1 a2 h3).trans (hx c c1 c2 h4).symm) h5
theorem cf_yes {spt : Nat → Nat} {val : Nat → Int64} {st : Nat → Bool} {nf s f g : Nat} (hf : f < nf) (hg : g < nf) (h1 : spt f = s) (h2 : spt g = s) (h3 : st f = true) (h4 : st g = true) (h5 : ¬ val f = val g) : cfB spt val st nf s = true := cfB_iff.mpr ⟨f, g, hf, hg, h1, h2, h3, h4, h5⟩
theorem rp_upd {Rp : Nat → Nat → Bool} {i n : Nat} (hn : n < 320) : vp_updL (rpW Rp) (i * 5 + n / 64) (rpW Rp (i * 5 + n / 64) ||| ((1 : Int64) <<< ((nI (n % 64)).toInt64 &&& 63))) = rpW (fun o k => Rp o k || (decide (o = i) && decide (k = n))) := by
  funext j
  unfold vp_updL
  by_cases hj : j = i * 5 + n / 64
  · rw [if_pos hj]
    subst hj
    rw [rpW_at (by omega), rpW_at (by omega), wd_or1]
    refine wd_eq fun b hb => ?_
    rw [decide_eq_true (rfl : i = i), Bool.true_and]
  · rw [if_neg hj]
    unfold rpW
    refine wd_eq fun b hb => ?_
    show Rp (j / 5) (64 * (j % 5) + b) = (Rp (j / 5) (64 * (j % 5) + b) || (decide (j / 5 = i) && decide (64 * (j % 5) + b = n)))
    by_cases e1 : j / 5 = i
    · have : ¬ (64 * (j % 5) + b = n) := by omega
      rw [decide_eq_false this, Bool.and_false, Bool.or_false]
    · rw [decide_eq_false e1, Bool.false_and, Bool.or_false]
theorem rp_step1 {Rp rep : Nat → Nat → Bool} {pk : Nat → Bool} {i m : Nat} (h : ∀ o n, Rp o n = (rep o n || (decide (o < i) && (pk o && decide (n = m))))) (hp : pk i = true) : ∀ o n, (fun o n => Rp o n || (decide (o = i) && decide (n = m))) o n = (rep o n || (decide (o < i + 1) && (pk o && decide (n = m)))) := by
  intro o n
  show (Rp o n || (decide (o = i) && decide (n = m))) = _
  rw [h o n]
  by_cases e : o = i
  · subst e
    simp [hp]
  · rw [decide_eq_false e, Bool.false_and, Bool.or_false, show decide (o < i + 1) = decide (o < i) from by rw [decide_eq_decide]; omega]
theorem rp_step0 {Rp rep : Nat → Nat → Bool} {pk : Nat → Bool} {i m : Nat} (h : ∀ o n, Rp o n = (rep o n || (decide (o < i) && (pk o && decide (n = m))))) (hp : pk i = false) : ∀ o n, Rp o n = (rep o n || (decide (o < i + 1) && (pk o && decide (n = m)))) := by
  intro o n
  rw [h o n]
  by_cases e : o = i
  · subst e
    simp [hp]
  · rw [show decide (o < i + 1) = decide (o < i) from by rw [decide_eq_decide]; omega]
set_option maxHeartbeats 4000000 in
set_option maxRecDepth 100000 in
theorem c_cf (l : Launch) (D : va_G) {ct : Nat → ClassId} {ad : Nat → Nat} {da : Nat → Nat → Nat} {nd : Nat} {nb : Nat} {nf : Nat} {bdk : Nat → Nat} {num : Nat → Nat} {spt : Nat → Nat} {val : Nat → Int64} {tim : Nat → Nat} {rep : Nat → Nat → Bool} {byN : Nat → Nat} {byS : Nat → Nat} {pk : Nat → Bool} {kn : Nat → Nat → Bool} {pe : Nat → Nat → Bool} {clk : Nat → Nat} {tol : Nat → Nat} {opn : Nat → Option Nat} (hnf : nf ≤ 300) (hbS : ∀ j, j < nf → byS j < nf) (hspt : ∀ k, k < nf → spt k < 2 ^ 31) (hso : ∀ a b, a ≤ b → b < nf → spt (byS a) ≤ spt (byS b)) (hsu : ∀ f, f < nf → ∃ a, a < nf ∧ byS a = f) (d : Nat) (hd0 : d < nd) (j : Nat) (hj : j < nf) (hfi : isF spt byS j = true) : CI l y_A_isConflictFrom b_A_isConflictFrom 7 (some .boolean) (rmK 2 0 0) D (tyL ct) (CW ct ad da nd nb nf bdk num spt val tim rep byN byS pk kn pe clk tol opn) [.ref (ad 3), .int (nI (j)), .ref (da (d) 1)] 0 0 (fun r u => r = bI (cfB spt val (stB (kn d) rep) nf (spt (byS j))) ∧ u = CW ct ad da nd nb nf bdk num spt val tim rep byN byS pk kn pe clk tol opn) := by
  refine CI.start (by decide) (Nat.le_of_ble_eq_true rfl) ?_
  intro p e s m below meth c F hr hnm
  show V p l e (rmK 2 0 0) s m [.ref (ad 3), .int (nI (j)), .ref (da (d) 1)].toArray below meth c D (va_A (CW ct ad da nd nb nf bdk num spt val tim rep byN byS pk kn pe clk tol opn) s.heap.size) 7 0 0 (EI D below (CW ct ad da nd nb nf bdk num spt val tim rep byN byS pk kn pe clk tol opn) [.ref (ad 3), .int (nI (j)), .ref (da (d) 1)].toArray s 0 0 (fun r u => r = bI (cfB spt val (stB (kn d) rep) nf (spt (byS j))) ∧ u = CW ct ad da nd nb nf bdk num spt val tim rep byN byS pk kn pe clk tol opn)) (CW ct ad da nd nb nf bdk num spt val tim rep byN byS pk kn pe clk tol opn) [(0, .ref (ad 3)), (1, .int (nI (j))), (2, .ref (da (d) 1))] 0 []
  have hb1 := hbS j hj
  have hs1 := hspt _ hb1
  refine V.aload_n F d_A_isConflictFrom_0 rfl 0 rfl ?_
  refine V.get F ck_A d_A_isConflictFrom_1 1 (by decide) lk_A_15 3 rfl rfl ?_
  refine V.aload_n F d_A_isConflictFrom_4 rfl 0 rfl ?_
  refine V.get F ck_A d_A_isConflictFrom_5 6 (by decide) lk_A_33 3 rfl rfl ?_
  refine V.iload_n F d_A_isConflictFrom_8 rfl 1 rfl ?_
  refine V.iald (v := nI (byS (j))) F d_A_isConflictFrom_9 10 0 rfl rfl (by omega) (by decide) rfl ?_
  refine V.iald (v := nI (spt (byS (j)))) F d_A_isConflictFrom_10 5 0 rfl rfl (by omega) (by decide) rfl ?_
  refine V.istore_n (lv2 := [(3, .int (nI (spt (byS (j))))), (0, .ref (ad 3)), (1, .int (nI (j))), (2, .ref (da (d) 1))]) F d_A_isConflictFrom_11 rfl (by decide) rfl ?_
  refine V.iconst F d_A_isConflictFrom_12 (v := -1) (by decide) ?_
  refine V.istore (lv2 := [(4, .int (-1)), (3, .int (nI (spt (byS (j))))), (0, .ref (ad 3)), (1, .int (nI (j))), (2, .ref (da (d) 1))]) F d_A_isConflictFrom_13 (by decide) rfl ?_
  refine V.iload_n F d_A_isConflictFrom_15 rfl 3 rfl ?_
  refine V.istore (lv2 := [(5, .int (nI (j))), (4, .int (-1)), (3, .int (nI (spt (byS (j))))), (0, .ref (ad 3)), (1, .int (nI (j))), (2, .ref (da (d) 1))]) F d_A_isConflictFrom_16 (by decide) rfl ?_
  have L18 : ∀ (n9 : Nat) (pa : Nat) (b : Option Nat), nf - pa < n9 → (j ≤ pa) → (pa ≤ nf) → (∀ a, j ≤ a → a < pa → spt (byS a) = spt (byS j)) → ((b = none → ∀ a, j ≤ a → a < pa → (stB (kn d) rep) (byS a) = false) ∧ ∀ g, b = some g → (g < nf ∧ spt g = spt (byS j) ∧ (stB (kn d) rep) g = true) ∧ ∀ a, j ≤ a → a < pa → (stB (kn d) rep) (byS a) = true → val (byS a) = val g) → V p l e (rmK 2 0 0) s m [.ref (ad 3), .int (nI (j)), .ref (da (d) 1)].toArray below meth c D (va_A (CW ct ad da nd nb nf bdk num spt val tim rep byN byS pk kn pe clk tol opn) s.heap.size) 7 0 0 (EI D below (CW ct ad da nd nb nf bdk num spt val tim rep byN byS pk kn pe clk tol opn) [.ref (ad 3), .int (nI (j)), .ref (da (d) 1)].toArray s 0 0 (fun r u => r = bI (cfB spt val (stB (kn d) rep) nf (spt (byS j))) ∧ u = CW ct ad da nd nb nf bdk num spt val tim rep byN byS pk kn pe clk tol opn)) (CW ct ad da nd nb nf bdk num spt val tim rep byN byS pk kn pe clk tol opn) [(5, .int (nI (pa))), (4, .int (oI b)), (3, .int (nI (spt (byS (j))))), (0, .ref (ad 3)), (1, .int (nI (j))), (2, .ref (da (d) 1))] 18 [] := by
    intro n9
    induction n9 with
    | zero => intro pa b h9 hp1 hp2 hrun hb; exact absurd h9 (Nat.not_lt_zero _)
    | succ n9 ih18 =>
      intro pa b h9 hp1 hp2 hrun hb
      refine V.iload F d_A_isConflictFrom_18 0 rfl ?_
      refine V.aload_n F d_A_isConflictFrom_20 rfl 3 rfl ?_
      refine V.get F ck_A d_A_isConflictFrom_21 7 (by decide) lk_A_36 3 rfl rfl ?_
      refine V.icmp_geN (tgt := 101) F d_A_isConflictFrom_24 (by decide) (by omega) (by omega) (fun c24 => ?_) (fun c24 => ?_)
      · skip
        refine V.iconst F d_A_isConflictFrom_101 (v := nI (0)) (by decide) ?_
        exact V.zret F hr (nar_0) d_A_isConflictFrom_102 (⟨by rw [cf_no (st := (stB (kn d) rep)) hso hsu hj hfi (Or.inl c24) hb]; exact bI_f, rfl⟩)
      · skip
        have hb9 := hbS pa (by omega)
        have hs9 := hspt _ hb9
        refine V.aload_n F d_A_isConflictFrom_27 rfl 3 rfl ?_
        refine V.get F ck_A d_A_isConflictFrom_28 1 (by decide) lk_A_15 3 rfl rfl ?_
        refine V.aload_n F d_A_isConflictFrom_31 rfl 3 rfl ?_
        refine V.get F ck_A d_A_isConflictFrom_32 6 (by decide) lk_A_33 3 rfl rfl ?_
        refine V.iload F d_A_isConflictFrom_35 0 rfl ?_
        refine V.iald (v := nI (byS (pa))) F d_A_isConflictFrom_37 10 0 rfl rfl (by omega) (by decide) rfl ?_
        refine V.iald (v := nI (spt (byS (pa)))) F d_A_isConflictFrom_38 5 0 rfl rfl (by omega) (by decide) rfl ?_
        refine V.iload_n F d_A_isConflictFrom_39 rfl 2 rfl ?_
        refine V.icmp_neN (tgt := 101) F d_A_isConflictFrom_40 (by decide) (by omega) (by omega) (fun c40 => ?_) (fun c40 => ?_)
        · skip
          refine V.iconst F d_A_isConflictFrom_101 (v := nI (0)) (by decide) ?_
          exact V.zret F hr (nar_0) d_A_isConflictFrom_102 (⟨by rw [cf_no (st := (stB (kn d) rep)) hso hsu hj hfi (Or.inr ⟨by omega, hp1, c40⟩) hb]; exact bI_f, rfl⟩)
        · skip
          refine V.aload_n F d_A_isConflictFrom_43 rfl 3 rfl ?_
          refine V.get F ck_A d_A_isConflictFrom_44 6 (by decide) lk_A_33 3 rfl rfl ?_
          refine V.iload F d_A_isConflictFrom_47 0 rfl ?_
          refine V.iald (v := nI (byS (pa))) F d_A_isConflictFrom_49 10 0 rfl rfl (by omega) (by decide) rfl ?_
          refine V.istore (lv2 := [(6, .int (nI (byS (pa)))), (5, .int (nI (pa))), (4, .int (oI b)), (3, .int (nI (spt (byS (j))))), (0, .ref (ad 3)), (1, .int (nI (j))), (2, .ref (da (d) 1))]) F d_A_isConflictFrom_50 (by decide) rfl ?_
          refine V.aload_n F d_A_isConflictFrom_52 rfl 4 rfl ?_
          refine V.aload_n F d_A_isConflictFrom_53 rfl 6 rfl ?_
          refine V.iload F d_A_isConflictFrom_54 0 rfl ?_
          refine V.callVI0 (As := [.ref (da (d) 1), .int (nI (byS (pa)))]) (rest := []) F (c_stands l D (some (d, false)) hd0 (byS pa) (by omega)) d_A_isConflictFrom_56 sv_A_54 im_y_A_standsAmong sl_y_A_standsAmong 3 rfl rfl rfl rfl rfl (Nat.le_of_ble_eq_true rfl) ⟨rfl, rfl, (Nat.le_of_ble_eq_true rfl), (Nat.le_of_ble_eq_true rfl)⟩ ⟨(Nat.le_of_ble_eq_true rfl), (Nat.le_of_ble_eq_true rfl)⟩ (fun r9 u9 h9 => ?_)
          obtain ⟨rfl, rfl⟩ := h9
          refine V.if_eqB (b := stB (kn (d)) rep (byS (pa))) (tgt := 95) F d_A_isConflictFrom_59 (by decide) (fun c59 => ?_) (fun c59 => ?_)
          · skip
            refine V.iincN (k := 1) (lv2 := [(5, .int (nI (pa + 1))), (6, .int (nI (byS (pa)))), (4, .int (oI b)), (3, .int (nI (spt (byS (j))))), (0, .ref (ad 3)), (1, .int (nI (j))), (2, .ref (da (d) 1))]) F d_A_isConflictFrom_95 1 rfl (by decide) (by decide) rfl ?_
            refine V.goto (tgt := 18) F d_A_isConflictFrom_98 (by decide) ?_
            refine V.lvs [0, 2, 3, 4, 5, 6] rfl ?_
            exact ih18 (pa + 1) (b) (by omega) (by omega) (by omega) (fun a a1 a2 => by
          by_cases e9 : a = pa
          · rw [e9]; exact c40
          · exact hrun a a1 (by omega)) (⟨fun q a a1 a2 => by
          by_cases e9 : a = pa
          · rw [e9]; exact c59
          · exact hb.1 q a a1 (by omega), fun g q => ⟨(hb.2 g q).1, fun a a1 a2 a3 => by
          by_cases e9 : a = pa
          · rw [e9, c59] at a3; cases a3
          · exact (hb.2 g q).2 a a1 (by omega) a3⟩⟩)
          · skip
            refine V.iload F d_A_isConflictFrom_62 2 rfl ?_
            refine V.iconst F d_A_isConflictFrom_64 (v := -1) (by decide) ?_
            refine V.icmp_ne (x := oI b) (y := -1) (tgt := 75) F d_A_isConflictFrom_65 (by decide) (fun c65 => ?_) (fun c65 => ?_)
            · skip
              obtain ⟨g, rfl⟩ := oI_some c65
              have hg9 := (hb.2 g rfl).1.1
              refine V.aload_n F d_A_isConflictFrom_75 rfl 4 rfl ?_
              refine V.get F ck_A d_A_isConflictFrom_76 2 (by decide) lk_A_18 3 rfl rfl ?_
              refine V.iload F d_A_isConflictFrom_79 0 rfl ?_
              refine V.lald (v := val (byS (pa))) F d_A_isConflictFrom_81 6 1 rfl rfl (by omega) (by decide) rfl ?_
              refine V.aload_n F d_A_isConflictFrom_82 rfl 4 rfl ?_
              refine V.get F ck_A d_A_isConflictFrom_83 2 (by decide) lk_A_18 3 rfl rfl ?_
              refine V.iload F d_A_isConflictFrom_86 2 rfl ?_
              refine V.lald (v := val (g)) F d_A_isConflictFrom_88 6 1 rfl rfl (by omega) (by decide) rfl ?_
              refine V.lcmp_eq (tgt := 95) F d_A_isConflictFrom_89 d_A_isConflictFrom_90 (by decide) (fun c89 => ?_) (fun c89 => ?_)
              · skip
                refine V.iincN (k := 1) (lv2 := [(5, .int (nI (pa + 1))), (6, .int (nI (byS (pa)))), (4, .int (nI (g))), (3, .int (nI (spt (byS (j))))), (0, .ref (ad 3)), (1, .int (nI (j))), (2, .ref (da (d) 1))]) F d_A_isConflictFrom_95 1 rfl (by decide) (by decide) rfl ?_
                refine V.goto (tgt := 18) F d_A_isConflictFrom_98 (by decide) ?_
                refine V.lvs [0, 2, 3, 4, 5, 6] rfl ?_
                exact ih18 (pa + 1) (some g) (by omega) (by omega) (by omega) (fun a a1 a2 => by
          by_cases e9 : a = pa
          · rw [e9]; exact c40
          · exact hrun a a1 (by omega)) (⟨fun q => (by cases q), fun x q => by cases q; exact ⟨(hb.2 g rfl).1, fun a a1 a2 a3 => by
          by_cases e9 : a = pa
          · rw [e9]; exact c89
          · exact (hb.2 g rfl).2 a a1 (by omega) a3⟩⟩)
              · skip
                refine V.iconst F d_A_isConflictFrom_93 (v := nI (1)) (by decide) ?_
                exact V.zret F hr (nar_1) d_A_isConflictFrom_94 (⟨by rw [cf_yes (st := (stB (kn d) rep)) hb9 (hb.2 g rfl).1.1 c40 (hb.2 g rfl).1.2.1 c59 (hb.2 g rfl).1.2.2 c89]; exact bI_t, rfl⟩)
            · skip
              refine V.iload F d_A_isConflictFrom_68 0 rfl ?_
              refine V.istore (lv2 := [(4, .int (nI (byS (pa)))), (6, .int (nI (byS (pa)))), (5, .int (nI (pa))), (3, .int (nI (spt (byS (j))))), (0, .ref (ad 3)), (1, .int (nI (j))), (2, .ref (da (d) 1))]) F d_A_isConflictFrom_70 (by decide) rfl ?_
              refine V.goto (tgt := 95) F d_A_isConflictFrom_72 (by decide) ?_
              refine V.iincN (k := 1) (lv2 := [(5, .int (nI (pa + 1))), (4, .int (nI (byS (pa)))), (6, .int (nI (byS (pa)))), (3, .int (nI (spt (byS (j))))), (0, .ref (ad 3)), (1, .int (nI (j))), (2, .ref (da (d) 1))]) F d_A_isConflictFrom_95 2 rfl (by decide) (by decide) rfl ?_
              refine V.goto (tgt := 18) F d_A_isConflictFrom_98 (by decide) ?_
              refine V.lvs [0, 1, 3, 4, 5, 6] rfl ?_
              exact ih18 (pa + 1) (some (byS pa)) (by omega) (by omega) (by omega) (fun a a1 a2 => by
          by_cases e9 : a = pa
          · rw [e9]; exact c40
          · exact hrun a a1 (by omega)) (⟨fun q => (by cases q), fun g q => by cases q; exact ⟨⟨hb9, c40, c59⟩, fun a a1 a2 a3 => by
          by_cases e9 : a = pa
          · rw [e9]
          · rw [hb.1 (oI_none (fun g q => by have := (hb.2 g q).1.1; omega) c65) a a1 (by omega)] at a3; cases a3⟩⟩)
  exact L18 _ (j) (none) (Nat.lt_succ_self _) (by omega) (by omega) (fun a a1 a2 => absurd a1 (by omega)) (⟨fun _ a a1 a2 => absurd a1 (by omega), fun g q => (by cases q)⟩)

set_option maxHeartbeats 4000000 in
set_option maxRecDepth 100000 in
theorem c_countCf (l : Launch) (D : va_G) {ct : Nat → ClassId} {ad : Nat → Nat} {da : Nat → Nat → Nat} {nd : Nat} {nb : Nat} {nf : Nat} {bdk : Nat → Nat} {num : Nat → Nat} {spt : Nat → Nat} {val : Nat → Int64} {tim : Nat → Nat} {rep : Nat → Nat → Bool} {byN : Nat → Nat} {byS : Nat → Nat} {pk : Nat → Bool} {kn : Nat → Nat → Bool} {pe : Nat → Nat → Bool} {clk : Nat → Nat} {tol : Nat → Nat} {opn : Nat → Option Nat} (hnf : nf ≤ 300) (hbS : ∀ j, j < nf → byS j < nf) (hspt : ∀ k, k < nf → spt k < 2 ^ 31) (hso : ∀ a b, a ≤ b → b < nf → spt (byS a) ≤ spt (byS b)) (hsu : ∀ f, f < nf → ∃ a, a < nf ∧ byS a = f) (d : Nat) (hd0 : d < nd) : CI l y_A_countConflicts b_A_countConflicts 4 (some .int) (rmK 3 0 0) D (tyL ct) (CW ct ad da nd nb nf bdk num spt val tim rep byN byS pk kn pe clk tol opn) [.ref (ad 3), .ref (da (d) 1)] 0 0 (fun r u => r = nI (cnt (fun a => isF spt byS a && cfB spt val (stB (kn d) rep) nf (spt (byS a))) nf) ∧ u = CW ct ad da nd nb nf bdk num spt val tim rep byN byS pk kn pe clk tol opn) := by
  refine CI.start (by decide) (Nat.le_of_ble_eq_true rfl) ?_
  intro p e s m below meth c F hr hnm
  show V p l e (rmK 3 0 0) s m [.ref (ad 3), .ref (da (d) 1)].toArray below meth c D (va_A (CW ct ad da nd nb nf bdk num spt val tim rep byN byS pk kn pe clk tol opn) s.heap.size) 4 0 0 (EI D below (CW ct ad da nd nb nf bdk num spt val tim rep byN byS pk kn pe clk tol opn) [.ref (ad 3), .ref (da (d) 1)].toArray s 0 0 (fun r u => r = nI (cnt (fun a => isF spt byS a && cfB spt val (stB (kn d) rep) nf (spt (byS a))) nf) ∧ u = CW ct ad da nd nb nf bdk num spt val tim rep byN byS pk kn pe clk tol opn)) (CW ct ad da nd nb nf bdk num spt val tim rep byN byS pk kn pe clk tol opn) [(0, .ref (ad 3)), (1, .ref (da (d) 1))] 0 []
  refine V.iconst F d_A_countConflicts_0 (v := nI (0)) (by decide) ?_
  refine V.istore_n (lv2 := [(2, .int (nI (0))), (0, .ref (ad 3)), (1, .ref (da (d) 1))]) F d_A_countConflicts_1 rfl (by decide) rfl ?_
  refine V.iconst F d_A_countConflicts_2 (v := nI (0)) (by decide) ?_
  refine V.istore_n (lv2 := [(3, .int (nI (0))), (2, .int (nI (0))), (0, .ref (ad 3)), (1, .ref (da (d) 1))]) F d_A_countConflicts_3 rfl (by decide) rfl ?_
  have L4 : ∀ (n9 : Nat) (i : Nat) (z : Nat), nf - i < n9 → (i ≤ nf) → (z = cnt (fun a => isF spt byS a && cfB spt val (stB (kn d) rep) nf (spt (byS a))) i) → V p l e (rmK 3 0 0) s m [.ref (ad 3), .ref (da (d) 1)].toArray below meth c D (va_A (CW ct ad da nd nb nf bdk num spt val tim rep byN byS pk kn pe clk tol opn) s.heap.size) 4 0 0 (EI D below (CW ct ad da nd nb nf bdk num spt val tim rep byN byS pk kn pe clk tol opn) [.ref (ad 3), .ref (da (d) 1)].toArray s 0 0 (fun r u => r = nI (cnt (fun a => isF spt byS a && cfB spt val (stB (kn d) rep) nf (spt (byS a))) nf) ∧ u = CW ct ad da nd nb nf bdk num spt val tim rep byN byS pk kn pe clk tol opn)) (CW ct ad da nd nb nf bdk num spt val tim rep byN byS pk kn pe clk tol opn) [(3, .int (nI (i))), (2, .int (nI (z))), (0, .ref (ad 3)), (1, .ref (da (d) 1))] 4 [] := by
    intro n9
    induction n9 with
    | zero => intro i z h9 hi hz; exact absurd h9 (Nat.not_lt_zero _)
    | succ n9 ih4 =>
      intro i z h9 hi hz
      refine V.iload_n F d_A_countConflicts_4 rfl 0 rfl ?_
      refine V.aload_n F d_A_countConflicts_5 rfl 2 rfl ?_
      refine V.get F ck_A d_A_countConflicts_6 7 (by decide) lk_A_36 3 rfl rfl ?_
      refine V.icmp_geN (tgt := 38) F d_A_countConflicts_9 (by decide) (by omega) (by omega) (fun c9 => ?_) (fun c9 => ?_)
      · skip
        refine V.iload_n F d_A_countConflicts_38 rfl 1 rfl ?_
        exact V.iret F hr d_A_countConflicts_39 (⟨by rw [hz, show nf = i by omega], rfl⟩)
      · skip
        refine V.aload_n F d_A_countConflicts_12 rfl 2 rfl ?_
        refine V.iload_n F d_A_countConflicts_13 rfl 0 rfl ?_
        refine V.callVI0 (As := [.int (nI (i))]) (rest := []) F (c_isFirst l D hnf hbS hspt i (by omega)) d_A_countConflicts_14 sv_A_74 im_y_A_isFirstOfSpot sl_y_A_isFirstOfSpot 3 rfl rfl rfl rfl rfl (Nat.le_of_ble_eq_true rfl) ⟨rfl, rfl, (Nat.le_of_ble_eq_true rfl), (Nat.le_of_ble_eq_true rfl)⟩ ⟨(Nat.le_of_ble_eq_true rfl), (Nat.le_of_ble_eq_true rfl)⟩ (fun r9 u9 h9 => ?_)
        obtain ⟨rfl, rfl⟩ := h9
        refine V.if_eqB (b := isF spt byS (i)) (tgt := 32) F d_A_countConflicts_17 (by decide) (fun c17 => ?_) (fun c17 => ?_)
        · skip
          refine V.iincN (k := 1) (lv2 := [(3, .int (nI (i + 1))), (2, .int (nI (z))), (0, .ref (ad 3)), (1, .ref (da (d) 1))]) F d_A_countConflicts_32 0 rfl (by decide) (by decide) rfl ?_
          refine V.goto (tgt := 4) F d_A_countConflicts_35 (by decide) ?_
          exact ih4 (i + 1) (z) (by omega) (by omega) (by rw [hz, cnt, if_neg (by show ¬ (isF spt byS i && cfB spt val (stB (kn d) rep) nf (spt (byS i))) = true; rw [c17]; simp)]; rfl)
        · skip
          refine V.aload_n F d_A_countConflicts_20 rfl 2 rfl ?_
          refine V.iload_n F d_A_countConflicts_21 rfl 0 rfl ?_
          refine V.aload_n F d_A_countConflicts_22 rfl 3 rfl ?_
          refine V.callVI0 (As := [.int (nI (i)), .ref (da (d) 1)]) (rest := []) F (c_cf l D hnf hbS hspt hso hsu d hd0 i (by omega) c17) d_A_countConflicts_23 sv_A_77 im_y_A_isConflictFrom sl_y_A_isConflictFrom 3 rfl rfl rfl rfl rfl (Nat.le_of_ble_eq_true rfl) ⟨rfl, rfl, (Nat.le_of_ble_eq_true rfl), (Nat.le_of_ble_eq_true rfl)⟩ ⟨(Nat.le_of_ble_eq_true rfl), (Nat.le_of_ble_eq_true rfl)⟩ (fun r9 u9 h9 => ?_)
          obtain ⟨rfl, rfl⟩ := h9
          refine V.if_eqB (b := cfB spt val (stB (kn d) rep) nf (spt (byS (i)))) (tgt := 32) F d_A_countConflicts_26 (by decide) (fun c26 => ?_) (fun c26 => ?_)
          · skip
            refine V.iincN (k := 1) (lv2 := [(3, .int (nI (i + 1))), (2, .int (nI (z))), (0, .ref (ad 3)), (1, .ref (da (d) 1))]) F d_A_countConflicts_32 0 rfl (by decide) (by decide) rfl ?_
            refine V.goto (tgt := 4) F d_A_countConflicts_35 (by decide) ?_
            exact ih4 (i + 1) (z) (by omega) (by omega) (by rw [hz, cnt, if_neg (by show ¬ (isF spt byS i && cfB spt val (stB (kn d) rep) nf (spt (byS i))) = true; rw [c26]; simp)]; rfl)
          · skip
            refine V.iincN (k := 1) (lv2 := [(2, .int (nI (z + 1))), (3, .int (nI (i))), (0, .ref (ad 3)), (1, .ref (da (d) 1))]) F d_A_countConflicts_29 1 rfl (by decide) (by decide) rfl ?_
            refine V.iincN (k := 1) (lv2 := [(3, .int (nI (i + 1))), (2, .int (nI (z + 1))), (0, .ref (ad 3)), (1, .ref (da (d) 1))]) F d_A_countConflicts_32 1 rfl (by decide) (by decide) rfl ?_
            refine V.goto (tgt := 4) F d_A_countConflicts_35 (by decide) ?_
            exact ih4 (i + 1) (z + 1) (by omega) (by omega) (by rw [hz, cnt, if_pos (by show (isF spt byS i && _) = true; rw [c17, c26]; rfl)])
  exact L4 _ (0) (0) (Nat.lt_succ_self _) (by omega) (rfl)

set_option maxHeartbeats 4000000 in
set_option maxRecDepth 100000 in
theorem c_cfSpot (l : Launch) (D : va_G) {ct : Nat → ClassId} {ad : Nat → Nat} {da : Nat → Nat → Nat} {nd : Nat} {nb : Nat} {nf : Nat} {bdk : Nat → Nat} {num : Nat → Nat} {spt : Nat → Nat} {val : Nat → Int64} {tim : Nat → Nat} {rep : Nat → Nat → Bool} {byN : Nat → Nat} {byS : Nat → Nat} {pk : Nat → Bool} {kn : Nat → Nat → Bool} {pe : Nat → Nat → Bool} {clk : Nat → Nat} {tol : Nat → Nat} {opn : Nat → Option Nat} (hnf : nf ≤ 300) (hbS : ∀ j, j < nf → byS j < nf) (hspt : ∀ k, k < nf → spt k < 2 ^ 31) (hso : ∀ a b, a ≤ b → b < nf → spt (byS a) ≤ spt (byS b)) (hsu : ∀ f, f < nf → ∃ a, a < nf ∧ byS a = f) (d : Nat) (hd0 : d < nd) (lo : Nat) (hlo : lo < 2 ^ 31) (k : Int32) : CI l y_A_conflictSpot b_A_conflictSpot 7 (some .int) (rmK 3 0 0) D (tyL ct) (CW ct ad da nd nb nf bdk num spt val tim rep byN byS pk kn pe clk tol opn) [.ref (ad 3), .ref (da (d) 1), .int (nI (lo)), .int (k)] 0 0 (fun r u => ((∃ m, m < nf ∧ (fun a => decide (lo ≤ spt (byS a)) && (isF spt byS a && cfB spt val (stB (kn d) rep) nf (spt (byS a)))) m = true ∧ k = nI (cnt (fun a => decide (lo ≤ spt (byS a)) && (isF spt byS a && cfB spt val (stB (kn d) rep) nf (spt (byS a)))) m) ∧ r = nI (spt (byS m))) ∨ ((∀ m, m < nf → (fun a => decide (lo ≤ spt (byS a)) && (isF spt byS a && cfB spt val (stB (kn d) rep) nf (spt (byS a)))) m = true → ¬ k = nI (cnt (fun a => decide (lo ≤ spt (byS a)) && (isF spt byS a && cfB spt val (stB (kn d) rep) nf (spt (byS a)))) m)) ∧ r = -1)) ∧ u = CW ct ad da nd nb nf bdk num spt val tim rep byN byS pk kn pe clk tol opn) := by
  refine CI.start (by decide) (Nat.le_of_ble_eq_true rfl) ?_
  intro p e s m below meth c F hr hnm
  show V p l e (rmK 3 0 0) s m [.ref (ad 3), .ref (da (d) 1), .int (nI (lo)), .int (k)].toArray below meth c D (va_A (CW ct ad da nd nb nf bdk num spt val tim rep byN byS pk kn pe clk tol opn) s.heap.size) 7 0 0 (EI D below (CW ct ad da nd nb nf bdk num spt val tim rep byN byS pk kn pe clk tol opn) [.ref (ad 3), .ref (da (d) 1), .int (nI (lo)), .int (k)].toArray s 0 0 (fun r u => ((∃ m, m < nf ∧ (fun a => decide (lo ≤ spt (byS a)) && (isF spt byS a && cfB spt val (stB (kn d) rep) nf (spt (byS a)))) m = true ∧ k = nI (cnt (fun a => decide (lo ≤ spt (byS a)) && (isF spt byS a && cfB spt val (stB (kn d) rep) nf (spt (byS a)))) m) ∧ r = nI (spt (byS m))) ∨ ((∀ m, m < nf → (fun a => decide (lo ≤ spt (byS a)) && (isF spt byS a && cfB spt val (stB (kn d) rep) nf (spt (byS a)))) m = true → ¬ k = nI (cnt (fun a => decide (lo ≤ spt (byS a)) && (isF spt byS a && cfB spt val (stB (kn d) rep) nf (spt (byS a)))) m)) ∧ r = -1)) ∧ u = CW ct ad da nd nb nf bdk num spt val tim rep byN byS pk kn pe clk tol opn)) (CW ct ad da nd nb nf bdk num spt val tim rep byN byS pk kn pe clk tol opn) [(0, .ref (ad 3)), (1, .ref (da (d) 1)), (2, .int (nI (lo))), (3, .int (k))] 0 []
  refine V.iconst F d_A_conflictSpot_0 (v := nI (0)) (by decide) ?_
  refine V.istore (lv2 := [(4, .int (nI (0))), (0, .ref (ad 3)), (1, .ref (da (d) 1)), (2, .int (nI (lo))), (3, .int (k))]) F d_A_conflictSpot_1 (by decide) rfl ?_
  refine V.iconst F d_A_conflictSpot_3 (v := nI (0)) (by decide) ?_
  refine V.istore (lv2 := [(5, .int (nI (0))), (4, .int (nI (0))), (0, .ref (ad 3)), (1, .ref (da (d) 1)), (2, .int (nI (lo))), (3, .int (k))]) F d_A_conflictSpot_4 (by decide) rfl ?_
  have L6 : ∀ (n9 : Nat) (i : Nat) (z : Nat), nf - i < n9 → (i ≤ nf) → (z = cnt (fun a => decide (lo ≤ spt (byS a)) && (isF spt byS a && cfB spt val (stB (kn d) rep) nf (spt (byS a)))) i) → (∀ m, m < i → (fun a => decide (lo ≤ spt (byS a)) && (isF spt byS a && cfB spt val (stB (kn d) rep) nf (spt (byS a)))) m = true → ¬ k = nI (cnt (fun a => decide (lo ≤ spt (byS a)) && (isF spt byS a && cfB spt val (stB (kn d) rep) nf (spt (byS a)))) m)) → V p l e (rmK 3 0 0) s m [.ref (ad 3), .ref (da (d) 1), .int (nI (lo)), .int (k)].toArray below meth c D (va_A (CW ct ad da nd nb nf bdk num spt val tim rep byN byS pk kn pe clk tol opn) s.heap.size) 7 0 0 (EI D below (CW ct ad da nd nb nf bdk num spt val tim rep byN byS pk kn pe clk tol opn) [.ref (ad 3), .ref (da (d) 1), .int (nI (lo)), .int (k)].toArray s 0 0 (fun r u => ((∃ m, m < nf ∧ (fun a => decide (lo ≤ spt (byS a)) && (isF spt byS a && cfB spt val (stB (kn d) rep) nf (spt (byS a)))) m = true ∧ k = nI (cnt (fun a => decide (lo ≤ spt (byS a)) && (isF spt byS a && cfB spt val (stB (kn d) rep) nf (spt (byS a)))) m) ∧ r = nI (spt (byS m))) ∨ ((∀ m, m < nf → (fun a => decide (lo ≤ spt (byS a)) && (isF spt byS a && cfB spt val (stB (kn d) rep) nf (spt (byS a)))) m = true → ¬ k = nI (cnt (fun a => decide (lo ≤ spt (byS a)) && (isF spt byS a && cfB spt val (stB (kn d) rep) nf (spt (byS a)))) m)) ∧ r = -1)) ∧ u = CW ct ad da nd nb nf bdk num spt val tim rep byN byS pk kn pe clk tol opn)) (CW ct ad da nd nb nf bdk num spt val tim rep byN byS pk kn pe clk tol opn) [(5, .int (nI (i))), (4, .int (nI (z))), (0, .ref (ad 3)), (1, .ref (da (d) 1)), (2, .int (nI (lo))), (3, .int (k))] 6 [] := by
    intro n9
    induction n9 with
    | zero => intro i z h9 hi hz hin; exact absurd h9 (Nat.not_lt_zero _)
    | succ n9 ih6 =>
      intro i z h9 hi hz hin
      refine V.iload F d_A_conflictSpot_6 0 rfl ?_
      refine V.aload_n F d_A_conflictSpot_8 rfl 2 rfl ?_
      refine V.get F ck_A d_A_conflictSpot_9 7 (by decide) lk_A_36 3 rfl rfl ?_
      refine V.icmp_geN (tgt := 72) F d_A_conflictSpot_12 (by decide) (by omega) (by omega) (fun c12 => ?_) (fun c12 => ?_)
      · skip
        refine V.iconst F d_A_conflictSpot_72 (v := -1) (by decide) ?_
        exact V.iret F hr d_A_conflictSpot_73 (⟨Or.inr ⟨fun m hm => hin m (by omega), rfl⟩, rfl⟩)
      · skip
        have hb9 := hbS i (by omega)
        have hs9 := hspt _ hb9
        refine V.aload_n F d_A_conflictSpot_15 rfl 2 rfl ?_
        refine V.get F ck_A d_A_conflictSpot_16 1 (by decide) lk_A_15 3 rfl rfl ?_
        refine V.aload_n F d_A_conflictSpot_19 rfl 2 rfl ?_
        refine V.get F ck_A d_A_conflictSpot_20 6 (by decide) lk_A_33 3 rfl rfl ?_
        refine V.iload F d_A_conflictSpot_23 0 rfl ?_
        refine V.iald (v := nI (byS (i))) F d_A_conflictSpot_25 10 0 rfl rfl (by omega) (by decide) rfl ?_
        refine V.iald (v := nI (spt (byS (i)))) F d_A_conflictSpot_26 5 0 rfl rfl (by omega) (by decide) rfl ?_
        refine V.istore (lv2 := [(6, .int (nI (spt (byS (i))))), (5, .int (nI (i))), (4, .int (nI (z))), (0, .ref (ad 3)), (1, .ref (da (d) 1)), (2, .int (nI (lo))), (3, .int (k))]) F d_A_conflictSpot_27 (by decide) rfl ?_
        refine V.iload F d_A_conflictSpot_29 0 rfl ?_
        refine V.iload_n F d_A_conflictSpot_31 rfl 5 rfl ?_
        refine V.icmp_ltN (tgt := 66) F d_A_conflictSpot_32 (by decide) (by omega) (by omega) (fun c32 => ?_) (fun c32 => ?_)
        · skip
          refine V.iincN (k := 1) (lv2 := [(5, .int (nI (i + 1))), (6, .int (nI (spt (byS (i))))), (4, .int (nI (z))), (0, .ref (ad 3)), (1, .ref (da (d) 1)), (2, .int (nI (lo))), (3, .int (k))]) F d_A_conflictSpot_66 1 rfl (by decide) (by decide) rfl ?_
          refine V.goto (tgt := 6) F d_A_conflictSpot_69 (by decide) ?_
          refine V.lvs [0, 2, 3, 4, 5, 6] rfl ?_
          exact ih6 (i + 1) (z) (by omega) (by omega) (by rw [hz, cnt, if_neg (show ¬ (decide (lo ≤ spt (byS i)) && (isF spt byS i && cfB spt val (stB (kn d) rep) nf (spt (byS i)))) = true by rw [decide_eq_false (by omega : ¬ lo ≤ spt (byS i))]; simp)]; rfl) (ord_step hin (fun q _ => absurd q (show ¬ (decide (lo ≤ spt (byS i)) && (isF spt byS i && cfB spt val (stB (kn d) rep) nf (spt (byS i)))) = true by rw [decide_eq_false (by omega : ¬ lo ≤ spt (byS i))]; simp)))
        · skip
          refine V.aload_n F d_A_conflictSpot_35 rfl 3 rfl ?_
          refine V.iload F d_A_conflictSpot_36 1 rfl ?_
          refine V.callVI0 (As := [.int (nI (i))]) (rest := []) F (c_isFirst l D hnf hbS hspt i (by omega)) d_A_conflictSpot_38 sv_A_74 im_y_A_isFirstOfSpot sl_y_A_isFirstOfSpot 3 rfl rfl rfl rfl rfl (Nat.le_of_ble_eq_true rfl) ⟨rfl, rfl, (Nat.le_of_ble_eq_true rfl), (Nat.le_of_ble_eq_true rfl)⟩ ⟨(Nat.le_of_ble_eq_true rfl), (Nat.le_of_ble_eq_true rfl)⟩ (fun r9 u9 h9 => ?_)
          obtain ⟨rfl, rfl⟩ := h9
          refine V.if_eqB (b := isF spt byS (i)) (tgt := 66) F d_A_conflictSpot_41 (by decide) (fun c41 => ?_) (fun c41 => ?_)
          · skip
            refine V.iincN (k := 1) (lv2 := [(5, .int (nI (i + 1))), (6, .int (nI (spt (byS (i))))), (4, .int (nI (z))), (0, .ref (ad 3)), (1, .ref (da (d) 1)), (2, .int (nI (lo))), (3, .int (k))]) F d_A_conflictSpot_66 1 rfl (by decide) (by decide) rfl ?_
            refine V.goto (tgt := 6) F d_A_conflictSpot_69 (by decide) ?_
            refine V.lvs [0, 2, 3, 4, 5, 6] rfl ?_
            exact ih6 (i + 1) (z) (by omega) (by omega) (by rw [hz, cnt, if_neg (show ¬ (decide (lo ≤ spt (byS i)) && (isF spt byS i && cfB spt val (stB (kn d) rep) nf (spt (byS i)))) = true by rw [c41]; simp)]; rfl) (ord_step hin (fun q _ => absurd q (show ¬ (decide (lo ≤ spt (byS i)) && (isF spt byS i && cfB spt val (stB (kn d) rep) nf (spt (byS i)))) = true by rw [c41]; simp)))
          · skip
            refine V.aload_n F d_A_conflictSpot_44 rfl 3 rfl ?_
            refine V.iload F d_A_conflictSpot_45 1 rfl ?_
            refine V.aload_n F d_A_conflictSpot_47 rfl 4 rfl ?_
            refine V.callVI0 (As := [.int (nI (i)), .ref (da (d) 1)]) (rest := []) F (c_cf l D hnf hbS hspt hso hsu d hd0 i (by omega) c41) d_A_conflictSpot_48 sv_A_77 im_y_A_isConflictFrom sl_y_A_isConflictFrom 3 rfl rfl rfl rfl rfl (Nat.le_of_ble_eq_true rfl) ⟨rfl, rfl, (Nat.le_of_ble_eq_true rfl), (Nat.le_of_ble_eq_true rfl)⟩ ⟨(Nat.le_of_ble_eq_true rfl), (Nat.le_of_ble_eq_true rfl)⟩ (fun r9 u9 h9 => ?_)
            obtain ⟨rfl, rfl⟩ := h9
            refine V.if_eqB (b := cfB spt val (stB (kn d) rep) nf (spt (byS (i)))) (tgt := 66) F d_A_conflictSpot_51 (by decide) (fun c51 => ?_) (fun c51 => ?_)
            · skip
              refine V.iincN (k := 1) (lv2 := [(5, .int (nI (i + 1))), (6, .int (nI (spt (byS (i))))), (4, .int (nI (z))), (0, .ref (ad 3)), (1, .ref (da (d) 1)), (2, .int (nI (lo))), (3, .int (k))]) F d_A_conflictSpot_66 1 rfl (by decide) (by decide) rfl ?_
              refine V.goto (tgt := 6) F d_A_conflictSpot_69 (by decide) ?_
              refine V.lvs [0, 2, 3, 4, 5, 6] rfl ?_
              exact ih6 (i + 1) (z) (by omega) (by omega) (by rw [hz, cnt, if_neg (show ¬ (decide (lo ≤ spt (byS i)) && (isF spt byS i && cfB spt val (stB (kn d) rep) nf (spt (byS i)))) = true by rw [c51]; simp)]; rfl) (ord_step hin (fun q _ => absurd q (show ¬ (decide (lo ≤ spt (byS i)) && (isF spt byS i && cfB spt val (stB (kn d) rep) nf (spt (byS i)))) = true by rw [c51]; simp)))
            · skip
              refine V.iload F d_A_conflictSpot_54 2 rfl ?_
              refine V.iload_n F d_A_conflictSpot_56 rfl 6 rfl ?_
              refine V.icmp_ne (x := nI (z)) (y := k) (tgt := 63) F d_A_conflictSpot_57 (by decide) (fun c57 => ?_) (fun c57 => ?_)
              · skip
                refine V.iincN (k := 1) (lv2 := [(4, .int (nI (z + 1))), (6, .int (nI (spt (byS (i))))), (5, .int (nI (i))), (0, .ref (ad 3)), (1, .ref (da (d) 1)), (2, .int (nI (lo))), (3, .int (k))]) F d_A_conflictSpot_63 2 rfl (by decide) (by decide) rfl ?_
                refine V.iincN (k := 1) (lv2 := [(5, .int (nI (i + 1))), (4, .int (nI (z + 1))), (6, .int (nI (spt (byS (i))))), (0, .ref (ad 3)), (1, .ref (da (d) 1)), (2, .int (nI (lo))), (3, .int (k))]) F d_A_conflictSpot_66 2 rfl (by decide) (by decide) rfl ?_
                refine V.goto (tgt := 6) F d_A_conflictSpot_69 (by decide) ?_
                refine V.lvs [0, 1, 3, 4, 5, 6] rfl ?_
                exact ih6 (i + 1) (z + 1) (by omega) (by omega) (by rw [hz, cnt, if_pos (show (decide (lo ≤ spt (byS i)) && (isF spt byS i && cfB spt val (stB (kn d) rep) nf (spt (byS i)))) = true by rw [decide_eq_true c32, c41, c51]; rfl)]) (ord_step hin (fun _ q => c57 (by rw [hz]; exact q.symm)))
              · skip
                refine V.iload F d_A_conflictSpot_60 0 rfl ?_
                exact V.iret F hr d_A_conflictSpot_62 (⟨Or.inl ⟨i, by omega, show (decide (lo ≤ spt (byS i)) && (isF spt byS i && cfB spt val (stB (kn d) rep) nf (spt (byS i)))) = true by rw [decide_eq_true c32, c41, c51]; rfl, by rw [← hz]; exact c57.symm, rfl⟩, rfl⟩)
  exact L6 _ (0) (0) (Nat.lt_succ_self _) (by omega) (rfl) (fun m hm => absurd hm (by omega))

set_option maxHeartbeats 4000000 in
set_option maxRecDepth 100000 in
theorem c_insN (l : Launch) (D : va_G) {ct : Nat → ClassId} {ad : Nat → Nat} {da : Nat → Nat → Nat} {nd : Nat} {nb : Nat} {nf : Nat} {bdk : Nat → Nat} {num : Nat → Nat} {spt : Nat → Nat} {val : Nat → Int64} {tim : Nat → Nat} {rep : Nat → Nat → Bool} {byN : Nat → Nat} {byS : Nat → Nat} {pk : Nat → Bool} {kn : Nat → Nat → Bool} {pe : Nat → Nat → Bool} {clk : Nat → Nat} {tol : Nat → Nat} {opn : Nat → Option Nat} (f : Nat) (hf : f < 300) (hbO : ∀ j, j < f → byN j < 300) (hkO : ∀ j, j < f → num (byN j) < 2 ^ 31) (hkf : num f < 2 ^ 31) : CV l y_A_insertByKey b_A_insertByKey 4 none (rmK 0 0 0) D (tyL ct) (CW ct ad da nd nb nf bdk num spt val tim rep byN byS pk kn pe clk tol opn) [.ref (ad 9), .ref (ad 4), .int (nI (f))] 0 0 (fun u => ∃ (pl : Nat) (Bf : Nat → Nat), (pl ≤ f ∧ (∀ j, j < pl → Bf j = byN j) ∧ Bf pl = f ∧ (∀ j, pl < j → j ≤ f → Bf j = byN (j - 1)) ∧ (∀ j, pl ≤ j → j < f → num f < num (byN j)) ∧ (∀ i, pl = i + 1 → num (byN i) ≤ num f)) ∧ u = CW ct ad da nd nb nf bdk num spt val tim rep Bf byS pk kn pe clk tol opn) := by
  refine CV.start (by decide) (Nat.le_of_ble_eq_true rfl) ?_
  intro p e s m below meth c F hr hnm
  show V p l e (rmK 0 0 0) s m [.ref (ad 9), .ref (ad 4), .int (nI (f))].toArray below meth c D (va_A (CW ct ad da nd nb nf bdk num spt val tim rep byN byS pk kn pe clk tol opn) s.heap.size) 4 0 0 (EV D below (CW ct ad da nd nb nf bdk num spt val tim rep byN byS pk kn pe clk tol opn) [.ref (ad 9), .ref (ad 4), .int (nI (f))].toArray s 0 0 (fun u => ∃ (pl : Nat) (Bf : Nat → Nat), (pl ≤ f ∧ (∀ j, j < pl → Bf j = byN j) ∧ Bf pl = f ∧ (∀ j, pl < j → j ≤ f → Bf j = byN (j - 1)) ∧ (∀ j, pl ≤ j → j < f → num f < num (byN j)) ∧ (∀ i, pl = i + 1 → num (byN i) ≤ num f)) ∧ u = CW ct ad da nd nb nf bdk num spt val tim rep Bf byS pk kn pe clk tol opn)) (CW ct ad da nd nb nf bdk num spt val tim rep byN byS pk kn pe clk tol opn) [(0, .ref (ad 9)), (1, .ref (ad 4)), (2, .int (nI (f)))] 0 []
  refine V.iload_n F d_A_insertByKey_0 rfl 2 rfl ?_
  refine V.istore_n (lv2 := [(3, .int (nI (f))), (0, .ref (ad 9)), (1, .ref (ad 4)), (2, .int (nI (f)))]) F d_A_insertByKey_1 rfl (by decide) rfl ?_
  have L2 : ∀ (n9 : Nat) (pl : Nat) (Bf : Nat → Nat), pl < n9 → (pl ≤ f) → (∀ j, j < pl → Bf j = byN j) → (∀ j, pl < j → j ≤ f → Bf j = byN (j - 1)) → (∀ j, pl ≤ j → j < f → num f < num (byN j)) → V p l e (rmK 0 0 0) s m [.ref (ad 9), .ref (ad 4), .int (nI (f))].toArray below meth c D (va_A (CW ct ad da nd nb nf bdk num spt val tim rep byN byS pk kn pe clk tol opn) s.heap.size) 4 0 0 (EV D below (CW ct ad da nd nb nf bdk num spt val tim rep byN byS pk kn pe clk tol opn) [.ref (ad 9), .ref (ad 4), .int (nI (f))].toArray s 0 0 (fun u => ∃ (pl : Nat) (Bf : Nat → Nat), (pl ≤ f ∧ (∀ j, j < pl → Bf j = byN j) ∧ Bf pl = f ∧ (∀ j, pl < j → j ≤ f → Bf j = byN (j - 1)) ∧ (∀ j, pl ≤ j → j < f → num f < num (byN j)) ∧ (∀ i, pl = i + 1 → num (byN i) ≤ num f)) ∧ u = CW ct ad da nd nb nf bdk num spt val tim rep Bf byS pk kn pe clk tol opn)) (CW ct ad da nd nb nf bdk num spt val tim rep Bf byS pk kn pe clk tol opn) [(3, .int (nI (pl))), (0, .ref (ad 9)), (1, .ref (ad 4)), (2, .int (nI (f)))] 2 [] := by
    intro n9
    induction n9 with
    | zero => intro pl Bf h9 hpl hB1 hB2 hgt; exact absurd h9 (Nat.not_lt_zero _)
    | succ n9 ih2 =>
      intro pl Bf h9 hpl hB1 hB2 hgt
      refine V.iload_n F d_A_insertByKey_2 rfl 0 rfl ?_
      refine V.if_leN (a := pl) (tgt := 33) F d_A_insertByKey_3 (by decide) (by omega) (fun c3 => ?_) (fun c3 => ?_)
      · skip
        refine V.aload_n F d_A_insertByKey_33 rfl 1 rfl ?_
        refine V.iload_n F d_A_insertByKey_34 rfl 0 rfl ?_
        refine V.iload_n F d_A_insertByKey_35 rfl 3 rfl ?_
        refine V.iast (ws2 := CW ct ad da nd nb nf bdk num spt val tim rep (va_up Bf (pl) (f)) byS pk kn pe clk tol opn) F d_A_insertByKey_36 9 0 rfl rfl (by omega) (by decide) (by rw [upd_nF]; exact cw_set_byN) ?_
        exact V.vret F hr d_A_insertByKey_37 (⟨pl, va_up Bf pl f, ⟨hpl, fun j hj => by rw [va_up_ne _ _ (by omega)]; exact hB1 j hj, va_up_self _ _ _, fun j h1 h2 => by rw [va_up_ne _ _ (by omega)]; exact hB2 j h1 h2, hgt, fun i q => absurd q (by omega)⟩, rfl⟩)
      · skip
        obtain ⟨pp, rfl⟩ : ∃ pp, pl = pp + 1 := ⟨pl - 1, by omega⟩
        have hb9 := hbO pp (by omega)
        have hk9 := hkO pp (by omega)
        have hB9 := hB1 pp (by omega)
        refine V.aload_n F d_A_insertByKey_6 rfl 2 rfl ?_
        refine V.aload_n F d_A_insertByKey_7 rfl 1 rfl ?_
        refine V.iload_n F d_A_insertByKey_8 rfl 0 rfl ?_
        refine V.iconst F d_A_insertByKey_9 (v := nI (1)) (by decide) ?_
        refine V.isubN F d_A_insertByKey_10 (by omega) ?_
        refine V.iald (v := nI (byN (pp))) F d_A_insertByKey_11 9 0 rfl rfl (by omega) (by decide) (by show nI (Bf pp) = _; rw [hB9]) ?_
        refine V.iald (v := nI (num (byN (pp)))) F d_A_insertByKey_12 4 0 rfl rfl (by omega) (by decide) rfl ?_
        refine V.aload_n F d_A_insertByKey_13 rfl 2 rfl ?_
        refine V.iload_n F d_A_insertByKey_14 rfl 3 rfl ?_
        refine V.iald (v := nI (num (f))) F d_A_insertByKey_15 4 0 rfl rfl (by omega) (by decide) rfl ?_
        refine V.icmp_leN (tgt := 33) F d_A_insertByKey_16 (by decide) (by omega) (by omega) (fun c16 => ?_) (fun c16 => ?_)
        · skip
          refine V.aload_n F d_A_insertByKey_33 rfl 1 rfl ?_
          refine V.iload_n F d_A_insertByKey_34 rfl 0 rfl ?_
          refine V.iload_n F d_A_insertByKey_35 rfl 3 rfl ?_
          refine V.iast (ws2 := CW ct ad da nd nb nf bdk num spt val tim rep (va_up Bf (pp + 1) (f)) byS pk kn pe clk tol opn) F d_A_insertByKey_36 9 0 rfl rfl (by omega) (by decide) (by rw [upd_nF]; exact cw_set_byN) ?_
          exact V.vret F hr d_A_insertByKey_37 (⟨pp + 1, va_up Bf (pp + 1) f, ⟨hpl, fun j hj => by rw [va_up_ne _ _ (by omega)]; exact hB1 j hj, va_up_self _ _ _, fun j h1 h2 => by rw [va_up_ne _ _ (by omega)]; exact hB2 j h1 h2, hgt, fun i q => by rw [show i = pp by omega]; exact c16⟩, rfl⟩)
        · skip
          refine V.aload_n F d_A_insertByKey_19 rfl 1 rfl ?_
          refine V.iload_n F d_A_insertByKey_20 rfl 0 rfl ?_
          refine V.aload_n F d_A_insertByKey_21 rfl 1 rfl ?_
          refine V.iload_n F d_A_insertByKey_22 rfl 0 rfl ?_
          refine V.iconst F d_A_insertByKey_23 (v := nI (1)) (by decide) ?_
          refine V.isubN F d_A_insertByKey_24 (by omega) ?_
          refine V.iald (v := nI (byN (pp))) F d_A_insertByKey_25 9 0 rfl rfl (by omega) (by decide) (by show nI (Bf pp) = _; rw [hB9]) ?_
          refine V.iast (ws2 := CW ct ad da nd nb nf bdk num spt val tim rep (va_up Bf (pp + 1) (byN (pp))) byS pk kn pe clk tol opn) F d_A_insertByKey_26 9 0 rfl rfl (by omega) (by decide) (by rw [upd_nF]; exact cw_set_byN) ?_
          refine V.idecN (lv2 := [(3, .int (nI (pp))), (0, .ref (ad 9)), (1, .ref (ad 4)), (2, .int (nI (f)))]) F d_A_insertByKey_27 0 rfl (by decide) rfl ?_
          refine V.goto (tgt := 2) F d_A_insertByKey_30 (by decide) ?_
          exact ih2 (pp) (va_up Bf (pp + 1) (byN pp)) (by omega) (by omega) (fun j hj => by rw [va_up_ne _ _ (by omega)]; exact hB1 j (by omega)) (fun j h1 h2 => by
          by_cases e9 : j = pp + 1
          · rw [e9, va_up_self]; rfl
          · rw [va_up_ne _ _ e9]; exact hB2 j (by omega) h2) (fun j h1 h2 => by
          by_cases e9 : j = pp
          · rw [e9]; exact c16
          · exact hgt j (by omega) h2)
  exact L2 _ (f) (byN) (Nat.lt_succ_self _) (Nat.le_refl _) (fun j _ => rfl) (fun j h1 h2 => absurd h1 (by omega)) (fun j h1 h2 => absurd h1 (by omega))

set_option maxHeartbeats 4000000 in
set_option maxRecDepth 100000 in
theorem c_insS (l : Launch) (D : va_G) {ct : Nat → ClassId} {ad : Nat → Nat} {da : Nat → Nat → Nat} {nd : Nat} {nb : Nat} {nf : Nat} {bdk : Nat → Nat} {num : Nat → Nat} {spt : Nat → Nat} {val : Nat → Int64} {tim : Nat → Nat} {rep : Nat → Nat → Bool} {byN : Nat → Nat} {byS : Nat → Nat} {pk : Nat → Bool} {kn : Nat → Nat → Bool} {pe : Nat → Nat → Bool} {clk : Nat → Nat} {tol : Nat → Nat} {opn : Nat → Option Nat} (f : Nat) (hf : f < 300) (hbO : ∀ j, j < f → byS j < 300) (hkO : ∀ j, j < f → spt (byS j) < 2 ^ 31) (hkf : spt f < 2 ^ 31) : CV l y_A_insertByKey b_A_insertByKey 4 none (rmK 0 0 0) D (tyL ct) (CW ct ad da nd nb nf bdk num spt val tim rep byN byS pk kn pe clk tol opn) [.ref (ad 10), .ref (ad 5), .int (nI (f))] 0 0 (fun u => ∃ (pl : Nat) (Bf : Nat → Nat), (pl ≤ f ∧ (∀ j, j < pl → Bf j = byS j) ∧ Bf pl = f ∧ (∀ j, pl < j → j ≤ f → Bf j = byS (j - 1)) ∧ (∀ j, pl ≤ j → j < f → spt f < spt (byS j)) ∧ (∀ i, pl = i + 1 → spt (byS i) ≤ spt f)) ∧ u = CW ct ad da nd nb nf bdk num spt val tim rep byN Bf pk kn pe clk tol opn) := by
  refine CV.start (by decide) (Nat.le_of_ble_eq_true rfl) ?_
  intro p e s m below meth c F hr hnm
  show V p l e (rmK 0 0 0) s m [.ref (ad 10), .ref (ad 5), .int (nI (f))].toArray below meth c D (va_A (CW ct ad da nd nb nf bdk num spt val tim rep byN byS pk kn pe clk tol opn) s.heap.size) 4 0 0 (EV D below (CW ct ad da nd nb nf bdk num spt val tim rep byN byS pk kn pe clk tol opn) [.ref (ad 10), .ref (ad 5), .int (nI (f))].toArray s 0 0 (fun u => ∃ (pl : Nat) (Bf : Nat → Nat), (pl ≤ f ∧ (∀ j, j < pl → Bf j = byS j) ∧ Bf pl = f ∧ (∀ j, pl < j → j ≤ f → Bf j = byS (j - 1)) ∧ (∀ j, pl ≤ j → j < f → spt f < spt (byS j)) ∧ (∀ i, pl = i + 1 → spt (byS i) ≤ spt f)) ∧ u = CW ct ad da nd nb nf bdk num spt val tim rep byN Bf pk kn pe clk tol opn)) (CW ct ad da nd nb nf bdk num spt val tim rep byN byS pk kn pe clk tol opn) [(0, .ref (ad 10)), (1, .ref (ad 5)), (2, .int (nI (f)))] 0 []
  refine V.iload_n F d_A_insertByKey_0 rfl 2 rfl ?_
  refine V.istore_n (lv2 := [(3, .int (nI (f))), (0, .ref (ad 10)), (1, .ref (ad 5)), (2, .int (nI (f)))]) F d_A_insertByKey_1 rfl (by decide) rfl ?_
  have L2 : ∀ (n9 : Nat) (pl : Nat) (Bf : Nat → Nat), pl < n9 → (pl ≤ f) → (∀ j, j < pl → Bf j = byS j) → (∀ j, pl < j → j ≤ f → Bf j = byS (j - 1)) → (∀ j, pl ≤ j → j < f → spt f < spt (byS j)) → V p l e (rmK 0 0 0) s m [.ref (ad 10), .ref (ad 5), .int (nI (f))].toArray below meth c D (va_A (CW ct ad da nd nb nf bdk num spt val tim rep byN byS pk kn pe clk tol opn) s.heap.size) 4 0 0 (EV D below (CW ct ad da nd nb nf bdk num spt val tim rep byN byS pk kn pe clk tol opn) [.ref (ad 10), .ref (ad 5), .int (nI (f))].toArray s 0 0 (fun u => ∃ (pl : Nat) (Bf : Nat → Nat), (pl ≤ f ∧ (∀ j, j < pl → Bf j = byS j) ∧ Bf pl = f ∧ (∀ j, pl < j → j ≤ f → Bf j = byS (j - 1)) ∧ (∀ j, pl ≤ j → j < f → spt f < spt (byS j)) ∧ (∀ i, pl = i + 1 → spt (byS i) ≤ spt f)) ∧ u = CW ct ad da nd nb nf bdk num spt val tim rep byN Bf pk kn pe clk tol opn)) (CW ct ad da nd nb nf bdk num spt val tim rep byN Bf pk kn pe clk tol opn) [(3, .int (nI (pl))), (0, .ref (ad 10)), (1, .ref (ad 5)), (2, .int (nI (f)))] 2 [] := by
    intro n9
    induction n9 with
    | zero => intro pl Bf h9 hpl hB1 hB2 hgt; exact absurd h9 (Nat.not_lt_zero _)
    | succ n9 ih2 =>
      intro pl Bf h9 hpl hB1 hB2 hgt
      refine V.iload_n F d_A_insertByKey_2 rfl 0 rfl ?_
      refine V.if_leN (a := pl) (tgt := 33) F d_A_insertByKey_3 (by decide) (by omega) (fun c3 => ?_) (fun c3 => ?_)
      · skip
        refine V.aload_n F d_A_insertByKey_33 rfl 1 rfl ?_
        refine V.iload_n F d_A_insertByKey_34 rfl 0 rfl ?_
        refine V.iload_n F d_A_insertByKey_35 rfl 3 rfl ?_
        refine V.iast (ws2 := CW ct ad da nd nb nf bdk num spt val tim rep byN (va_up Bf (pl) (f)) pk kn pe clk tol opn) F d_A_insertByKey_36 10 0 rfl rfl (by omega) (by decide) (by rw [upd_nF]; exact cw_set_byS) ?_
        exact V.vret F hr d_A_insertByKey_37 (⟨pl, va_up Bf pl f, ⟨hpl, fun j hj => by rw [va_up_ne _ _ (by omega)]; exact hB1 j hj, va_up_self _ _ _, fun j h1 h2 => by rw [va_up_ne _ _ (by omega)]; exact hB2 j h1 h2, hgt, fun i q => absurd q (by omega)⟩, rfl⟩)
      · skip
        obtain ⟨pp, rfl⟩ : ∃ pp, pl = pp + 1 := ⟨pl - 1, by omega⟩
        have hb9 := hbO pp (by omega)
        have hk9 := hkO pp (by omega)
        have hB9 := hB1 pp (by omega)
        refine V.aload_n F d_A_insertByKey_6 rfl 2 rfl ?_
        refine V.aload_n F d_A_insertByKey_7 rfl 1 rfl ?_
        refine V.iload_n F d_A_insertByKey_8 rfl 0 rfl ?_
        refine V.iconst F d_A_insertByKey_9 (v := nI (1)) (by decide) ?_
        refine V.isubN F d_A_insertByKey_10 (by omega) ?_
        refine V.iald (v := nI (byS (pp))) F d_A_insertByKey_11 10 0 rfl rfl (by omega) (by decide) (by show nI (Bf pp) = _; rw [hB9]) ?_
        refine V.iald (v := nI (spt (byS (pp)))) F d_A_insertByKey_12 5 0 rfl rfl (by omega) (by decide) rfl ?_
        refine V.aload_n F d_A_insertByKey_13 rfl 2 rfl ?_
        refine V.iload_n F d_A_insertByKey_14 rfl 3 rfl ?_
        refine V.iald (v := nI (spt (f))) F d_A_insertByKey_15 5 0 rfl rfl (by omega) (by decide) rfl ?_
        refine V.icmp_leN (tgt := 33) F d_A_insertByKey_16 (by decide) (by omega) (by omega) (fun c16 => ?_) (fun c16 => ?_)
        · skip
          refine V.aload_n F d_A_insertByKey_33 rfl 1 rfl ?_
          refine V.iload_n F d_A_insertByKey_34 rfl 0 rfl ?_
          refine V.iload_n F d_A_insertByKey_35 rfl 3 rfl ?_
          refine V.iast (ws2 := CW ct ad da nd nb nf bdk num spt val tim rep byN (va_up Bf (pp + 1) (f)) pk kn pe clk tol opn) F d_A_insertByKey_36 10 0 rfl rfl (by omega) (by decide) (by rw [upd_nF]; exact cw_set_byS) ?_
          exact V.vret F hr d_A_insertByKey_37 (⟨pp + 1, va_up Bf (pp + 1) f, ⟨hpl, fun j hj => by rw [va_up_ne _ _ (by omega)]; exact hB1 j hj, va_up_self _ _ _, fun j h1 h2 => by rw [va_up_ne _ _ (by omega)]; exact hB2 j h1 h2, hgt, fun i q => by rw [show i = pp by omega]; exact c16⟩, rfl⟩)
        · skip
          refine V.aload_n F d_A_insertByKey_19 rfl 1 rfl ?_
          refine V.iload_n F d_A_insertByKey_20 rfl 0 rfl ?_
          refine V.aload_n F d_A_insertByKey_21 rfl 1 rfl ?_
          refine V.iload_n F d_A_insertByKey_22 rfl 0 rfl ?_
          refine V.iconst F d_A_insertByKey_23 (v := nI (1)) (by decide) ?_
          refine V.isubN F d_A_insertByKey_24 (by omega) ?_
          refine V.iald (v := nI (byS (pp))) F d_A_insertByKey_25 10 0 rfl rfl (by omega) (by decide) (by show nI (Bf pp) = _; rw [hB9]) ?_
          refine V.iast (ws2 := CW ct ad da nd nb nf bdk num spt val tim rep byN (va_up Bf (pp + 1) (byS (pp))) pk kn pe clk tol opn) F d_A_insertByKey_26 10 0 rfl rfl (by omega) (by decide) (by rw [upd_nF]; exact cw_set_byS) ?_
          refine V.idecN (lv2 := [(3, .int (nI (pp))), (0, .ref (ad 10)), (1, .ref (ad 5)), (2, .int (nI (f)))]) F d_A_insertByKey_27 0 rfl (by decide) rfl ?_
          refine V.goto (tgt := 2) F d_A_insertByKey_30 (by decide) ?_
          exact ih2 (pp) (va_up Bf (pp + 1) (byS pp)) (by omega) (by omega) (fun j hj => by rw [va_up_ne _ _ (by omega)]; exact hB1 j (by omega)) (fun j h1 h2 => by
          by_cases e9 : j = pp + 1
          · rw [e9, va_up_self]; rfl
          · rw [va_up_ne _ _ e9]; exact hB2 j (by omega) h2) (fun j h1 h2 => by
          by_cases e9 : j = pp
          · rw [e9]; exact c16
          · exact hgt j (by omega) h2)
  exact L2 _ (f) (byS) (Nat.lt_succ_self _) (Nat.le_refl _) (fun j _ => rfl) (fun j h1 h2 => absurd h1 (by omega)) (fun j h1 h2 => absurd h1 (by omega))

set_option maxHeartbeats 4000000 in
set_option maxRecDepth 100000 in
theorem c_appendFull (l : Launch) (D : va_G) {ct : Nat → ClassId} {ad : Nat → Nat} {da : Nat → Nat → Nat} {nd : Nat} {nb : Nat} {nf : Nat} {bdk : Nat → Nat} {num : Nat → Nat} {spt : Nat → Nat} {val : Nat → Int64} {tim : Nat → Nat} {rep : Nat → Nat → Bool} {byN : Nat → Nat} {byS : Nat → Nat} {pk : Nat → Bool} {kn : Nat → Nat → Bool} {pe : Nat → Nat → Bool} {clk : Nat → Nat} {tol : Nat → Nat} {opn : Nat → Option Nat} (x sp t : Nat) (v : Int64) (hnf : nf = 300) : CI l y_A_append b_A_append 9 (some .int) (rmK 2 0 0) D (tyL ct) (CW ct ad da nd nb nf bdk num spt val tim rep byN byS pk kn pe clk tol opn) [.ref (ad 3), .int (nI (x)), .int (nI (sp)), .long (v), .int (nI (t)), .ref (ad 11)] 0 0 (fun r u => r = -1 ∧ u = CW ct ad da nd nb nf bdk num spt val tim rep byN byS pk kn pe clk tol opn) := by
  refine CI.start (by decide) (Nat.le_of_ble_eq_true rfl) ?_
  intro p e s m below meth c F hr hnm
  show V p l e (rmK 2 0 0) s m [.ref (ad 3), .int (nI (x)), .int (nI (sp)), .long (v), .int (nI (t)), .ref (ad 11)].toArray below meth c D (va_A (CW ct ad da nd nb nf bdk num spt val tim rep byN byS pk kn pe clk tol opn) s.heap.size) 9 0 0 (EI D below (CW ct ad da nd nb nf bdk num spt val tim rep byN byS pk kn pe clk tol opn) [.ref (ad 3), .int (nI (x)), .int (nI (sp)), .long (v), .int (nI (t)), .ref (ad 11)].toArray s 0 0 (fun r u => r = -1 ∧ u = CW ct ad da nd nb nf bdk num spt val tim rep byN byS pk kn pe clk tol opn)) (CW ct ad da nd nb nf bdk num spt val tim rep byN byS pk kn pe clk tol opn) [(0, .ref (ad 3)), (1, .int (nI (x))), (2, .int (nI (sp))), (3, .long (v)), (5, .int (nI (t))), (6, .ref (ad 11))] 0 []
  refine V.aload_n F d_A_append_0 rfl 0 rfl ?_
  refine V.get F ck_A d_A_append_1 7 (by decide) lk_A_36 3 rfl rfl ?_
  refine V.sipush F d_A_append_4 (v := nI (300)) (by decide) ?_
  refine V.icmp_ltN (tgt := 12) F d_A_append_7 (by decide) (by omega) (by omega) (fun c7 => ?_) (fun c7 => ?_)
  · skip
    exact absurd c7 (by omega)
  · skip
    refine V.iconst F d_A_append_10 (v := -1) (by decide) ?_
    exact V.iret F hr d_A_append_11 (⟨rfl, rfl⟩)

set_option maxHeartbeats 4000000 in
set_option maxRecDepth 100000 in
theorem c_append (l : Launch) (D : va_G) {ct : Nat → ClassId} {ad : Nat → Nat} {da : Nat → Nat → Nat} {nd : Nat} {nb : Nat} {nf : Nat} {bdk : Nat → Nat} {num : Nat → Nat} {spt : Nat → Nat} {val : Nat → Int64} {tim : Nat → Nat} {rep : Nat → Nat → Bool} {byN : Nat → Nat} {byS : Nat → Nat} {pk : Nat → Bool} {kn : Nat → Nat → Bool} {pe : Nat → Nat → Bool} {clk : Nat → Nat} {tol : Nat → Nat} {opn : Nat → Option Nat} (x sp t : Nat) (v : Int64) (hlt : nf < 300) (hbN : ∀ j, j < nf → byN j < nf) (hbS : ∀ j, j < nf → byS j < nf) (hnum : ∀ k, k < nf → num k < 2 ^ 31) (hspt : ∀ k, k < nf → spt k < 2 ^ 31) (hx : x < 2 ^ 31) (hsp : sp < 2 ^ 31) : CI l y_A_append b_A_append 9 (some .int) (rmK 2 0 0) D (tyL ct) (CW ct ad da nd nb nf bdk num spt val tim rep byN byS pk kn pe clk tol opn) [.ref (ad 3), .int (nI (x)), .int (nI (sp)), .long (v), .int (nI (t)), .ref (ad 11)] 0 0 (fun r u => r = nI nf ∧ ∃ (Rp : Nat → Nat → Bool) (p1 p2 : Nat) (B1 B2 : Nat → Nat), (∀ o n, Rp o n = (rep o n || (decide (o < nf) && (pk o && decide (n = nf))))) ∧ (p1 ≤ nf ∧ (∀ j, j < p1 → B1 j = byN j) ∧ B1 p1 = nf ∧ (∀ j, p1 < j → j ≤ nf → B1 j = byN (j - 1)) ∧ (∀ j, p1 ≤ j → j < nf → va_up num nf x nf < va_up num nf x (byN j)) ∧ (∀ i, p1 = i + 1 → va_up num nf x (byN i) ≤ va_up num nf x nf)) ∧ (p2 ≤ nf ∧ (∀ j, j < p2 → B2 j = byS j) ∧ B2 p2 = nf ∧ (∀ j, p2 < j → j ≤ nf → B2 j = byS (j - 1)) ∧ (∀ j, p2 ≤ j → j < nf → va_up spt nf sp nf < va_up spt nf sp (byS j)) ∧ (∀ i, p2 = i + 1 → va_up spt nf sp (byS i) ≤ va_up spt nf sp nf)) ∧ u = CW ct ad da nd nb (nf + 1) bdk (va_up num nf x) (va_up spt nf sp) (va_up val nf v) (va_up tim nf t) Rp B1 B2 pk kn pe clk tol opn) := by
  refine CI.start (by decide) (Nat.le_of_ble_eq_true rfl) ?_
  intro p e s m below meth c F hr hnm
  show V p l e (rmK 2 0 0) s m [.ref (ad 3), .int (nI (x)), .int (nI (sp)), .long (v), .int (nI (t)), .ref (ad 11)].toArray below meth c D (va_A (CW ct ad da nd nb nf bdk num spt val tim rep byN byS pk kn pe clk tol opn) s.heap.size) 9 0 0 (EI D below (CW ct ad da nd nb nf bdk num spt val tim rep byN byS pk kn pe clk tol opn) [.ref (ad 3), .int (nI (x)), .int (nI (sp)), .long (v), .int (nI (t)), .ref (ad 11)].toArray s 0 0 (fun r u => r = nI nf ∧ ∃ (Rp : Nat → Nat → Bool) (p1 p2 : Nat) (B1 B2 : Nat → Nat), (∀ o n, Rp o n = (rep o n || (decide (o < nf) && (pk o && decide (n = nf))))) ∧ (p1 ≤ nf ∧ (∀ j, j < p1 → B1 j = byN j) ∧ B1 p1 = nf ∧ (∀ j, p1 < j → j ≤ nf → B1 j = byN (j - 1)) ∧ (∀ j, p1 ≤ j → j < nf → va_up num nf x nf < va_up num nf x (byN j)) ∧ (∀ i, p1 = i + 1 → va_up num nf x (byN i) ≤ va_up num nf x nf)) ∧ (p2 ≤ nf ∧ (∀ j, j < p2 → B2 j = byS j) ∧ B2 p2 = nf ∧ (∀ j, p2 < j → j ≤ nf → B2 j = byS (j - 1)) ∧ (∀ j, p2 ≤ j → j < nf → va_up spt nf sp nf < va_up spt nf sp (byS j)) ∧ (∀ i, p2 = i + 1 → va_up spt nf sp (byS i) ≤ va_up spt nf sp nf)) ∧ u = CW ct ad da nd nb (nf + 1) bdk (va_up num nf x) (va_up spt nf sp) (va_up val nf v) (va_up tim nf t) Rp B1 B2 pk kn pe clk tol opn)) (CW ct ad da nd nb nf bdk num spt val tim rep byN byS pk kn pe clk tol opn) [(0, .ref (ad 3)), (1, .int (nI (x))), (2, .int (nI (sp))), (3, .long (v)), (5, .int (nI (t))), (6, .ref (ad 11))] 0 []
  refine V.aload_n F d_A_append_0 rfl 0 rfl ?_
  refine V.get F ck_A d_A_append_1 7 (by decide) lk_A_36 3 rfl rfl ?_
  refine V.sipush F d_A_append_4 (v := nI (300)) (by decide) ?_
  refine V.icmp_ltN (tgt := 12) F d_A_append_7 (by decide) (by omega) (by omega) (fun c7 => ?_) (fun c7 => ?_)
  · skip
    refine V.aload_n F d_A_append_12 rfl 0 rfl ?_
    refine V.get F ck_A d_A_append_13 7 (by decide) lk_A_36 3 rfl rfl ?_
    refine V.istore (lv2 := [(7, .int (nI (nf))), (0, .ref (ad 3)), (1, .int (nI (x))), (2, .int (nI (sp))), (3, .long (v)), (5, .int (nI (t))), (6, .ref (ad 11))]) F d_A_append_16 (by decide) rfl ?_
    refine V.aload_n F d_A_append_18 rfl 1 rfl ?_
    refine V.get F ck_A d_A_append_19 0 (by decide) lk_A_9 3 rfl rfl ?_
    refine V.iload F d_A_append_22 0 rfl ?_
    refine V.iload_n F d_A_append_24 rfl 2 rfl ?_
    refine V.iast (ws2 := CW ct ad da nd nb nf bdk (va_up num (nf) (x)) spt val tim rep byN byS pk kn pe clk tol opn) F d_A_append_25 4 0 rfl rfl (by omega) (by decide) (by rw [upd_nF]; exact cw_set_num) ?_
    refine V.aload_n F d_A_append_26 rfl 1 rfl ?_
    refine V.get F ck_A d_A_append_27 1 (by decide) lk_A_15 3 rfl rfl ?_
    refine V.iload F d_A_append_30 0 rfl ?_
    refine V.iload_n F d_A_append_32 rfl 3 rfl ?_
    refine V.iast (ws2 := CW ct ad da nd nb nf bdk (va_up num (nf) (x)) (va_up spt (nf) (sp)) val tim rep byN byS pk kn pe clk tol opn) F d_A_append_33 5 0 rfl rfl (by omega) (by decide) (by rw [upd_nF]; exact cw_set_spt) ?_
    refine V.aload_n F d_A_append_34 rfl 1 rfl ?_
    refine V.get F ck_A d_A_append_35 2 (by decide) lk_A_18 3 rfl rfl ?_
    refine V.iload F d_A_append_38 0 rfl ?_
    refine V.lload_n F d_A_append_40 rfl 4 rfl ?_
    refine V.last (ws2 := CW ct ad da nd nb nf bdk (va_up num (nf) (x)) (va_up spt (nf) (sp)) (va_up val (nf) (v)) tim rep byN byS pk kn pe clk tol opn) F d_A_append_41 6 1 rfl rfl (by omega) (by decide) (by rw [updL_up]; exact cw_set_val) ?_
    refine V.aload_n F d_A_append_42 rfl 1 rfl ?_
    refine V.get F ck_A d_A_append_43 3 (by decide) lk_A_22 3 rfl rfl ?_
    refine V.iload F d_A_append_46 0 rfl ?_
    refine V.iload F d_A_append_48 5 rfl ?_
    refine V.iast (ws2 := CW ct ad da nd nb nf bdk (va_up num (nf) (x)) (va_up spt (nf) (sp)) (va_up val (nf) (v)) (va_up tim (nf) (t)) rep byN byS pk kn pe clk tol opn) F d_A_append_50 7 0 rfl rfl (by omega) (by decide) (by rw [upd_nF]; exact cw_set_tim) ?_
    refine V.iconst F d_A_append_51 (v := nI (0)) (by decide) ?_
    refine V.istore (lv2 := [(8, .int (nI (0))), (7, .int (nI (nf))), (0, .ref (ad 3)), (1, .int (nI (x))), (2, .int (nI (sp))), (3, .long (v)), (5, .int (nI (t))), (6, .ref (ad 11))]) F d_A_append_52 (by decide) rfl ?_
    have L54 : ∀ (n9 : Nat) (i : Nat) (Rp : Nat → Nat → Bool), nf - i < n9 → (i ≤ nf) → (∀ o n, Rp o n = (rep o n || (decide (o < i) && (pk o && decide (n = nf))))) → V p l e (rmK 2 0 0) s m [.ref (ad 3), .int (nI (x)), .int (nI (sp)), .long (v), .int (nI (t)), .ref (ad 11)].toArray below meth c D (va_A (CW ct ad da nd nb nf bdk num spt val tim rep byN byS pk kn pe clk tol opn) s.heap.size) 9 0 0 (EI D below (CW ct ad da nd nb nf bdk num spt val tim rep byN byS pk kn pe clk tol opn) [.ref (ad 3), .int (nI (x)), .int (nI (sp)), .long (v), .int (nI (t)), .ref (ad 11)].toArray s 0 0 (fun r u => r = nI nf ∧ ∃ (Rp : Nat → Nat → Bool) (p1 p2 : Nat) (B1 B2 : Nat → Nat), (∀ o n, Rp o n = (rep o n || (decide (o < nf) && (pk o && decide (n = nf))))) ∧ (p1 ≤ nf ∧ (∀ j, j < p1 → B1 j = byN j) ∧ B1 p1 = nf ∧ (∀ j, p1 < j → j ≤ nf → B1 j = byN (j - 1)) ∧ (∀ j, p1 ≤ j → j < nf → va_up num nf x nf < va_up num nf x (byN j)) ∧ (∀ i, p1 = i + 1 → va_up num nf x (byN i) ≤ va_up num nf x nf)) ∧ (p2 ≤ nf ∧ (∀ j, j < p2 → B2 j = byS j) ∧ B2 p2 = nf ∧ (∀ j, p2 < j → j ≤ nf → B2 j = byS (j - 1)) ∧ (∀ j, p2 ≤ j → j < nf → va_up spt nf sp nf < va_up spt nf sp (byS j)) ∧ (∀ i, p2 = i + 1 → va_up spt nf sp (byS i) ≤ va_up spt nf sp nf)) ∧ u = CW ct ad da nd nb (nf + 1) bdk (va_up num nf x) (va_up spt nf sp) (va_up val nf v) (va_up tim nf t) Rp B1 B2 pk kn pe clk tol opn)) (CW ct ad da nd nb nf bdk (va_up num nf x) (va_up spt nf sp) (va_up val nf v) (va_up tim nf t) Rp byN byS pk kn pe clk tol opn) [(8, .int (nI (i))), (7, .int (nI (nf))), (0, .ref (ad 3)), (1, .int (nI (x))), (2, .int (nI (sp))), (3, .long (v)), (5, .int (nI (t))), (6, .ref (ad 11))] 54 [] := by
      intro n9
      induction n9 with
      | zero => intro i Rp h9 hi hR; exact absurd h9 (Nat.not_lt_zero _)
      | succ n9 ih54 =>
        intro i Rp h9 hi hR
        refine V.iload F d_A_append_54 0 rfl ?_
        refine V.iload F d_A_append_56 1 rfl ?_
        refine V.icmp_geN (tgt := 102) F d_A_append_58 (by decide) (by omega) (by omega) (fun c58 => ?_) (fun c58 => ?_)
        · skip
          refine V.aload_n F d_A_append_102 rfl 2 rfl ?_
          refine V.get F ck_A d_A_append_103 5 (by decide) lk_A_30 3 rfl rfl ?_
          refine V.aload_n F d_A_append_106 rfl 2 rfl ?_
          refine V.get F ck_A d_A_append_107 0 (by decide) lk_A_9 3 rfl rfl ?_
          refine V.iload F d_A_append_110 1 rfl ?_
          refine V.callSV0 (As := [.ref (ad 9), .ref (ad 4), .int (nI (nf))]) (rest := []) F (c_insN l D nf hlt (fun j hj => by have := hbN j hj; omega) (fun j hj => by have := hbN j hj; rw [va_up_ne _ _ (by omega)]; exact hnum _ this) (by rw [va_up_self]; exact hx)) d_A_append_112 sv_A_44 st_y_A_insertByKey rfl rfl (Nat.le_of_ble_eq_true rfl) ⟨rfl, rfl, (Nat.le_of_ble_eq_true rfl), (Nat.le_of_ble_eq_true rfl)⟩ ⟨(Nat.le_of_ble_eq_true rfl), (Nat.le_of_ble_eq_true rfl)⟩ (fun u9 h9 => ?_)
          obtain ⟨p1, B1, hB1, rfl⟩ := h9
          refine V.aload_n F d_A_append_115 rfl 2 rfl ?_
          refine V.get F ck_A d_A_append_116 6 (by decide) lk_A_33 3 rfl rfl ?_
          refine V.aload_n F d_A_append_119 rfl 2 rfl ?_
          refine V.get F ck_A d_A_append_120 1 (by decide) lk_A_15 3 rfl rfl ?_
          refine V.iload F d_A_append_123 1 rfl ?_
          refine V.callSV0 (As := [.ref (ad 10), .ref (ad 5), .int (nI (nf))]) (rest := []) F (c_insS l D nf hlt (fun j hj => by have := hbS j hj; omega) (fun j hj => by have := hbS j hj; rw [va_up_ne _ _ (by omega)]; exact hspt _ this) (by rw [va_up_self]; exact hsp)) d_A_append_125 sv_A_44 st_y_A_insertByKey rfl rfl (Nat.le_of_ble_eq_true rfl) ⟨rfl, rfl, (Nat.le_of_ble_eq_true rfl), (Nat.le_of_ble_eq_true rfl)⟩ ⟨(Nat.le_of_ble_eq_true rfl), (Nat.le_of_ble_eq_true rfl)⟩ (fun u9 h9 => ?_)
          obtain ⟨p2, B2, hB2, rfl⟩ := h9
          refine V.aload_n F d_A_append_128 rfl 2 rfl ?_
          refine V.dup F d_A_append_129 rfl ?_
          refine V.get F ck_A d_A_append_130 7 (by decide) lk_A_36 3 rfl rfl ?_
          refine V.iconst F d_A_append_133 (v := nI (1)) (by decide) ?_
          refine V.iaddN F d_A_append_134 ?_
          refine V.put (ws2 := CW ct ad da nd nb ((nf) + (1)) bdk (va_up num nf x) (va_up spt nf sp) (va_up val nf v) (va_up tim nf t) Rp B1 B2 pk kn pe clk tol opn) F ck_A d_A_append_135 7 (by decide) lk_A_36 3 rfl rfl rfl rfl (Nat.le_of_ble_eq_true rfl) cw_set_nf ?_
          refine V.iload F d_A_append_138 1 rfl ?_
          exact V.iret F hr d_A_append_140 (⟨rfl, Rp, p1, p2, B1, B2, by rw [show i = nf by omega] at hR; exact hR, hB1, hB2, rfl⟩)
        · skip
          refine V.aload F d_A_append_61 7 rfl ?_
          refine V.iload F d_A_append_63 0 rfl ?_
          refine V.callVI0 (As := [.int (nI (i))]) (rest := []) F (c_has l D none trivial i (by omega)) d_A_append_65 sv_A_40 im_y_S_has sl_y_S_has 11 rfl rfl rfl rfl rfl (Nat.le_of_ble_eq_true rfl) ⟨rfl, rfl, (Nat.le_of_ble_eq_true rfl), (Nat.le_of_ble_eq_true rfl)⟩ ⟨(Nat.le_of_ble_eq_true rfl), (Nat.le_of_ble_eq_true rfl)⟩ (fun r9 u9 h9 => ?_)
          obtain ⟨rfl, rfl⟩ := h9
          refine V.if_eqB (b := pk (i)) (tgt := 96) F d_A_append_68 (by decide) (fun c68 => ?_) (fun c68 => ?_)
          · skip
            refine V.iincN (k := 1) (lv2 := [(8, .int (nI (i + 1))), (7, .int (nI (nf))), (0, .ref (ad 3)), (1, .int (nI (x))), (2, .int (nI (sp))), (3, .long (v)), (5, .int (nI (t))), (6, .ref (ad 11))]) F d_A_append_96 0 rfl (by decide) (by decide) rfl ?_
            refine V.goto (tgt := 54) F d_A_append_99 (by decide) ?_
            exact ih54 (i + 1) (Rp) (by omega) (by omega) (rp_step0 hR c68)
          · skip
            refine V.aload_n F d_A_append_71 rfl 2 rfl ?_
            refine V.get F ck_A d_A_append_72 4 (by decide) lk_A_27 3 rfl rfl ?_
            refine V.iload F d_A_append_75 0 rfl ?_
            refine V.iconst F d_A_append_77 (v := nI (5)) (by decide) ?_
            refine V.imulN F d_A_append_78 ?_
            refine V.iload F d_A_append_79 1 rfl ?_
            refine V.bipush F d_A_append_81 (v := nI (64)) (by decide) ?_
            refine V.idivN F d_A_append_83 (by omega) (by decide) (by decide) ?_
            refine V.iaddN F d_A_append_84 ?_
            refine V.dup2_11 F d_A_append_85 rfl rfl ?_
            refine V.lald (v := rpW Rp (((i) * (5)) + ((nf) / (64)))) F d_A_append_86 8 1 rfl rfl (by omega) (by decide) rfl ?_
            refine V.lconst F d_A_append_87 (v := 1) (by decide) ?_
            refine V.iload F d_A_append_88 1 rfl ?_
            refine V.bipush F d_A_append_90 (v := nI (64)) (by decide) ?_
            refine V.iremN F d_A_append_92 (by omega) (by decide) (by decide) ?_
            refine V.lshl F d_A_append_93 (v := (1) <<< ((nI ((nf) % (64))).toInt64 &&& 63)) rfl ?_
            refine V.lor F d_A_append_94 (v := (rpW Rp (((i) * (5)) + ((nf) / (64)))) ||| ((1) <<< ((nI ((nf) % (64))).toInt64 &&& 63))) rfl ?_
            refine V.last (ws2 := CW ct ad da nd nb nf bdk (va_up num nf x) (va_up spt nf sp) (va_up val nf v) (va_up tim nf t) (fun o n => Rp o n || (decide (o = i) && decide (n = nf))) byN byS pk kn pe clk tol opn) F d_A_append_95 8 1 rfl rfl (by omega) (by decide) (by rw [rp_upd (by omega)]; exact cw_set_rep) ?_
            refine V.iincN (k := 1) (lv2 := [(8, .int (nI (i + 1))), (7, .int (nI (nf))), (0, .ref (ad 3)), (1, .int (nI (x))), (2, .int (nI (sp))), (3, .long (v)), (5, .int (nI (t))), (6, .ref (ad 11))]) F d_A_append_96 0 rfl (by decide) (by decide) rfl ?_
            refine V.goto (tgt := 54) F d_A_append_99 (by decide) ?_
            exact ih54 (i + 1) (fun o n => Rp o n || (decide (o = i) && decide (n = nf))) (by omega) (by omega) (rp_step1 hR c68)
    exact L54 _ (0) (rep) (Nat.lt_succ_self _) (by omega) (fun o n => by simp)
  · skip
    exact absurd c7 (by omega)
end
section
set_option maxHeartbeats 4000000 in
set_option maxRecDepth 100000 in
theorem c_nextNumber (l : Launch) (D : va_G) {ct : Nat → ClassId} {ad : Nat → Nat} {da : Nat → Nat → Nat} {nd : Nat} {nb : Nat} {nf : Nat} {bdk : Nat → Nat} {num : Nat → Nat} {spt : Nat → Nat} {val : Nat → Int64} {tim : Nat → Nat} {rep : Nat → Nat → Bool} {byN : Nat → Nat} {byS : Nat → Nat} {pk : Nat → Bool} {kn : Nat → Nat → Bool} {pe : Nat → Nat → Bool} {clk : Nat → Nat} {tol : Nat → Nat} {opn : Nat → Option Nat} (d : Nat) (hd0 : d < nd) : CI l y_K_nextNumber b_K_nextNumber 1 (some .int) (rmK 0 0 0) D (tyL ct) (CW ct ad da nd nb nf bdk num spt val tim rep byN byS pk kn pe clk tol opn) [.ref (da (d) 0)] 0 0 (fun r u => r = nI (8 * tol d + d) ∧ u = CW ct ad da nd nb nf bdk num spt val tim rep byN byS pk kn pe clk tol opn) := by
  refine CI.start (by decide) (Nat.le_of_ble_eq_true rfl) ?_
  intro p e s m below meth c F hr hnm
  show V p l e (rmK 0 0 0) s m [.ref (da (d) 0)].toArray below meth c D (va_A (CW ct ad da nd nb nf bdk num spt val tim rep byN byS pk kn pe clk tol opn) s.heap.size) 1 0 0 (EI D below (CW ct ad da nd nb nf bdk num spt val tim rep byN byS pk kn pe clk tol opn) [.ref (da (d) 0)].toArray s 0 0 (fun r u => r = nI (8 * tol d + d) ∧ u = CW ct ad da nd nb nf bdk num spt val tim rep byN byS pk kn pe clk tol opn)) (CW ct ad da nd nb nf bdk num spt val tim rep byN byS pk kn pe clk tol opn) [(0, .ref (da (d) 0))] 0 []
  refine V.bipush F d_K_nextNumber_0 (v := nI (8)) (by decide) ?_
  refine V.aload_n F d_K_nextNumber_2 rfl 0 rfl ?_
  refine V.get F ck_K d_K_nextNumber_3 4 (by decide) lk_K_28 (13 + (5 * (d) + 0)) (cw_d0 hd0) rfl ?_
  refine V.imulN F d_K_nextNumber_6 ?_
  refine V.aload_n F d_K_nextNumber_7 rfl 0 rfl ?_
  refine V.get F ck_K d_K_nextNumber_8 0 (by decide) lk_K_25 (13 + (5 * (d) + 0)) (cw_d0 hd0) rfl ?_
  refine V.iaddN F d_K_nextNumber_11 ?_
  exact V.iret F hr d_K_nextNumber_12 (⟨rfl, rfl⟩)

set_option maxHeartbeats 4000000 in
set_option maxRecDepth 100000 in
theorem c_nextTime (l : Launch) (D : va_G) {ct : Nat → ClassId} {ad : Nat → Nat} {da : Nat → Nat → Nat} {nd : Nat} {nb : Nat} {nf : Nat} {bdk : Nat → Nat} {num : Nat → Nat} {spt : Nat → Nat} {val : Nat → Int64} {tim : Nat → Nat} {rep : Nat → Nat → Bool} {byN : Nat → Nat} {byS : Nat → Nat} {pk : Nat → Bool} {kn : Nat → Nat → Bool} {pe : Nat → Nat → Bool} {clk : Nat → Nat} {tol : Nat → Nat} {opn : Nat → Option Nat} (d : Nat) (hd0 : d < nd) : CI l y_K_nextTime b_K_nextTime 1 (some .int) (rmK 0 0 0) D (tyL ct) (CW ct ad da nd nb nf bdk num spt val tim rep byN byS pk kn pe clk tol opn) [.ref (da (d) 0)] 0 0 (fun r u => r = nI (clk d + 1) ∧ u = CW ct ad da nd nb nf bdk num spt val tim rep byN byS pk kn pe clk tol opn) := by
  refine CI.start (by decide) (Nat.le_of_ble_eq_true rfl) ?_
  intro p e s m below meth c F hr hnm
  show V p l e (rmK 0 0 0) s m [.ref (da (d) 0)].toArray below meth c D (va_A (CW ct ad da nd nb nf bdk num spt val tim rep byN byS pk kn pe clk tol opn) s.heap.size) 1 0 0 (EI D below (CW ct ad da nd nb nf bdk num spt val tim rep byN byS pk kn pe clk tol opn) [.ref (da (d) 0)].toArray s 0 0 (fun r u => r = nI (clk d + 1) ∧ u = CW ct ad da nd nb nf bdk num spt val tim rep byN byS pk kn pe clk tol opn)) (CW ct ad da nd nb nf bdk num spt val tim rep byN byS pk kn pe clk tol opn) [(0, .ref (da (d) 0))] 0 []
  refine V.aload_n F d_K_nextTime_0 rfl 0 rfl ?_
  refine V.get F ck_K d_K_nextTime_1 3 (by decide) lk_K_31 (13 + (5 * (d) + 0)) (cw_d0 hd0) rfl ?_
  refine V.iconst F d_K_nextTime_4 (v := nI (1)) (by decide) ?_
  refine V.iaddN F d_K_nextTime_5 ?_
  exact V.iret F hr d_K_nextTime_6 (⟨rfl, rfl⟩)

set_option maxHeartbeats 4000000 in
set_option maxRecDepth 100000 in
theorem c_hearK (l : Launch) (D : va_G) {ct : Nat → ClassId} {ad : Nat → Nat} {da : Nat → Nat → Nat} {nd : Nat} {nb : Nat} {nf : Nat} {bdk : Nat → Nat} {num : Nat → Nat} {spt : Nat → Nat} {val : Nat → Int64} {tim : Nat → Nat} {rep : Nat → Nat → Bool} {byN : Nat → Nat} {byS : Nat → Nat} {pk : Nat → Bool} {kn : Nat → Nat → Bool} {pe : Nat → Nat → Bool} {clk : Nat → Nat} {tol : Nat → Nat} {opn : Nat → Option Nat} (d : Nat) (hd0 : d < nd) (n : Nat) (hn : n < 320) (ho : opn d = none) : CV l y_K_hear b_K_hear 2 none (rmK 1 0 0) D (tyL ct) (CW ct ad da nd nb nf bdk num spt val tim rep byN byS pk kn pe clk tol opn) [.ref (da (d) 0), .int (nI (n))] 0 0 (fun u => u = CW ct ad da nd nb nf bdk num spt val tim rep byN byS pk (va_up kn d (fun k => kn d k || decide (k = n))) pe (va_up clk (d) ((clk (d)) + (1))) (va_up tol (d) ((tol (d)) + (1))) opn) := by
  refine CV.start (by decide) (Nat.le_of_ble_eq_true rfl) ?_
  intro p e s m below meth c F hr hnm
  show V p l e (rmK 1 0 0) s m [.ref (da (d) 0), .int (nI (n))].toArray below meth c D (va_A (CW ct ad da nd nb nf bdk num spt val tim rep byN byS pk kn pe clk tol opn) s.heap.size) 2 0 0 (EV D below (CW ct ad da nd nb nf bdk num spt val tim rep byN byS pk kn pe clk tol opn) [.ref (da (d) 0), .int (nI (n))].toArray s 0 0 (fun u => u = CW ct ad da nd nb nf bdk num spt val tim rep byN byS pk (va_up kn d (fun k => kn d k || decide (k = n))) pe (va_up clk (d) ((clk (d)) + (1))) (va_up tol (d) ((tol (d)) + (1))) opn)) (CW ct ad da nd nb nf bdk num spt val tim rep byN byS pk kn pe clk tol opn) [(0, .ref (da (d) 0)), (1, .int (nI (n)))] 0 []
  refine V.aload_n F d_K_hear_0 rfl 0 rfl ?_
  refine V.dup F d_K_hear_1 rfl ?_
  refine V.get F ck_K d_K_hear_2 4 (by decide) lk_K_28 (13 + (5 * (d) + 0)) (cw_d0 hd0) rfl ?_
  refine V.iconst F d_K_hear_5 (v := nI (1)) (by decide) ?_
  refine V.iaddN F d_K_hear_6 ?_
  refine V.put (ws2 := CW ct ad da nd nb nf bdk num spt val tim rep byN byS pk kn pe clk (va_up tol (d) ((tol (d)) + (1))) opn) F ck_K d_K_hear_7 4 (by decide) lk_K_28 (13 + (5 * (d) + 0)) (cw_d0 hd0) rfl rfl rfl (Nat.le_of_ble_eq_true rfl) (cw_set_tol (x := (tol (d)) + (1)) hd0) ?_
  refine V.aload_n F d_K_hear_10 rfl 0 rfl ?_
  refine V.dup F d_K_hear_11 rfl ?_
  refine V.get F ck_K d_K_hear_12 3 (by decide) lk_K_31 (13 + (5 * (d) + 0)) (cw_d0 hd0) rfl ?_
  refine V.iconst F d_K_hear_15 (v := nI (1)) (by decide) ?_
  refine V.iaddN F d_K_hear_16 ?_
  refine V.put (ws2 := CW ct ad da nd nb nf bdk num spt val tim rep byN byS pk kn pe (va_up clk (d) ((clk (d)) + (1))) (va_up tol (d) ((tol (d)) + (1))) opn) F ck_K d_K_hear_17 3 (by decide) lk_K_31 (13 + (5 * (d) + 0)) (cw_d0 hd0) rfl rfl rfl (Nat.le_of_ble_eq_true rfl) (cw_set_clk (x := (clk (d)) + (1)) hd0) ?_
  refine V.aload_n F d_K_hear_20 rfl 0 rfl ?_
  refine V.get F ck_K d_K_hear_21 5 (by decide) lk_K_21 (13 + (5 * (d) + 0)) (cw_d0 hd0) rfl ?_
  refine V.iconst F d_K_hear_24 (v := -1) (by decide) ?_
  refine V.icmp_ne (x := oI (opn (d))) (y := -1) (tgt := 39) F d_K_hear_25 (by decide) (fun c25 => ?_) (fun c25 => ?_)
  · skip
    exact absurd (by rw [ho]; rfl) c25
  · skip
    refine V.aload_n F d_K_hear_28 rfl 0 rfl ?_
    refine V.get F ck_K d_K_hear_29 1 (by decide) lk_K_12 (13 + (5 * (d) + 0)) (cw_d0 hd0) rfl ?_
    refine V.iload_n F d_K_hear_32 rfl 1 rfl ?_
    refine V.callVV0 (As := [.int (nI (n))]) (rest := []) F (c_add l D (some (d, false)) hd0 n hn) d_K_hear_33 sv_K_34 im_y_S_add sl_y_S_add (13 + (5 * (d) + 1)) (cw_d1 hd0) rfl rfl rfl rfl (Nat.le_of_ble_eq_true rfl) ⟨rfl, rfl, (Nat.le_of_ble_eq_true rfl), (Nat.le_of_ble_eq_true rfl)⟩ ⟨(Nat.le_of_ble_eq_true rfl), (Nat.le_of_ble_eq_true rfl)⟩ (fun u9 h9 => ?_)
    obtain rfl := h9
    refine V.ws_eq (ws2 := CW ct ad da nd nb nf bdk num spt val tim rep byN byS pk (va_up kn d (fun k => kn d k || decide (k = n))) pe (va_up clk (d) ((clk (d)) + (1))) (va_up tol (d) ((tol (d)) + (1))) opn) rfl ?_
    refine V.goto (tgt := 47) F d_K_hear_36 (by decide) ?_
    exact V.vret F hr d_K_hear_47 (rfl)

set_option maxHeartbeats 4000000 in
set_option maxRecDepth 100000 in
theorem c_hearP (l : Launch) (D : va_G) {ct : Nat → ClassId} {ad : Nat → Nat} {da : Nat → Nat → Nat} {nd : Nat} {nb : Nat} {nf : Nat} {bdk : Nat → Nat} {num : Nat → Nat} {spt : Nat → Nat} {val : Nat → Int64} {tim : Nat → Nat} {rep : Nat → Nat → Bool} {byN : Nat → Nat} {byS : Nat → Nat} {pk : Nat → Bool} {kn : Nat → Nat → Bool} {pe : Nat → Nat → Bool} {clk : Nat → Nat} {tol : Nat → Nat} {opn : Nat → Option Nat} (d : Nat) (hd0 : d < nd) (n : Nat) (hn : n < 320) (b0 : Nat) (ho : opn d = some b0) (hb0 : b0 < 2 ^ 31) : CV l y_K_hear b_K_hear 2 none (rmK 1 0 0) D (tyL ct) (CW ct ad da nd nb nf bdk num spt val tim rep byN byS pk kn pe clk tol opn) [.ref (da (d) 0), .int (nI (n))] 0 0 (fun u => u = CW ct ad da nd nb nf bdk num spt val tim rep byN byS pk kn (va_up pe d (fun k => pe d k || decide (k = n))) (va_up clk (d) ((clk (d)) + (1))) (va_up tol (d) ((tol (d)) + (1))) opn) := by
  refine CV.start (by decide) (Nat.le_of_ble_eq_true rfl) ?_
  intro p e s m below meth c F hr hnm
  show V p l e (rmK 1 0 0) s m [.ref (da (d) 0), .int (nI (n))].toArray below meth c D (va_A (CW ct ad da nd nb nf bdk num spt val tim rep byN byS pk kn pe clk tol opn) s.heap.size) 2 0 0 (EV D below (CW ct ad da nd nb nf bdk num spt val tim rep byN byS pk kn pe clk tol opn) [.ref (da (d) 0), .int (nI (n))].toArray s 0 0 (fun u => u = CW ct ad da nd nb nf bdk num spt val tim rep byN byS pk kn (va_up pe d (fun k => pe d k || decide (k = n))) (va_up clk (d) ((clk (d)) + (1))) (va_up tol (d) ((tol (d)) + (1))) opn)) (CW ct ad da nd nb nf bdk num spt val tim rep byN byS pk kn pe clk tol opn) [(0, .ref (da (d) 0)), (1, .int (nI (n)))] 0 []
  refine V.aload_n F d_K_hear_0 rfl 0 rfl ?_
  refine V.dup F d_K_hear_1 rfl ?_
  refine V.get F ck_K d_K_hear_2 4 (by decide) lk_K_28 (13 + (5 * (d) + 0)) (cw_d0 hd0) rfl ?_
  refine V.iconst F d_K_hear_5 (v := nI (1)) (by decide) ?_
  refine V.iaddN F d_K_hear_6 ?_
  refine V.put (ws2 := CW ct ad da nd nb nf bdk num spt val tim rep byN byS pk kn pe clk (va_up tol (d) ((tol (d)) + (1))) opn) F ck_K d_K_hear_7 4 (by decide) lk_K_28 (13 + (5 * (d) + 0)) (cw_d0 hd0) rfl rfl rfl (Nat.le_of_ble_eq_true rfl) (cw_set_tol (x := (tol (d)) + (1)) hd0) ?_
  refine V.aload_n F d_K_hear_10 rfl 0 rfl ?_
  refine V.dup F d_K_hear_11 rfl ?_
  refine V.get F ck_K d_K_hear_12 3 (by decide) lk_K_31 (13 + (5 * (d) + 0)) (cw_d0 hd0) rfl ?_
  refine V.iconst F d_K_hear_15 (v := nI (1)) (by decide) ?_
  refine V.iaddN F d_K_hear_16 ?_
  refine V.put (ws2 := CW ct ad da nd nb nf bdk num spt val tim rep byN byS pk kn pe (va_up clk (d) ((clk (d)) + (1))) (va_up tol (d) ((tol (d)) + (1))) opn) F ck_K d_K_hear_17 3 (by decide) lk_K_31 (13 + (5 * (d) + 0)) (cw_d0 hd0) rfl rfl rfl (Nat.le_of_ble_eq_true rfl) (cw_set_clk (x := (clk (d)) + (1)) hd0) ?_
  refine V.aload_n F d_K_hear_20 rfl 0 rfl ?_
  refine V.get F ck_K d_K_hear_21 5 (by decide) lk_K_21 (13 + (5 * (d) + 0)) (cw_d0 hd0) rfl ?_
  refine V.iconst F d_K_hear_24 (v := -1) (by decide) ?_
  refine V.icmp_ne (x := oI (opn (d))) (y := -1) (tgt := 39) F d_K_hear_25 (by decide) (fun c25 => ?_) (fun c25 => ?_)
  · skip
    refine V.aload_n F d_K_hear_39 rfl 0 rfl ?_
    refine V.get F ck_K d_K_hear_40 2 (by decide) lk_K_18 (13 + (5 * (d) + 0)) (cw_d0 hd0) rfl ?_
    refine V.iload_n F d_K_hear_43 rfl 1 rfl ?_
    refine V.callVV0 (As := [.int (nI (n))]) (rest := []) F (c_add l D (some (d, true)) hd0 n hn) d_K_hear_44 sv_K_34 im_y_S_add sl_y_S_add (13 + (5 * (d) + 3)) (cw_d3 hd0) rfl rfl rfl rfl (Nat.le_of_ble_eq_true rfl) ⟨rfl, rfl, (Nat.le_of_ble_eq_true rfl), (Nat.le_of_ble_eq_true rfl)⟩ ⟨(Nat.le_of_ble_eq_true rfl), (Nat.le_of_ble_eq_true rfl)⟩ (fun u9 h9 => ?_)
    obtain rfl := h9
    refine V.ws_eq (ws2 := CW ct ad da nd nb nf bdk num spt val tim rep byN byS pk kn (va_up pe d (fun k => pe d k || decide (k = n))) (va_up clk (d) ((clk (d)) + (1))) (va_up tol (d) ((tol (d)) + (1))) opn) rfl ?_
    exact V.vret F hr d_K_hear_47 (rfl)
  · skip
    exact absurd (oI_none (fun g e9 => by rw [ho] at e9; cases e9; exact hb0) c25) (by rw [ho]; exact fun q => by cases q)

set_option maxHeartbeats 4000000 in
set_option maxRecDepth 100000 in
theorem c_learnFrom (l : Launch) (D : va_G) {ct : Nat → ClassId} {ad : Nat → Nat} {da : Nat → Nat → Nat} {nd : Nat} {nb : Nat} {nf : Nat} {bdk : Nat → Nat} {num : Nat → Nat} {spt : Nat → Nat} {val : Nat → Int64} {tim : Nat → Nat} {rep : Nat → Nat → Bool} {byN : Nat → Nat} {byS : Nat → Nat} {pk : Nat → Bool} {kn : Nat → Nat → Bool} {pe : Nat → Nat → Bool} {clk : Nat → Nat} {tol : Nat → Nat} {opn : Nat → Option Nat} (d : Nat) (hd0 : d < nd) (d2 : Nat) (hd2 : d2 < nd) (hne : d2 ≠ d) (hc1 : clk d < 2 ^ 31) (hc2 : clk d2 < 2 ^ 31) : CV l y_K_learnFrom b_K_learnFrom 2 none (rmK 1 0 0) D (tyL ct) (CW ct ad da nd nb nf bdk num spt val tim rep byN byS pk kn pe clk tol opn) [.ref (da (d) 0), .ref (da (d2) 0)] 0 0 (fun u => u = CW ct ad da nd nb nf bdk num spt val tim rep byN byS pk (va_up kn d (fun k => kn d k || (decide (k / 64 < 5) && kn d2 k))) pe (va_up clk d (max (clk d) (clk d2))) tol opn) := by
  refine CV.start (by decide) (Nat.le_of_ble_eq_true rfl) ?_
  intro p e s m below meth c F hr hnm
  show V p l e (rmK 1 0 0) s m [.ref (da (d) 0), .ref (da (d2) 0)].toArray below meth c D (va_A (CW ct ad da nd nb nf bdk num spt val tim rep byN byS pk kn pe clk tol opn) s.heap.size) 2 0 0 (EV D below (CW ct ad da nd nb nf bdk num spt val tim rep byN byS pk kn pe clk tol opn) [.ref (da (d) 0), .ref (da (d2) 0)].toArray s 0 0 (fun u => u = CW ct ad da nd nb nf bdk num spt val tim rep byN byS pk (va_up kn d (fun k => kn d k || (decide (k / 64 < 5) && kn d2 k))) pe (va_up clk d (max (clk d) (clk d2))) tol opn)) (CW ct ad da nd nb nf bdk num spt val tim rep byN byS pk kn pe clk tol opn) [(0, .ref (da (d) 0)), (1, .ref (da (d2) 0))] 0 []
  refine V.aload_n F d_K_learnFrom_0 rfl 0 rfl ?_
  refine V.get F ck_K d_K_learnFrom_1 1 (by decide) lk_K_12 (13 + (5 * (d) + 0)) (cw_d0 hd0) rfl ?_
  refine V.aload_n F d_K_learnFrom_4 rfl 1 rfl ?_
  refine V.get F ck_K d_K_learnFrom_5 1 (by decide) lk_K_12 (13 + (5 * (d2) + 0)) (cw_d0 hd2) rfl ?_
  refine V.callVV0 (As := [.ref (da (d2) 1)]) (rest := []) F (c_addAll l D (some (d, false)) hd0 (some (d2, false)) hd2 (fun q => hne (by cases q; rfl))) d_K_learnFrom_8 sv_K_38 im_y_S_addAll sl_y_S_addAll (13 + (5 * (d) + 1)) (cw_d1 hd0) rfl rfl rfl rfl (Nat.le_of_ble_eq_true rfl) ⟨rfl, rfl, (Nat.le_of_ble_eq_true rfl), (Nat.le_of_ble_eq_true rfl)⟩ ⟨(Nat.le_of_ble_eq_true rfl), (Nat.le_of_ble_eq_true rfl)⟩ (fun u9 h9 => ?_)
  obtain rfl := h9
  refine V.ws_eq (ws2 := CW ct ad da nd nb nf bdk num spt val tim rep byN byS pk (va_up kn d (fun k => kn d k || (decide (k / 64 < 5) && kn d2 k))) pe clk tol opn) rfl ?_
  refine V.aload_n F d_K_learnFrom_11 rfl 0 rfl ?_
  refine V.aload_n F d_K_learnFrom_12 rfl 0 rfl ?_
  refine V.get F ck_K d_K_learnFrom_13 3 (by decide) lk_K_31 (13 + (5 * (d) + 0)) (cw_d0 hd0) rfl ?_
  refine V.aload_n F d_K_learnFrom_16 rfl 1 rfl ?_
  refine V.get F ck_K d_K_learnFrom_17 3 (by decide) lk_K_31 (13 + (5 * (d2) + 0)) (cw_d0 hd2) rfl ?_
  refine V.mmaxN F d_K_learnFrom_20 lk_K_42 mx_static mx_init mx_code (Nat.le_of_ble_eq_true rfl) (Nat.le_of_ble_eq_true rfl) (Nat.le_of_ble_eq_true rfl) (Nat.le_of_ble_eq_true rfl) hc1 hc2 ?_
  refine V.put (ws2 := CW ct ad da nd nb nf bdk num spt val tim rep byN byS pk (va_up kn d (fun k => kn d k || (decide (k / 64 < 5) && kn d2 k))) pe (va_up clk (d) (max (clk (d)) (clk (d2)))) tol opn) F ck_K d_K_learnFrom_23 3 (by decide) lk_K_31 (13 + (5 * (d) + 0)) (cw_d0 hd0) rfl rfl rfl (Nat.le_of_ble_eq_true rfl) (cw_set_clk (x := max (clk (d)) (clk (d2))) hd0) ?_
  exact V.vret F hr d_K_learnFrom_26 (rfl)

set_option maxHeartbeats 4000000 in
set_option maxRecDepth 100000 in
theorem c_learnPending (l : Launch) (D : va_G) {ct : Nat → ClassId} {ad : Nat → Nat} {da : Nat → Nat → Nat} {nd : Nat} {nb : Nat} {nf : Nat} {bdk : Nat → Nat} {num : Nat → Nat} {spt : Nat → Nat} {val : Nat → Int64} {tim : Nat → Nat} {rep : Nat → Nat → Bool} {byN : Nat → Nat} {byS : Nat → Nat} {pk : Nat → Bool} {kn : Nat → Nat → Bool} {pe : Nat → Nat → Bool} {clk : Nat → Nat} {tol : Nat → Nat} {opn : Nat → Option Nat} (d : Nat) (hd0 : d < nd) : CV l y_K_learnPending b_K_learnPending 1 none (rmK 1 0 0) D (tyL ct) (CW ct ad da nd nb nf bdk num spt val tim rep byN byS pk kn pe clk tol opn) [.ref (da (d) 0)] 0 0 (fun u => u = CW ct ad da nd nb nf bdk num spt val tim rep byN byS pk (va_up kn d (fun k => kn d k || (decide (k / 64 < 5) && pe d k))) (va_up pe d (fun k => decide (5 ≤ k / 64) && pe d k)) clk tol (va_up opn d none)) := by
  refine CV.start (by decide) (Nat.le_of_ble_eq_true rfl) ?_
  intro p e s m below meth c F hr hnm
  show V p l e (rmK 1 0 0) s m [.ref (da (d) 0)].toArray below meth c D (va_A (CW ct ad da nd nb nf bdk num spt val tim rep byN byS pk kn pe clk tol opn) s.heap.size) 1 0 0 (EV D below (CW ct ad da nd nb nf bdk num spt val tim rep byN byS pk kn pe clk tol opn) [.ref (da (d) 0)].toArray s 0 0 (fun u => u = CW ct ad da nd nb nf bdk num spt val tim rep byN byS pk (va_up kn d (fun k => kn d k || (decide (k / 64 < 5) && pe d k))) (va_up pe d (fun k => decide (5 ≤ k / 64) && pe d k)) clk tol (va_up opn d none))) (CW ct ad da nd nb nf bdk num spt val tim rep byN byS pk kn pe clk tol opn) [(0, .ref (da (d) 0))] 0 []
  refine V.aload_n F d_K_learnPending_0 rfl 0 rfl ?_
  refine V.get F ck_K d_K_learnPending_1 1 (by decide) lk_K_12 (13 + (5 * (d) + 0)) (cw_d0 hd0) rfl ?_
  refine V.aload_n F d_K_learnPending_4 rfl 0 rfl ?_
  refine V.get F ck_K d_K_learnPending_5 2 (by decide) lk_K_18 (13 + (5 * (d) + 0)) (cw_d0 hd0) rfl ?_
  refine V.callVV0 (As := [.ref (da (d) 3)]) (rest := []) F (c_addAll l D (some (d, false)) hd0 (some (d, true)) hd0 (fun q => by cases q)) d_K_learnPending_8 sv_K_38 im_y_S_addAll sl_y_S_addAll (13 + (5 * (d) + 1)) (cw_d1 hd0) rfl rfl rfl rfl (Nat.le_of_ble_eq_true rfl) ⟨rfl, rfl, (Nat.le_of_ble_eq_true rfl), (Nat.le_of_ble_eq_true rfl)⟩ ⟨(Nat.le_of_ble_eq_true rfl), (Nat.le_of_ble_eq_true rfl)⟩ (fun u9 h9 => ?_)
  obtain rfl := h9
  refine V.ws_eq (ws2 := CW ct ad da nd nb nf bdk num spt val tim rep byN byS pk (va_up kn d (fun k => kn d k || (decide (k / 64 < 5) && pe d k))) pe clk tol opn) rfl ?_
  refine V.aload_n F d_K_learnPending_11 rfl 0 rfl ?_
  refine V.get F ck_K d_K_learnPending_12 2 (by decide) lk_K_18 (13 + (5 * (d) + 0)) (cw_d0 hd0) rfl ?_
  refine V.callVV0 (As := []) (rest := []) F (c_clear l D (some (d, true)) hd0) d_K_learnPending_15 sv_K_48 im_y_S_clear sl_y_S_clear (13 + (5 * (d) + 3)) (cw_d3 hd0) rfl rfl rfl rfl (Nat.le_of_ble_eq_true rfl) ⟨rfl, rfl, (Nat.le_of_ble_eq_true rfl), (Nat.le_of_ble_eq_true rfl)⟩ ⟨(Nat.le_of_ble_eq_true rfl), (Nat.le_of_ble_eq_true rfl)⟩ (fun u9 h9 => ?_)
  obtain rfl := h9
  refine V.ws_eq (ws2 := CW ct ad da nd nb nf bdk num spt val tim rep byN byS pk (va_up kn d (fun k => kn d k || (decide (k / 64 < 5) && pe d k))) (va_up pe d (fun k => decide (5 ≤ k / 64) && pe d k)) clk tol opn) rfl ?_
  refine V.aload_n F d_K_learnPending_18 rfl 0 rfl ?_
  refine V.iconst F d_K_learnPending_19 (v := -1) (by decide) ?_
  refine V.put (ws2 := CW ct ad da nd nb nf bdk num spt val tim rep byN byS pk (va_up kn d (fun k => kn d k || (decide (k / 64 < 5) && pe d k))) (va_up pe d (fun k => decide (5 ≤ k / 64) && pe d k)) clk tol (va_up opn (d) (none))) F ck_K d_K_learnPending_20 5 (by decide) lk_K_21 (13 + (5 * (d) + 0)) (cw_d0 hd0) rfl rfl rfl (Nat.le_of_ble_eq_true rfl) (cw_set_opn (x := none) hd0) ?_
  exact V.vret F hr d_K_learnPending_23 (rfl)

set_option maxHeartbeats 4000000 in
set_option maxRecDepth 100000 in
theorem c_deskAt (l : Launch) (D : va_G) {ct : Nat → ClassId} {ad : Nat → Nat} {da : Nat → Nat → Nat} {nd : Nat} {nb : Nat} {nf : Nat} {bdk : Nat → Nat} {num : Nat → Nat} {spt : Nat → Nat} {val : Nat → Int64} {tim : Nat → Nat} {rep : Nat → Nat → Bool} {byN : Nat → Nat} {byS : Nat → Nat} {pk : Nat → Bool} {kn : Nat → Nat → Bool} {pe : Nat → Nat → Bool} {clk : Nat → Nat} {tol : Nat → Nat} {opn : Nat → Option Nat} (hnd : nd ≤ 8) (j : Nat) (hj : j < nd) : CQ l y_T_deskAt b_T_deskAt 2 (some (.object "ToldFacts$Desk")) (rmK 0 0 0) D (tyL ct) (CW ct ad da nd nb nf bdk num spt val tim rep byN byS pk kn pe clk tol opn) [.ref (ad 0), .int (nI (j))] 0 0 (fun r u => r = some (da j 0) ∧ u = CW ct ad da nd nb nf bdk num spt val tim rep byN byS pk kn pe clk tol opn) := by
  refine CQ.start (by decide) (Nat.le_of_ble_eq_true rfl) ?_
  intro p e s m below meth c F hr hnm
  show V p l e (rmK 0 0 0) s m [.ref (ad 0), .int (nI (j))].toArray below meth c D (va_A (CW ct ad da nd nb nf bdk num spt val tim rep byN byS pk kn pe clk tol opn) s.heap.size) 2 0 0 (EQ D below (CW ct ad da nd nb nf bdk num spt val tim rep byN byS pk kn pe clk tol opn) [.ref (ad 0), .int (nI (j))].toArray s 0 0 (fun r u => r = some (da j 0) ∧ u = CW ct ad da nd nb nf bdk num spt val tim rep byN byS pk kn pe clk tol opn)) (CW ct ad da nd nb nf bdk num spt val tim rep byN byS pk kn pe clk tol opn) [(0, .ref (ad 0)), (1, .int (nI (j)))] 0 []
  refine V.iload_n F d_T_deskAt_0 rfl 1 rfl ?_
  refine V.if_lt (x := nI (j)) (tgt := 21) F d_T_deskAt_1 (by decide) (fun c1 => ?_) (fun c1 => ?_)
  · skip
    exact absurd c1 (nI_pos (by omega))
  · skip
    refine V.iload_n F d_T_deskAt_4 rfl 1 rfl ?_
    refine V.aload_n F d_T_deskAt_5 rfl 0 rfl ?_
    refine V.get F ck_T d_T_deskAt_6 4 (by decide) lk_T_33 0 rfl rfl ?_
    refine V.icmp_geN (tgt := 21) F d_T_deskAt_9 (by decide) (by omega) (by omega) (fun c9 => ?_) (fun c9 => ?_)
    · skip
      exact absurd c9 (by omega)
    · skip
      refine V.aload_n F d_T_deskAt_12 rfl 0 rfl ?_
      refine V.get F ck_T d_T_deskAt_13 0 (by decide) lk_T_11 0 rfl rfl ?_
      refine V.iload_n F d_T_deskAt_16 rfl 1 rfl ?_
      refine V.aldq (v := .ref (da (j) 0)) F d_T_deskAt_17 1 2 rfl rfl (by omega) (by decide) (by show va_rf (dkA da nd j) = _; unfold dkA; rw [if_pos hj]; rfl) ?_
      refine V.goto (tgt := 22) F d_T_deskAt_18 (by decide) ?_
      exact V.aret (v := some (da (j) 0)) F hr d_T_deskAt_22 (⟨rfl, rfl⟩)

set_option maxHeartbeats 4000000 in
set_option maxRecDepth 100000 in
theorem c_deskNo (l : Launch) (D : va_G) {ct : Nat → ClassId} {ad : Nat → Nat} {da : Nat → Nat → Nat} {nd : Nat} {nb : Nat} {nf : Nat} {bdk : Nat → Nat} {num : Nat → Nat} {spt : Nat → Nat} {val : Nat → Int64} {tim : Nat → Nat} {rep : Nat → Nat → Bool} {byN : Nat → Nat} {byS : Nat → Nat} {pk : Nat → Bool} {kn : Nat → Nat → Bool} {pe : Nat → Nat → Bool} {clk : Nat → Nat} {tol : Nat → Nat} {opn : Nat → Option Nat} (x : Int32) (hx : x < 0 ∨ nI nd ≤ x) : CQ l y_T_deskAt b_T_deskAt 2 (some (.object "ToldFacts$Desk")) (rmK 0 0 0) D (tyL ct) (CW ct ad da nd nb nf bdk num spt val tim rep byN byS pk kn pe clk tol opn) [.ref (ad 0), .int (x)] 0 0 (fun r u => r = none ∧ u = CW ct ad da nd nb nf bdk num spt val tim rep byN byS pk kn pe clk tol opn) := by
  refine CQ.start (by decide) (Nat.le_of_ble_eq_true rfl) ?_
  intro p e s m below meth c F hr hnm
  show V p l e (rmK 0 0 0) s m [.ref (ad 0), .int (x)].toArray below meth c D (va_A (CW ct ad da nd nb nf bdk num spt val tim rep byN byS pk kn pe clk tol opn) s.heap.size) 2 0 0 (EQ D below (CW ct ad da nd nb nf bdk num spt val tim rep byN byS pk kn pe clk tol opn) [.ref (ad 0), .int (x)].toArray s 0 0 (fun r u => r = none ∧ u = CW ct ad da nd nb nf bdk num spt val tim rep byN byS pk kn pe clk tol opn)) (CW ct ad da nd nb nf bdk num spt val tim rep byN byS pk kn pe clk tol opn) [(0, .ref (ad 0)), (1, .int (x))] 0 []
  refine V.iload_n F d_T_deskAt_0 rfl 1 rfl ?_
  refine V.if_lt (x := x) (tgt := 21) F d_T_deskAt_1 (by decide) (fun c1 => ?_) (fun c1 => ?_)
  · skip
    refine V.null F d_T_deskAt_21 ?_
    exact V.aret (v := none) F hr d_T_deskAt_22 (⟨rfl, rfl⟩)
  · skip
    refine V.iload_n F d_T_deskAt_4 rfl 1 rfl ?_
    refine V.aload_n F d_T_deskAt_5 rfl 0 rfl ?_
    refine V.get F ck_T d_T_deskAt_6 4 (by decide) lk_T_33 0 rfl rfl ?_
    refine V.icmp_ge (x := x) (y := nI (nd)) (tgt := 21) F d_T_deskAt_9 (by decide) (fun c9 => ?_) (fun c9 => ?_)
    · skip
      refine V.null F d_T_deskAt_21 ?_
      exact V.aret (v := none) F hr d_T_deskAt_22 (⟨rfl, rfl⟩)
    · skip
      exact absurd c9 (fun q => hx.elim c1 (fun z => q z))

set_option maxHeartbeats 4000000 in
set_option maxRecDepth 100000 in
theorem c_nnYes (l : Launch) (D : va_G) {ct : Nat → ClassId} {ad : Nat → Nat} {da : Nat → Nat → Nat} {nd : Nat} {nb : Nat} {nf : Nat} {bdk : Nat → Nat} {num : Nat → Nat} {spt : Nat → Nat} {val : Nat → Int64} {tim : Nat → Nat} {rep : Nat → Nat → Bool} {byN : Nat → Nat} {byS : Nat → Nat} {pk : Nat → Bool} {kn : Nat → Nat → Bool} {pe : Nat → Nat → Bool} {clk : Nat → Nat} {tol : Nat → Nat} {opn : Nat → Option Nat} (f : Nat) (hf : f < 300) : CI l y_T_numberOrNone b_T_numberOrNone 2 (some .int) (rmK 0 0 0) D (tyL ct) (CW ct ad da nd nb nf bdk num spt val tim rep byN byS pk kn pe clk tol opn) [.ref (ad 0), .int (nI (f))] 0 0 (fun r u => r = nI (num f) ∧ u = CW ct ad da nd nb nf bdk num spt val tim rep byN byS pk kn pe clk tol opn) := by
  refine CI.start (by decide) (Nat.le_of_ble_eq_true rfl) ?_
  intro p e s m below meth c F hr hnm
  show V p l e (rmK 0 0 0) s m [.ref (ad 0), .int (nI (f))].toArray below meth c D (va_A (CW ct ad da nd nb nf bdk num spt val tim rep byN byS pk kn pe clk tol opn) s.heap.size) 2 0 0 (EI D below (CW ct ad da nd nb nf bdk num spt val tim rep byN byS pk kn pe clk tol opn) [.ref (ad 0), .int (nI (f))].toArray s 0 0 (fun r u => r = nI (num f) ∧ u = CW ct ad da nd nb nf bdk num spt val tim rep byN byS pk kn pe clk tol opn)) (CW ct ad da nd nb nf bdk num spt val tim rep byN byS pk kn pe clk tol opn) [(0, .ref (ad 0)), (1, .int (nI (f)))] 0 []
  refine V.iload_n F d_T_numberOrNone_0 rfl 1 rfl ?_
  refine V.iconst F d_T_numberOrNone_1 (v := -1) (by decide) ?_
  refine V.icmp_ne (x := nI (f)) (y := -1) (tgt := 9) F d_T_numberOrNone_2 (by decide) (fun c2 => ?_) (fun c2 => ?_)
  · skip
    refine V.aload_n F d_T_numberOrNone_9 rfl 0 rfl ?_
    refine V.get F ck_T d_T_numberOrNone_10 2 (by decide) lk_T_22 0 rfl rfl ?_
    refine V.getN F ck_A d_T_numberOrNone_13 0 (by decide) lk_T_158 3 rfl rfl ?_
    refine V.iload_n F d_T_numberOrNone_16 rfl 1 rfl ?_
    refine V.iald (v := nI (num (f))) F d_T_numberOrNone_17 4 0 rfl rfl (by omega) (by decide) rfl ?_
    exact V.iret F hr d_T_numberOrNone_18 (⟨rfl, rfl⟩)
  · skip
    exact absurd c2 (nI_nm1 (by omega))

set_option maxHeartbeats 4000000 in
set_option maxRecDepth 100000 in
theorem c_nnNo (l : Launch) (D : va_G) {ct : Nat → ClassId} {ad : Nat → Nat} {da : Nat → Nat → Nat} {nd : Nat} {nb : Nat} {nf : Nat} {bdk : Nat → Nat} {num : Nat → Nat} {spt : Nat → Nat} {val : Nat → Int64} {tim : Nat → Nat} {rep : Nat → Nat → Bool} {byN : Nat → Nat} {byS : Nat → Nat} {pk : Nat → Bool} {kn : Nat → Nat → Bool} {pe : Nat → Nat → Bool} {clk : Nat → Nat} {tol : Nat → Nat} {opn : Nat → Option Nat} : CI l y_T_numberOrNone b_T_numberOrNone 2 (some .int) (rmK 0 0 0) D (tyL ct) (CW ct ad da nd nb nf bdk num spt val tim rep byN byS pk kn pe clk tol opn) [.ref (ad 0), .int (-1)] 0 0 (fun r u => r = -1 ∧ u = CW ct ad da nd nb nf bdk num spt val tim rep byN byS pk kn pe clk tol opn) := by
  refine CI.start (by decide) (Nat.le_of_ble_eq_true rfl) ?_
  intro p e s m below meth c F hr hnm
  show V p l e (rmK 0 0 0) s m [.ref (ad 0), .int (-1)].toArray below meth c D (va_A (CW ct ad da nd nb nf bdk num spt val tim rep byN byS pk kn pe clk tol opn) s.heap.size) 2 0 0 (EI D below (CW ct ad da nd nb nf bdk num spt val tim rep byN byS pk kn pe clk tol opn) [.ref (ad 0), .int (-1)].toArray s 0 0 (fun r u => r = -1 ∧ u = CW ct ad da nd nb nf bdk num spt val tim rep byN byS pk kn pe clk tol opn)) (CW ct ad da nd nb nf bdk num spt val tim rep byN byS pk kn pe clk tol opn) [(0, .ref (ad 0)), (1, .int (-1))] 0 []
  refine V.iload_n F d_T_numberOrNone_0 rfl 1 rfl ?_
  refine V.iconst F d_T_numberOrNone_1 (v := -1) (by decide) ?_
  refine V.icmp_ne (x := -1) (y := -1) (tgt := 9) F d_T_numberOrNone_2 (by decide) (fun c2 => ?_) (fun c2 => ?_)
  · skip
    exact absurd rfl c2
  · skip
    refine V.iconst F d_T_numberOrNone_5 (v := -1) (by decide) ?_
    refine V.goto (tgt := 18) F d_T_numberOrNone_6 (by decide) ?_
    exact V.iret F hr d_T_numberOrNone_18 (⟨rfl, rfl⟩)
end
section
def knH (opn : Nat → Option Nat) (kn : Nat → Nat → Bool) (d n : Nat) : Nat → Nat → Bool := match opn d with
  | none => va_up kn d (fun k => kn d k || decide (k = n))
  | some _ => kn
def peH (opn : Nat → Option Nat) (pe : Nat → Nat → Bool) (d n : Nat) : Nat → Nat → Bool := match opn d with
  | none => pe
  | some _ => va_up pe d (fun k => pe d k || decide (k = n))
theorem c_hear (l : Launch) (D : va_G) {ct : Nat → ClassId} {ad : Nat → Nat} {da : Nat → Nat → Nat} {nd : Nat} {nb : Nat} {nf : Nat} {bdk : Nat → Nat} {num : Nat → Nat} {spt : Nat → Nat} {val : Nat → Int64} {tim : Nat → Nat} {rep : Nat → Nat → Bool} {byN : Nat → Nat} {byS : Nat → Nat} {pk : Nat → Bool} {kn : Nat → Nat → Bool} {pe : Nat → Nat → Bool} {clk : Nat → Nat} {tol : Nat → Nat} {opn : Nat → Option Nat} (d : Nat) (hd0 : d < nd) (n : Nat) (hn : n < 320) (hob : ∀ b0, opn d = some b0 → b0 < 2 ^ 31) : CV l y_K_hear b_K_hear 2 none (rmK 1 0 0) D (tyL ct) (CW ct ad da nd nb nf bdk num spt val tim rep byN byS pk kn pe clk tol opn) [.ref (da (d) 0), .int (nI (n))] 0 0 (fun u => u = CW ct ad da nd nb nf bdk num spt val tim rep byN byS pk (knH opn kn d n) (peH opn pe d n) (va_up clk (d) ((clk (d)) + (1))) (va_up tol (d) ((tol (d)) + (1))) opn) := by
  unfold knH peH
  cases ho : opn d with
  | none => exact c_hearK l D d hd0 n hn ho
  | some b0 => exact c_hearP l D d hd0 n hn b0 ho (hob b0 ho)

set_option maxHeartbeats 4000000 in
set_option maxRecDepth 100000 in
theorem c_tellRFull (l : Launch) (D : va_G) {ct : Nat → ClassId} {ad : Nat → Nat} {da : Nat → Nat → Nat} {nd : Nat} {nb : Nat} {nf : Nat} {bdk : Nat → Nat} {num : Nat → Nat} {spt : Nat → Nat} {val : Nat → Int64} {tim : Nat → Nat} {rep : Nat → Nat → Bool} {byN : Nat → Nat} {byS : Nat → Nat} {pk : Nat → Bool} {kn : Nat → Nat → Bool} {pe : Nat → Nat → Bool} {clk : Nat → Nat} {tol : Nat → Nat} {opn : Nat → Option Nat} (d : Nat) (hd0 : d < nd) (sp : Nat) (v : Int64) (hnf : nf = 300) : CI l y_T_tellReplacing b_T_tellReplacing 8 (some .int) (rmK 3 0 0) D (tyL ct) (CW ct ad da nd nb nf bdk num spt val tim rep byN byS pk kn pe clk tol opn) [.ref (ad 0), .ref (da (d) 0), .int (nI (sp)), .long (v), .ref (ad 11)] 0 0 (fun r u => r = -2 ∧ u = CW ct ad da nd nb nf bdk num spt val tim rep byN byS pk kn pe clk tol opn) := by
  refine CI.start (by decide) (Nat.le_of_ble_eq_true rfl) ?_
  intro p e s m below meth c F hr hnm
  show V p l e (rmK 3 0 0) s m [.ref (ad 0), .ref (da (d) 0), .int (nI (sp)), .long (v), .ref (ad 11)].toArray below meth c D (va_A (CW ct ad da nd nb nf bdk num spt val tim rep byN byS pk kn pe clk tol opn) s.heap.size) 8 0 0 (EI D below (CW ct ad da nd nb nf bdk num spt val tim rep byN byS pk kn pe clk tol opn) [.ref (ad 0), .ref (da (d) 0), .int (nI (sp)), .long (v), .ref (ad 11)].toArray s 0 0 (fun r u => r = -2 ∧ u = CW ct ad da nd nb nf bdk num spt val tim rep byN byS pk kn pe clk tol opn)) (CW ct ad da nd nb nf bdk num spt val tim rep byN byS pk kn pe clk tol opn) [(0, .ref (ad 0)), (1, .ref (da (d) 0)), (2, .int (nI (sp))), (3, .long (v)), (5, .ref (ad 11))] 0 []
  refine V.aload_n F d_T_tellReplacing_0 rfl 1 rfl ?_
  refine V.callVI0 (As := []) (rest := []) F (c_nextNumber l D d hd0) d_T_tellReplacing_1 sv_T_161 im_y_K_nextNumber sl_y_K_nextNumber (13 + (5 * (d) + 0)) (cw_d0 hd0) rfl rfl rfl rfl (Nat.le_of_ble_eq_true rfl) ⟨rfl, rfl, (Nat.le_of_ble_eq_true rfl), (Nat.le_of_ble_eq_true rfl)⟩ ⟨(Nat.le_of_ble_eq_true rfl), (Nat.le_of_ble_eq_true rfl)⟩ (fun r9 u9 h9 => ?_)
  obtain ⟨rfl, rfl⟩ := h9
  refine V.istore (lv2 := [(6, .int (nI (8 * tol d + d))), (0, .ref (ad 0)), (1, .ref (da (d) 0)), (2, .int (nI (sp))), (3, .long (v)), (5, .ref (ad 11))]) F d_T_tellReplacing_4 (by decide) rfl ?_
  refine V.aload_n F d_T_tellReplacing_6 rfl 1 rfl ?_
  refine V.get F ck_T d_T_tellReplacing_7 2 (by decide) lk_T_22 0 rfl rfl ?_
  refine V.iload F d_T_tellReplacing_10 0 rfl ?_
  refine V.iload_n F d_T_tellReplacing_12 rfl 3 rfl ?_
  refine V.lload_n F d_T_tellReplacing_13 rfl 4 rfl ?_
  refine V.aload_n F d_T_tellReplacing_14 rfl 2 rfl ?_
  refine V.callVI0 (As := []) (rest := [.long (v), .int (nI (sp)), .int (nI (8 * tol d + d)), .ref (ad 3)]) F (c_nextTime l D d hd0) d_T_tellReplacing_15 sv_T_164 im_y_K_nextTime sl_y_K_nextTime (13 + (5 * (d) + 0)) (cw_d0 hd0) rfl rfl rfl rfl (Nat.le_of_ble_eq_true rfl) ⟨rfl, rfl, (Nat.le_of_ble_eq_true rfl), (Nat.le_of_ble_eq_true rfl)⟩ ⟨(Nat.le_of_ble_eq_true rfl), (Nat.le_of_ble_eq_true rfl)⟩ (fun r9 u9 h9 => ?_)
  obtain ⟨rfl, rfl⟩ := h9
  refine V.aload F d_T_tellReplacing_18 5 rfl ?_
  refine V.callVI0 (As := [.int (nI (8 * tol d + d)), .int (nI (sp)), .long (v), .int (nI (clk d + 1)), .ref (ad 11)]) (rest := []) F (c_appendFull l D _ sp _ v hnf) d_T_tellReplacing_20 sv_T_167 im_y_A_append sl_y_A_append 3 rfl rfl rfl rfl rfl (Nat.le_of_ble_eq_true rfl) ⟨rfl, rfl, (Nat.le_of_ble_eq_true rfl), (Nat.le_of_ble_eq_true rfl)⟩ ⟨(Nat.le_of_ble_eq_true rfl), (Nat.le_of_ble_eq_true rfl)⟩ (fun r9 u9 h9 => ?_)
  obtain ⟨rfl, rfl⟩ := h9
  refine V.istore (lv2 := [(7, .int (-1)), (6, .int (nI (8 * tol d + d))), (0, .ref (ad 0)), (1, .ref (da (d) 0)), (2, .int (nI (sp))), (3, .long (v)), (5, .ref (ad 11))]) F d_T_tellReplacing_23 (by decide) rfl ?_
  refine V.iload F d_T_tellReplacing_25 0 rfl ?_
  refine V.iconst F d_T_tellReplacing_27 (v := -1) (by decide) ?_
  refine V.icmp_ne (x := -1) (y := -1) (tgt := 34) F d_T_tellReplacing_28 (by decide) (fun c28 => ?_) (fun c28 => ?_)
  · skip
    exact absurd rfl c28
  · skip
    refine V.bipush F d_T_tellReplacing_31 (v := -2) (by decide) ?_
    exact V.iret F hr d_T_tellReplacing_33 (⟨rfl, rfl⟩)

set_option maxHeartbeats 4000000 in
set_option maxRecDepth 100000 in
theorem c_tellR (l : Launch) (D : va_G) {ct : Nat → ClassId} {ad : Nat → Nat} {da : Nat → Nat → Nat} {nd : Nat} {nb : Nat} {nf : Nat} {bdk : Nat → Nat} {num : Nat → Nat} {spt : Nat → Nat} {val : Nat → Int64} {tim : Nat → Nat} {rep : Nat → Nat → Bool} {byN : Nat → Nat} {byS : Nat → Nat} {pk : Nat → Bool} {kn : Nat → Nat → Bool} {pe : Nat → Nat → Bool} {clk : Nat → Nat} {tol : Nat → Nat} {opn : Nat → Option Nat} (d : Nat) (hd0 : d < nd) (sp : Nat) (v : Int64) (hlt : nf < 300) (hbN : ∀ j, j < nf → byN j < nf) (hbS : ∀ j, j < nf → byS j < nf) (hnum : ∀ k, k < nf → num k < 2 ^ 31) (hspt : ∀ k, k < nf → spt k < 2 ^ 31) (hsp : sp < 2 ^ 31) (htol : tol d ≤ 300) (hnd : nd ≤ 8) (hob : ∀ b0, opn d = some b0 → b0 < 2 ^ 31) : CI l y_T_tellReplacing b_T_tellReplacing 8 (some .int) (rmK 3 0 0) D (tyL ct) (CW ct ad da nd nb nf bdk num spt val tim rep byN byS pk kn pe clk tol opn) [.ref (ad 0), .ref (da (d) 0), .int (nI (sp)), .long (v), .ref (ad 11)] 0 0 (fun r u => r = nI (8 * tol d + d) ∧ ∃ (Rp : Nat → Nat → Bool) (p1 p2 : Nat) (B1 B2 : Nat → Nat), (∀ o n, Rp o n = (rep o n || (decide (o < nf) && (pk o && decide (n = nf))))) ∧ (p1 ≤ nf ∧ (∀ j, j < p1 → B1 j = byN j) ∧ B1 p1 = nf ∧ (∀ j, p1 < j → j ≤ nf → B1 j = byN (j - 1)) ∧ (∀ j, p1 ≤ j → j < nf → va_up num nf (8 * tol d + d) nf < va_up num nf (8 * tol d + d) (byN j)) ∧ (∀ i, p1 = i + 1 → va_up num nf (8 * tol d + d) (byN i) ≤ va_up num nf (8 * tol d + d) nf)) ∧ (p2 ≤ nf ∧ (∀ j, j < p2 → B2 j = byS j) ∧ B2 p2 = nf ∧ (∀ j, p2 < j → j ≤ nf → B2 j = byS (j - 1)) ∧ (∀ j, p2 ≤ j → j < nf → va_up spt nf sp nf < va_up spt nf sp (byS j)) ∧ (∀ i, p2 = i + 1 → va_up spt nf sp (byS i) ≤ va_up spt nf sp nf)) ∧ u = CW ct ad da nd nb (nf + 1) bdk (va_up num nf (8 * tol d + d)) (va_up spt nf sp) (va_up val nf v) (va_up tim nf (clk d + 1)) Rp B1 B2 pk (knH opn kn d nf) (peH opn pe d nf) (va_up clk (d) ((clk (d)) + (1))) (va_up tol (d) ((tol (d)) + (1))) opn) := by
  refine CI.start (by decide) (Nat.le_of_ble_eq_true rfl) ?_
  intro p e s m below meth c F hr hnm
  show V p l e (rmK 3 0 0) s m [.ref (ad 0), .ref (da (d) 0), .int (nI (sp)), .long (v), .ref (ad 11)].toArray below meth c D (va_A (CW ct ad da nd nb nf bdk num spt val tim rep byN byS pk kn pe clk tol opn) s.heap.size) 8 0 0 (EI D below (CW ct ad da nd nb nf bdk num spt val tim rep byN byS pk kn pe clk tol opn) [.ref (ad 0), .ref (da (d) 0), .int (nI (sp)), .long (v), .ref (ad 11)].toArray s 0 0 (fun r u => r = nI (8 * tol d + d) ∧ ∃ (Rp : Nat → Nat → Bool) (p1 p2 : Nat) (B1 B2 : Nat → Nat), (∀ o n, Rp o n = (rep o n || (decide (o < nf) && (pk o && decide (n = nf))))) ∧ (p1 ≤ nf ∧ (∀ j, j < p1 → B1 j = byN j) ∧ B1 p1 = nf ∧ (∀ j, p1 < j → j ≤ nf → B1 j = byN (j - 1)) ∧ (∀ j, p1 ≤ j → j < nf → va_up num nf (8 * tol d + d) nf < va_up num nf (8 * tol d + d) (byN j)) ∧ (∀ i, p1 = i + 1 → va_up num nf (8 * tol d + d) (byN i) ≤ va_up num nf (8 * tol d + d) nf)) ∧ (p2 ≤ nf ∧ (∀ j, j < p2 → B2 j = byS j) ∧ B2 p2 = nf ∧ (∀ j, p2 < j → j ≤ nf → B2 j = byS (j - 1)) ∧ (∀ j, p2 ≤ j → j < nf → va_up spt nf sp nf < va_up spt nf sp (byS j)) ∧ (∀ i, p2 = i + 1 → va_up spt nf sp (byS i) ≤ va_up spt nf sp nf)) ∧ u = CW ct ad da nd nb (nf + 1) bdk (va_up num nf (8 * tol d + d)) (va_up spt nf sp) (va_up val nf v) (va_up tim nf (clk d + 1)) Rp B1 B2 pk (knH opn kn d nf) (peH opn pe d nf) (va_up clk (d) ((clk (d)) + (1))) (va_up tol (d) ((tol (d)) + (1))) opn)) (CW ct ad da nd nb nf bdk num spt val tim rep byN byS pk kn pe clk tol opn) [(0, .ref (ad 0)), (1, .ref (da (d) 0)), (2, .int (nI (sp))), (3, .long (v)), (5, .ref (ad 11))] 0 []
  refine V.aload_n F d_T_tellReplacing_0 rfl 1 rfl ?_
  refine V.callVI0 (As := []) (rest := []) F (c_nextNumber l D d hd0) d_T_tellReplacing_1 sv_T_161 im_y_K_nextNumber sl_y_K_nextNumber (13 + (5 * (d) + 0)) (cw_d0 hd0) rfl rfl rfl rfl (Nat.le_of_ble_eq_true rfl) ⟨rfl, rfl, (Nat.le_of_ble_eq_true rfl), (Nat.le_of_ble_eq_true rfl)⟩ ⟨(Nat.le_of_ble_eq_true rfl), (Nat.le_of_ble_eq_true rfl)⟩ (fun r9 u9 h9 => ?_)
  obtain ⟨rfl, rfl⟩ := h9
  refine V.istore (lv2 := [(6, .int (nI (8 * tol d + d))), (0, .ref (ad 0)), (1, .ref (da (d) 0)), (2, .int (nI (sp))), (3, .long (v)), (5, .ref (ad 11))]) F d_T_tellReplacing_4 (by decide) rfl ?_
  refine V.aload_n F d_T_tellReplacing_6 rfl 1 rfl ?_
  refine V.get F ck_T d_T_tellReplacing_7 2 (by decide) lk_T_22 0 rfl rfl ?_
  refine V.iload F d_T_tellReplacing_10 0 rfl ?_
  refine V.iload_n F d_T_tellReplacing_12 rfl 3 rfl ?_
  refine V.lload_n F d_T_tellReplacing_13 rfl 4 rfl ?_
  refine V.aload_n F d_T_tellReplacing_14 rfl 2 rfl ?_
  refine V.callVI0 (As := []) (rest := [.long (v), .int (nI (sp)), .int (nI (8 * tol d + d)), .ref (ad 3)]) F (c_nextTime l D d hd0) d_T_tellReplacing_15 sv_T_164 im_y_K_nextTime sl_y_K_nextTime (13 + (5 * (d) + 0)) (cw_d0 hd0) rfl rfl rfl rfl (Nat.le_of_ble_eq_true rfl) ⟨rfl, rfl, (Nat.le_of_ble_eq_true rfl), (Nat.le_of_ble_eq_true rfl)⟩ ⟨(Nat.le_of_ble_eq_true rfl), (Nat.le_of_ble_eq_true rfl)⟩ (fun r9 u9 h9 => ?_)
  obtain ⟨rfl, rfl⟩ := h9
  refine V.aload F d_T_tellReplacing_18 5 rfl ?_
  refine V.callVI0 (As := [.int (nI (8 * tol d + d)), .int (nI (sp)), .long (v), .int (nI (clk d + 1)), .ref (ad 11)]) (rest := []) F (c_append l D _ sp _ v hlt hbN hbS hnum hspt (by omega) hsp) d_T_tellReplacing_20 sv_T_167 im_y_A_append sl_y_A_append 3 rfl rfl rfl rfl rfl (Nat.le_of_ble_eq_true rfl) ⟨rfl, rfl, (Nat.le_of_ble_eq_true rfl), (Nat.le_of_ble_eq_true rfl)⟩ ⟨(Nat.le_of_ble_eq_true rfl), (Nat.le_of_ble_eq_true rfl)⟩ (fun r9 u9 h9 => ?_)
  obtain ⟨rfl, Rp, p1, p2, B1, B2, hR, hB1, hB2, rfl⟩ := h9
  refine V.istore (lv2 := [(7, .int (nI (nf))), (6, .int (nI (8 * tol d + d))), (0, .ref (ad 0)), (1, .ref (da (d) 0)), (2, .int (nI (sp))), (3, .long (v)), (5, .ref (ad 11))]) F d_T_tellReplacing_23 (by decide) rfl ?_
  refine V.iload F d_T_tellReplacing_25 0 rfl ?_
  refine V.iconst F d_T_tellReplacing_27 (v := -1) (by decide) ?_
  refine V.icmp_ne (x := nI (nf)) (y := -1) (tgt := 34) F d_T_tellReplacing_28 (by decide) (fun c28 => ?_) (fun c28 => ?_)
  · skip
    refine V.aload_n F d_T_tellReplacing_34 rfl 3 rfl ?_
    refine V.iload F d_T_tellReplacing_35 0 rfl ?_
    refine V.callVV0 (As := [.int (nI (nf))]) (rest := []) F (c_hear l D d hd0 nf (by omega) hob) d_T_tellReplacing_37 sv_T_171 im_y_K_hear sl_y_K_hear (13 + (5 * (d) + 0)) (cw_d0 hd0) rfl rfl rfl rfl (Nat.le_of_ble_eq_true rfl) ⟨rfl, rfl, (Nat.le_of_ble_eq_true rfl), (Nat.le_of_ble_eq_true rfl)⟩ ⟨(Nat.le_of_ble_eq_true rfl), (Nat.le_of_ble_eq_true rfl)⟩ (fun u9 h9 => ?_)
    obtain rfl := h9
    refine V.iload F d_T_tellReplacing_40 1 rfl ?_
    exact V.iret F hr d_T_tellReplacing_42 (⟨rfl, Rp, p1, p2, B1, B2, hR, hB1, hB2, rfl⟩)
  · skip
    exact absurd c28 (nI_nm1 (by omega))
end
section
abbrev aM (ct : Nat → ClassId) (n : Nat) (g : Nat → Nat) : va_E := .inl (ct 1, n, .inr (.inl (fun j => lN (g j))))
abbrev aO (ct : Nat → ClassId) (n : Nat) (g : Nat → Option Nat) : va_E := .inl (ct 0, n, .inl (fun j => oI (g j)))
abbrev aB (ct : Nat → ClassId) (n : Nat) (g : Nat → Bool) : va_E := .inl (ct 3, n, .inl (fun j => bI (g j)))
abbrev aR (ct : Nat → ClassId) (rep : Nat → Nat → Bool) : va_E := .inl (ct 3, 90000, .inl (fun j => bI (rep (j % 300) (j / 300))))
abbrev aK (ct : Nat → ClassId) (kn : Nat → Nat → Bool) : va_E := .inl (ct 3, 2400, .inl (fun j => bI (kn (j / 300) (j % 300))))
def MW (ct : Nat → ClassId) (mo : Nat → Nat) (nd : Nat) (nb : Nat) (nf : Nat) (bdk : Nat → Nat) (num : Nat → Nat) (thg : Nat → Nat) (knd : Nat → Nat) (dy : Nat → Nat) (val : Nat → Int64) (tim : Nat → Nat) (rep : Nat → Nat → Bool) (kn : Nat → Nat → Bool) (clk : Nat → Nat) (tol : Nat → Nat) (opn : Nat → Option Nat) (bof : Nat → Option Nat) (std : Nat → Bool) (xd : Int64) : va_W := [(mo 0, .inr (5, [.int (nI nd), .ref (mo 1), .ref (mo 2), .ref (mo 3), .ref (mo 4), .ref (mo 5), .ref (mo 6), .ref (mo 7), .ref (mo 8), .ref (mo 9), .ref (mo 10), .ref (mo 11), .ref (mo 12), .int (nI nf), .ref (mo 13), .int (nI nb), .ref (mo 14), .long xd])), (mo 1, aM ct 8 clk), (mo 2, aI ct 8 tol), (mo 3, aO ct 8 opn), (mo 4, aI ct 300 num), (mo 5, aI ct 300 thg), (mo 6, aI ct 300 knd), (mo 7, aM ct 300 dy), (mo 8, aL ct 300 val), (mo 9, aM ct 300 tim), (mo 10, aO ct 300 bof), (mo 11, aR ct rep), (mo 12, aK ct kn), (mo 13, aI ct 40 bdk), (mo 14, aB ct 300 std)]
section MWS
variable {ct : Nat → ClassId} {mo : Nat → Nat} {nd : Nat} {nb : Nat} {nf : Nat} {bdk : Nat → Nat} {num : Nat → Nat} {thg : Nat → Nat} {knd : Nat → Nat} {dy : Nat → Nat} {val : Nat → Int64} {tim : Nat → Nat} {rep : Nat → Nat → Bool} {kn : Nat → Nat → Bool} {clk : Nat → Nat} {tol : Nat → Nat} {opn : Nat → Option Nat} {bof : Nat → Option Nat} {std : Nat → Bool} {xd : Int64}
theorem mw_set_nd {y : Nat} : (MW ct mo nd nb nf bdk num thg knd dy val tim rep kn clk tol opn bof std xd).set 0 (mo 0, .inr (5, [.int (nI y), .ref (mo 1), .ref (mo 2), .ref (mo 3), .ref (mo 4), .ref (mo 5), .ref (mo 6), .ref (mo 7), .ref (mo 8), .ref (mo 9), .ref (mo 10), .ref (mo 11), .ref (mo 12), .int (nI nf), .ref (mo 13), .int (nI nb), .ref (mo 14), .long xd])) = MW ct mo y nb nf bdk num thg knd dy val tim rep kn clk tol opn bof std xd := rfl
theorem mw_set_nb {y : Nat} : (MW ct mo nd nb nf bdk num thg knd dy val tim rep kn clk tol opn bof std xd).set 0 (mo 0, .inr (5, [.int (nI nd), .ref (mo 1), .ref (mo 2), .ref (mo 3), .ref (mo 4), .ref (mo 5), .ref (mo 6), .ref (mo 7), .ref (mo 8), .ref (mo 9), .ref (mo 10), .ref (mo 11), .ref (mo 12), .int (nI nf), .ref (mo 13), .int (nI y), .ref (mo 14), .long xd])) = MW ct mo nd y nf bdk num thg knd dy val tim rep kn clk tol opn bof std xd := rfl
theorem mw_set_nf {y : Nat} : (MW ct mo nd nb nf bdk num thg knd dy val tim rep kn clk tol opn bof std xd).set 0 (mo 0, .inr (5, [.int (nI nd), .ref (mo 1), .ref (mo 2), .ref (mo 3), .ref (mo 4), .ref (mo 5), .ref (mo 6), .ref (mo 7), .ref (mo 8), .ref (mo 9), .ref (mo 10), .ref (mo 11), .ref (mo 12), .int (nI y), .ref (mo 13), .int (nI nb), .ref (mo 14), .long xd])) = MW ct mo nd nb y bdk num thg knd dy val tim rep kn clk tol opn bof std xd := rfl
theorem mw_set_xd {y : Int64} : (MW ct mo nd nb nf bdk num thg knd dy val tim rep kn clk tol opn bof std xd).set 0 (mo 0, .inr (5, [.int (nI nd), .ref (mo 1), .ref (mo 2), .ref (mo 3), .ref (mo 4), .ref (mo 5), .ref (mo 6), .ref (mo 7), .ref (mo 8), .ref (mo 9), .ref (mo 10), .ref (mo 11), .ref (mo 12), .int (nI nf), .ref (mo 13), .int (nI nb), .ref (mo 14), .long y])) = MW ct mo nd nb nf bdk num thg knd dy val tim rep kn clk tol opn bof std y := rfl
theorem mw_set_clk {y : Nat → Nat} : (MW ct mo nd nb nf bdk num thg knd dy val tim rep kn clk tol opn bof std xd).set 1 (mo 1, aM ct 8 y) = MW ct mo nd nb nf bdk num thg knd dy val tim rep kn y tol opn bof std xd := rfl
theorem mw_set_tol {y : Nat → Nat} : (MW ct mo nd nb nf bdk num thg knd dy val tim rep kn clk tol opn bof std xd).set 2 (mo 2, aI ct 8 y) = MW ct mo nd nb nf bdk num thg knd dy val tim rep kn clk y opn bof std xd := rfl
theorem mw_set_opn {y : Nat → Option Nat} : (MW ct mo nd nb nf bdk num thg knd dy val tim rep kn clk tol opn bof std xd).set 3 (mo 3, aO ct 8 y) = MW ct mo nd nb nf bdk num thg knd dy val tim rep kn clk tol y bof std xd := rfl
theorem mw_set_num {y : Nat → Nat} : (MW ct mo nd nb nf bdk num thg knd dy val tim rep kn clk tol opn bof std xd).set 4 (mo 4, aI ct 300 y) = MW ct mo nd nb nf bdk y thg knd dy val tim rep kn clk tol opn bof std xd := rfl
theorem mw_set_thg {y : Nat → Nat} : (MW ct mo nd nb nf bdk num thg knd dy val tim rep kn clk tol opn bof std xd).set 5 (mo 5, aI ct 300 y) = MW ct mo nd nb nf bdk num y knd dy val tim rep kn clk tol opn bof std xd := rfl
theorem mw_set_knd {y : Nat → Nat} : (MW ct mo nd nb nf bdk num thg knd dy val tim rep kn clk tol opn bof std xd).set 6 (mo 6, aI ct 300 y) = MW ct mo nd nb nf bdk num thg y dy val tim rep kn clk tol opn bof std xd := rfl
theorem mw_set_dy {y : Nat → Nat} : (MW ct mo nd nb nf bdk num thg knd dy val tim rep kn clk tol opn bof std xd).set 7 (mo 7, aM ct 300 y) = MW ct mo nd nb nf bdk num thg knd y val tim rep kn clk tol opn bof std xd := rfl
theorem mw_set_val {y : Nat → Int64} : (MW ct mo nd nb nf bdk num thg knd dy val tim rep kn clk tol opn bof std xd).set 8 (mo 8, aL ct 300 y) = MW ct mo nd nb nf bdk num thg knd dy y tim rep kn clk tol opn bof std xd := rfl
theorem mw_set_tim {y : Nat → Nat} : (MW ct mo nd nb nf bdk num thg knd dy val tim rep kn clk tol opn bof std xd).set 9 (mo 9, aM ct 300 y) = MW ct mo nd nb nf bdk num thg knd dy val y rep kn clk tol opn bof std xd := rfl
theorem mw_set_bof {y : Nat → Option Nat} : (MW ct mo nd nb nf bdk num thg knd dy val tim rep kn clk tol opn bof std xd).set 10 (mo 10, aO ct 300 y) = MW ct mo nd nb nf bdk num thg knd dy val tim rep kn clk tol opn y std xd := rfl
theorem mw_set_rep {y : Nat → Nat → Bool} : (MW ct mo nd nb nf bdk num thg knd dy val tim rep kn clk tol opn bof std xd).set 11 (mo 11, aR ct y) = MW ct mo nd nb nf bdk num thg knd dy val tim y kn clk tol opn bof std xd := rfl
theorem mw_set_kn {y : Nat → Nat → Bool} : (MW ct mo nd nb nf bdk num thg knd dy val tim rep kn clk tol opn bof std xd).set 12 (mo 12, aK ct y) = MW ct mo nd nb nf bdk num thg knd dy val tim rep y clk tol opn bof std xd := rfl
theorem mw_set_bdk {y : Nat → Nat} : (MW ct mo nd nb nf bdk num thg knd dy val tim rep kn clk tol opn bof std xd).set 13 (mo 13, aI ct 40 y) = MW ct mo nd nb nf y num thg knd dy val tim rep kn clk tol opn bof std xd := rfl
theorem mw_set_std {y : Nat → Bool} : (MW ct mo nd nb nf bdk num thg knd dy val tim rep kn clk tol opn bof std xd).set 14 (mo 14, aB ct 300 y) = MW ct mo nd nb nf bdk num thg knd dy val tim rep kn clk tol opn bof y xd := rfl
end MWS
theorem updL_lN (g : Nat → Nat) (i x : Nat) : vp_updL (fun j => lN (g j)) i (lN x) = fun j => lN (va_up g i x j) := by
  funext j
  by_cases h : j = i
  · subst h; rw [va_up_self]; simp [vp_updL]
  · rw [va_up_ne _ _ h]; simp [vp_updL, h]
theorem upd_oI (g : Nat → Option Nat) (i : Nat) (x : Option Nat) : upd (fun j => oI (g j)) i (oI x) = fun j => oI (va_up g i x j) := by
  funext j
  by_cases h : j = i
  · subst h; rw [va_up_self]; simp [upd]
  · rw [va_up_ne _ _ h]; simp [upd, h]
theorem upd_bI (g : Nat → Bool) (i : Nat) (x : Bool) : upd (fun j => bI (g j)) i (bI x) = fun j => bI (va_up g i x j) := by
  funext j
  by_cases h : j = i
  · subst h; rw [va_up_self]; simp [upd]
  · rw [va_up_ne _ _ h]; simp [upd, h]
def up2 (g : Nat → Nat → Bool) (a b : Nat) (x : Bool) : Nat → Nat → Bool := fun i j => if i = a ∧ j = b then x else g i j
theorem kn_at {kn : Nat → Nat → Bool} {d f : Nat} (h : f < 300) : (fun j => bI (kn (j / 300) (j % 300))) (d * 300 + f) = bI (kn d f) := by
  show bI (kn ((d * 300 + f) / 300) ((d * 300 + f) % 300)) = _
  rw [show (d * 300 + f) / 300 = d by omega, show (d * 300 + f) % 300 = f by omega]
theorem rp_at {rep : Nat → Nat → Bool} {g f : Nat} (h : f < 300) : (fun j => bI (rep (j % 300) (j / 300))) (g * 300 + f) = bI (rep f g) := by
  show bI (rep ((g * 300 + f) % 300) ((g * 300 + f) / 300)) = _
  rw [show (g * 300 + f) / 300 = g by omega, show (g * 300 + f) % 300 = f by omega]
theorem kn_up {kn : Nat → Nat → Bool} {d f : Nat} {x : Bool} (h : f < 300) : upd (fun j => bI (kn (j / 300) (j % 300))) (d * 300 + f) (bI x) = fun j => bI (up2 kn d f x (j / 300) (j % 300)) := by
  funext j
  unfold up2
  by_cases e : j = d * 300 + f
  · subst e
    rw [if_pos ⟨by omega, by omega⟩]
    simp [upd]
  · rw [if_neg (by omega)]
    simp [upd, e]
theorem rp_up {rep : Nat → Nat → Bool} {g f : Nat} {x : Bool} (h : f < 300) : upd (fun j => bI (rep (j % 300) (j / 300))) (g * 300 + f) (bI x) = fun j => bI (up2 rep f g x (j % 300) (j / 300)) := by
  funext j
  unfold up2
  by_cases e : j = g * 300 + f
  · subst e
    rw [if_pos ⟨by omega, by omega⟩]
    simp [upd]
  · rw [if_neg (by omega)]
    simp [upd, e]
end
section
def oB (o : Option Nat) : Bool := match o with
  | none => true
  | some _ => false
theorem oB_t {o : Option Nat} (hb : ∀ g, o = some g → g < 2 ^ 31) (h : oI o = -1) : oB o = true := by rw [oI_none hb h]; rfl
theorem oB_f {o : Option Nat} (h : ¬ oI o = -1) : oB o = false := by
  obtain ⟨g, rfl⟩ := oI_some h
  rfl
def lkB (S : Nat → Bool) (rep : Nat → Nat → Bool) (f n : Nat) : Bool := S f && !(anyB (fun k => rep f k && S k) n)
theorem lkB_st {S : Nat → Bool} {rep : Nat → Nat → Bool} {f nf : Nat} (hk : ∀ k, S k = true → k < nf) (hn : nf ≤ 320) : lkB S rep f nf = stB S rep f := by
  unfold lkB stB
  have e : anyB (fun k => rep f k && S k) nf = anyB (fun k => rep f k && S k) 320 := by
    rw [Bool.eq_iff_iff, anyB_iff, anyB_iff]
    constructor
    · rintro ⟨k, h1, h2⟩
      exact ⟨k, by omega, h2⟩
    · rintro ⟨k, h1, h2⟩
      refine ⟨k, hk k ?_, h2⟩
      rw [Bool.and_eq_true] at h2
      exact h2.2
  rw [e]
theorem lk_1 {P S : Nat → Bool} {rep : Nat → Nat → Bool} {nf g j : Nat} {b : Bool} (hP : ∀ f, f < nf → P f = lkB S rep f (if f < j then g + 1 else g)) (hg : S g = true) (hj : j < nf) (hb : b = (P j && !(rep j g))) : ∀ f, f < nf → va_up P j b f = lkB S rep f (if f < j + 1 then g + 1 else g) := by
  intro f hf
  by_cases e : f = j
  · subst e
    rw [va_up_self, if_pos (by omega), hb, hP f hf, if_neg (by omega)]
    unfold lkB
    rw [anyB, hg, Bool.and_true, Bool.not_or, Bool.and_assoc]
  · rw [va_up_ne _ _ e, hP f hf]
    have : (if f < j then g + 1 else g) = (if f < j + 1 then g + 1 else g) := by
      by_cases h : f < j
      · rw [if_pos h, if_pos (by omega)]
      · rw [if_neg h, if_neg (by omega)]
    rw [this]
theorem lk_0 {P S : Nat → Bool} {rep : Nat → Nat → Bool} {nf g j : Nat} (hP : ∀ f, f < nf → P f = lkB S rep f (if f < j then g + 1 else g)) (hg : S g = false) : ∀ f, f < nf → P f = lkB S rep f (g + 1) := by
  intro f hf
  rw [hP f hf]
  have e : lkB S rep f (g + 1) = lkB S rep f g := by
    unfold lkB
    rw [anyB, hg, Bool.and_false, Bool.or_false]
  by_cases h : f < j
  · rw [if_pos h]
  · rw [if_neg h, e]
theorem lk_e {P S : Nat → Bool} {rep : Nat → Nat → Bool} {nf g j : Nat} (hP : ∀ f, f < nf → P f = lkB S rep f (if f < j then g + 1 else g)) (hj : nf ≤ j) : ∀ f, f < nf → P f = lkB S rep f (g + 1) := fun f hf => by rw [hP f hf, if_pos (by omega)]
def fcB (spt : Nat → Nat) (val : Nat → Int64) (std : Nat → Bool) (nf f : Nat) : Bool := (std f && !(anyB (fun g => decide (spt f = spt g) && std g) f)) && anyB (fun g => (decide (spt f = spt g) && std g) && decide (val g ≠ val f)) nf
theorem fc_no {spt : Nat → Nat} {val : Nat → Int64} {std : Nat → Bool} {nf f : Nat} (h : std f = false) : fcB spt val std nf f = false := by unfold fcB; rw [h]; rfl
theorem fc_early {spt : Nat → Nat} {val : Nat → Int64} {std : Nat → Bool} {nf f g : Nat} (hg : g < f) (h1 : decide (spt f = spt g) = true) (h2 : std g = true) : fcB spt val std nf f = false := by
  unfold fcB
  rw [anyB_true (k := g) hg (by rw [h1, h2]; rfl)]
  simp
theorem fc_end {spt : Nat → Nat} {val : Nat → Int64} {std : Nat → Bool} {nf f : Nat} {u : Bool} (h0 : std f = true) (he : ∀ g, g < nf → g < f → (decide (spt f = spt g) && std g) = false) (hf : f < nf) (hu : u = anyB (fun g => (decide (spt f = spt g) && std g) && decide (val g ≠ val f)) nf) : u = fcB spt val std nf f := by
  unfold fcB
  rw [h0, anyB_false (fun k hk => he k (by omega) hk), ← hu]
  rfl
theorem fcB_congr {spt : Nat → Nat} {val : Nat → Int64} {s1 s2 : Nat → Bool} {nf f : Nat} (hf : f < nf) (h : ∀ g, g < nf → s1 g = s2 g) : fcB spt val s1 nf f = fcB spt val s2 nf f := by
  unfold fcB
  have c : ∀ (p q : Nat → Bool) (n : Nat), (∀ k, k < n → p k = q k) → anyB p n = anyB q n := by
    intro p q n hpq
    rw [Bool.eq_iff_iff, anyB_iff, anyB_iff]
    exact ⟨fun ⟨k, a, b⟩ => ⟨k, a, by rw [← hpq k a]; exact b⟩, fun ⟨k, a, b⟩ => ⟨k, a, by rw [hpq k a]; exact b⟩⟩
  rw [h f hf, c _ (fun g => decide (spt f = spt g) && s2 g) f (fun k hk => by rw [h k (by omega)]), c _ (fun g => (decide (spt f = spt g) && s2 g) && decide (val g ≠ val f)) nf (fun k hk => by rw [h k hk])]
def SpR (spt thg knd dy : Nat → Nat) (nf : Nat) : Prop := ∀ f, f < nf → spt f = (thg f * 10 + knd f) * 100001 + dy f ∧ thg f < 100 ∧ knd f < 10 ∧ dy f < 100001
theorem i64_ll {a b : Int64} (h : a ≤ b) (h2 : b < a) : False := by
  simp only [Int64.lt_iff_toInt_lt, Int64.le_iff_toInt_le] at *
  omega
theorem lN_n0 {n : Nat} (h : n < 2 ^ 31) : ¬ lN n < 0 := fun q => by
  have := (lN_lt (b := 0) h (by decide)).mp q
  omega
theorem lN_le5 {n : Nat} (h : n < 100001) : lN n ≤ 100000 := (lN_le (b := 100000) (by omega) (by decide)).mpr (by omega)
theorem ss_1 {S : Nat → Bool} {rep : Nat → Nat → Bool} {f i : Nat} {z : Bool} (hz : z = lkB S rep f i) (hc : z = true) (h : (rep f i && S i) = false) : true = lkB S rep f (i + 1) := by
  rw [hc] at hz
  unfold lkB at *
  rw [anyB, h, Bool.or_false]
  exact hz
theorem ss_0 {S : Nat → Bool} {rep : Nat → Nat → Bool} {f i : Nat} (h : (rep f i && S i) = true) : false = lkB S rep f (i + 1) := by
  unfold lkB
  rw [anyB, h, Bool.or_true]
  simp
theorem ss_e {S : Nat → Bool} {rep : Nat → Nat → Bool} {f i n : Nat} (h : lkB S rep f i = false) (hi : i ≤ n) : lkB S rep f n = false := by
  unfold lkB at *
  cases e : S f with
  | false => rfl
  | true =>
    rw [e, Bool.true_and] at h
    have h2 : anyB (fun k => rep f k && S k) i = true := by simpa using h
    obtain ⟨k, h3, h4⟩ := (anyB_iff _ _).mp h2
    rw [anyB_true (k := k) (by omega) h4]
    rfl
set_option maxHeartbeats 4000000 in
set_option maxRecDepth 100000 in
theorem m_isDesk (l : Launch) (D : va_G) {ct : Nat → ClassId} {mo : Nat → Nat} {nd : Nat} {nb : Nat} {nf : Nat} {bdk : Nat → Nat} {num : Nat → Nat} {thg : Nat → Nat} {knd : Nat → Nat} {dy : Nat → Nat} {val : Nat → Int64} {tim : Nat → Nat} {rep : Nat → Nat → Bool} {kn : Nat → Nat → Bool} {clk : Nat → Nat} {tol : Nat → Nat} {opn : Nat → Option Nat} {bof : Nat → Option Nat} {std : Nat → Bool} {xd : Int64} (hnd : nd ≤ 8) (d : Nat) (hd0 : d < nd) : CI l y_M_isDesk b_M_isDesk 2 (some .boolean) (rmK 0 0 0) D (tyL ct) (MW ct mo nd nb nf bdk num thg knd dy val tim rep kn clk tol opn bof std xd) [.ref (mo 0), .int (nI (d))] 0 0 (fun r u => r = bI true ∧ u = MW ct mo nd nb nf bdk num thg knd dy val tim rep kn clk tol opn bof std xd) := by
  refine CI.start (by decide) (Nat.le_of_ble_eq_true rfl) ?_
  intro p e s m below meth c F hr hnm
  show V p l e (rmK 0 0 0) s m [.ref (mo 0), .int (nI (d))].toArray below meth c D (va_A (MW ct mo nd nb nf bdk num thg knd dy val tim rep kn clk tol opn bof std xd) s.heap.size) 2 0 0 (EI D below (MW ct mo nd nb nf bdk num thg knd dy val tim rep kn clk tol opn bof std xd) [.ref (mo 0), .int (nI (d))].toArray s 0 0 (fun r u => r = bI true ∧ u = MW ct mo nd nb nf bdk num thg knd dy val tim rep kn clk tol opn bof std xd)) (MW ct mo nd nb nf bdk num thg knd dy val tim rep kn clk tol opn bof std xd) [(0, .ref (mo 0)), (1, .int (nI (d)))] 0 []
  refine V.iload_n F d_M_isDesk_0 rfl 1 rfl ?_
  refine V.if_lt (x := nI (d)) (tgt := 16) F d_M_isDesk_1 (by decide) (fun c1 => ?_) (fun c1 => ?_)
  · skip
    exact absurd c1 (nI_pos (by omega))
  · skip
    refine V.iload_n F d_M_isDesk_4 rfl 1 rfl ?_
    refine V.aload_n F d_M_isDesk_5 rfl 0 rfl ?_
    refine V.get F ck_M d_M_isDesk_6 0 (by decide) lk_M_55 0 rfl rfl ?_
    refine V.icmp_geN (tgt := 16) F d_M_isDesk_9 (by decide) (by omega) (by omega) (fun c9 => ?_) (fun c9 => ?_)
    · skip
      exact absurd c9 (by omega)
    · skip
      refine V.iconst F d_M_isDesk_12 (v := nI (1)) (by decide) ?_
      refine V.goto (tgt := 17) F d_M_isDesk_13 (by decide) ?_
      exact V.zret F hr (nar_1) d_M_isDesk_17 (⟨bI_t, rfl⟩)

set_option maxHeartbeats 4000000 in
set_option maxRecDepth 100000 in
theorem m_isDeskNo (l : Launch) (D : va_G) {ct : Nat → ClassId} {mo : Nat → Nat} {nd : Nat} {nb : Nat} {nf : Nat} {bdk : Nat → Nat} {num : Nat → Nat} {thg : Nat → Nat} {knd : Nat → Nat} {dy : Nat → Nat} {val : Nat → Int64} {tim : Nat → Nat} {rep : Nat → Nat → Bool} {kn : Nat → Nat → Bool} {clk : Nat → Nat} {tol : Nat → Nat} {opn : Nat → Option Nat} {bof : Nat → Option Nat} {std : Nat → Bool} {xd : Int64} (x : Int32) (hx : x < 0 ∨ nI nd ≤ x) : CI l y_M_isDesk b_M_isDesk 2 (some .boolean) (rmK 0 0 0) D (tyL ct) (MW ct mo nd nb nf bdk num thg knd dy val tim rep kn clk tol opn bof std xd) [.ref (mo 0), .int (x)] 0 0 (fun r u => r = bI false ∧ u = MW ct mo nd nb nf bdk num thg knd dy val tim rep kn clk tol opn bof std xd) := by
  refine CI.start (by decide) (Nat.le_of_ble_eq_true rfl) ?_
  intro p e s m below meth c F hr hnm
  show V p l e (rmK 0 0 0) s m [.ref (mo 0), .int (x)].toArray below meth c D (va_A (MW ct mo nd nb nf bdk num thg knd dy val tim rep kn clk tol opn bof std xd) s.heap.size) 2 0 0 (EI D below (MW ct mo nd nb nf bdk num thg knd dy val tim rep kn clk tol opn bof std xd) [.ref (mo 0), .int (x)].toArray s 0 0 (fun r u => r = bI false ∧ u = MW ct mo nd nb nf bdk num thg knd dy val tim rep kn clk tol opn bof std xd)) (MW ct mo nd nb nf bdk num thg knd dy val tim rep kn clk tol opn bof std xd) [(0, .ref (mo 0)), (1, .int (x))] 0 []
  refine V.iload_n F d_M_isDesk_0 rfl 1 rfl ?_
  refine V.if_lt (x := x) (tgt := 16) F d_M_isDesk_1 (by decide) (fun c1 => ?_) (fun c1 => ?_)
  · skip
    refine V.iconst F d_M_isDesk_16 (v := nI (0)) (by decide) ?_
    exact V.zret F hr (nar_0) d_M_isDesk_17 (⟨bI_f, rfl⟩)
  · skip
    refine V.iload_n F d_M_isDesk_4 rfl 1 rfl ?_
    refine V.aload_n F d_M_isDesk_5 rfl 0 rfl ?_
    refine V.get F ck_M d_M_isDesk_6 0 (by decide) lk_M_55 0 rfl rfl ?_
    refine V.icmp_ge (x := x) (y := nI (nd)) (tgt := 16) F d_M_isDesk_9 (by decide) (fun c9 => ?_) (fun c9 => ?_)
    · skip
      refine V.iconst F d_M_isDesk_16 (v := nI (0)) (by decide) ?_
      exact V.zret F hr (nar_0) d_M_isDesk_17 (⟨bI_f, rfl⟩)
    · skip
      exact absurd c9 (fun q => hx.elim c1 (fun z => q z))

set_option maxHeartbeats 4000000 in
set_option maxRecDepth 100000 in
theorem m_deskFull (l : Launch) (D : va_G) {ct : Nat → ClassId} {mo : Nat → Nat} {nd : Nat} {nb : Nat} {nf : Nat} {bdk : Nat → Nat} {num : Nat → Nat} {thg : Nat → Nat} {knd : Nat → Nat} {dy : Nat → Nat} {val : Nat → Int64} {tim : Nat → Nat} {rep : Nat → Nat → Bool} {kn : Nat → Nat → Bool} {clk : Nat → Nat} {tol : Nat → Nat} {opn : Nat → Option Nat} {bof : Nat → Option Nat} {std : Nat → Bool} {xd : Int64} (hnd : nd = 8) : CI l y_M_desk b_M_desk 1 (some .int) (rmK 0 0 0) D (tyL ct) (MW ct mo nd nb nf bdk num thg knd dy val tim rep kn clk tol opn bof std xd) [.ref (mo 0)] 0 0 (fun r u => r = -2 ∧ u = MW ct mo nd nb nf bdk num thg knd dy val tim rep kn clk tol opn bof std xd) := by
  refine CI.start (by decide) (Nat.le_of_ble_eq_true rfl) ?_
  intro p e s m below meth c F hr hnm
  show V p l e (rmK 0 0 0) s m [.ref (mo 0)].toArray below meth c D (va_A (MW ct mo nd nb nf bdk num thg knd dy val tim rep kn clk tol opn bof std xd) s.heap.size) 1 0 0 (EI D below (MW ct mo nd nb nf bdk num thg knd dy val tim rep kn clk tol opn bof std xd) [.ref (mo 0)].toArray s 0 0 (fun r u => r = -2 ∧ u = MW ct mo nd nb nf bdk num thg knd dy val tim rep kn clk tol opn bof std xd)) (MW ct mo nd nb nf bdk num thg knd dy val tim rep kn clk tol opn bof std xd) [(0, .ref (mo 0))] 0 []
  refine V.aload_n F d_M_desk_0 rfl 0 rfl ?_
  refine V.get F ck_M d_M_desk_1 0 (by decide) lk_M_55 0 rfl rfl ?_
  refine V.bipush F d_M_desk_4 (v := nI (8)) (by decide) ?_
  refine V.icmp_neN (tgt := 12) F d_M_desk_6 (by decide) (by omega) (by omega) (fun c6 => ?_) (fun c6 => ?_)
  · skip
    exact absurd hnd c6
  · skip
    refine V.bipush F d_M_desk_9 (v := -2) (by decide) ?_
    exact V.iret F hr d_M_desk_11 (⟨rfl, rfl⟩)

set_option maxHeartbeats 4000000 in
set_option maxRecDepth 100000 in
theorem m_desk (l : Launch) (D : va_G) {ct : Nat → ClassId} {mo : Nat → Nat} {nd : Nat} {nb : Nat} {nf : Nat} {bdk : Nat → Nat} {num : Nat → Nat} {thg : Nat → Nat} {knd : Nat → Nat} {dy : Nat → Nat} {val : Nat → Int64} {tim : Nat → Nat} {rep : Nat → Nat → Bool} {kn : Nat → Nat → Bool} {clk : Nat → Nat} {tol : Nat → Nat} {opn : Nat → Option Nat} {bof : Nat → Option Nat} {std : Nat → Bool} {xd : Int64} (hnd : nd < 8) : CI l y_M_desk b_M_desk 1 (some .int) (rmK 0 0 0) D (tyL ct) (MW ct mo nd nb nf bdk num thg knd dy val tim rep kn clk tol opn bof std xd) [.ref (mo 0)] 0 0 (fun r u => r = nI nd ∧ u = MW ct mo (nd + 1) nb nf bdk num thg knd dy val tim rep kn clk tol (va_up opn nd none) bof std xd) := by
  refine CI.start (by decide) (Nat.le_of_ble_eq_true rfl) ?_
  intro p e s m below meth c F hr hnm
  show V p l e (rmK 0 0 0) s m [.ref (mo 0)].toArray below meth c D (va_A (MW ct mo nd nb nf bdk num thg knd dy val tim rep kn clk tol opn bof std xd) s.heap.size) 1 0 0 (EI D below (MW ct mo nd nb nf bdk num thg knd dy val tim rep kn clk tol opn bof std xd) [.ref (mo 0)].toArray s 0 0 (fun r u => r = nI nd ∧ u = MW ct mo (nd + 1) nb nf bdk num thg knd dy val tim rep kn clk tol (va_up opn nd none) bof std xd)) (MW ct mo nd nb nf bdk num thg knd dy val tim rep kn clk tol opn bof std xd) [(0, .ref (mo 0))] 0 []
  refine V.aload_n F d_M_desk_0 rfl 0 rfl ?_
  refine V.get F ck_M d_M_desk_1 0 (by decide) lk_M_55 0 rfl rfl ?_
  refine V.bipush F d_M_desk_4 (v := nI (8)) (by decide) ?_
  refine V.icmp_neN (tgt := 12) F d_M_desk_6 (by decide) (by omega) (by omega) (fun c6 => ?_) (fun c6 => ?_)
  · skip
    refine V.aload_n F d_M_desk_12 rfl 0 rfl ?_
    refine V.get F ck_M d_M_desk_13 3 (by decide) lk_M_17 0 rfl rfl ?_
    refine V.aload_n F d_M_desk_16 rfl 0 rfl ?_
    refine V.get F ck_M d_M_desk_17 0 (by decide) lk_M_55 0 rfl rfl ?_
    refine V.iconst F d_M_desk_20 (v := -1) (by decide) ?_
    refine V.iast (ws2 := MW ct mo nd nb nf bdk num thg knd dy val tim rep kn clk tol (va_up opn (nd) (none)) bof std xd) F d_M_desk_21 3 0 rfl rfl (by omega) (by decide) (by show (MW ct mo nd nb nf bdk num thg knd dy val tim rep kn clk tol opn bof std xd).set _ (_, .inl (_, _, .inl (upd _ _ (oI (none))))) = _; rw [upd_oI]; exact mw_set_opn) ?_
    refine V.aload_n F d_M_desk_22 rfl 0 rfl ?_
    refine V.dup F d_M_desk_23 rfl ?_
    refine V.get F ck_M d_M_desk_24 0 (by decide) lk_M_55 0 rfl rfl ?_
    refine V.iconst F d_M_desk_27 (v := nI (1)) (by decide) ?_
    refine V.iaddN F d_M_desk_28 ?_
    refine V.put (ws2 := MW ct mo ((nd) + (1)) nb nf bdk num thg knd dy val tim rep kn clk tol (va_up opn (nd) (none)) bof std xd) F ck_M d_M_desk_29 0 (by decide) lk_M_55 0 rfl rfl rfl rfl (Nat.le_of_ble_eq_true rfl) mw_set_nd ?_
    refine V.aload_n F d_M_desk_32 rfl 0 rfl ?_
    refine V.get F ck_M d_M_desk_33 0 (by decide) lk_M_55 0 rfl rfl ?_
    refine V.iconst F d_M_desk_36 (v := nI (1)) (by decide) ?_
    refine V.isubN F d_M_desk_37 (by omega) ?_
    exact V.iret F hr d_M_desk_38 (⟨rfl, rfl⟩)
  · skip
    exact absurd c6 (by omega)

set_option maxHeartbeats 4000000 in
set_option maxRecDepth 100000 in
theorem m_add (l : Launch) (D : va_G) {ct : Nat → ClassId} {mo : Nat → Nat} {nd : Nat} {nb : Nat} {nf : Nat} {bdk : Nat → Nat} {num : Nat → Nat} {thg : Nat → Nat} {knd : Nat → Nat} {dy : Nat → Nat} {val : Nat → Int64} {tim : Nat → Nat} {rep : Nat → Nat → Bool} {kn : Nat → Nat → Bool} {clk : Nat → Nat} {tol : Nat → Nat} {opn : Nat → Option Nat} {bof : Nat → Option Nat} {std : Nat → Bool} {xd : Int64} (hlt : nf < 300) (hnd : nd ≤ 8) (d : Nat) (hd0 : d < nd) (t k y : Nat) (v : Int64) (hob : ∀ b0, opn d = some b0 → b0 < 2 ^ 31) : CI l y_M_add b_M_add 9 (some .int) (rmK 0 0 0) D (tyL ct) (MW ct mo nd nb nf bdk num thg knd dy val tim rep kn clk tol opn bof std xd) [.ref (mo 0), .int (nI (d)), .int (nI (t)), .int (nI (k)), .long (lN (y)), .long (v)] 0 0 (fun r u => r = nI nf ∧ u = MW ct mo nd nb (nf + 1) bdk (va_up num nf (8 * tol d + d)) (va_up thg nf t) (va_up knd nf k) (va_up dy nf y) (va_up val nf v) (va_up tim nf (clk d + 1)) rep (up2 kn d nf (oB (opn d))) (va_up clk d (clk d + 1)) (va_up tol d (tol d + 1)) opn (va_up bof nf (opn d)) std xd) := by
  refine CI.start (by decide) (Nat.le_of_ble_eq_true rfl) ?_
  intro p e s m below meth c F hr hnm
  show V p l e (rmK 0 0 0) s m [.ref (mo 0), .int (nI (d)), .int (nI (t)), .int (nI (k)), .long (lN (y)), .long (v)].toArray below meth c D (va_A (MW ct mo nd nb nf bdk num thg knd dy val tim rep kn clk tol opn bof std xd) s.heap.size) 9 0 0 (EI D below (MW ct mo nd nb nf bdk num thg knd dy val tim rep kn clk tol opn bof std xd) [.ref (mo 0), .int (nI (d)), .int (nI (t)), .int (nI (k)), .long (lN (y)), .long (v)].toArray s 0 0 (fun r u => r = nI nf ∧ u = MW ct mo nd nb (nf + 1) bdk (va_up num nf (8 * tol d + d)) (va_up thg nf t) (va_up knd nf k) (va_up dy nf y) (va_up val nf v) (va_up tim nf (clk d + 1)) rep (up2 kn d nf (oB (opn d))) (va_up clk d (clk d + 1)) (va_up tol d (tol d + 1)) opn (va_up bof nf (opn d)) std xd)) (MW ct mo nd nb nf bdk num thg knd dy val tim rep kn clk tol opn bof std xd) [(0, .ref (mo 0)), (1, .int (nI (d))), (2, .int (nI (t))), (3, .int (nI (k))), (4, .long (lN (y))), (6, .long (v))] 0 []
  refine V.aload_n F d_M_add_0 rfl 0 rfl ?_
  refine V.get F ck_M d_M_add_1 13 (by decide) lk_M_59 0 rfl rfl ?_
  refine V.istore (lv2 := [(8, .int (nI (nf))), (0, .ref (mo 0)), (1, .int (nI (d))), (2, .int (nI (t))), (3, .int (nI (k))), (4, .long (lN (y))), (6, .long (v))]) F d_M_add_4 (by decide) rfl ?_
  refine V.aload_n F d_M_add_6 rfl 1 rfl ?_
  refine V.get F ck_M d_M_add_7 4 (by decide) lk_M_20 0 rfl rfl ?_
  refine V.iload F d_M_add_10 0 rfl ?_
  refine V.bipush F d_M_add_12 (v := nI (8)) (by decide) ?_
  refine V.aload_n F d_M_add_14 rfl 1 rfl ?_
  refine V.get F ck_M d_M_add_15 2 (by decide) lk_M_13 0 rfl rfl ?_
  refine V.iload_n F d_M_add_18 rfl 2 rfl ?_
  refine V.iald (v := nI (tol (d))) F d_M_add_19 2 0 rfl rfl (by omega) (by decide) rfl ?_
  refine V.imulN F d_M_add_20 ?_
  refine V.iload_n F d_M_add_21 rfl 2 rfl ?_
  refine V.iaddN F d_M_add_22 ?_
  refine V.iast (ws2 := MW ct mo nd nb nf bdk (va_up num (nf) (((8) * (tol (d))) + (d))) thg knd dy val tim rep kn clk tol opn bof std xd) F d_M_add_23 4 0 rfl rfl (by omega) (by decide) (by rw [upd_nF]; exact mw_set_num) ?_
  refine V.aload_n F d_M_add_24 rfl 1 rfl ?_
  refine V.get F ck_M d_M_add_25 2 (by decide) lk_M_13 0 rfl rfl ?_
  refine V.iload_n F d_M_add_28 rfl 2 rfl ?_
  refine V.dup2_11 F d_M_add_29 rfl rfl ?_
  refine V.iald (v := nI (tol (d))) F d_M_add_30 2 0 rfl rfl (by omega) (by decide) rfl ?_
  refine V.iconst F d_M_add_31 (v := nI (1)) (by decide) ?_
  refine V.iaddN F d_M_add_32 ?_
  refine V.iast (ws2 := MW ct mo nd nb nf bdk (va_up num (nf) (((8) * (tol (d))) + (d))) thg knd dy val tim rep kn clk (va_up tol (d) ((tol (d)) + (1))) opn bof std xd) F d_M_add_33 2 0 rfl rfl (by omega) (by decide) (by rw [upd_nF]; exact mw_set_tol) ?_
  refine V.aload_n F d_M_add_34 rfl 1 rfl ?_
  refine V.get F ck_M d_M_add_35 1 (by decide) lk_M_9 0 rfl rfl ?_
  refine V.iload_n F d_M_add_38 rfl 2 rfl ?_
  refine V.dup2_11 F d_M_add_39 rfl rfl ?_
  refine V.lald (v := lN (clk (d))) F d_M_add_40 1 1 rfl rfl (by omega) (by decide) rfl ?_
  refine V.lconst F d_M_add_41 (v := 1) (by decide) ?_
  refine V.ladd F d_M_add_42 (v := lN (clk (d) + 1)) (lN_1 _) ?_
  refine V.last (ws2 := MW ct mo nd nb nf bdk (va_up num (nf) (((8) * (tol (d))) + (d))) thg knd dy val tim rep kn (va_up clk (d) (clk (d) + 1)) (va_up tol (d) ((tol (d)) + (1))) opn bof std xd) F d_M_add_43 1 1 rfl rfl (by omega) (by decide) (by rw [updL_lN]; exact mw_set_clk) ?_
  refine V.aload_n F d_M_add_44 rfl 1 rfl ?_
  refine V.get F ck_M d_M_add_45 5 (by decide) lk_M_23 0 rfl rfl ?_
  refine V.iload F d_M_add_48 0 rfl ?_
  refine V.iload_n F d_M_add_50 rfl 3 rfl ?_
  refine V.iast (ws2 := MW ct mo nd nb nf bdk (va_up num (nf) (((8) * (tol (d))) + (d))) (va_up thg (nf) (t)) knd dy val tim rep kn (va_up clk (d) (clk (d) + 1)) (va_up tol (d) ((tol (d)) + (1))) opn bof std xd) F d_M_add_51 5 0 rfl rfl (by omega) (by decide) (by rw [upd_nF]; exact mw_set_thg) ?_
  refine V.aload_n F d_M_add_52 rfl 1 rfl ?_
  refine V.get F ck_M d_M_add_53 6 (by decide) lk_M_26 0 rfl rfl ?_
  refine V.iload F d_M_add_56 0 rfl ?_
  refine V.iload_n F d_M_add_58 rfl 4 rfl ?_
  refine V.iast (ws2 := MW ct mo nd nb nf bdk (va_up num (nf) (((8) * (tol (d))) + (d))) (va_up thg (nf) (t)) (va_up knd (nf) (k)) dy val tim rep kn (va_up clk (d) (clk (d) + 1)) (va_up tol (d) ((tol (d)) + (1))) opn bof std xd) F d_M_add_59 6 0 rfl rfl (by omega) (by decide) (by rw [upd_nF]; exact mw_set_knd) ?_
  refine V.aload_n F d_M_add_60 rfl 1 rfl ?_
  refine V.get F ck_M d_M_add_61 7 (by decide) lk_M_29 0 rfl rfl ?_
  refine V.iload F d_M_add_64 0 rfl ?_
  refine V.lload F d_M_add_66 5 rfl ?_
  refine V.last (ws2 := MW ct mo nd nb nf bdk (va_up num (nf) (((8) * (tol (d))) + (d))) (va_up thg (nf) (t)) (va_up knd (nf) (k)) (va_up dy (nf) (y)) val tim rep kn (va_up clk (d) (clk (d) + 1)) (va_up tol (d) ((tol (d)) + (1))) opn bof std xd) F d_M_add_68 7 1 rfl rfl (by omega) (by decide) (by rw [updL_lN]; exact mw_set_dy) ?_
  refine V.aload_n F d_M_add_69 rfl 1 rfl ?_
  refine V.get F ck_M d_M_add_70 8 (by decide) lk_M_32 0 rfl rfl ?_
  refine V.iload F d_M_add_73 0 rfl ?_
  refine V.lload F d_M_add_75 6 rfl ?_
  refine V.last (ws2 := MW ct mo nd nb nf bdk (va_up num (nf) (((8) * (tol (d))) + (d))) (va_up thg (nf) (t)) (va_up knd (nf) (k)) (va_up dy (nf) (y)) (va_up val (nf) (v)) tim rep kn (va_up clk (d) (clk (d) + 1)) (va_up tol (d) ((tol (d)) + (1))) opn bof std xd) F d_M_add_77 8 1 rfl rfl (by omega) (by decide) (by rw [updL_up]; exact mw_set_val) ?_
  refine V.aload_n F d_M_add_78 rfl 1 rfl ?_
  refine V.get F ck_M d_M_add_79 9 (by decide) lk_M_35 0 rfl rfl ?_
  refine V.iload F d_M_add_82 0 rfl ?_
  refine V.aload_n F d_M_add_84 rfl 1 rfl ?_
  refine V.get F ck_M d_M_add_85 1 (by decide) lk_M_9 0 rfl rfl ?_
  refine V.iload_n F d_M_add_88 rfl 2 rfl ?_
  refine V.lald (v := lN (clk d + 1)) F d_M_add_89 1 1 rfl rfl (by omega) (by decide) (by show lN (va_up clk d _ d) = _; rw [va_up_self]) ?_
  refine V.last (ws2 := MW ct mo nd nb nf bdk (va_up num (nf) (((8) * (tol (d))) + (d))) (va_up thg (nf) (t)) (va_up knd (nf) (k)) (va_up dy (nf) (y)) (va_up val (nf) (v)) (va_up tim (nf) (clk d + 1)) rep kn (va_up clk (d) (clk (d) + 1)) (va_up tol (d) ((tol (d)) + (1))) opn bof std xd) F d_M_add_90 9 1 rfl rfl (by omega) (by decide) (by rw [updL_lN]; exact mw_set_tim) ?_
  refine V.aload_n F d_M_add_91 rfl 1 rfl ?_
  refine V.get F ck_M d_M_add_92 10 (by decide) lk_M_38 0 rfl rfl ?_
  refine V.iload F d_M_add_95 0 rfl ?_
  refine V.aload_n F d_M_add_97 rfl 1 rfl ?_
  refine V.get F ck_M d_M_add_98 3 (by decide) lk_M_17 0 rfl rfl ?_
  refine V.iload_n F d_M_add_101 rfl 2 rfl ?_
  refine V.iald (v := oI (opn (d))) F d_M_add_102 3 0 rfl rfl (by omega) (by decide) rfl ?_
  refine V.iast (ws2 := MW ct mo nd nb nf bdk (va_up num (nf) (((8) * (tol (d))) + (d))) (va_up thg (nf) (t)) (va_up knd (nf) (k)) (va_up dy (nf) (y)) (va_up val (nf) (v)) (va_up tim (nf) (clk d + 1)) rep kn (va_up clk (d) (clk (d) + 1)) (va_up tol (d) ((tol (d)) + (1))) opn (va_up bof (nf) (opn (d))) std xd) F d_M_add_103 10 0 rfl rfl (by omega) (by decide) (by rw [upd_oI]; exact mw_set_bof) ?_
  refine V.aload_n F d_M_add_104 rfl 1 rfl ?_
  refine V.get F ck_M d_M_add_105 12 (by decide) lk_M_46 0 rfl rfl ?_
  refine V.iload_n F d_M_add_108 rfl 2 rfl ?_
  refine V.sipush F d_M_add_109 (v := nI (300)) (by decide) ?_
  refine V.imulN F d_M_add_112 ?_
  refine V.iload F d_M_add_113 0 rfl ?_
  refine V.iaddN F d_M_add_115 ?_
  refine V.aload_n F d_M_add_116 rfl 1 rfl ?_
  refine V.get F ck_M d_M_add_117 3 (by decide) lk_M_17 0 rfl rfl ?_
  refine V.iload_n F d_M_add_120 rfl 2 rfl ?_
  refine V.iald (v := oI (opn (d))) F d_M_add_121 3 0 rfl rfl (by omega) (by decide) rfl ?_
  refine V.iconst F d_M_add_122 (v := -1) (by decide) ?_
  refine V.icmp_ne (x := oI (opn (d))) (y := -1) (tgt := 130) F d_M_add_123 (by decide) (fun c123 => ?_) (fun c123 => ?_)
  · skip
    refine V.iconst F d_M_add_130 (v := nI (0)) (by decide) ?_
    refine V.zast (b := false) (ws2 := MW ct mo nd nb nf bdk (va_up num (nf) (((8) * (tol (d))) + (d))) (va_up thg (nf) (t)) (va_up knd (nf) (k)) (va_up dy (nf) (y)) (va_up val (nf) (v)) (va_up tim (nf) (clk d + 1)) rep (up2 kn (d) (nf) (false)) (va_up clk (d) (clk (d) + 1)) (va_up tol (d) ((tol (d)) + (1))) opn (va_up bof (nf) (opn (d))) std xd) F d_M_add_131 12 3 rfl rfl (by omega) (by decide) (by rw [kn_up (by omega)]; exact mw_set_kn) ?_
    refine V.aload_n F d_M_add_132 rfl 1 rfl ?_
    refine V.dup F d_M_add_133 rfl ?_
    refine V.get F ck_M d_M_add_134 13 (by decide) lk_M_59 0 rfl rfl ?_
    refine V.iconst F d_M_add_137 (v := nI (1)) (by decide) ?_
    refine V.iaddN F d_M_add_138 ?_
    refine V.put (ws2 := MW ct mo nd nb ((nf) + (1)) bdk (va_up num (nf) (((8) * (tol (d))) + (d))) (va_up thg (nf) (t)) (va_up knd (nf) (k)) (va_up dy (nf) (y)) (va_up val (nf) (v)) (va_up tim (nf) (clk d + 1)) rep (up2 kn (d) (nf) (false)) (va_up clk (d) (clk (d) + 1)) (va_up tol (d) ((tol (d)) + (1))) opn (va_up bof (nf) (opn (d))) std xd) F ck_M d_M_add_139 13 (by decide) lk_M_59 0 rfl rfl rfl rfl (Nat.le_of_ble_eq_true rfl) mw_set_nf ?_
    refine V.iload F d_M_add_142 0 rfl ?_
    exact V.iret F hr d_M_add_144 (⟨rfl, by rw [oB_f c123]⟩)
  · skip
    refine V.iconst F d_M_add_126 (v := nI (1)) (by decide) ?_
    refine V.goto (tgt := 131) F d_M_add_127 (by decide) ?_
    refine V.zast (b := true) (ws2 := MW ct mo nd nb nf bdk (va_up num (nf) (((8) * (tol (d))) + (d))) (va_up thg (nf) (t)) (va_up knd (nf) (k)) (va_up dy (nf) (y)) (va_up val (nf) (v)) (va_up tim (nf) (clk d + 1)) rep (up2 kn (d) (nf) (true)) (va_up clk (d) (clk (d) + 1)) (va_up tol (d) ((tol (d)) + (1))) opn (va_up bof (nf) (opn (d))) std xd) F d_M_add_131 12 3 rfl rfl (by omega) (by decide) (by rw [kn_up (by omega)]; exact mw_set_kn) ?_
    refine V.aload_n F d_M_add_132 rfl 1 rfl ?_
    refine V.dup F d_M_add_133 rfl ?_
    refine V.get F ck_M d_M_add_134 13 (by decide) lk_M_59 0 rfl rfl ?_
    refine V.iconst F d_M_add_137 (v := nI (1)) (by decide) ?_
    refine V.iaddN F d_M_add_138 ?_
    refine V.put (ws2 := MW ct mo nd nb ((nf) + (1)) bdk (va_up num (nf) (((8) * (tol (d))) + (d))) (va_up thg (nf) (t)) (va_up knd (nf) (k)) (va_up dy (nf) (y)) (va_up val (nf) (v)) (va_up tim (nf) (clk d + 1)) rep (up2 kn (d) (nf) (true)) (va_up clk (d) (clk (d) + 1)) (va_up tol (d) ((tol (d)) + (1))) opn (va_up bof (nf) (opn (d))) std xd) F ck_M d_M_add_139 13 (by decide) lk_M_59 0 rfl rfl rfl rfl (Nat.le_of_ble_eq_true rfl) mw_set_nf ?_
    refine V.iload F d_M_add_142 0 rfl ?_
    exact V.iret F hr d_M_add_144 (⟨rfl, by rw [oB_t hob c123]⟩)

set_option maxHeartbeats 4000000 in
set_option maxRecDepth 100000 in
theorem m_tellNo (l : Launch) (D : va_G) {ct : Nat → ClassId} {mo : Nat → Nat} {nd : Nat} {nb : Nat} {nf : Nat} {bdk : Nat → Nat} {num : Nat → Nat} {thg : Nat → Nat} {knd : Nat → Nat} {dy : Nat → Nat} {val : Nat → Int64} {tim : Nat → Nat} {rep : Nat → Nat → Bool} {kn : Nat → Nat → Bool} {clk : Nat → Nat} {tol : Nat → Nat} {opn : Nat → Option Nat} {bof : Nat → Option Nat} {std : Nat → Bool} {xd : Int64} (x t k : Int32) (y v : Int64) (hx : x < 0 ∨ nI nd ≤ x) : CI l y_M_tell b_M_tell 8 (some .int) (rmK 1 0 0) D (tyL ct) (MW ct mo nd nb nf bdk num thg knd dy val tim rep kn clk tol opn bof std xd) [.ref (mo 0), .int (x), .int (t), .int (k), .long (y), .long (v)] 0 0 (fun r u => r = -1 ∧ u = MW ct mo nd nb nf bdk num thg knd dy val tim rep kn clk tol opn bof std xd) := by
  refine CI.start (by decide) (Nat.le_of_ble_eq_true rfl) ?_
  intro p e s m below meth c F hr hnm
  show V p l e (rmK 1 0 0) s m [.ref (mo 0), .int (x), .int (t), .int (k), .long (y), .long (v)].toArray below meth c D (va_A (MW ct mo nd nb nf bdk num thg knd dy val tim rep kn clk tol opn bof std xd) s.heap.size) 8 0 0 (EI D below (MW ct mo nd nb nf bdk num thg knd dy val tim rep kn clk tol opn bof std xd) [.ref (mo 0), .int (x), .int (t), .int (k), .long (y), .long (v)].toArray s 0 0 (fun r u => r = -1 ∧ u = MW ct mo nd nb nf bdk num thg knd dy val tim rep kn clk tol opn bof std xd)) (MW ct mo nd nb nf bdk num thg knd dy val tim rep kn clk tol opn bof std xd) [(0, .ref (mo 0)), (1, .int (x)), (2, .int (t)), (3, .int (k)), (4, .long (y)), (6, .long (v))] 0 []
  refine V.aload_n F d_M_tell_0 rfl 0 rfl ?_
  refine V.iload_n F d_M_tell_1 rfl 1 rfl ?_
  refine V.callVI0 (As := [.int (x)]) (rest := []) F (m_isDeskNo l D x hx) d_M_tell_2 sv_M_62 im_y_M_isDesk sl_y_M_isDesk 0 rfl rfl rfl rfl rfl (Nat.le_of_ble_eq_true rfl) ⟨rfl, rfl, (Nat.le_of_ble_eq_true rfl), (Nat.le_of_ble_eq_true rfl)⟩ ⟨(Nat.le_of_ble_eq_true rfl), (Nat.le_of_ble_eq_true rfl)⟩ (fun r9 u9 h9 => ?_)
  obtain ⟨rfl, rfl⟩ := h9
  refine V.if_eqB (b := false) (tgt := 44) F d_M_tell_5 (by decide) (fun c5 => ?_) (fun c5 => ?_)
  · skip
    refine V.iconst F d_M_tell_44 (v := -1) (by decide) ?_
    exact V.iret F hr d_M_tell_45 (⟨rfl, rfl⟩)
  · skip
    exact absurd c5 (by decide)

set_option maxHeartbeats 4000000 in
set_option maxRecDepth 100000 in
theorem m_tellBad (l : Launch) (D : va_G) {ct : Nat → ClassId} {mo : Nat → Nat} {nd : Nat} {nb : Nat} {nf : Nat} {bdk : Nat → Nat} {num : Nat → Nat} {thg : Nat → Nat} {knd : Nat → Nat} {dy : Nat → Nat} {val : Nat → Int64} {tim : Nat → Nat} {rep : Nat → Nat → Bool} {kn : Nat → Nat → Bool} {clk : Nat → Nat} {tol : Nat → Nat} {opn : Nat → Option Nat} {bof : Nat → Option Nat} {std : Nat → Bool} {xd : Int64} (hnd : nd ≤ 8) (d : Nat) (hd0 : d < nd) (t k : Int32) (y v : Int64) (hz : t < 0 ∨ nI 100 ≤ t ∨ k < 0 ∨ nI 10 ≤ k ∨ y < 0 ∨ 100000 < y) : CI l y_M_tell b_M_tell 8 (some .int) (rmK 1 0 0) D (tyL ct) (MW ct mo nd nb nf bdk num thg knd dy val tim rep kn clk tol opn bof std xd) [.ref (mo 0), .int (nI (d)), .int (t), .int (k), .long (y), .long (v)] 0 0 (fun r u => r = -1 ∧ u = MW ct mo nd nb nf bdk num thg knd dy val tim rep kn clk tol opn bof std xd) := by
  refine CI.start (by decide) (Nat.le_of_ble_eq_true rfl) ?_
  intro p e s m below meth c F hr hnm
  show V p l e (rmK 1 0 0) s m [.ref (mo 0), .int (nI (d)), .int (t), .int (k), .long (y), .long (v)].toArray below meth c D (va_A (MW ct mo nd nb nf bdk num thg knd dy val tim rep kn clk tol opn bof std xd) s.heap.size) 8 0 0 (EI D below (MW ct mo nd nb nf bdk num thg knd dy val tim rep kn clk tol opn bof std xd) [.ref (mo 0), .int (nI (d)), .int (t), .int (k), .long (y), .long (v)].toArray s 0 0 (fun r u => r = -1 ∧ u = MW ct mo nd nb nf bdk num thg knd dy val tim rep kn clk tol opn bof std xd)) (MW ct mo nd nb nf bdk num thg knd dy val tim rep kn clk tol opn bof std xd) [(0, .ref (mo 0)), (1, .int (nI (d))), (2, .int (t)), (3, .int (k)), (4, .long (y)), (6, .long (v))] 0 []
  refine V.aload_n F d_M_tell_0 rfl 0 rfl ?_
  refine V.iload_n F d_M_tell_1 rfl 1 rfl ?_
  refine V.callVI0 (As := [.int (nI (d))]) (rest := []) F (m_isDesk l D hnd d hd0) d_M_tell_2 sv_M_62 im_y_M_isDesk sl_y_M_isDesk 0 rfl rfl rfl rfl rfl (Nat.le_of_ble_eq_true rfl) ⟨rfl, rfl, (Nat.le_of_ble_eq_true rfl), (Nat.le_of_ble_eq_true rfl)⟩ ⟨(Nat.le_of_ble_eq_true rfl), (Nat.le_of_ble_eq_true rfl)⟩ (fun r9 u9 h9 => ?_)
  obtain ⟨rfl, rfl⟩ := h9
  refine V.if_eqB (b := true) (tgt := 44) F d_M_tell_5 (by decide) (fun c5 => ?_) (fun c5 => ?_)
  · skip
    exact absurd c5 (by decide)
  · skip
    refine V.iload_n F d_M_tell_8 rfl 2 rfl ?_
    refine V.if_lt (x := t) (tgt := 44) F d_M_tell_9 (by decide) (fun c9 => ?_) (fun c9 => ?_)
    · skip
      refine V.iconst F d_M_tell_44 (v := -1) (by decide) ?_
      exact V.iret F hr d_M_tell_45 (⟨rfl, rfl⟩)
    · skip
      refine V.iload_n F d_M_tell_12 rfl 2 rfl ?_
      refine V.bipush F d_M_tell_13 (v := nI (100)) (by decide) ?_
      refine V.icmp_ge (x := t) (y := nI (100)) (tgt := 44) F d_M_tell_15 (by decide) (fun c15 => ?_) (fun c15 => ?_)
      · skip
        refine V.iconst F d_M_tell_44 (v := -1) (by decide) ?_
        exact V.iret F hr d_M_tell_45 (⟨rfl, rfl⟩)
      · skip
        refine V.iload_n F d_M_tell_18 rfl 3 rfl ?_
        refine V.if_lt (x := k) (tgt := 44) F d_M_tell_19 (by decide) (fun c19 => ?_) (fun c19 => ?_)
        · skip
          refine V.iconst F d_M_tell_44 (v := -1) (by decide) ?_
          exact V.iret F hr d_M_tell_45 (⟨rfl, rfl⟩)
        · skip
          refine V.iload_n F d_M_tell_22 rfl 3 rfl ?_
          refine V.bipush F d_M_tell_23 (v := nI (10)) (by decide) ?_
          refine V.icmp_ge (x := k) (y := nI (10)) (tgt := 44) F d_M_tell_25 (by decide) (fun c25 => ?_) (fun c25 => ?_)
          · skip
            refine V.iconst F d_M_tell_44 (v := -1) (by decide) ?_
            exact V.iret F hr d_M_tell_45 (⟨rfl, rfl⟩)
          · skip
            refine V.lload F d_M_tell_28 4 rfl ?_
            refine V.lconst F d_M_tell_30 (v := 0) (by decide) ?_
            refine V.lcmp_lt (tgt := 44) F d_M_tell_31 d_M_tell_32 (by decide) (fun c31 => ?_) (fun c31 => ?_)
            · skip
              refine V.iconst F d_M_tell_44 (v := -1) (by decide) ?_
              exact V.iret F hr d_M_tell_45 (⟨rfl, rfl⟩)
            · skip
              refine V.lload F d_M_tell_35 4 rfl ?_
              refine V.ldc2 F d_M_tell_37 (v := 100000) lk_M_66 ?_
              refine V.lcmp_le (tgt := 46) F d_M_tell_40 d_M_tell_41 (by decide) (fun c40 => ?_) (fun c40 => ?_)
              · skip
                exact absurd hz (fun q => q.elim c9 (fun q => q.elim c15 (fun q => q.elim c19 (fun q => q.elim c25 (fun q => q.elim c31 (fun q => i64_ll c40 q))))))
              · skip
                refine V.iconst F d_M_tell_44 (v := -1) (by decide) ?_
                exact V.iret F hr d_M_tell_45 (⟨rfl, rfl⟩)

set_option maxHeartbeats 4000000 in
set_option maxRecDepth 100000 in
theorem m_tellFull (l : Launch) (D : va_G) {ct : Nat → ClassId} {mo : Nat → Nat} {nd : Nat} {nb : Nat} {nf : Nat} {bdk : Nat → Nat} {num : Nat → Nat} {thg : Nat → Nat} {knd : Nat → Nat} {dy : Nat → Nat} {val : Nat → Int64} {tim : Nat → Nat} {rep : Nat → Nat → Bool} {kn : Nat → Nat → Bool} {clk : Nat → Nat} {tol : Nat → Nat} {opn : Nat → Option Nat} {bof : Nat → Option Nat} {std : Nat → Bool} {xd : Int64} (hnd : nd ≤ 8) (d : Nat) (hd0 : d < nd) (t k y : Nat) (v : Int64) (ht : t < 100) (hk : k < 10) (hy : y < 100001) (hnf : nf = 300) : CI l y_M_tell b_M_tell 8 (some .int) (rmK 1 0 0) D (tyL ct) (MW ct mo nd nb nf bdk num thg knd dy val tim rep kn clk tol opn bof std xd) [.ref (mo 0), .int (nI (d)), .int (nI (t)), .int (nI (k)), .long (lN (y)), .long (v)] 0 0 (fun r u => r = -2 ∧ u = MW ct mo nd nb nf bdk num thg knd dy val tim rep kn clk tol opn bof std xd) := by
  refine CI.start (by decide) (Nat.le_of_ble_eq_true rfl) ?_
  intro p e s m below meth c F hr hnm
  show V p l e (rmK 1 0 0) s m [.ref (mo 0), .int (nI (d)), .int (nI (t)), .int (nI (k)), .long (lN (y)), .long (v)].toArray below meth c D (va_A (MW ct mo nd nb nf bdk num thg knd dy val tim rep kn clk tol opn bof std xd) s.heap.size) 8 0 0 (EI D below (MW ct mo nd nb nf bdk num thg knd dy val tim rep kn clk tol opn bof std xd) [.ref (mo 0), .int (nI (d)), .int (nI (t)), .int (nI (k)), .long (lN (y)), .long (v)].toArray s 0 0 (fun r u => r = -2 ∧ u = MW ct mo nd nb nf bdk num thg knd dy val tim rep kn clk tol opn bof std xd)) (MW ct mo nd nb nf bdk num thg knd dy val tim rep kn clk tol opn bof std xd) [(0, .ref (mo 0)), (1, .int (nI (d))), (2, .int (nI (t))), (3, .int (nI (k))), (4, .long (lN (y))), (6, .long (v))] 0 []
  refine V.aload_n F d_M_tell_0 rfl 0 rfl ?_
  refine V.iload_n F d_M_tell_1 rfl 1 rfl ?_
  refine V.callVI0 (As := [.int (nI (d))]) (rest := []) F (m_isDesk l D hnd d hd0) d_M_tell_2 sv_M_62 im_y_M_isDesk sl_y_M_isDesk 0 rfl rfl rfl rfl rfl (Nat.le_of_ble_eq_true rfl) ⟨rfl, rfl, (Nat.le_of_ble_eq_true rfl), (Nat.le_of_ble_eq_true rfl)⟩ ⟨(Nat.le_of_ble_eq_true rfl), (Nat.le_of_ble_eq_true rfl)⟩ (fun r9 u9 h9 => ?_)
  obtain ⟨rfl, rfl⟩ := h9
  refine V.if_eqB (b := true) (tgt := 44) F d_M_tell_5 (by decide) (fun c5 => ?_) (fun c5 => ?_)
  · skip
    exact absurd c5 (by decide)
  · skip
    refine V.iload_n F d_M_tell_8 rfl 2 rfl ?_
    refine V.if_lt (x := nI (t)) (tgt := 44) F d_M_tell_9 (by decide) (fun c9 => ?_) (fun c9 => ?_)
    · skip
      exact absurd c9 (nI_pos (by omega))
    · skip
      refine V.iload_n F d_M_tell_12 rfl 2 rfl ?_
      refine V.bipush F d_M_tell_13 (v := nI (100)) (by decide) ?_
      refine V.icmp_geN (tgt := 44) F d_M_tell_15 (by decide) (by omega) (by omega) (fun c15 => ?_) (fun c15 => ?_)
      · skip
        exact absurd c15 (by omega)
      · skip
        refine V.iload_n F d_M_tell_18 rfl 3 rfl ?_
        refine V.if_lt (x := nI (k)) (tgt := 44) F d_M_tell_19 (by decide) (fun c19 => ?_) (fun c19 => ?_)
        · skip
          exact absurd c19 (nI_pos (by omega))
        · skip
          refine V.iload_n F d_M_tell_22 rfl 3 rfl ?_
          refine V.bipush F d_M_tell_23 (v := nI (10)) (by decide) ?_
          refine V.icmp_geN (tgt := 44) F d_M_tell_25 (by decide) (by omega) (by omega) (fun c25 => ?_) (fun c25 => ?_)
          · skip
            exact absurd c25 (by omega)
          · skip
            refine V.lload F d_M_tell_28 4 rfl ?_
            refine V.lconst F d_M_tell_30 (v := 0) (by decide) ?_
            refine V.lcmp_lt (tgt := 44) F d_M_tell_31 d_M_tell_32 (by decide) (fun c31 => ?_) (fun c31 => ?_)
            · skip
              exact absurd c31 (lN_n0 (by omega))
            · skip
              refine V.lload F d_M_tell_35 4 rfl ?_
              refine V.ldc2 F d_M_tell_37 (v := 100000) lk_M_66 ?_
              refine V.lcmp_le (tgt := 46) F d_M_tell_40 d_M_tell_41 (by decide) (fun c40 => ?_) (fun c40 => ?_)
              · skip
                refine V.aload_n F d_M_tell_46 rfl 0 rfl ?_
                refine V.get F ck_M d_M_tell_47 13 (by decide) lk_M_59 0 rfl rfl ?_
                refine V.sipush F d_M_tell_50 (v := nI (300)) (by decide) ?_
                refine V.icmp_neN (tgt := 61) F d_M_tell_53 (by decide) (by omega) (by omega) (fun c53 => ?_) (fun c53 => ?_)
                · skip
                  exact absurd hnf c53
                · skip
                  refine V.bipush F d_M_tell_56 (v := -2) (by decide) ?_
                  refine V.goto (tgt := 77) F d_M_tell_58 (by decide) ?_
                  exact V.iret F hr d_M_tell_77 (⟨rfl, rfl⟩)
              · skip
                exact absurd (lN_le5 (by omega)) c40

set_option maxHeartbeats 4000000 in
set_option maxRecDepth 100000 in
theorem m_tell (l : Launch) (D : va_G) {ct : Nat → ClassId} {mo : Nat → Nat} {nd : Nat} {nb : Nat} {nf : Nat} {bdk : Nat → Nat} {num : Nat → Nat} {thg : Nat → Nat} {knd : Nat → Nat} {dy : Nat → Nat} {val : Nat → Int64} {tim : Nat → Nat} {rep : Nat → Nat → Bool} {kn : Nat → Nat → Bool} {clk : Nat → Nat} {tol : Nat → Nat} {opn : Nat → Option Nat} {bof : Nat → Option Nat} {std : Nat → Bool} {xd : Int64} (hlt : nf < 300) (hnd : nd ≤ 8) (d : Nat) (hd0 : d < nd) (t k y : Nat) (v : Int64) (ht : t < 100) (hk : k < 10) (hy : y < 100001) (hob : ∀ b0, opn d = some b0 → b0 < 2 ^ 31) : CI l y_M_tell b_M_tell 8 (some .int) (rmK 1 0 0) D (tyL ct) (MW ct mo nd nb nf bdk num thg knd dy val tim rep kn clk tol opn bof std xd) [.ref (mo 0), .int (nI (d)), .int (nI (t)), .int (nI (k)), .long (lN (y)), .long (v)] 0 0 (fun r u => r = nI (8 * tol d + d) ∧ u = MW ct mo nd nb (nf + 1) bdk (va_up num nf (8 * tol d + d)) (va_up thg nf t) (va_up knd nf k) (va_up dy nf y) (va_up val nf v) (va_up tim nf (clk d + 1)) rep (up2 kn d nf (oB (opn d))) (va_up clk d (clk d + 1)) (va_up tol d (tol d + 1)) opn (va_up bof nf (opn d)) std xd) := by
  refine CI.start (by decide) (Nat.le_of_ble_eq_true rfl) ?_
  intro p e s m below meth c F hr hnm
  show V p l e (rmK 1 0 0) s m [.ref (mo 0), .int (nI (d)), .int (nI (t)), .int (nI (k)), .long (lN (y)), .long (v)].toArray below meth c D (va_A (MW ct mo nd nb nf bdk num thg knd dy val tim rep kn clk tol opn bof std xd) s.heap.size) 8 0 0 (EI D below (MW ct mo nd nb nf bdk num thg knd dy val tim rep kn clk tol opn bof std xd) [.ref (mo 0), .int (nI (d)), .int (nI (t)), .int (nI (k)), .long (lN (y)), .long (v)].toArray s 0 0 (fun r u => r = nI (8 * tol d + d) ∧ u = MW ct mo nd nb (nf + 1) bdk (va_up num nf (8 * tol d + d)) (va_up thg nf t) (va_up knd nf k) (va_up dy nf y) (va_up val nf v) (va_up tim nf (clk d + 1)) rep (up2 kn d nf (oB (opn d))) (va_up clk d (clk d + 1)) (va_up tol d (tol d + 1)) opn (va_up bof nf (opn d)) std xd)) (MW ct mo nd nb nf bdk num thg knd dy val tim rep kn clk tol opn bof std xd) [(0, .ref (mo 0)), (1, .int (nI (d))), (2, .int (nI (t))), (3, .int (nI (k))), (4, .long (lN (y))), (6, .long (v))] 0 []
  refine V.aload_n F d_M_tell_0 rfl 0 rfl ?_
  refine V.iload_n F d_M_tell_1 rfl 1 rfl ?_
  refine V.callVI0 (As := [.int (nI (d))]) (rest := []) F (m_isDesk l D hnd d hd0) d_M_tell_2 sv_M_62 im_y_M_isDesk sl_y_M_isDesk 0 rfl rfl rfl rfl rfl (Nat.le_of_ble_eq_true rfl) ⟨rfl, rfl, (Nat.le_of_ble_eq_true rfl), (Nat.le_of_ble_eq_true rfl)⟩ ⟨(Nat.le_of_ble_eq_true rfl), (Nat.le_of_ble_eq_true rfl)⟩ (fun r9 u9 h9 => ?_)
  obtain ⟨rfl, rfl⟩ := h9
  refine V.if_eqB (b := true) (tgt := 44) F d_M_tell_5 (by decide) (fun c5 => ?_) (fun c5 => ?_)
  · skip
    exact absurd c5 (by decide)
  · skip
    refine V.iload_n F d_M_tell_8 rfl 2 rfl ?_
    refine V.if_lt (x := nI (t)) (tgt := 44) F d_M_tell_9 (by decide) (fun c9 => ?_) (fun c9 => ?_)
    · skip
      exact absurd c9 (nI_pos (by omega))
    · skip
      refine V.iload_n F d_M_tell_12 rfl 2 rfl ?_
      refine V.bipush F d_M_tell_13 (v := nI (100)) (by decide) ?_
      refine V.icmp_geN (tgt := 44) F d_M_tell_15 (by decide) (by omega) (by omega) (fun c15 => ?_) (fun c15 => ?_)
      · skip
        exact absurd c15 (by omega)
      · skip
        refine V.iload_n F d_M_tell_18 rfl 3 rfl ?_
        refine V.if_lt (x := nI (k)) (tgt := 44) F d_M_tell_19 (by decide) (fun c19 => ?_) (fun c19 => ?_)
        · skip
          exact absurd c19 (nI_pos (by omega))
        · skip
          refine V.iload_n F d_M_tell_22 rfl 3 rfl ?_
          refine V.bipush F d_M_tell_23 (v := nI (10)) (by decide) ?_
          refine V.icmp_geN (tgt := 44) F d_M_tell_25 (by decide) (by omega) (by omega) (fun c25 => ?_) (fun c25 => ?_)
          · skip
            exact absurd c25 (by omega)
          · skip
            refine V.lload F d_M_tell_28 4 rfl ?_
            refine V.lconst F d_M_tell_30 (v := 0) (by decide) ?_
            refine V.lcmp_lt (tgt := 44) F d_M_tell_31 d_M_tell_32 (by decide) (fun c31 => ?_) (fun c31 => ?_)
            · skip
              exact absurd c31 (lN_n0 (by omega))
            · skip
              refine V.lload F d_M_tell_35 4 rfl ?_
              refine V.ldc2 F d_M_tell_37 (v := 100000) lk_M_66 ?_
              refine V.lcmp_le (tgt := 46) F d_M_tell_40 d_M_tell_41 (by decide) (fun c40 => ?_) (fun c40 => ?_)
              · skip
                refine V.aload_n F d_M_tell_46 rfl 0 rfl ?_
                refine V.get F ck_M d_M_tell_47 13 (by decide) lk_M_59 0 rfl rfl ?_
                refine V.sipush F d_M_tell_50 (v := nI (300)) (by decide) ?_
                refine V.icmp_neN (tgt := 61) F d_M_tell_53 (by decide) (by omega) (by omega) (fun c53 => ?_) (fun c53 => ?_)
                · skip
                  refine V.aload_n F d_M_tell_61 rfl 0 rfl ?_
                  refine V.get F ck_M d_M_tell_62 4 (by decide) lk_M_20 0 rfl rfl ?_
                  refine V.aload_n F d_M_tell_65 rfl 0 rfl ?_
                  refine V.iload_n F d_M_tell_66 rfl 1 rfl ?_
                  refine V.iload_n F d_M_tell_67 rfl 2 rfl ?_
                  refine V.iload_n F d_M_tell_68 rfl 3 rfl ?_
                  refine V.lload F d_M_tell_69 4 rfl ?_
                  refine V.lload F d_M_tell_71 5 rfl ?_
                  refine V.callVI0 (As := [.int (nI (d)), .int (nI (t)), .int (nI (k)), .long (lN (y)), .long (v)]) (rest := [.ref (mo 4)]) F (m_add l D hlt hnd d hd0 t k y v hob) d_M_tell_73 sv_M_68 im_y_M_add sl_y_M_add 0 rfl rfl rfl rfl rfl (Nat.le_of_ble_eq_true rfl) ⟨rfl, rfl, (Nat.le_of_ble_eq_true rfl), (Nat.le_of_ble_eq_true rfl)⟩ ⟨(Nat.le_of_ble_eq_true rfl), (Nat.le_of_ble_eq_true rfl)⟩ (fun r9 u9 h9 => ?_)
                  obtain ⟨rfl, rfl⟩ := h9
                  refine V.iald (v := nI (8 * tol d + d)) F d_M_tell_76 4 0 rfl rfl (by omega) (by decide) (by show nI (va_up num nf _ nf) = _; rw [va_up_self]) ?_
                  exact V.iret F hr d_M_tell_77 (⟨rfl, rfl⟩)
                · skip
                  exact absurd c53 (by omega)
              · skip
                exact absurd (lN_le5 (by omega)) c40

set_option maxHeartbeats 4000000 in
set_option maxRecDepth 100000 in
theorem m_place (l : Launch) (D : va_G) {ct : Nat → ClassId} {mo : Nat → Nat} {nd : Nat} {nb : Nat} {nf : Nat} {bdk : Nat → Nat} {num : Nat → Nat} {thg : Nat → Nat} {knd : Nat → Nat} {dy : Nat → Nat} {val : Nat → Int64} {tim : Nat → Nat} {rep : Nat → Nat → Bool} {kn : Nat → Nat → Bool} {clk : Nat → Nat} {tol : Nat → Nat} {opn : Nat → Option Nat} {bof : Nat → Option Nat} {std : Nat → Bool} {xd : Int64} (hnf : nf ≤ 300) (x : Int32) : CI l y_M_place b_M_place 3 (some .int) (rmK 0 0 0) D (tyL ct) (MW ct mo nd nb nf bdk num thg knd dy val tim rep kn clk tol opn bof std xd) [.ref (mo 0), .int (x)] 0 0 (fun r u => ((∃ f, f < nf ∧ nI (num f) = x ∧ (∀ k, k < f → ¬ nI (num k) = x) ∧ r = nI f) ∨ ((∀ k, k < nf → ¬ nI (num k) = x) ∧ r = -1)) ∧ u = MW ct mo nd nb nf bdk num thg knd dy val tim rep kn clk tol opn bof std xd) := by
  refine CI.start (by decide) (Nat.le_of_ble_eq_true rfl) ?_
  intro p e s m below meth c F hr hnm
  show V p l e (rmK 0 0 0) s m [.ref (mo 0), .int (x)].toArray below meth c D (va_A (MW ct mo nd nb nf bdk num thg knd dy val tim rep kn clk tol opn bof std xd) s.heap.size) 3 0 0 (EI D below (MW ct mo nd nb nf bdk num thg knd dy val tim rep kn clk tol opn bof std xd) [.ref (mo 0), .int (x)].toArray s 0 0 (fun r u => ((∃ f, f < nf ∧ nI (num f) = x ∧ (∀ k, k < f → ¬ nI (num k) = x) ∧ r = nI f) ∨ ((∀ k, k < nf → ¬ nI (num k) = x) ∧ r = -1)) ∧ u = MW ct mo nd nb nf bdk num thg knd dy val tim rep kn clk tol opn bof std xd)) (MW ct mo nd nb nf bdk num thg knd dy val tim rep kn clk tol opn bof std xd) [(0, .ref (mo 0)), (1, .int (x))] 0 []
  refine V.iconst F d_M_place_0 (v := nI (0)) (by decide) ?_
  refine V.istore_n (lv2 := [(2, .int (nI (0))), (0, .ref (mo 0)), (1, .int (x))]) F d_M_place_1 rfl (by decide) rfl ?_
  have L2 : ∀ (n9 : Nat) (i : Nat), nf - i < n9 → (i ≤ nf) → (∀ k, k < i → ¬ nI (num k) = x) → V p l e (rmK 0 0 0) s m [.ref (mo 0), .int (x)].toArray below meth c D (va_A (MW ct mo nd nb nf bdk num thg knd dy val tim rep kn clk tol opn bof std xd) s.heap.size) 3 0 0 (EI D below (MW ct mo nd nb nf bdk num thg knd dy val tim rep kn clk tol opn bof std xd) [.ref (mo 0), .int (x)].toArray s 0 0 (fun r u => ((∃ f, f < nf ∧ nI (num f) = x ∧ (∀ k, k < f → ¬ nI (num k) = x) ∧ r = nI f) ∨ ((∀ k, k < nf → ¬ nI (num k) = x) ∧ r = -1)) ∧ u = MW ct mo nd nb nf bdk num thg knd dy val tim rep kn clk tol opn bof std xd)) (MW ct mo nd nb nf bdk num thg knd dy val tim rep kn clk tol opn bof std xd) [(2, .int (nI (i))), (0, .ref (mo 0)), (1, .int (x))] 2 [] := by
    intro n9
    induction n9 with
    | zero => intro i h9 hi hin; exact absurd h9 (Nat.not_lt_zero _)
    | succ n9 ih2 =>
      intro i h9 hi hin
      refine V.iload_n F d_M_place_2 rfl 0 rfl ?_
      refine V.aload_n F d_M_place_3 rfl 1 rfl ?_
      refine V.get F ck_M d_M_place_4 13 (by decide) lk_M_59 0 rfl rfl ?_
      refine V.icmp_geN (tgt := 28) F d_M_place_7 (by decide) (by omega) (by omega) (fun c7 => ?_) (fun c7 => ?_)
      · skip
        refine V.iconst F d_M_place_28 (v := -1) (by decide) ?_
        exact V.iret F hr d_M_place_29 (⟨Or.inr ⟨fun k hk => hin k (by omega), rfl⟩, rfl⟩)
      · skip
        refine V.aload_n F d_M_place_10 rfl 1 rfl ?_
        refine V.get F ck_M d_M_place_11 4 (by decide) lk_M_20 0 rfl rfl ?_
        refine V.iload_n F d_M_place_14 rfl 0 rfl ?_
        refine V.iald (v := nI (num (i))) F d_M_place_15 4 0 rfl rfl (by omega) (by decide) rfl ?_
        refine V.iload_n F d_M_place_16 rfl 2 rfl ?_
        refine V.icmp_ne (x := nI (num (i))) (y := x) (tgt := 22) F d_M_place_17 (by decide) (fun c17 => ?_) (fun c17 => ?_)
        · skip
          refine V.iincN (k := 1) (lv2 := [(2, .int (nI (i + 1))), (0, .ref (mo 0)), (1, .int (x))]) F d_M_place_22 0 rfl (by decide) (by decide) rfl ?_
          refine V.goto (tgt := 2) F d_M_place_25 (by decide) ?_
          exact ih2 (i + 1) (by omega) (by omega) (fun k hk => by
          by_cases e9 : k = i
          · rw [e9]; exact c17
          · exact hin k (by omega))
        · skip
          refine V.iload_n F d_M_place_20 rfl 0 rfl ?_
          exact V.iret F hr d_M_place_21 (⟨Or.inl ⟨i, by omega, c17, hin, rfl⟩, rfl⟩)
  exact L2 _ (0) (Nat.lt_succ_self _) (by omega) (fun k hk => absurd hk (by omega))

set_option maxHeartbeats 4000000 in
set_option maxRecDepth 100000 in
theorem m_isKnown (l : Launch) (D : va_G) {ct : Nat → ClassId} {mo : Nat → Nat} {nd : Nat} {nb : Nat} {nf : Nat} {bdk : Nat → Nat} {num : Nat → Nat} {thg : Nat → Nat} {knd : Nat → Nat} {dy : Nat → Nat} {val : Nat → Int64} {tim : Nat → Nat} {rep : Nat → Nat → Bool} {kn : Nat → Nat → Bool} {clk : Nat → Nat} {tol : Nat → Nat} {opn : Nat → Option Nat} {bof : Nat → Option Nat} {std : Nat → Bool} {xd : Int64} (hnd : nd ≤ 8) (d : Nat) (hd0 : d < nd) (f : Nat) (hf : f < 300) (on : Int64) : CI l y_M_isKnown b_M_isKnown 5 (some .boolean) (rmK 0 0 0) D (tyL ct) (MW ct mo nd nb nf bdk num thg knd dy val tim rep kn clk tol opn bof std xd) [.ref (mo 0), .int (nI (d)), .int (nI (f)), .long (on)] 0 0 (fun r u => r = bI (kn d f && decide (¬ on < lN (tim f))) ∧ u = MW ct mo nd nb nf bdk num thg knd dy val tim rep kn clk tol opn bof std xd) := by
  refine CI.start (by decide) (Nat.le_of_ble_eq_true rfl) ?_
  intro p e s m below meth c F hr hnm
  show V p l e (rmK 0 0 0) s m [.ref (mo 0), .int (nI (d)), .int (nI (f)), .long (on)].toArray below meth c D (va_A (MW ct mo nd nb nf bdk num thg knd dy val tim rep kn clk tol opn bof std xd) s.heap.size) 5 0 0 (EI D below (MW ct mo nd nb nf bdk num thg knd dy val tim rep kn clk tol opn bof std xd) [.ref (mo 0), .int (nI (d)), .int (nI (f)), .long (on)].toArray s 0 0 (fun r u => r = bI (kn d f && decide (¬ on < lN (tim f))) ∧ u = MW ct mo nd nb nf bdk num thg knd dy val tim rep kn clk tol opn bof std xd)) (MW ct mo nd nb nf bdk num thg knd dy val tim rep kn clk tol opn bof std xd) [(0, .ref (mo 0)), (1, .int (nI (d))), (2, .int (nI (f))), (3, .long (on))] 0 []
  refine V.aload_n F d_M_isKnown_0 rfl 0 rfl ?_
  refine V.get F ck_M d_M_isKnown_1 12 (by decide) lk_M_46 0 rfl rfl ?_
  refine V.iload_n F d_M_isKnown_4 rfl 1 rfl ?_
  refine V.sipush F d_M_isKnown_5 (v := nI (300)) (by decide) ?_
  refine V.imulN F d_M_isKnown_8 ?_
  refine V.iload_n F d_M_isKnown_9 rfl 2 rfl ?_
  refine V.iaddN F d_M_isKnown_10 ?_
  refine V.zald (v := bI (kn (d) (f))) F d_M_isKnown_11 12 3 rfl rfl (by omega) (by decide) (kn_at (by omega)) ?_
  refine V.if_eqB (b := kn (d) (f)) (tgt := 30) F d_M_isKnown_12 (by decide) (fun c12 => ?_) (fun c12 => ?_)
  · skip
    refine V.iconst F d_M_isKnown_30 (v := nI (0)) (by decide) ?_
    exact V.zret F hr (nar_0) d_M_isKnown_31 (⟨by rw [c12]; exact bI_f, rfl⟩)
  · skip
    refine V.aload_n F d_M_isKnown_15 rfl 0 rfl ?_
    refine V.get F ck_M d_M_isKnown_16 9 (by decide) lk_M_35 0 rfl rfl ?_
    refine V.iload_n F d_M_isKnown_19 rfl 2 rfl ?_
    refine V.lald (v := lN (tim (f))) F d_M_isKnown_20 9 1 rfl rfl (by omega) (by decide) rfl ?_
    refine V.lload_n F d_M_isKnown_21 rfl 3 rfl ?_
    refine V.lcmp_gt (tgt := 30) F d_M_isKnown_22 d_M_isKnown_23 (by decide) (fun c22 => ?_) (fun c22 => ?_)
    · skip
      refine V.iconst F d_M_isKnown_30 (v := nI (0)) (by decide) ?_
      exact V.zret F hr (nar_0) d_M_isKnown_31 (⟨by rw [decide_eq_false (fun q => q c22), Bool.and_false]; exact bI_f, rfl⟩)
    · skip
      refine V.iconst F d_M_isKnown_26 (v := nI (1)) (by decide) ?_
      refine V.goto (tgt := 31) F d_M_isKnown_27 (by decide) ?_
      exact V.zret F hr (nar_1) d_M_isKnown_31 (⟨by rw [c12, decide_eq_true c22]; exact bI_t, rfl⟩)

set_option maxHeartbeats 4000000 in
set_option maxRecDepth 100000 in
theorem m_stands (l : Launch) (D : va_G) {ct : Nat → ClassId} {mo : Nat → Nat} {nd : Nat} {nb : Nat} {nf : Nat} {bdk : Nat → Nat} {num : Nat → Nat} {thg : Nat → Nat} {knd : Nat → Nat} {dy : Nat → Nat} {val : Nat → Int64} {tim : Nat → Nat} {rep : Nat → Nat → Bool} {kn : Nat → Nat → Bool} {clk : Nat → Nat} {tol : Nat → Nat} {opn : Nat → Option Nat} {bof : Nat → Option Nat} {std : Nat → Bool} {xd : Int64} (hnf : nf ≤ 300) (hnd : nd ≤ 8) (d : Nat) (hd0 : d < nd) (f : Nat) (hf : f < nf) (on : Int64) : CI l y_M_stands b_M_stands 7 (some .boolean) (rmK 1 0 0) D (tyL ct) (MW ct mo nd nb nf bdk num thg knd dy val tim rep kn clk tol opn bof std xd) [.ref (mo 0), .int (nI (d)), .int (nI (f)), .long (on)] 0 0 (fun r u => r = bI (lkB (fun k => (kn d k && decide (¬ on < lN (tim k)))) rep f nf) ∧ u = MW ct mo nd nb nf bdk num thg knd dy val tim rep kn clk tol opn bof std xd) := by
  refine CI.start (by decide) (Nat.le_of_ble_eq_true rfl) ?_
  intro p e s m below meth c F hr hnm
  show V p l e (rmK 1 0 0) s m [.ref (mo 0), .int (nI (d)), .int (nI (f)), .long (on)].toArray below meth c D (va_A (MW ct mo nd nb nf bdk num thg knd dy val tim rep kn clk tol opn bof std xd) s.heap.size) 7 0 0 (EI D below (MW ct mo nd nb nf bdk num thg knd dy val tim rep kn clk tol opn bof std xd) [.ref (mo 0), .int (nI (d)), .int (nI (f)), .long (on)].toArray s 0 0 (fun r u => r = bI (lkB (fun k => (kn d k && decide (¬ on < lN (tim k)))) rep f nf) ∧ u = MW ct mo nd nb nf bdk num thg knd dy val tim rep kn clk tol opn bof std xd)) (MW ct mo nd nb nf bdk num thg knd dy val tim rep kn clk tol opn bof std xd) [(0, .ref (mo 0)), (1, .int (nI (d))), (2, .int (nI (f))), (3, .long (on))] 0 []
  refine V.aload_n F d_M_stands_0 rfl 0 rfl ?_
  refine V.iload_n F d_M_stands_1 rfl 1 rfl ?_
  refine V.iload_n F d_M_stands_2 rfl 2 rfl ?_
  refine V.lload_n F d_M_stands_3 rfl 3 rfl ?_
  refine V.callVI0 (As := [.int (nI (d)), .int (nI (f)), .long (on)]) (rest := []) F (m_isKnown l D hnd d hd0 f (by omega) on) d_M_stands_4 sv_M_72 im_y_M_isKnown sl_y_M_isKnown 0 rfl rfl rfl rfl rfl (Nat.le_of_ble_eq_true rfl) ⟨rfl, rfl, (Nat.le_of_ble_eq_true rfl), (Nat.le_of_ble_eq_true rfl)⟩ ⟨(Nat.le_of_ble_eq_true rfl), (Nat.le_of_ble_eq_true rfl)⟩ (fun r9 u9 h9 => ?_)
  obtain ⟨rfl, rfl⟩ := h9
  refine V.istore (lv2 := [(5, .int (bI ((kn d f && decide (¬ on < lN (tim f)))))), (0, .ref (mo 0)), (1, .int (nI (d))), (2, .int (nI (f))), (3, .long (on))]) F d_M_stands_7 (by decide) rfl ?_
  refine V.iconst F d_M_stands_9 (v := nI (0)) (by decide) ?_
  refine V.istore (lv2 := [(6, .int (nI (0))), (5, .int (bI ((kn d f && decide (¬ on < lN (tim f)))))), (0, .ref (mo 0)), (1, .int (nI (d))), (2, .int (nI (f))), (3, .long (on))]) F d_M_stands_10 (by decide) rfl ?_
  have L12 : ∀ (n9 : Nat) (i : Nat) (z : Bool), nf - i < n9 → (i ≤ nf) → (z = lkB (fun k => (kn d k && decide (¬ on < lN (tim k)))) rep f i) → V p l e (rmK 1 0 0) s m [.ref (mo 0), .int (nI (d)), .int (nI (f)), .long (on)].toArray below meth c D (va_A (MW ct mo nd nb nf bdk num thg knd dy val tim rep kn clk tol opn bof std xd) s.heap.size) 7 0 0 (EI D below (MW ct mo nd nb nf bdk num thg knd dy val tim rep kn clk tol opn bof std xd) [.ref (mo 0), .int (nI (d)), .int (nI (f)), .long (on)].toArray s 0 0 (fun r u => r = bI (lkB (fun k => (kn d k && decide (¬ on < lN (tim k)))) rep f nf) ∧ u = MW ct mo nd nb nf bdk num thg knd dy val tim rep kn clk tol opn bof std xd)) (MW ct mo nd nb nf bdk num thg knd dy val tim rep kn clk tol opn bof std xd) [(6, .int (nI (i))), (5, .int (bI (z))), (0, .ref (mo 0)), (1, .int (nI (d))), (2, .int (nI (f))), (3, .long (on))] 12 [] := by
    intro n9
    induction n9 with
    | zero => intro i z h9 hi hz; exact absurd h9 (Nat.not_lt_zero _)
    | succ n9 ih12 =>
      intro i z h9 hi hz
      refine V.iload F d_M_stands_12 0 rfl ?_
      refine V.aload_n F d_M_stands_14 rfl 2 rfl ?_
      refine V.get F ck_M d_M_stands_15 13 (by decide) lk_M_59 0 rfl rfl ?_
      refine V.icmp_geN (tgt := 66) F d_M_stands_18 (by decide) (by omega) (by omega) (fun c18 => ?_) (fun c18 => ?_)
      · skip
        refine V.iload F d_M_stands_66 1 rfl ?_
        exact V.zret F hr (nar_b _) d_M_stands_68 (⟨by rw [hz, show nf = i by omega], rfl⟩)
      · skip
        refine V.iload F d_M_stands_21 1 rfl ?_
        refine V.if_eqB (b := z) (tgt := 66) F d_M_stands_23 (by decide) (fun c23 => ?_) (fun c23 => ?_)
        · skip
          refine V.iload F d_M_stands_66 1 rfl ?_
          exact V.zret F hr (nar_b _) d_M_stands_68 (⟨by rw [c23]; exact congrArg bI (ss_e (hz.symm.trans c23) hi).symm, rfl⟩)
        · skip
          refine V.aload_n F d_M_stands_26 rfl 2 rfl ?_
          refine V.get F ck_M d_M_stands_27 11 (by decide) lk_M_42 0 rfl rfl ?_
          refine V.iload F d_M_stands_30 0 rfl ?_
          refine V.sipush F d_M_stands_32 (v := nI (300)) (by decide) ?_
          refine V.imulN F d_M_stands_35 ?_
          refine V.iload_n F d_M_stands_36 rfl 4 rfl ?_
          refine V.iaddN F d_M_stands_37 ?_
          refine V.zald (v := bI (rep (f) (i))) F d_M_stands_38 11 3 rfl rfl (by omega) (by decide) (rp_at (by omega)) ?_
          refine V.if_eqB (b := rep (f) (i)) (tgt := 53) F d_M_stands_39 (by decide) (fun c39 => ?_) (fun c39 => ?_)
          · skip
            refine V.iconst F d_M_stands_53 (v := nI (1)) (by decide) ?_
            refine V.goto (tgt := 58) F d_M_stands_54 (by decide) ?_
            refine V.istore (lv2 := [(5, .int (nI (1))), (6, .int (nI (i))), (0, .ref (mo 0)), (1, .int (nI (d))), (2, .int (nI (f))), (3, .long (on))]) F d_M_stands_58 (by decide) rfl ?_
            refine V.iincN (k := 1) (lv2 := [(6, .int (nI (i + 1))), (5, .int (nI (1))), (0, .ref (mo 0)), (1, .int (nI (d))), (2, .int (nI (f))), (3, .long (on))]) F d_M_stands_60 1 rfl (by decide) (by decide) rfl ?_
            refine V.goto (tgt := 12) F d_M_stands_63 (by decide) ?_
            exact ih12 (i + 1) (true) (by omega) (by omega) (ss_1 hz c23 (by show (rep f i && _) = false; rw [c39]; rfl))
          · skip
            refine V.aload_n F d_M_stands_42 rfl 2 rfl ?_
            refine V.iload_n F d_M_stands_43 rfl 3 rfl ?_
            refine V.iload F d_M_stands_44 0 rfl ?_
            refine V.lload_n F d_M_stands_46 rfl 5 rfl ?_
            refine V.callVI0 (As := [.int (nI (d)), .int (nI (i)), .long (on)]) (rest := []) F (m_isKnown l D hnd d hd0 i (by omega) on) d_M_stands_47 sv_M_72 im_y_M_isKnown sl_y_M_isKnown 0 rfl rfl rfl rfl rfl (Nat.le_of_ble_eq_true rfl) ⟨rfl, rfl, (Nat.le_of_ble_eq_true rfl), (Nat.le_of_ble_eq_true rfl)⟩ ⟨(Nat.le_of_ble_eq_true rfl), (Nat.le_of_ble_eq_true rfl)⟩ (fun r9 u9 h9 => ?_)
            obtain ⟨rfl, rfl⟩ := h9
            refine V.if_neB (b := (kn d i && decide (¬ on < lN (tim i)))) (tgt := 57) F d_M_stands_50 (by decide) (fun c50 => ?_) (fun c50 => ?_)
            · skip
              refine V.iconst F d_M_stands_57 (v := nI (0)) (by decide) ?_
              refine V.istore (lv2 := [(5, .int (nI (0))), (6, .int (nI (i))), (0, .ref (mo 0)), (1, .int (nI (d))), (2, .int (nI (f))), (3, .long (on))]) F d_M_stands_58 (by decide) rfl ?_
              refine V.iincN (k := 1) (lv2 := [(6, .int (nI (i + 1))), (5, .int (nI (0))), (0, .ref (mo 0)), (1, .int (nI (d))), (2, .int (nI (f))), (3, .long (on))]) F d_M_stands_60 1 rfl (by decide) (by decide) rfl ?_
              refine V.goto (tgt := 12) F d_M_stands_63 (by decide) ?_
              exact ih12 (i + 1) (false) (by omega) (by omega) (ss_0 (by show (rep f i && _) = true; rw [c39, c50]; rfl))
            · skip
              refine V.iconst F d_M_stands_53 (v := nI (1)) (by decide) ?_
              refine V.goto (tgt := 58) F d_M_stands_54 (by decide) ?_
              refine V.istore (lv2 := [(5, .int (nI (1))), (6, .int (nI (i))), (0, .ref (mo 0)), (1, .int (nI (d))), (2, .int (nI (f))), (3, .long (on))]) F d_M_stands_58 (by decide) rfl ?_
              refine V.iincN (k := 1) (lv2 := [(6, .int (nI (i + 1))), (5, .int (nI (1))), (0, .ref (mo 0)), (1, .int (nI (d))), (2, .int (nI (f))), (3, .long (on))]) F d_M_stands_60 1 rfl (by decide) (by decide) rfl ?_
              refine V.goto (tgt := 12) F d_M_stands_63 (by decide) ?_
              exact ih12 (i + 1) (true) (by omega) (by omega) (ss_1 hz c23 (by show (rep f i && _) = false; rw [c50, Bool.and_false]))
  exact L12 _ (0) ((kn d f && decide (¬ on < lN (tim f)))) (Nat.lt_succ_self _) (by omega) (by unfold lkB; rw [anyB]; simp)

set_option maxHeartbeats 4000000 in
set_option maxRecDepth 100000 in
theorem m_look (l : Launch) (D : va_G) {ct : Nat → ClassId} {mo : Nat → Nat} {nd : Nat} {nb : Nat} {nf : Nat} {bdk : Nat → Nat} {num : Nat → Nat} {thg : Nat → Nat} {knd : Nat → Nat} {dy : Nat → Nat} {val : Nat → Int64} {tim : Nat → Nat} {rep : Nat → Nat → Bool} {kn : Nat → Nat → Bool} {clk : Nat → Nat} {tol : Nat → Nat} {opn : Nat → Option Nat} {bof : Nat → Option Nat} {std : Nat → Bool} {xd : Int64} (hnf : nf ≤ 300) (hnd : nd ≤ 8) (d : Nat) (hd0 : d < nd) : CV l y_M_look b_M_look 4 none (rmK 0 0 0) D (tyL ct) (MW ct mo nd nb nf bdk num thg knd dy val tim rep kn clk tol opn bof std xd) [.ref (mo 0), .int (nI (d))] 0 0 (fun u => ∃ P : Nat → Bool, (∀ f, f < nf → P f = lkB (kn d) rep f nf) ∧ u = MW ct mo nd nb nf bdk num thg knd dy val tim rep kn clk tol opn bof P xd) := by
  refine CV.start (by decide) (Nat.le_of_ble_eq_true rfl) ?_
  intro p e s m below meth c F hr hnm
  show V p l e (rmK 0 0 0) s m [.ref (mo 0), .int (nI (d))].toArray below meth c D (va_A (MW ct mo nd nb nf bdk num thg knd dy val tim rep kn clk tol opn bof std xd) s.heap.size) 4 0 0 (EV D below (MW ct mo nd nb nf bdk num thg knd dy val tim rep kn clk tol opn bof std xd) [.ref (mo 0), .int (nI (d))].toArray s 0 0 (fun u => ∃ P : Nat → Bool, (∀ f, f < nf → P f = lkB (kn d) rep f nf) ∧ u = MW ct mo nd nb nf bdk num thg knd dy val tim rep kn clk tol opn bof P xd)) (MW ct mo nd nb nf bdk num thg knd dy val tim rep kn clk tol opn bof std xd) [(0, .ref (mo 0)), (1, .int (nI (d)))] 0 []
  refine V.iconst F d_M_look_0 (v := nI (0)) (by decide) ?_
  refine V.istore_n (lv2 := [(2, .int (nI (0))), (0, .ref (mo 0)), (1, .int (nI (d)))]) F d_M_look_1 rfl (by decide) rfl ?_
  have L2 : ∀ (n9 : Nat) (i : Nat) (P : Nat → Bool), nf - i < n9 → (i ≤ nf) → (∀ f, f < i → P f = kn d f) → V p l e (rmK 0 0 0) s m [.ref (mo 0), .int (nI (d))].toArray below meth c D (va_A (MW ct mo nd nb nf bdk num thg knd dy val tim rep kn clk tol opn bof std xd) s.heap.size) 4 0 0 (EV D below (MW ct mo nd nb nf bdk num thg knd dy val tim rep kn clk tol opn bof std xd) [.ref (mo 0), .int (nI (d))].toArray s 0 0 (fun u => ∃ P : Nat → Bool, (∀ f, f < nf → P f = lkB (kn d) rep f nf) ∧ u = MW ct mo nd nb nf bdk num thg knd dy val tim rep kn clk tol opn bof P xd)) (MW ct mo nd nb nf bdk num thg knd dy val tim rep kn clk tol opn bof P xd) [(2, .int (nI (i))), (0, .ref (mo 0)), (1, .int (nI (d)))] 2 [] := by
    intro n9
    induction n9 with
    | zero => intro i P h9 hi hP; exact absurd h9 (Nat.not_lt_zero _)
    | succ n9 ih2 =>
      intro i P h9 hi hP
      refine V.iload_n F d_M_look_2 rfl 0 rfl ?_
      refine V.aload_n F d_M_look_3 rfl 1 rfl ?_
      refine V.get F ck_M d_M_look_4 13 (by decide) lk_M_59 0 rfl rfl ?_
      refine V.icmp_geN (tgt := 34) F d_M_look_7 (by decide) (by omega) (by omega) (fun c7 => ?_) (fun c7 => ?_)
      · skip
        refine V.iconst F d_M_look_34 (v := nI (0)) (by decide) ?_
        refine V.istore_n (lv2 := [(2, .int (nI (0))), (0, .ref (mo 0)), (1, .int (nI (d)))]) F d_M_look_35 rfl (by decide) rfl ?_
        have L36 : ∀ (n9 : Nat) (g : Nat) (P : Nat → Bool), nf - g < n9 → (g ≤ nf) → (∀ f, f < nf → P f = lkB (kn d) rep f g) → V p l e (rmK 0 0 0) s m [.ref (mo 0), .int (nI (d))].toArray below meth c D (va_A (MW ct mo nd nb nf bdk num thg knd dy val tim rep kn clk tol opn bof std xd) s.heap.size) 4 0 0 (EV D below (MW ct mo nd nb nf bdk num thg knd dy val tim rep kn clk tol opn bof std xd) [.ref (mo 0), .int (nI (d))].toArray s 0 0 (fun u => ∃ P : Nat → Bool, (∀ f, f < nf → P f = lkB (kn d) rep f nf) ∧ u = MW ct mo nd nb nf bdk num thg knd dy val tim rep kn clk tol opn bof P xd)) (MW ct mo nd nb nf bdk num thg knd dy val tim rep kn clk tol opn bof P xd) [(2, .int (nI (g))), (0, .ref (mo 0)), (1, .int (nI (d)))] 36 [] := by
          intro n9
          induction n9 with
          | zero => intro g P h9 hg hP; exact absurd h9 (Nat.not_lt_zero _)
          | succ n9 ih36 =>
            intro g P h9 hg hP
            refine V.iload_n F d_M_look_36 rfl 0 rfl ?_
            refine V.aload_n F d_M_look_37 rfl 1 rfl ?_
            refine V.get F ck_M d_M_look_38 13 (by decide) lk_M_59 0 rfl rfl ?_
            refine V.icmp_geN (tgt := 116) F d_M_look_41 (by decide) (by omega) (by omega) (fun c41 => ?_) (fun c41 => ?_)
            · skip
              exact V.vret F hr d_M_look_116 (⟨P, fun f hf => by rw [hP f hf, show g = nf by omega], rfl⟩)
            · skip
              refine V.iconst F d_M_look_44 (v := nI (0)) (by decide) ?_
              refine V.istore_n (lv2 := [(3, .int (nI (0))), (2, .int (nI (g))), (0, .ref (mo 0)), (1, .int (nI (d)))]) F d_M_look_45 rfl (by decide) rfl ?_
              have L46 : ∀ (n9 : Nat) (j : Nat) (P : Nat → Bool), nf - j < n9 → (j ≤ nf) → (∀ f, f < nf → P f = lkB (kn d) rep f (if f < j then g + 1 else g)) → V p l e (rmK 0 0 0) s m [.ref (mo 0), .int (nI (d))].toArray below meth c D (va_A (MW ct mo nd nb nf bdk num thg knd dy val tim rep kn clk tol opn bof std xd) s.heap.size) 4 0 0 (EV D below (MW ct mo nd nb nf bdk num thg knd dy val tim rep kn clk tol opn bof std xd) [.ref (mo 0), .int (nI (d))].toArray s 0 0 (fun u => ∃ P : Nat → Bool, (∀ f, f < nf → P f = lkB (kn d) rep f nf) ∧ u = MW ct mo nd nb nf bdk num thg knd dy val tim rep kn clk tol opn bof P xd)) (MW ct mo nd nb nf bdk num thg knd dy val tim rep kn clk tol opn bof P xd) [(3, .int (nI (j))), (2, .int (nI (g))), (0, .ref (mo 0)), (1, .int (nI (d)))] 46 [] := by
                intro n9
                induction n9 with
                | zero => intro j P h9 hj hP; exact absurd h9 (Nat.not_lt_zero _)
                | succ n9 ih46 =>
                  intro j P h9 hj hP
                  refine V.iload_n F d_M_look_46 rfl 0 rfl ?_
                  refine V.aload_n F d_M_look_47 rfl 2 rfl ?_
                  refine V.get F ck_M d_M_look_48 13 (by decide) lk_M_59 0 rfl rfl ?_
                  refine V.icmp_geN (tgt := 110) F d_M_look_51 (by decide) (by omega) (by omega) (fun c51 => ?_) (fun c51 => ?_)
                  · skip
                    refine V.iincN (k := 1) (lv2 := [(2, .int (nI (g + 1))), (3, .int (nI (j))), (0, .ref (mo 0)), (1, .int (nI (d)))]) F d_M_look_110 1 rfl (by decide) (by decide) rfl ?_
                    refine V.goto (tgt := 36) F d_M_look_113 (by decide) ?_
                    refine V.lvs [0, 2, 3] rfl ?_
                    exact ih36 (g + 1) (P) (by omega) (by omega) (lk_e hP c51)
                  · skip
                    refine V.aload_n F d_M_look_54 rfl 2 rfl ?_
                    refine V.get F ck_M d_M_look_55 12 (by decide) lk_M_46 0 rfl rfl ?_
                    refine V.iload_n F d_M_look_58 rfl 3 rfl ?_
                    refine V.sipush F d_M_look_59 (v := nI (300)) (by decide) ?_
                    refine V.imulN F d_M_look_62 ?_
                    refine V.iload_n F d_M_look_63 rfl 1 rfl ?_
                    refine V.iaddN F d_M_look_64 ?_
                    refine V.zald (v := bI (kn (d) (g))) F d_M_look_65 12 3 rfl rfl (by omega) (by decide) (kn_at (by omega)) ?_
                    refine V.if_eqB (b := kn (d) (g)) (tgt := 110) F d_M_look_66 (by decide) (fun c66 => ?_) (fun c66 => ?_)
                    · skip
                      refine V.iincN (k := 1) (lv2 := [(2, .int (nI (g + 1))), (3, .int (nI (j))), (0, .ref (mo 0)), (1, .int (nI (d)))]) F d_M_look_110 1 rfl (by decide) (by decide) rfl ?_
                      refine V.goto (tgt := 36) F d_M_look_113 (by decide) ?_
                      refine V.lvs [0, 2, 3] rfl ?_
                      exact ih36 (g + 1) (P) (by omega) (by omega) (lk_0 hP c66)
                    · skip
                      refine V.aload_n F d_M_look_69 rfl 2 rfl ?_
                      refine V.get F ck_M d_M_look_70 16 (by decide) lk_M_52 0 rfl rfl ?_
                      refine V.iload_n F d_M_look_73 rfl 0 rfl ?_
                      refine V.aload_n F d_M_look_74 rfl 2 rfl ?_
                      refine V.get F ck_M d_M_look_75 16 (by decide) lk_M_52 0 rfl rfl ?_
                      refine V.iload_n F d_M_look_78 rfl 0 rfl ?_
                      refine V.zald (v := bI (P (j))) F d_M_look_79 14 3 rfl rfl (by omega) (by decide) rfl ?_
                      refine V.if_eqB (b := P (j)) (tgt := 102) F d_M_look_80 (by decide) (fun c80 => ?_) (fun c80 => ?_)
                      · skip
                        refine V.iconst F d_M_look_102 (v := nI (0)) (by decide) ?_
                        refine V.zast (b := false) (ws2 := MW ct mo nd nb nf bdk num thg knd dy val tim rep kn clk tol opn bof (va_up P (j) (false)) xd) F d_M_look_103 14 3 rfl rfl (by omega) (by decide) (by rw [upd_bI]; exact mw_set_std) ?_
                        refine V.iincN (k := 1) (lv2 := [(3, .int (nI (j + 1))), (2, .int (nI (g))), (0, .ref (mo 0)), (1, .int (nI (d)))]) F d_M_look_104 0 rfl (by decide) (by decide) rfl ?_
                        refine V.goto (tgt := 46) F d_M_look_107 (by decide) ?_
                        exact ih46 (j + 1) (va_up P j false) (by omega) (by omega) (lk_1 hP c66 (by omega) (by rw [c80]; rfl))
                      · skip
                        refine V.aload_n F d_M_look_83 rfl 2 rfl ?_
                        refine V.get F ck_M d_M_look_84 11 (by decide) lk_M_42 0 rfl rfl ?_
                        refine V.iload_n F d_M_look_87 rfl 1 rfl ?_
                        refine V.sipush F d_M_look_88 (v := nI (300)) (by decide) ?_
                        refine V.imulN F d_M_look_91 ?_
                        refine V.iload_n F d_M_look_92 rfl 0 rfl ?_
                        refine V.iaddN F d_M_look_93 ?_
                        refine V.zald (v := bI (rep (j) (g))) F d_M_look_94 11 3 rfl rfl (by omega) (by decide) (rp_at (by omega)) ?_
                        refine V.if_neB (b := rep (j) (g)) (tgt := 102) F d_M_look_95 (by decide) (fun c95 => ?_) (fun c95 => ?_)
                        · skip
                          refine V.iconst F d_M_look_102 (v := nI (0)) (by decide) ?_
                          refine V.zast (b := false) (ws2 := MW ct mo nd nb nf bdk num thg knd dy val tim rep kn clk tol opn bof (va_up P (j) (false)) xd) F d_M_look_103 14 3 rfl rfl (by omega) (by decide) (by rw [upd_bI]; exact mw_set_std) ?_
                          refine V.iincN (k := 1) (lv2 := [(3, .int (nI (j + 1))), (2, .int (nI (g))), (0, .ref (mo 0)), (1, .int (nI (d)))]) F d_M_look_104 0 rfl (by decide) (by decide) rfl ?_
                          refine V.goto (tgt := 46) F d_M_look_107 (by decide) ?_
                          exact ih46 (j + 1) (va_up P j false) (by omega) (by omega) (lk_1 hP c66 (by omega) (by rw [c95]; simp))
                        · skip
                          refine V.iconst F d_M_look_98 (v := nI (1)) (by decide) ?_
                          refine V.goto (tgt := 103) F d_M_look_99 (by decide) ?_
                          refine V.zast (b := true) (ws2 := MW ct mo nd nb nf bdk num thg knd dy val tim rep kn clk tol opn bof (va_up P (j) (true)) xd) F d_M_look_103 14 3 rfl rfl (by omega) (by decide) (by rw [upd_bI]; exact mw_set_std) ?_
                          refine V.iincN (k := 1) (lv2 := [(3, .int (nI (j + 1))), (2, .int (nI (g))), (0, .ref (mo 0)), (1, .int (nI (d)))]) F d_M_look_104 0 rfl (by decide) (by decide) rfl ?_
                          refine V.goto (tgt := 46) F d_M_look_107 (by decide) ?_
                          exact ih46 (j + 1) (va_up P j true) (by omega) (by omega) (lk_1 hP c66 (by omega) (by rw [c80, c95]; rfl))
              exact L46 _ (0) (P) (Nat.lt_succ_self _) (by omega) (fun f hf => by rw [hP f hf, if_neg (by omega)])
        exact L36 _ (0) (P) (Nat.lt_succ_self _) (by omega) (fun f hf => by rw [hP f (by omega)]; unfold lkB; rw [anyB]; simp)
      · skip
        refine V.aload_n F d_M_look_10 rfl 1 rfl ?_
        refine V.get F ck_M d_M_look_11 16 (by decide) lk_M_52 0 rfl rfl ?_
        refine V.iload_n F d_M_look_14 rfl 0 rfl ?_
        refine V.aload_n F d_M_look_15 rfl 1 rfl ?_
        refine V.get F ck_M d_M_look_16 12 (by decide) lk_M_46 0 rfl rfl ?_
        refine V.iload_n F d_M_look_19 rfl 2 rfl ?_
        refine V.sipush F d_M_look_20 (v := nI (300)) (by decide) ?_
        refine V.imulN F d_M_look_23 ?_
        refine V.iload_n F d_M_look_24 rfl 0 rfl ?_
        refine V.iaddN F d_M_look_25 ?_
        refine V.zald (v := bI (kn (d) (i))) F d_M_look_26 12 3 rfl rfl (by omega) (by decide) (kn_at (by omega)) ?_
        refine V.zast (b := kn (d) (i)) (ws2 := MW ct mo nd nb nf bdk num thg knd dy val tim rep kn clk tol opn bof (va_up P (i) (kn (d) (i))) xd) F d_M_look_27 14 3 rfl rfl (by omega) (by decide) (by rw [upd_bI]; exact mw_set_std) ?_
        refine V.iincN (k := 1) (lv2 := [(2, .int (nI (i + 1))), (0, .ref (mo 0)), (1, .int (nI (d)))]) F d_M_look_28 0 rfl (by decide) (by decide) rfl ?_
        refine V.goto (tgt := 2) F d_M_look_31 (by decide) ?_
        exact ih2 (i + 1) (va_up P i (kn d i)) (by omega) (by omega) (fun f hf => by
          by_cases e9 : f = i
          · rw [e9, va_up_self]
          · rw [va_up_ne _ _ e9]; exact hP f (by omega))
  exact L2 _ (0) (std) (Nat.lt_succ_self _) (by omega) (fun f hf => absurd hf (by omega))

set_option maxHeartbeats 4000000 in
set_option maxRecDepth 100000 in
theorem m_areOne (l : Launch) (D : va_G) {ct : Nat → ClassId} {mo : Nat → Nat} {nd : Nat} {nb : Nat} {nf : Nat} {bdk : Nat → Nat} {num : Nat → Nat} {thg : Nat → Nat} {knd : Nat → Nat} {dy : Nat → Nat} {val : Nat → Int64} {tim : Nat → Nat} {rep : Nat → Nat → Bool} {kn : Nat → Nat → Bool} {clk : Nat → Nat} {tol : Nat → Nat} {opn : Nat → Option Nat} {bof : Nat → Option Nat} {std : Nat → Bool} {xd : Int64} (hnf : nf ≤ 300) (spt : Nat → Nat) (hsp : SpR spt thg knd dy nf) (f g : Nat) (hf : f < nf) (hg : g < nf) : CI l y_M_areOne b_M_areOne 3 (some .boolean) (rmK 0 0 0) D (tyL ct) (MW ct mo nd nb nf bdk num thg knd dy val tim rep kn clk tol opn bof std xd) [.ref (mo 0), .int (nI (f)), .int (nI (g))] 0 0 (fun r u => r = bI (decide (spt f = spt g)) ∧ u = MW ct mo nd nb nf bdk num thg knd dy val tim rep kn clk tol opn bof std xd) := by
  refine CI.start (by decide) (Nat.le_of_ble_eq_true rfl) ?_
  intro p e s m below meth c F hr hnm
  show V p l e (rmK 0 0 0) s m [.ref (mo 0), .int (nI (f)), .int (nI (g))].toArray below meth c D (va_A (MW ct mo nd nb nf bdk num thg knd dy val tim rep kn clk tol opn bof std xd) s.heap.size) 3 0 0 (EI D below (MW ct mo nd nb nf bdk num thg knd dy val tim rep kn clk tol opn bof std xd) [.ref (mo 0), .int (nI (f)), .int (nI (g))].toArray s 0 0 (fun r u => r = bI (decide (spt f = spt g)) ∧ u = MW ct mo nd nb nf bdk num thg knd dy val tim rep kn clk tol opn bof std xd)) (MW ct mo nd nb nf bdk num thg knd dy val tim rep kn clk tol opn bof std xd) [(0, .ref (mo 0)), (1, .int (nI (f))), (2, .int (nI (g)))] 0 []
  obtain ⟨f1, f2, f3, f4⟩ := hsp f hf
  obtain ⟨g1, g2, g3, g4⟩ := hsp g hg
  refine V.aload_n F d_M_areOne_0 rfl 0 rfl ?_
  refine V.get F ck_M d_M_areOne_1 5 (by decide) lk_M_23 0 rfl rfl ?_
  refine V.iload_n F d_M_areOne_4 rfl 1 rfl ?_
  refine V.iald (v := nI (thg (f))) F d_M_areOne_5 5 0 rfl rfl (by omega) (by decide) rfl ?_
  refine V.aload_n F d_M_areOne_6 rfl 0 rfl ?_
  refine V.get F ck_M d_M_areOne_7 5 (by decide) lk_M_23 0 rfl rfl ?_
  refine V.iload_n F d_M_areOne_10 rfl 2 rfl ?_
  refine V.iald (v := nI (thg (g))) F d_M_areOne_11 5 0 rfl rfl (by omega) (by decide) rfl ?_
  refine V.icmp_neN (tgt := 50) F d_M_areOne_12 (by decide) (by omega) (by omega) (fun c12 => ?_) (fun c12 => ?_)
  · skip
    refine V.iconst F d_M_areOne_50 (v := nI (0)) (by decide) ?_
    exact V.zret F hr (nar_0) d_M_areOne_51 (⟨by rw [decide_eq_false (by omega)]; exact bI_f, rfl⟩)
  · skip
    refine V.aload_n F d_M_areOne_15 rfl 0 rfl ?_
    refine V.get F ck_M d_M_areOne_16 6 (by decide) lk_M_26 0 rfl rfl ?_
    refine V.iload_n F d_M_areOne_19 rfl 1 rfl ?_
    refine V.iald (v := nI (knd (f))) F d_M_areOne_20 6 0 rfl rfl (by omega) (by decide) rfl ?_
    refine V.aload_n F d_M_areOne_21 rfl 0 rfl ?_
    refine V.get F ck_M d_M_areOne_22 6 (by decide) lk_M_26 0 rfl rfl ?_
    refine V.iload_n F d_M_areOne_25 rfl 2 rfl ?_
    refine V.iald (v := nI (knd (g))) F d_M_areOne_26 6 0 rfl rfl (by omega) (by decide) rfl ?_
    refine V.icmp_neN (tgt := 50) F d_M_areOne_27 (by decide) (by omega) (by omega) (fun c27 => ?_) (fun c27 => ?_)
    · skip
      refine V.iconst F d_M_areOne_50 (v := nI (0)) (by decide) ?_
      exact V.zret F hr (nar_0) d_M_areOne_51 (⟨by rw [decide_eq_false (by omega)]; exact bI_f, rfl⟩)
    · skip
      refine V.aload_n F d_M_areOne_30 rfl 0 rfl ?_
      refine V.get F ck_M d_M_areOne_31 7 (by decide) lk_M_29 0 rfl rfl ?_
      refine V.iload_n F d_M_areOne_34 rfl 1 rfl ?_
      refine V.lald (v := lN (dy (f))) F d_M_areOne_35 7 1 rfl rfl (by omega) (by decide) rfl ?_
      refine V.aload_n F d_M_areOne_36 rfl 0 rfl ?_
      refine V.get F ck_M d_M_areOne_37 7 (by decide) lk_M_29 0 rfl rfl ?_
      refine V.iload_n F d_M_areOne_40 rfl 2 rfl ?_
      refine V.lald (v := lN (dy (g))) F d_M_areOne_41 7 1 rfl rfl (by omega) (by decide) rfl ?_
      refine V.lcmp_ne (tgt := 50) F d_M_areOne_42 d_M_areOne_43 (by decide) (fun c42 => ?_) (fun c42 => ?_)
      · skip
        refine V.iconst F d_M_areOne_50 (v := nI (0)) (by decide) ?_
        exact V.zret F hr (nar_0) d_M_areOne_51 (⟨by rw [decide_eq_false (fun q => c42 (by rw [show dy f = dy g by omega]))]; exact bI_f, rfl⟩)
      · skip
        refine V.iconst F d_M_areOne_46 (v := nI (1)) (by decide) ?_
        refine V.goto (tgt := 51) F d_M_areOne_47 (by decide) ?_
        exact V.zret F hr (nar_1) d_M_areOne_51 (⟨by rw [decide_eq_true (by have c9 := (lN_eq (by omega) (by omega)).mp c42; rw [f1, g1, c12, c27, c9])]; exact bI_t, rfl⟩)

set_option maxHeartbeats 4000000 in
set_option maxRecDepth 100000 in
theorem m_isFC (l : Launch) (D : va_G) {ct : Nat → ClassId} {mo : Nat → Nat} {nd : Nat} {nb : Nat} {nf : Nat} {bdk : Nat → Nat} {num : Nat → Nat} {thg : Nat → Nat} {knd : Nat → Nat} {dy : Nat → Nat} {val : Nat → Int64} {tim : Nat → Nat} {rep : Nat → Nat → Bool} {kn : Nat → Nat → Bool} {clk : Nat → Nat} {tol : Nat → Nat} {opn : Nat → Option Nat} {bof : Nat → Option Nat} {std : Nat → Bool} {xd : Int64} (hnf : nf ≤ 300) (spt : Nat → Nat) (hsp : SpR spt thg knd dy nf) (f : Nat) (hf : f < nf) : CI l y_M_isFirstOfConflict b_M_isFirstOfConflict 4 (some .boolean) (rmK 1 0 0) D (tyL ct) (MW ct mo nd nb nf bdk num thg knd dy val tim rep kn clk tol opn bof std xd) [.ref (mo 0), .int (nI (f))] 0 0 (fun r u => r = bI (fcB spt val std nf f) ∧ u = MW ct mo nd nb nf bdk num thg knd dy val tim rep kn clk tol opn bof std xd) := by
  refine CI.start (by decide) (Nat.le_of_ble_eq_true rfl) ?_
  intro p e s m below meth c F hr hnm
  show V p l e (rmK 1 0 0) s m [.ref (mo 0), .int (nI (f))].toArray below meth c D (va_A (MW ct mo nd nb nf bdk num thg knd dy val tim rep kn clk tol opn bof std xd) s.heap.size) 4 0 0 (EI D below (MW ct mo nd nb nf bdk num thg knd dy val tim rep kn clk tol opn bof std xd) [.ref (mo 0), .int (nI (f))].toArray s 0 0 (fun r u => r = bI (fcB spt val std nf f) ∧ u = MW ct mo nd nb nf bdk num thg knd dy val tim rep kn clk tol opn bof std xd)) (MW ct mo nd nb nf bdk num thg knd dy val tim rep kn clk tol opn bof std xd) [(0, .ref (mo 0)), (1, .int (nI (f)))] 0 []
  refine V.aload_n F d_M_isFirstOfConflict_0 rfl 0 rfl ?_
  refine V.get F ck_M d_M_isFirstOfConflict_1 16 (by decide) lk_M_52 0 rfl rfl ?_
  refine V.iload_n F d_M_isFirstOfConflict_4 rfl 1 rfl ?_
  refine V.zald (v := bI (std (f))) F d_M_isFirstOfConflict_5 14 3 rfl rfl (by omega) (by decide) rfl ?_
  refine V.if_neB (b := std (f)) (tgt := 11) F d_M_isFirstOfConflict_6 (by decide) (fun c6 => ?_) (fun c6 => ?_)
  · skip
    refine V.iconst F d_M_isFirstOfConflict_11 (v := nI (0)) (by decide) ?_
    refine V.istore_n (lv2 := [(2, .int (nI (0))), (0, .ref (mo 0)), (1, .int (nI (f)))]) F d_M_isFirstOfConflict_12 rfl (by decide) rfl ?_
    refine V.iconst F d_M_isFirstOfConflict_13 (v := nI (0)) (by decide) ?_
    refine V.istore_n (lv2 := [(3, .int (nI (0))), (2, .int (nI (0))), (0, .ref (mo 0)), (1, .int (nI (f)))]) F d_M_isFirstOfConflict_14 rfl (by decide) rfl ?_
    have L15 : ∀ (n9 : Nat) (i : Nat) (u : Bool), nf - i < n9 → (i ≤ nf) → (u = anyB (fun g => (decide (spt f = spt g) && std g) && decide (val g ≠ val f)) i) → (∀ g, g < i → g < f → (decide (spt f = spt g) && std g) = false) → V p l e (rmK 1 0 0) s m [.ref (mo 0), .int (nI (f))].toArray below meth c D (va_A (MW ct mo nd nb nf bdk num thg knd dy val tim rep kn clk tol opn bof std xd) s.heap.size) 4 0 0 (EI D below (MW ct mo nd nb nf bdk num thg knd dy val tim rep kn clk tol opn bof std xd) [.ref (mo 0), .int (nI (f))].toArray s 0 0 (fun r u => r = bI (fcB spt val std nf f) ∧ u = MW ct mo nd nb nf bdk num thg knd dy val tim rep kn clk tol opn bof std xd)) (MW ct mo nd nb nf bdk num thg knd dy val tim rep kn clk tol opn bof std xd) [(3, .int (nI (i))), (2, .int (bI (u))), (0, .ref (mo 0)), (1, .int (nI (f)))] 15 [] := by
      intro n9
      induction n9 with
      | zero => intro i u h9 hi hu he; exact absurd h9 (Nat.not_lt_zero _)
      | succ n9 ih15 =>
        intro i u h9 hi hu he
        refine V.iload_n F d_M_isFirstOfConflict_15 rfl 0 rfl ?_
        refine V.aload_n F d_M_isFirstOfConflict_16 rfl 2 rfl ?_
        refine V.get F ck_M d_M_isFirstOfConflict_17 13 (by decide) lk_M_59 0 rfl rfl ?_
        refine V.icmp_geN (tgt := 80) F d_M_isFirstOfConflict_20 (by decide) (by omega) (by omega) (fun c20 => ?_) (fun c20 => ?_)
        · skip
          refine V.iload_n F d_M_isFirstOfConflict_80 rfl 1 rfl ?_
          exact V.zret F hr (nar_b _) d_M_isFirstOfConflict_81 (⟨congrArg bI (fc_end c6 (fun g g1 g2 => he g (by omega) g2) hf (by rw [hu, show nf = i by omega])), rfl⟩)
        · skip
          refine V.aload_n F d_M_isFirstOfConflict_23 rfl 2 rfl ?_
          refine V.iload_n F d_M_isFirstOfConflict_24 rfl 3 rfl ?_
          refine V.iload_n F d_M_isFirstOfConflict_25 rfl 0 rfl ?_
          refine V.callVI0 (As := [.int (nI (f)), .int (nI (i))]) (rest := []) F (m_areOne l D hnf spt hsp f i (by omega) (by omega)) d_M_isFirstOfConflict_26 sv_M_84 im_y_M_areOne sl_y_M_areOne 0 rfl rfl rfl rfl rfl (Nat.le_of_ble_eq_true rfl) ⟨rfl, rfl, (Nat.le_of_ble_eq_true rfl), (Nat.le_of_ble_eq_true rfl)⟩ ⟨(Nat.le_of_ble_eq_true rfl), (Nat.le_of_ble_eq_true rfl)⟩ (fun r9 u9 h9 => ?_)
          obtain ⟨rfl, rfl⟩ := h9
          refine V.if_eqB (b := decide (spt f = spt i)) (tgt := 74) F d_M_isFirstOfConflict_29 (by decide) (fun c29 => ?_) (fun c29 => ?_)
          · skip
            refine V.iincN (k := 1) (lv2 := [(3, .int (nI (i + 1))), (2, .int (bI (u))), (0, .ref (mo 0)), (1, .int (nI (f)))]) F d_M_isFirstOfConflict_74 0 rfl (by decide) (by decide) rfl ?_
            refine V.goto (tgt := 15) F d_M_isFirstOfConflict_77 (by decide) ?_
            exact ih15 (i + 1) (u) (by omega) (by omega) (by rw [hu, anyB, c29]; simp) (fun g hg1 hg2 => by
          by_cases e9 : g = i
          · rw [e9]; rw [c29]; rfl
          · exact he g (by omega) hg2)
          · skip
            refine V.aload_n F d_M_isFirstOfConflict_32 rfl 2 rfl ?_
            refine V.get F ck_M d_M_isFirstOfConflict_33 16 (by decide) lk_M_52 0 rfl rfl ?_
            refine V.iload_n F d_M_isFirstOfConflict_36 rfl 0 rfl ?_
            refine V.zald (v := bI (std (i))) F d_M_isFirstOfConflict_37 14 3 rfl rfl (by omega) (by decide) rfl ?_
            refine V.if_eqB (b := std (i)) (tgt := 74) F d_M_isFirstOfConflict_38 (by decide) (fun c38 => ?_) (fun c38 => ?_)
            · skip
              refine V.iincN (k := 1) (lv2 := [(3, .int (nI (i + 1))), (2, .int (bI (u))), (0, .ref (mo 0)), (1, .int (nI (f)))]) F d_M_isFirstOfConflict_74 0 rfl (by decide) (by decide) rfl ?_
              refine V.goto (tgt := 15) F d_M_isFirstOfConflict_77 (by decide) ?_
              exact ih15 (i + 1) (u) (by omega) (by omega) (by rw [hu, anyB, c38]; simp) (fun g hg1 hg2 => by
          by_cases e9 : g = i
          · rw [e9]; rw [c38, Bool.and_false]
          · exact he g (by omega) hg2)
            · skip
              refine V.iload_n F d_M_isFirstOfConflict_41 rfl 0 rfl ?_
              refine V.iload_n F d_M_isFirstOfConflict_42 rfl 3 rfl ?_
              refine V.icmp_geN (tgt := 48) F d_M_isFirstOfConflict_43 (by decide) (by omega) (by omega) (fun c43 => ?_) (fun c43 => ?_)
              · skip
                refine V.iload_n F d_M_isFirstOfConflict_48 rfl 1 rfl ?_
                refine V.if_neB (b := u) (tgt := 68) F d_M_isFirstOfConflict_49 (by decide) (fun c49 => ?_) (fun c49 => ?_)
                · skip
                  refine V.iconst F d_M_isFirstOfConflict_68 (v := nI (1)) (by decide) ?_
                  refine V.goto (tgt := 73) F d_M_isFirstOfConflict_69 (by decide) ?_
                  refine V.istore_n (lv2 := [(2, .int (nI (1))), (3, .int (nI (i))), (0, .ref (mo 0)), (1, .int (nI (f)))]) F d_M_isFirstOfConflict_73 rfl (by decide) rfl ?_
                  refine V.iincN (k := 1) (lv2 := [(3, .int (nI (i + 1))), (2, .int (nI (1))), (0, .ref (mo 0)), (1, .int (nI (f)))]) F d_M_isFirstOfConflict_74 1 rfl (by decide) (by decide) rfl ?_
                  refine V.goto (tgt := 15) F d_M_isFirstOfConflict_77 (by decide) ?_
                  exact ih15 (i + 1) (true) (by omega) (by omega) (by rw [anyB, ← hu, c49]; rfl) (fun g hg1 hg2 => by
          by_cases e9 : g = i
          · rw [e9]; omega
          · exact he g (by omega) hg2)
                · skip
                  refine V.aload_n F d_M_isFirstOfConflict_52 rfl 2 rfl ?_
                  refine V.get F ck_M d_M_isFirstOfConflict_53 8 (by decide) lk_M_32 0 rfl rfl ?_
                  refine V.iload_n F d_M_isFirstOfConflict_56 rfl 0 rfl ?_
                  refine V.lald (v := val (i)) F d_M_isFirstOfConflict_57 8 1 rfl rfl (by omega) (by decide) rfl ?_
                  refine V.aload_n F d_M_isFirstOfConflict_58 rfl 2 rfl ?_
                  refine V.get F ck_M d_M_isFirstOfConflict_59 8 (by decide) lk_M_32 0 rfl rfl ?_
                  refine V.iload_n F d_M_isFirstOfConflict_62 rfl 3 rfl ?_
                  refine V.lald (v := val (f)) F d_M_isFirstOfConflict_63 8 1 rfl rfl (by omega) (by decide) rfl ?_
                  refine V.lcmp_eq (tgt := 72) F d_M_isFirstOfConflict_64 d_M_isFirstOfConflict_65 (by decide) (fun c64 => ?_) (fun c64 => ?_)
                  · skip
                    refine V.iconst F d_M_isFirstOfConflict_72 (v := nI (0)) (by decide) ?_
                    refine V.istore_n (lv2 := [(2, .int (nI (0))), (3, .int (nI (i))), (0, .ref (mo 0)), (1, .int (nI (f)))]) F d_M_isFirstOfConflict_73 rfl (by decide) rfl ?_
                    refine V.iincN (k := 1) (lv2 := [(3, .int (nI (i + 1))), (2, .int (nI (0))), (0, .ref (mo 0)), (1, .int (nI (f)))]) F d_M_isFirstOfConflict_74 1 rfl (by decide) (by decide) rfl ?_
                    refine V.goto (tgt := 15) F d_M_isFirstOfConflict_77 (by decide) ?_
                    exact ih15 (i + 1) (false) (by omega) (by omega) (by rw [anyB, ← hu, c49, c29, c38, decide_eq_false (fun q => q c64)]; rfl) (fun g hg1 hg2 => by
          by_cases e9 : g = i
          · rw [e9]; omega
          · exact he g (by omega) hg2)
                  · skip
                    refine V.iconst F d_M_isFirstOfConflict_68 (v := nI (1)) (by decide) ?_
                    refine V.goto (tgt := 73) F d_M_isFirstOfConflict_69 (by decide) ?_
                    refine V.istore_n (lv2 := [(2, .int (nI (1))), (3, .int (nI (i))), (0, .ref (mo 0)), (1, .int (nI (f)))]) F d_M_isFirstOfConflict_73 rfl (by decide) rfl ?_
                    refine V.iincN (k := 1) (lv2 := [(3, .int (nI (i + 1))), (2, .int (nI (1))), (0, .ref (mo 0)), (1, .int (nI (f)))]) F d_M_isFirstOfConflict_74 1 rfl (by decide) (by decide) rfl ?_
                    refine V.goto (tgt := 15) F d_M_isFirstOfConflict_77 (by decide) ?_
                    exact ih15 (i + 1) (true) (by omega) (by omega) (by rw [anyB, c29, c38, decide_eq_true c64]; simp) (fun g hg1 hg2 => by
          by_cases e9 : g = i
          · rw [e9]; omega
          · exact he g (by omega) hg2)
              · skip
                refine V.iconst F d_M_isFirstOfConflict_46 (v := nI (0)) (by decide) ?_
                exact V.zret F hr (nar_0) d_M_isFirstOfConflict_47 (⟨by rw [fc_early c43 c29 c38]; exact bI_f, rfl⟩)
    exact L15 _ (0) (false) (Nat.lt_succ_self _) (by omega) (rfl) (fun g hg1 => absurd hg1 (by omega))
  · skip
    refine V.iconst F d_M_isFirstOfConflict_9 (v := nI (0)) (by decide) ?_
    exact V.zret F hr (nar_0) d_M_isFirstOfConflict_10 (⟨by rw [fc_no c6]; exact bI_f, rfl⟩)
end
section
def jn (kn : Nat → Nat → Bool) (d d2 n : Nat) : Nat → Nat → Bool := fun a b => if a = d ∧ b < n then kn d b || kn d2 b else kn a b
theorem jn_0 (kn : Nat → Nat → Bool) (d d2 : Nat) : kn = jn kn d d2 0 := by
  funext a b
  unfold jn
  rw [if_neg (by omega)]
theorem jn_step {kn : Nat → Nat → Bool} {d d2 i : Nat} (hne : d2 ≠ d) : up2 (jn kn d d2 i) d i (jn kn d d2 i d i || jn kn d d2 i d2 i) = jn kn d d2 (i + 1) := by
  funext a b
  unfold up2 jn
  rw [if_neg (show ¬ (d = d ∧ i < i) by omega), if_neg (show ¬ (d2 = d ∧ i < i) by omega)]
  by_cases h : a = d ∧ b = i
  · rw [if_pos h, if_pos ⟨h.1, by omega⟩, h.2]
  · rw [if_neg h]
    by_cases h2 : a = d ∧ b < i
    · rw [if_pos h2, if_pos ⟨h2.1, by omega⟩]
    · rw [if_neg h2, if_neg (by omega)]
def en (kn : Nat → Nat → Bool) (bof : Nat → Option Nat) (d n b0 : Nat) : Nat → Nat → Bool := fun a b => if a = d ∧ b < n then kn d b || decide (bof b = some b0) else kn a b
theorem en_0 (kn : Nat → Nat → Bool) (bof : Nat → Option Nat) (d b0 : Nat) : kn = en kn bof d 0 b0 := by
  funext a b
  unfold en
  rw [if_neg (by omega)]
theorem en_step {kn : Nat → Nat → Bool} {bof : Nat → Option Nat} {d i b0 : Nat} {x : Bool} (hx : x = decide (bof i = some b0)) : up2 (en kn bof d i b0) d i (en kn bof d i b0 d i || x) = en kn bof d (i + 1) b0 := by
  funext a b
  unfold up2 en
  rw [if_neg (show ¬ (d = d ∧ i < i) by omega), hx]
  by_cases h : a = d ∧ b = i
  · rw [if_pos h, if_pos ⟨h.1, by omega⟩, h.2]
  · rw [if_neg h]
    by_cases h2 : a = d ∧ b < i
    · rw [if_pos h2, if_pos ⟨h2.1, by omega⟩]
    · rw [if_neg h2, if_neg (by omega)]
theorem oI_eq {o : Option Nat} {b : Nat} (ho : ∀ g, o = some g → g < 2 ^ 31) (hb : b < 2 ^ 31) : oI o = nI b ↔ o = some b := by
  cases o with
  | none => exact ⟨fun q => absurd q.symm (nI_nm1 hb), fun q => by cases q⟩
  | some g => exact ⟨fun q => by rw [(nI_eq (ho g rfl) hb).mp q], fun q => by cases q; rfl⟩
theorem bI_inj {a b : Bool} (h : bI a = bI b) : a = b := by
  cases a <;> cases b <;> first | rfl | exact absurd h (by decide)
theorem sm_e {S T : Nat → Bool} {i n : Nat} (h : sameB S T i = false) (hi : i ≤ n) : sameB S T n = false := by
  cases e : sameB S T n with
  | false => rfl
  | true =>
    have := (sameB_iff S T i).mpr (fun k hk => (sameB_iff S T n).mp e k (by omega))
    rw [h] at this
    cases this
set_option maxHeartbeats 4000000 in
set_option maxRecDepth 100000 in
theorem m_conflicts (l : Launch) (D : va_G) {ct : Nat → ClassId} {mo : Nat → Nat} {nd : Nat} {nb : Nat} {nf : Nat} {bdk : Nat → Nat} {num : Nat → Nat} {thg : Nat → Nat} {knd : Nat → Nat} {dy : Nat → Nat} {val : Nat → Int64} {tim : Nat → Nat} {rep : Nat → Nat → Bool} {kn : Nat → Nat → Bool} {clk : Nat → Nat} {tol : Nat → Nat} {opn : Nat → Option Nat} {bof : Nat → Option Nat} {std : Nat → Bool} {xd : Int64} (hnf : nf ≤ 300) (hnd : nd ≤ 8) (d : Nat) (hd0 : d < nd) (spt : Nat → Nat) (hsp : SpR spt thg knd dy nf) : CI l y_M_conflicts b_M_conflicts 4 (some .int) (rmK 2 0 0) D (tyL ct) (MW ct mo nd nb nf bdk num thg knd dy val tim rep kn clk tol opn bof std xd) [.ref (mo 0), .int (nI (d))] 0 0 (fun r u => ∃ P : Nat → Bool, (∀ f, f < nf → P f = lkB (kn d) rep f nf) ∧ r = nI (cnt (fun f => fcB spt val P nf f) nf) ∧ u = MW ct mo nd nb nf bdk num thg knd dy val tim rep kn clk tol opn bof P xd) := by
  refine CI.start (by decide) (Nat.le_of_ble_eq_true rfl) ?_
  intro p e s m below meth c F hr hnm
  show V p l e (rmK 2 0 0) s m [.ref (mo 0), .int (nI (d))].toArray below meth c D (va_A (MW ct mo nd nb nf bdk num thg knd dy val tim rep kn clk tol opn bof std xd) s.heap.size) 4 0 0 (EI D below (MW ct mo nd nb nf bdk num thg knd dy val tim rep kn clk tol opn bof std xd) [.ref (mo 0), .int (nI (d))].toArray s 0 0 (fun r u => ∃ P : Nat → Bool, (∀ f, f < nf → P f = lkB (kn d) rep f nf) ∧ r = nI (cnt (fun f => fcB spt val P nf f) nf) ∧ u = MW ct mo nd nb nf bdk num thg knd dy val tim rep kn clk tol opn bof P xd)) (MW ct mo nd nb nf bdk num thg knd dy val tim rep kn clk tol opn bof std xd) [(0, .ref (mo 0)), (1, .int (nI (d)))] 0 []
  refine V.aload_n F d_M_conflicts_0 rfl 0 rfl ?_
  refine V.iload_n F d_M_conflicts_1 rfl 1 rfl ?_
  refine V.callVV0 (As := [.int (nI (d))]) (rest := []) F (m_look l D hnf hnd d hd0) d_M_conflicts_2 sv_M_80 im_y_M_look sl_y_M_look 0 rfl rfl rfl rfl rfl (Nat.le_of_ble_eq_true rfl) ⟨rfl, rfl, (Nat.le_of_ble_eq_true rfl), (Nat.le_of_ble_eq_true rfl)⟩ ⟨(Nat.le_of_ble_eq_true rfl), (Nat.le_of_ble_eq_true rfl)⟩ (fun u9 h9 => ?_)
  obtain ⟨P, hP, rfl⟩ := h9
  refine V.iconst F d_M_conflicts_5 (v := nI (0)) (by decide) ?_
  refine V.istore_n (lv2 := [(2, .int (nI (0))), (0, .ref (mo 0)), (1, .int (nI (d)))]) F d_M_conflicts_6 rfl (by decide) rfl ?_
  refine V.iconst F d_M_conflicts_7 (v := nI (0)) (by decide) ?_
  refine V.istore_n (lv2 := [(3, .int (nI (0))), (2, .int (nI (0))), (0, .ref (mo 0)), (1, .int (nI (d)))]) F d_M_conflicts_8 rfl (by decide) rfl ?_
  have L9 : ∀ (n9 : Nat) (i : Nat) (z : Nat), nf - i < n9 → (i ≤ nf) → (z = cnt (fun f => fcB spt val P nf f) i) → V p l e (rmK 2 0 0) s m [.ref (mo 0), .int (nI (d))].toArray below meth c D (va_A (MW ct mo nd nb nf bdk num thg knd dy val tim rep kn clk tol opn bof std xd) s.heap.size) 4 0 0 (EI D below (MW ct mo nd nb nf bdk num thg knd dy val tim rep kn clk tol opn bof std xd) [.ref (mo 0), .int (nI (d))].toArray s 0 0 (fun r u => ∃ P : Nat → Bool, (∀ f, f < nf → P f = lkB (kn d) rep f nf) ∧ r = nI (cnt (fun f => fcB spt val P nf f) nf) ∧ u = MW ct mo nd nb nf bdk num thg knd dy val tim rep kn clk tol opn bof P xd)) (MW ct mo nd nb nf bdk num thg knd dy val tim rep kn clk tol opn bof P xd) [(3, .int (nI (i))), (2, .int (nI (z))), (0, .ref (mo 0)), (1, .int (nI (d)))] 9 [] := by
    intro n9
    induction n9 with
    | zero => intro i z h9 hi hz; exact absurd h9 (Nat.not_lt_zero _)
    | succ n9 ih9 =>
      intro i z h9 hi hz
      refine V.iload_n F d_M_conflicts_9 rfl 0 rfl ?_
      refine V.aload_n F d_M_conflicts_10 rfl 2 rfl ?_
      refine V.get F ck_M d_M_conflicts_11 13 (by decide) lk_M_59 0 rfl rfl ?_
      refine V.icmp_geN (tgt := 39) F d_M_conflicts_14 (by decide) (by omega) (by omega) (fun c14 => ?_) (fun c14 => ?_)
      · skip
        refine V.iload_n F d_M_conflicts_39 rfl 1 rfl ?_
        exact V.iret F hr d_M_conflicts_40 (⟨P, hP, by rw [hz, show i = nf by omega], rfl⟩)
      · skip
        refine V.iload_n F d_M_conflicts_17 rfl 1 rfl ?_
        refine V.aload_n F d_M_conflicts_18 rfl 2 rfl ?_
        refine V.iload_n F d_M_conflicts_19 rfl 0 rfl ?_
        refine V.callVI0 (As := [.int (nI (i))]) (rest := [.int (nI (z))]) F (m_isFC l D hnf spt hsp i (by omega)) d_M_conflicts_20 sv_M_88 im_y_M_isFirstOfConflict sl_y_M_isFirstOfConflict 0 rfl rfl rfl rfl rfl (Nat.le_of_ble_eq_true rfl) ⟨rfl, rfl, (Nat.le_of_ble_eq_true rfl), (Nat.le_of_ble_eq_true rfl)⟩ ⟨(Nat.le_of_ble_eq_true rfl), (Nat.le_of_ble_eq_true rfl)⟩ (fun r9 u9 h9 => ?_)
        obtain ⟨rfl, rfl⟩ := h9
        refine V.if_eqB (b := fcB spt val P nf i) (tgt := 30) F d_M_conflicts_23 (by decide) (fun c23 => ?_) (fun c23 => ?_)
        · skip
          refine V.iconst F d_M_conflicts_30 (v := nI (0)) (by decide) ?_
          refine V.iaddN F d_M_conflicts_31 ?_
          refine V.istore_n (lv2 := [(2, .int (nI ((z) + (0)))), (3, .int (nI (i))), (0, .ref (mo 0)), (1, .int (nI (d)))]) F d_M_conflicts_32 rfl (by decide) rfl ?_
          refine V.iincN (k := 1) (lv2 := [(3, .int (nI (i + 1))), (2, .int (nI ((z) + (0)))), (0, .ref (mo 0)), (1, .int (nI (d)))]) F d_M_conflicts_33 1 rfl (by decide) (by decide) rfl ?_
          refine V.goto (tgt := 9) F d_M_conflicts_36 (by decide) ?_
          exact ih9 (i + 1) (z) (by omega) (by omega) (by rw [hz, cnt, if_neg (by rw [c23]; decide)]; rfl)
        · skip
          refine V.iconst F d_M_conflicts_26 (v := nI (1)) (by decide) ?_
          refine V.goto (tgt := 31) F d_M_conflicts_27 (by decide) ?_
          refine V.iaddN F d_M_conflicts_31 ?_
          refine V.istore_n (lv2 := [(2, .int (nI ((z) + (1)))), (3, .int (nI (i))), (0, .ref (mo 0)), (1, .int (nI (d)))]) F d_M_conflicts_32 rfl (by decide) rfl ?_
          refine V.iincN (k := 1) (lv2 := [(3, .int (nI (i + 1))), (2, .int (nI ((z) + (1)))), (0, .ref (mo 0)), (1, .int (nI (d)))]) F d_M_conflicts_33 1 rfl (by decide) (by decide) rfl ?_
          refine V.goto (tgt := 9) F d_M_conflicts_36 (by decide) ?_
          exact ih9 (i + 1) (z + 1) (by omega) (by omega) (by rw [hz, cnt, if_pos c23])
  exact L9 _ (0) (0) (Nat.lt_succ_self _) (by omega) (rfl)

set_option maxHeartbeats 4000000 in
set_option maxRecDepth 100000 in
theorem m_isBefore (l : Launch) (D : va_G) {ct : Nat → ClassId} {mo : Nat → Nat} {nd : Nat} {nb : Nat} {nf : Nat} {bdk : Nat → Nat} {num : Nat → Nat} {thg : Nat → Nat} {knd : Nat → Nat} {dy : Nat → Nat} {val : Nat → Int64} {tim : Nat → Nat} {rep : Nat → Nat → Bool} {kn : Nat → Nat → Bool} {clk : Nat → Nat} {tol : Nat → Nat} {opn : Nat → Option Nat} {bof : Nat → Option Nat} {std : Nat → Bool} {xd : Int64} (hnf : nf ≤ 300) (spt : Nat → Nat) (hsp : SpR spt thg knd dy nf) (f g : Nat) (hf : f < nf) (hg : g < nf) : CI l y_M_isBefore b_M_isBefore 3 (some .boolean) (rmK 0 0 0) D (tyL ct) (MW ct mo nd nb nf bdk num thg knd dy val tim rep kn clk tol opn bof std xd) [.ref (mo 0), .int (nI (f)), .int (nI (g))] 0 0 (fun r u => r = bI (decide (spt f < spt g)) ∧ u = MW ct mo nd nb nf bdk num thg knd dy val tim rep kn clk tol opn bof std xd) := by
  refine CI.start (by decide) (Nat.le_of_ble_eq_true rfl) ?_
  intro p e s m below meth c F hr hnm
  show V p l e (rmK 0 0 0) s m [.ref (mo 0), .int (nI (f)), .int (nI (g))].toArray below meth c D (va_A (MW ct mo nd nb nf bdk num thg knd dy val tim rep kn clk tol opn bof std xd) s.heap.size) 3 0 0 (EI D below (MW ct mo nd nb nf bdk num thg knd dy val tim rep kn clk tol opn bof std xd) [.ref (mo 0), .int (nI (f)), .int (nI (g))].toArray s 0 0 (fun r u => r = bI (decide (spt f < spt g)) ∧ u = MW ct mo nd nb nf bdk num thg knd dy val tim rep kn clk tol opn bof std xd)) (MW ct mo nd nb nf bdk num thg knd dy val tim rep kn clk tol opn bof std xd) [(0, .ref (mo 0)), (1, .int (nI (f))), (2, .int (nI (g)))] 0 []
  obtain ⟨f1, f2, f3, f4⟩ := hsp f hf
  obtain ⟨g1, g2, g3, g4⟩ := hsp g hg
  refine V.aload_n F d_M_isBefore_0 rfl 0 rfl ?_
  refine V.get F ck_M d_M_isBefore_1 5 (by decide) lk_M_23 0 rfl rfl ?_
  refine V.iload_n F d_M_isBefore_4 rfl 1 rfl ?_
  refine V.iald (v := nI (thg (f))) F d_M_isBefore_5 5 0 rfl rfl (by omega) (by decide) rfl ?_
  refine V.aload_n F d_M_isBefore_6 rfl 0 rfl ?_
  refine V.get F ck_M d_M_isBefore_7 5 (by decide) lk_M_23 0 rfl rfl ?_
  refine V.iload_n F d_M_isBefore_10 rfl 2 rfl ?_
  refine V.iald (v := nI (thg (g))) F d_M_isBefore_11 5 0 rfl rfl (by omega) (by decide) rfl ?_
  refine V.icmp_eqN (tgt := 38) F d_M_isBefore_12 (by decide) (by omega) (by omega) (fun c12 => ?_) (fun c12 => ?_)
  · skip
    refine V.aload_n F d_M_isBefore_38 rfl 0 rfl ?_
    refine V.get F ck_M d_M_isBefore_39 6 (by decide) lk_M_26 0 rfl rfl ?_
    refine V.iload_n F d_M_isBefore_42 rfl 1 rfl ?_
    refine V.iald (v := nI (knd (f))) F d_M_isBefore_43 6 0 rfl rfl (by omega) (by decide) rfl ?_
    refine V.aload_n F d_M_isBefore_44 rfl 0 rfl ?_
    refine V.get F ck_M d_M_isBefore_45 6 (by decide) lk_M_26 0 rfl rfl ?_
    refine V.iload_n F d_M_isBefore_48 rfl 2 rfl ?_
    refine V.iald (v := nI (knd (g))) F d_M_isBefore_49 6 0 rfl rfl (by omega) (by decide) rfl ?_
    refine V.icmp_eqN (tgt := 76) F d_M_isBefore_50 (by decide) (by omega) (by omega) (fun c50 => ?_) (fun c50 => ?_)
    · skip
      refine V.aload_n F d_M_isBefore_76 rfl 0 rfl ?_
      refine V.get F ck_M d_M_isBefore_77 7 (by decide) lk_M_29 0 rfl rfl ?_
      refine V.iload_n F d_M_isBefore_80 rfl 1 rfl ?_
      refine V.lald (v := lN (dy (f))) F d_M_isBefore_81 7 1 rfl rfl (by omega) (by decide) rfl ?_
      refine V.aload_n F d_M_isBefore_82 rfl 0 rfl ?_
      refine V.get F ck_M d_M_isBefore_83 7 (by decide) lk_M_29 0 rfl rfl ?_
      refine V.iload_n F d_M_isBefore_86 rfl 2 rfl ?_
      refine V.lald (v := lN (dy (g))) F d_M_isBefore_87 7 1 rfl rfl (by omega) (by decide) rfl ?_
      refine V.lcmp_ge (tgt := 96) F d_M_isBefore_88 d_M_isBefore_89 (by decide) (fun c88 => ?_) (fun c88 => ?_)
      · skip
        have c9 := (lN_le (by omega) (by omega)).mp c88
        refine V.iconst F d_M_isBefore_96 (v := nI (0)) (by decide) ?_
        exact V.zret F hr (nar_0) d_M_isBefore_97 (⟨by rw [decide_eq_false (by omega)]; exact bI_f, rfl⟩)
      · skip
        have c9 : dy f < dy g := Nat.lt_of_not_le (fun q => c88 ((lN_le (by omega) (by omega)).mpr q))
        refine V.iconst F d_M_isBefore_92 (v := nI (1)) (by decide) ?_
        refine V.goto (tgt := 97) F d_M_isBefore_93 (by decide) ?_
        exact V.zret F hr (nar_1) d_M_isBefore_97 (⟨by rw [decide_eq_true (by omega)]; exact bI_t, rfl⟩)
    · skip
      refine V.aload_n F d_M_isBefore_53 rfl 0 rfl ?_
      refine V.get F ck_M d_M_isBefore_54 6 (by decide) lk_M_26 0 rfl rfl ?_
      refine V.iload_n F d_M_isBefore_57 rfl 1 rfl ?_
      refine V.iald (v := nI (knd (f))) F d_M_isBefore_58 6 0 rfl rfl (by omega) (by decide) rfl ?_
      refine V.aload_n F d_M_isBefore_59 rfl 0 rfl ?_
      refine V.get F ck_M d_M_isBefore_60 6 (by decide) lk_M_26 0 rfl rfl ?_
      refine V.iload_n F d_M_isBefore_63 rfl 2 rfl ?_
      refine V.iald (v := nI (knd (g))) F d_M_isBefore_64 6 0 rfl rfl (by omega) (by decide) rfl ?_
      refine V.icmp_geN (tgt := 72) F d_M_isBefore_65 (by decide) (by omega) (by omega) (fun c65 => ?_) (fun c65 => ?_)
      · skip
        refine V.iconst F d_M_isBefore_72 (v := nI (0)) (by decide) ?_
        refine V.goto (tgt := 97) F d_M_isBefore_73 (by decide) ?_
        exact V.zret F hr (nar_0) d_M_isBefore_97 (⟨by rw [decide_eq_false (by omega)]; exact bI_f, rfl⟩)
      · skip
        refine V.iconst F d_M_isBefore_68 (v := nI (1)) (by decide) ?_
        refine V.goto (tgt := 97) F d_M_isBefore_69 (by decide) ?_
        exact V.zret F hr (nar_1) d_M_isBefore_97 (⟨by rw [decide_eq_true (by omega)]; exact bI_t, rfl⟩)
  · skip
    refine V.aload_n F d_M_isBefore_15 rfl 0 rfl ?_
    refine V.get F ck_M d_M_isBefore_16 5 (by decide) lk_M_23 0 rfl rfl ?_
    refine V.iload_n F d_M_isBefore_19 rfl 1 rfl ?_
    refine V.iald (v := nI (thg (f))) F d_M_isBefore_20 5 0 rfl rfl (by omega) (by decide) rfl ?_
    refine V.aload_n F d_M_isBefore_21 rfl 0 rfl ?_
    refine V.get F ck_M d_M_isBefore_22 5 (by decide) lk_M_23 0 rfl rfl ?_
    refine V.iload_n F d_M_isBefore_25 rfl 2 rfl ?_
    refine V.iald (v := nI (thg (g))) F d_M_isBefore_26 5 0 rfl rfl (by omega) (by decide) rfl ?_
    refine V.icmp_geN (tgt := 34) F d_M_isBefore_27 (by decide) (by omega) (by omega) (fun c27 => ?_) (fun c27 => ?_)
    · skip
      refine V.iconst F d_M_isBefore_34 (v := nI (0)) (by decide) ?_
      refine V.goto (tgt := 97) F d_M_isBefore_35 (by decide) ?_
      exact V.zret F hr (nar_0) d_M_isBefore_97 (⟨by rw [decide_eq_false (by omega)]; exact bI_f, rfl⟩)
    · skip
      refine V.iconst F d_M_isBefore_30 (v := nI (1)) (by decide) ?_
      refine V.goto (tgt := 97) F d_M_isBefore_31 (by decide) ?_
      exact V.zret F hr (nar_1) d_M_isBefore_97 (⟨by rw [decide_eq_true (by omega)]; exact bI_t, rfl⟩)

set_option maxHeartbeats 4000000 in
set_option maxRecDepth 100000 in
theorem m_joinNo1 (l : Launch) (D : va_G) {ct : Nat → ClassId} {mo : Nat → Nat} {nd : Nat} {nb : Nat} {nf : Nat} {bdk : Nat → Nat} {num : Nat → Nat} {thg : Nat → Nat} {knd : Nat → Nat} {dy : Nat → Nat} {val : Nat → Int64} {tim : Nat → Nat} {rep : Nat → Nat → Bool} {kn : Nat → Nat → Bool} {clk : Nat → Nat} {tol : Nat → Nat} {opn : Nat → Option Nat} {bof : Nat → Option Nat} {std : Nat → Bool} {xd : Int64} (x y : Int32) (hx : x < 0 ∨ nI nd ≤ x) : CI l y_M_join b_M_join 4 (some .int) (rmK 1 0 0) D (tyL ct) (MW ct mo nd nb nf bdk num thg knd dy val tim rep kn clk tol opn bof std xd) [.ref (mo 0), .int (x), .int (y)] 0 0 (fun r u => r = -1 ∧ u = MW ct mo nd nb nf bdk num thg knd dy val tim rep kn clk tol opn bof std xd) := by
  refine CI.start (by decide) (Nat.le_of_ble_eq_true rfl) ?_
  intro p e s m below meth c F hr hnm
  show V p l e (rmK 1 0 0) s m [.ref (mo 0), .int (x), .int (y)].toArray below meth c D (va_A (MW ct mo nd nb nf bdk num thg knd dy val tim rep kn clk tol opn bof std xd) s.heap.size) 4 0 0 (EI D below (MW ct mo nd nb nf bdk num thg knd dy val tim rep kn clk tol opn bof std xd) [.ref (mo 0), .int (x), .int (y)].toArray s 0 0 (fun r u => r = -1 ∧ u = MW ct mo nd nb nf bdk num thg knd dy val tim rep kn clk tol opn bof std xd)) (MW ct mo nd nb nf bdk num thg knd dy val tim rep kn clk tol opn bof std xd) [(0, .ref (mo 0)), (1, .int (x)), (2, .int (y))] 0 []
  refine V.aload_n F d_M_join_0 rfl 0 rfl ?_
  refine V.iload_n F d_M_join_1 rfl 1 rfl ?_
  refine V.callVI0 (As := [.int (x)]) (rest := []) F (m_isDeskNo l D x hx) d_M_join_2 sv_M_62 im_y_M_isDesk sl_y_M_isDesk 0 rfl rfl rfl rfl rfl (Nat.le_of_ble_eq_true rfl) ⟨rfl, rfl, (Nat.le_of_ble_eq_true rfl), (Nat.le_of_ble_eq_true rfl)⟩ ⟨(Nat.le_of_ble_eq_true rfl), (Nat.le_of_ble_eq_true rfl)⟩ (fun r9 u9 h9 => ?_)
  obtain ⟨rfl, rfl⟩ := h9
  refine V.if_eqB (b := false) (tgt := 21) F d_M_join_5 (by decide) (fun c5 => ?_) (fun c5 => ?_)
  · skip
    refine V.iconst F d_M_join_21 (v := -1) (by decide) ?_
    exact V.iret F hr d_M_join_22 (⟨rfl, rfl⟩)
  · skip
    exact absurd c5 (by decide)

set_option maxHeartbeats 4000000 in
set_option maxRecDepth 100000 in
theorem m_joinNo2 (l : Launch) (D : va_G) {ct : Nat → ClassId} {mo : Nat → Nat} {nd : Nat} {nb : Nat} {nf : Nat} {bdk : Nat → Nat} {num : Nat → Nat} {thg : Nat → Nat} {knd : Nat → Nat} {dy : Nat → Nat} {val : Nat → Int64} {tim : Nat → Nat} {rep : Nat → Nat → Bool} {kn : Nat → Nat → Bool} {clk : Nat → Nat} {tol : Nat → Nat} {opn : Nat → Option Nat} {bof : Nat → Option Nat} {std : Nat → Bool} {xd : Int64} (hnd : nd ≤ 8) (d : Nat) (hd0 : d < nd) (x : Int32) (hx : x < 0 ∨ nI nd ≤ x) : CI l y_M_join b_M_join 4 (some .int) (rmK 1 0 0) D (tyL ct) (MW ct mo nd nb nf bdk num thg knd dy val tim rep kn clk tol opn bof std xd) [.ref (mo 0), .int (nI (d)), .int (x)] 0 0 (fun r u => r = -1 ∧ u = MW ct mo nd nb nf bdk num thg knd dy val tim rep kn clk tol opn bof std xd) := by
  refine CI.start (by decide) (Nat.le_of_ble_eq_true rfl) ?_
  intro p e s m below meth c F hr hnm
  show V p l e (rmK 1 0 0) s m [.ref (mo 0), .int (nI (d)), .int (x)].toArray below meth c D (va_A (MW ct mo nd nb nf bdk num thg knd dy val tim rep kn clk tol opn bof std xd) s.heap.size) 4 0 0 (EI D below (MW ct mo nd nb nf bdk num thg knd dy val tim rep kn clk tol opn bof std xd) [.ref (mo 0), .int (nI (d)), .int (x)].toArray s 0 0 (fun r u => r = -1 ∧ u = MW ct mo nd nb nf bdk num thg knd dy val tim rep kn clk tol opn bof std xd)) (MW ct mo nd nb nf bdk num thg knd dy val tim rep kn clk tol opn bof std xd) [(0, .ref (mo 0)), (1, .int (nI (d))), (2, .int (x))] 0 []
  refine V.aload_n F d_M_join_0 rfl 0 rfl ?_
  refine V.iload_n F d_M_join_1 rfl 1 rfl ?_
  refine V.callVI0 (As := [.int (nI (d))]) (rest := []) F (m_isDesk l D hnd d hd0) d_M_join_2 sv_M_62 im_y_M_isDesk sl_y_M_isDesk 0 rfl rfl rfl rfl rfl (Nat.le_of_ble_eq_true rfl) ⟨rfl, rfl, (Nat.le_of_ble_eq_true rfl), (Nat.le_of_ble_eq_true rfl)⟩ ⟨(Nat.le_of_ble_eq_true rfl), (Nat.le_of_ble_eq_true rfl)⟩ (fun r9 u9 h9 => ?_)
  obtain ⟨rfl, rfl⟩ := h9
  refine V.if_eqB (b := true) (tgt := 21) F d_M_join_5 (by decide) (fun c5 => ?_) (fun c5 => ?_)
  · skip
    exact absurd c5 (by decide)
  · skip
    refine V.aload_n F d_M_join_8 rfl 0 rfl ?_
    refine V.iload_n F d_M_join_9 rfl 2 rfl ?_
    refine V.callVI0 (As := [.int (x)]) (rest := []) F (m_isDeskNo l D x hx) d_M_join_10 sv_M_62 im_y_M_isDesk sl_y_M_isDesk 0 rfl rfl rfl rfl rfl (Nat.le_of_ble_eq_true rfl) ⟨rfl, rfl, (Nat.le_of_ble_eq_true rfl), (Nat.le_of_ble_eq_true rfl)⟩ ⟨(Nat.le_of_ble_eq_true rfl), (Nat.le_of_ble_eq_true rfl)⟩ (fun r9 u9 h9 => ?_)
    obtain ⟨rfl, rfl⟩ := h9
    refine V.if_eqB (b := false) (tgt := 21) F d_M_join_13 (by decide) (fun c13 => ?_) (fun c13 => ?_)
    · skip
      refine V.iconst F d_M_join_21 (v := -1) (by decide) ?_
      exact V.iret F hr d_M_join_22 (⟨rfl, rfl⟩)
    · skip
      exact absurd c13 (by decide)

set_option maxHeartbeats 4000000 in
set_option maxRecDepth 100000 in
theorem m_joinSame (l : Launch) (D : va_G) {ct : Nat → ClassId} {mo : Nat → Nat} {nd : Nat} {nb : Nat} {nf : Nat} {bdk : Nat → Nat} {num : Nat → Nat} {thg : Nat → Nat} {knd : Nat → Nat} {dy : Nat → Nat} {val : Nat → Int64} {tim : Nat → Nat} {rep : Nat → Nat → Bool} {kn : Nat → Nat → Bool} {clk : Nat → Nat} {tol : Nat → Nat} {opn : Nat → Option Nat} {bof : Nat → Option Nat} {std : Nat → Bool} {xd : Int64} (hnd : nd ≤ 8) (d : Nat) (hd0 : d < nd) : CI l y_M_join b_M_join 4 (some .int) (rmK 1 0 0) D (tyL ct) (MW ct mo nd nb nf bdk num thg knd dy val tim rep kn clk tol opn bof std xd) [.ref (mo 0), .int (nI (d)), .int (nI (d))] 0 0 (fun r u => r = -1 ∧ u = MW ct mo nd nb nf bdk num thg knd dy val tim rep kn clk tol opn bof std xd) := by
  refine CI.start (by decide) (Nat.le_of_ble_eq_true rfl) ?_
  intro p e s m below meth c F hr hnm
  show V p l e (rmK 1 0 0) s m [.ref (mo 0), .int (nI (d)), .int (nI (d))].toArray below meth c D (va_A (MW ct mo nd nb nf bdk num thg knd dy val tim rep kn clk tol opn bof std xd) s.heap.size) 4 0 0 (EI D below (MW ct mo nd nb nf bdk num thg knd dy val tim rep kn clk tol opn bof std xd) [.ref (mo 0), .int (nI (d)), .int (nI (d))].toArray s 0 0 (fun r u => r = -1 ∧ u = MW ct mo nd nb nf bdk num thg knd dy val tim rep kn clk tol opn bof std xd)) (MW ct mo nd nb nf bdk num thg knd dy val tim rep kn clk tol opn bof std xd) [(0, .ref (mo 0)), (1, .int (nI (d))), (2, .int (nI (d)))] 0 []
  refine V.aload_n F d_M_join_0 rfl 0 rfl ?_
  refine V.iload_n F d_M_join_1 rfl 1 rfl ?_
  refine V.callVI0 (As := [.int (nI (d))]) (rest := []) F (m_isDesk l D hnd d hd0) d_M_join_2 sv_M_62 im_y_M_isDesk sl_y_M_isDesk 0 rfl rfl rfl rfl rfl (Nat.le_of_ble_eq_true rfl) ⟨rfl, rfl, (Nat.le_of_ble_eq_true rfl), (Nat.le_of_ble_eq_true rfl)⟩ ⟨(Nat.le_of_ble_eq_true rfl), (Nat.le_of_ble_eq_true rfl)⟩ (fun r9 u9 h9 => ?_)
  obtain ⟨rfl, rfl⟩ := h9
  refine V.if_eqB (b := true) (tgt := 21) F d_M_join_5 (by decide) (fun c5 => ?_) (fun c5 => ?_)
  · skip
    exact absurd c5 (by decide)
  · skip
    refine V.aload_n F d_M_join_8 rfl 0 rfl ?_
    refine V.iload_n F d_M_join_9 rfl 2 rfl ?_
    refine V.callVI0 (As := [.int (nI (d))]) (rest := []) F (m_isDesk l D hnd d hd0) d_M_join_10 sv_M_62 im_y_M_isDesk sl_y_M_isDesk 0 rfl rfl rfl rfl rfl (Nat.le_of_ble_eq_true rfl) ⟨rfl, rfl, (Nat.le_of_ble_eq_true rfl), (Nat.le_of_ble_eq_true rfl)⟩ ⟨(Nat.le_of_ble_eq_true rfl), (Nat.le_of_ble_eq_true rfl)⟩ (fun r9 u9 h9 => ?_)
    obtain ⟨rfl, rfl⟩ := h9
    refine V.if_eqB (b := true) (tgt := 21) F d_M_join_13 (by decide) (fun c13 => ?_) (fun c13 => ?_)
    · skip
      exact absurd c13 (by decide)
    · skip
      refine V.iload_n F d_M_join_16 rfl 1 rfl ?_
      refine V.iload_n F d_M_join_17 rfl 2 rfl ?_
      refine V.icmp_neN (tgt := 23) F d_M_join_18 (by decide) (by omega) (by omega) (fun c18 => ?_) (fun c18 => ?_)
      · skip
        exact absurd rfl c18
      · skip
        refine V.iconst F d_M_join_21 (v := -1) (by decide) ?_
        exact V.iret F hr d_M_join_22 (⟨rfl, rfl⟩)

set_option maxHeartbeats 4000000 in
set_option maxRecDepth 100000 in
theorem m_join (l : Launch) (D : va_G) {ct : Nat → ClassId} {mo : Nat → Nat} {nd : Nat} {nb : Nat} {nf : Nat} {bdk : Nat → Nat} {num : Nat → Nat} {thg : Nat → Nat} {knd : Nat → Nat} {dy : Nat → Nat} {val : Nat → Int64} {tim : Nat → Nat} {rep : Nat → Nat → Bool} {kn : Nat → Nat → Bool} {clk : Nat → Nat} {tol : Nat → Nat} {opn : Nat → Option Nat} {bof : Nat → Option Nat} {std : Nat → Bool} {xd : Int64} (hnf : nf ≤ 300) (hnd : nd ≤ 8) (d : Nat) (hd0 : d < nd) (spt : Nat → Nat) (hsp : SpR spt thg knd dy nf) (d2 : Nat) (hd2 : d2 < nd) (hne : d2 ≠ d) (hc1 : clk d < 2 ^ 31) (hc2 : clk d2 < 2 ^ 31) : CI l y_M_join b_M_join 4 (some .int) (rmK 3 0 0) D (tyL ct) (MW ct mo nd nb nf bdk num thg knd dy val tim rep kn clk tol opn bof std xd) [.ref (mo 0), .int (nI (d)), .int (nI (d2))] 0 0 (fun r u => ∃ P : Nat → Bool, (∀ f, f < nf → P f = lkB (jn kn d d2 nf d) rep f nf) ∧ r = nI (cnt (fun f => fcB spt val P nf f) nf) ∧ u = MW ct mo nd nb nf bdk num thg knd dy val tim rep (jn kn d d2 nf) (va_up clk d (max (clk d) (clk d2))) tol opn bof P xd) := by
  refine CI.start (by decide) (Nat.le_of_ble_eq_true rfl) ?_
  intro p e s m below meth c F hr hnm
  show V p l e (rmK 3 0 0) s m [.ref (mo 0), .int (nI (d)), .int (nI (d2))].toArray below meth c D (va_A (MW ct mo nd nb nf bdk num thg knd dy val tim rep kn clk tol opn bof std xd) s.heap.size) 4 0 0 (EI D below (MW ct mo nd nb nf bdk num thg knd dy val tim rep kn clk tol opn bof std xd) [.ref (mo 0), .int (nI (d)), .int (nI (d2))].toArray s 0 0 (fun r u => ∃ P : Nat → Bool, (∀ f, f < nf → P f = lkB (jn kn d d2 nf d) rep f nf) ∧ r = nI (cnt (fun f => fcB spt val P nf f) nf) ∧ u = MW ct mo nd nb nf bdk num thg knd dy val tim rep (jn kn d d2 nf) (va_up clk d (max (clk d) (clk d2))) tol opn bof P xd)) (MW ct mo nd nb nf bdk num thg knd dy val tim rep kn clk tol opn bof std xd) [(0, .ref (mo 0)), (1, .int (nI (d))), (2, .int (nI (d2)))] 0 []
  refine V.aload_n F d_M_join_0 rfl 0 rfl ?_
  refine V.iload_n F d_M_join_1 rfl 1 rfl ?_
  refine V.callVI0 (As := [.int (nI (d))]) (rest := []) F (m_isDesk l D hnd d hd0) d_M_join_2 sv_M_62 im_y_M_isDesk sl_y_M_isDesk 0 rfl rfl rfl rfl rfl (Nat.le_of_ble_eq_true rfl) ⟨rfl, rfl, (Nat.le_of_ble_eq_true rfl), (Nat.le_of_ble_eq_true rfl)⟩ ⟨(Nat.le_of_ble_eq_true rfl), (Nat.le_of_ble_eq_true rfl)⟩ (fun r9 u9 h9 => ?_)
  obtain ⟨rfl, rfl⟩ := h9
  refine V.if_eqB (b := true) (tgt := 21) F d_M_join_5 (by decide) (fun c5 => ?_) (fun c5 => ?_)
  · skip
    exact absurd c5 (by decide)
  · skip
    refine V.aload_n F d_M_join_8 rfl 0 rfl ?_
    refine V.iload_n F d_M_join_9 rfl 2 rfl ?_
    refine V.callVI0 (As := [.int (nI (d2))]) (rest := []) F (m_isDesk l D hnd d2 hd2) d_M_join_10 sv_M_62 im_y_M_isDesk sl_y_M_isDesk 0 rfl rfl rfl rfl rfl (Nat.le_of_ble_eq_true rfl) ⟨rfl, rfl, (Nat.le_of_ble_eq_true rfl), (Nat.le_of_ble_eq_true rfl)⟩ ⟨(Nat.le_of_ble_eq_true rfl), (Nat.le_of_ble_eq_true rfl)⟩ (fun r9 u9 h9 => ?_)
    obtain ⟨rfl, rfl⟩ := h9
    refine V.if_eqB (b := true) (tgt := 21) F d_M_join_13 (by decide) (fun c13 => ?_) (fun c13 => ?_)
    · skip
      exact absurd c13 (by decide)
    · skip
      refine V.iload_n F d_M_join_16 rfl 1 rfl ?_
      refine V.iload_n F d_M_join_17 rfl 2 rfl ?_
      refine V.icmp_neN (tgt := 23) F d_M_join_18 (by decide) (by omega) (by omega) (fun c18 => ?_) (fun c18 => ?_)
      · skip
        refine V.iconst F d_M_join_23 (v := nI (0)) (by decide) ?_
        refine V.istore_n (lv2 := [(3, .int (nI (0))), (0, .ref (mo 0)), (1, .int (nI (d))), (2, .int (nI (d2)))]) F d_M_join_24 rfl (by decide) rfl ?_
        have L25 : ∀ (n9 : Nat) (i : Nat) (K : Nat → Nat → Bool), nf - i < n9 → (i ≤ nf) → (K = jn kn d d2 i) → V p l e (rmK 3 0 0) s m [.ref (mo 0), .int (nI (d)), .int (nI (d2))].toArray below meth c D (va_A (MW ct mo nd nb nf bdk num thg knd dy val tim rep kn clk tol opn bof std xd) s.heap.size) 4 0 0 (EI D below (MW ct mo nd nb nf bdk num thg knd dy val tim rep kn clk tol opn bof std xd) [.ref (mo 0), .int (nI (d)), .int (nI (d2))].toArray s 0 0 (fun r u => ∃ P : Nat → Bool, (∀ f, f < nf → P f = lkB (jn kn d d2 nf d) rep f nf) ∧ r = nI (cnt (fun f => fcB spt val P nf f) nf) ∧ u = MW ct mo nd nb nf bdk num thg knd dy val tim rep (jn kn d d2 nf) (va_up clk d (max (clk d) (clk d2))) tol opn bof P xd)) (MW ct mo nd nb nf bdk num thg knd dy val tim rep K clk tol opn bof std xd) [(3, .int (nI (i))), (0, .ref (mo 0)), (1, .int (nI (d))), (2, .int (nI (d2)))] 25 [] := by
          intro n9
          induction n9 with
          | zero => intro i K h9 hi hK; exact absurd h9 (Nat.not_lt_zero _)
          | succ n9 ih25 =>
            intro i K h9 hi hK
            refine V.iload_n F d_M_join_25 rfl 0 rfl ?_
            refine V.aload_n F d_M_join_26 rfl 1 rfl ?_
            refine V.get F ck_M d_M_join_27 13 (by decide) lk_M_59 0 rfl rfl ?_
            refine V.icmp_geN (tgt := 66) F d_M_join_30 (by decide) (by omega) (by omega) (fun c30 => ?_) (fun c30 => ?_)
            · skip
              have e8 : i = nf := by omega
              rw [e8] at hK
              subst hK
              refine V.aload_n F d_M_join_66 rfl 1 rfl ?_
              refine V.get F ck_M d_M_join_67 1 (by decide) lk_M_9 0 rfl rfl ?_
              refine V.iload_n F d_M_join_70 rfl 2 rfl ?_
              refine V.aload_n F d_M_join_71 rfl 1 rfl ?_
              refine V.get F ck_M d_M_join_72 1 (by decide) lk_M_9 0 rfl rfl ?_
              refine V.iload_n F d_M_join_75 rfl 3 rfl ?_
              refine V.lald (v := lN (clk (d2))) F d_M_join_76 1 1 rfl rfl (by omega) (by decide) rfl ?_
              refine V.aload_n F d_M_join_77 rfl 1 rfl ?_
              refine V.get F ck_M d_M_join_78 1 (by decide) lk_M_9 0 rfl rfl ?_
              refine V.iload_n F d_M_join_81 rfl 2 rfl ?_
              refine V.lald (v := lN (clk (d))) F d_M_join_82 1 1 rfl rfl (by omega) (by decide) rfl ?_
              refine V.lcmp_le (tgt := 96) F d_M_join_83 d_M_join_84 (by decide) (fun c83 => ?_) (fun c83 => ?_)
              · skip
                have hm : max (clk d) (clk d2) = clk d := Nat.max_eq_left ((lN_le hc2 hc1).mp c83)
                refine V.aload_n F d_M_join_96 rfl 1 rfl ?_
                refine V.get F ck_M d_M_join_97 1 (by decide) lk_M_9 0 rfl rfl ?_
                refine V.iload_n F d_M_join_100 rfl 2 rfl ?_
                refine V.lald (v := lN (clk (d))) F d_M_join_101 1 1 rfl rfl (by omega) (by decide) rfl ?_
                refine V.last (ws2 := MW ct mo nd nb nf bdk num thg knd dy val tim rep (jn kn d d2 nf) (va_up clk (d) (clk (d))) tol opn bof std xd) F d_M_join_102 1 1 rfl rfl (by omega) (by decide) (by rw [updL_lN]; exact mw_set_clk) ?_
                refine V.aload_n F d_M_join_103 rfl 1 rfl ?_
                refine V.iload_n F d_M_join_104 rfl 2 rfl ?_
                refine V.callVI0 (As := [.int (nI (d))]) (rest := []) F (m_conflicts l D hnf hnd d hd0 spt hsp) d_M_join_105 sv_M_91 im_y_M_conflicts sl_y_M_conflicts 0 rfl rfl rfl rfl rfl (Nat.le_of_ble_eq_true rfl) ⟨rfl, rfl, (Nat.le_of_ble_eq_true rfl), (Nat.le_of_ble_eq_true rfl)⟩ ⟨(Nat.le_of_ble_eq_true rfl), (Nat.le_of_ble_eq_true rfl)⟩ (fun r9 u9 h9 => ?_)
                obtain ⟨P, hP, rfl, rfl⟩ := h9
                exact V.iret F hr d_M_join_108 (⟨P, hP, rfl, by rw [hm]⟩)
              · skip
                have hm : max (clk d) (clk d2) = clk d2 := Nat.max_eq_right (Nat.le_of_lt (Nat.lt_of_not_le (fun q => c83 ((lN_le hc2 hc1).mpr q))))
                refine V.aload_n F d_M_join_87 rfl 1 rfl ?_
                refine V.get F ck_M d_M_join_88 1 (by decide) lk_M_9 0 rfl rfl ?_
                refine V.iload_n F d_M_join_91 rfl 3 rfl ?_
                refine V.lald (v := lN (clk (d2))) F d_M_join_92 1 1 rfl rfl (by omega) (by decide) rfl ?_
                refine V.goto (tgt := 102) F d_M_join_93 (by decide) ?_
                refine V.last (ws2 := MW ct mo nd nb nf bdk num thg knd dy val tim rep (jn kn d d2 nf) (va_up clk (d) (clk (d2))) tol opn bof std xd) F d_M_join_102 1 1 rfl rfl (by omega) (by decide) (by rw [updL_lN]; exact mw_set_clk) ?_
                refine V.aload_n F d_M_join_103 rfl 1 rfl ?_
                refine V.iload_n F d_M_join_104 rfl 2 rfl ?_
                refine V.callVI0 (As := [.int (nI (d))]) (rest := []) F (m_conflicts l D hnf hnd d hd0 spt hsp) d_M_join_105 sv_M_91 im_y_M_conflicts sl_y_M_conflicts 0 rfl rfl rfl rfl rfl (Nat.le_of_ble_eq_true rfl) ⟨rfl, rfl, (Nat.le_of_ble_eq_true rfl), (Nat.le_of_ble_eq_true rfl)⟩ ⟨(Nat.le_of_ble_eq_true rfl), (Nat.le_of_ble_eq_true rfl)⟩ (fun r9 u9 h9 => ?_)
                obtain ⟨P, hP, rfl, rfl⟩ := h9
                exact V.iret F hr d_M_join_108 (⟨P, hP, rfl, by rw [hm]⟩)
            · skip
              refine V.aload_n F d_M_join_33 rfl 1 rfl ?_
              refine V.get F ck_M d_M_join_34 12 (by decide) lk_M_46 0 rfl rfl ?_
              refine V.iload_n F d_M_join_37 rfl 2 rfl ?_
              refine V.sipush F d_M_join_38 (v := nI (300)) (by decide) ?_
              refine V.imulN F d_M_join_41 ?_
              refine V.iload_n F d_M_join_42 rfl 0 rfl ?_
              refine V.iaddN F d_M_join_43 ?_
              refine V.dup2_11 F d_M_join_44 rfl rfl ?_
              refine V.zald (v := bI (K (d) (i))) F d_M_join_45 12 3 rfl rfl (by omega) (by decide) (kn_at (by omega)) ?_
              refine V.aload_n F d_M_join_46 rfl 1 rfl ?_
              refine V.get F ck_M d_M_join_47 12 (by decide) lk_M_46 0 rfl rfl ?_
              refine V.iload_n F d_M_join_50 rfl 3 rfl ?_
              refine V.sipush F d_M_join_51 (v := nI (300)) (by decide) ?_
              refine V.imulN F d_M_join_54 ?_
              refine V.iload_n F d_M_join_55 rfl 0 rfl ?_
              refine V.iaddN F d_M_join_56 ?_
              refine V.zald (v := bI (K (d2) (i))) F d_M_join_57 12 3 rfl rfl (by omega) (by decide) (kn_at (by omega)) ?_
              refine V.iorB (a := K (d) (i)) (b := K (d2) (i)) F d_M_join_58 ?_
              refine V.zast (b := K (d) (i) || K (d2) (i)) (ws2 := MW ct mo nd nb nf bdk num thg knd dy val tim rep (up2 K (d) (i) (K (d) (i) || K (d2) (i))) clk tol opn bof std xd) F d_M_join_59 12 3 rfl rfl (by omega) (by decide) (by rw [kn_up (by omega)]; exact mw_set_kn) ?_
              refine V.iincN (k := 1) (lv2 := [(3, .int (nI (i + 1))), (0, .ref (mo 0)), (1, .int (nI (d))), (2, .int (nI (d2)))]) F d_M_join_60 0 rfl (by decide) (by decide) rfl ?_
              refine V.goto (tgt := 25) F d_M_join_63 (by decide) ?_
              exact ih25 (i + 1) (up2 K d i (K d i || K d2 i)) (by omega) (by omega) (by rw [hK]; exact jn_step hne)
        exact L25 _ (0) (kn) (Nat.lt_succ_self _) (by omega) (jn_0 kn d d2)
      · skip
        exact absurd c18.symm hne

set_option maxHeartbeats 4000000 in
set_option maxRecDepth 100000 in
theorem m_countsNo (l : Launch) (D : va_G) {ct : Nat → ClassId} {mo : Nat → Nat} {nd : Nat} {nb : Nat} {nf : Nat} {bdk : Nat → Nat} {num : Nat → Nat} {thg : Nat → Nat} {knd : Nat → Nat} {dy : Nat → Nat} {val : Nat → Int64} {tim : Nat → Nat} {rep : Nat → Nat → Bool} {kn : Nat → Nat → Bool} {clk : Nat → Nat} {tol : Nat → Nat} {opn : Nat → Option Nat} {bof : Nat → Option Nat} {std : Nat → Bool} {xd : Int64} (x : Int32) (hx : x < 0 ∨ nI nd ≤ x) : CI l y_M_counts b_M_counts 4 (some .int) (rmK 1 0 0) D (tyL ct) (MW ct mo nd nb nf bdk num thg knd dy val tim rep kn clk tol opn bof std xd) [.ref (mo 0), .int (x)] 0 0 (fun r u => r = -1 ∧ u = MW ct mo nd nb nf bdk num thg knd dy val tim rep kn clk tol opn bof std xd) := by
  refine CI.start (by decide) (Nat.le_of_ble_eq_true rfl) ?_
  intro p e s m below meth c F hr hnm
  show V p l e (rmK 1 0 0) s m [.ref (mo 0), .int (x)].toArray below meth c D (va_A (MW ct mo nd nb nf bdk num thg knd dy val tim rep kn clk tol opn bof std xd) s.heap.size) 4 0 0 (EI D below (MW ct mo nd nb nf bdk num thg knd dy val tim rep kn clk tol opn bof std xd) [.ref (mo 0), .int (x)].toArray s 0 0 (fun r u => r = -1 ∧ u = MW ct mo nd nb nf bdk num thg knd dy val tim rep kn clk tol opn bof std xd)) (MW ct mo nd nb nf bdk num thg knd dy val tim rep kn clk tol opn bof std xd) [(0, .ref (mo 0)), (1, .int (x))] 0 []
  refine V.aload_n F d_M_counts_0 rfl 0 rfl ?_
  refine V.iload_n F d_M_counts_1 rfl 1 rfl ?_
  refine V.callVI0 (As := [.int (x)]) (rest := []) F (m_isDeskNo l D x hx) d_M_counts_2 sv_M_62 im_y_M_isDesk sl_y_M_isDesk 0 rfl rfl rfl rfl rfl (Nat.le_of_ble_eq_true rfl) ⟨rfl, rfl, (Nat.le_of_ble_eq_true rfl), (Nat.le_of_ble_eq_true rfl)⟩ ⟨(Nat.le_of_ble_eq_true rfl), (Nat.le_of_ble_eq_true rfl)⟩ (fun r9 u9 h9 => ?_)
  obtain ⟨rfl, rfl⟩ := h9
  refine V.if_neB (b := false) (tgt := 10) F d_M_counts_5 (by decide) (fun c5 => ?_) (fun c5 => ?_)
  · skip
    exact absurd c5 (by decide)
  · skip
    refine V.iconst F d_M_counts_8 (v := -1) (by decide) ?_
    exact V.iret F hr d_M_counts_9 (⟨rfl, rfl⟩)

set_option maxHeartbeats 4000000 in
set_option maxRecDepth 100000 in
theorem m_counts (l : Launch) (D : va_G) {ct : Nat → ClassId} {mo : Nat → Nat} {nd : Nat} {nb : Nat} {nf : Nat} {bdk : Nat → Nat} {num : Nat → Nat} {thg : Nat → Nat} {knd : Nat → Nat} {dy : Nat → Nat} {val : Nat → Int64} {tim : Nat → Nat} {rep : Nat → Nat → Bool} {kn : Nat → Nat → Bool} {clk : Nat → Nat} {tol : Nat → Nat} {opn : Nat → Option Nat} {bof : Nat → Option Nat} {std : Nat → Bool} {xd : Int64} (hnf : nf ≤ 300) (hnd : nd ≤ 8) (d : Nat) (hd0 : d < nd) : CI l y_M_counts b_M_counts 4 (some .int) (rmK 1 0 0) D (tyL ct) (MW ct mo nd nb nf bdk num thg knd dy val tim rep kn clk tol opn bof std xd) [.ref (mo 0), .int (nI (d))] 0 0 (fun r u => r = nI (cnt (kn d) nf) ∧ u = MW ct mo nd nb nf bdk num thg knd dy val tim rep kn clk tol opn bof std xd) := by
  refine CI.start (by decide) (Nat.le_of_ble_eq_true rfl) ?_
  intro p e s m below meth c F hr hnm
  show V p l e (rmK 1 0 0) s m [.ref (mo 0), .int (nI (d))].toArray below meth c D (va_A (MW ct mo nd nb nf bdk num thg knd dy val tim rep kn clk tol opn bof std xd) s.heap.size) 4 0 0 (EI D below (MW ct mo nd nb nf bdk num thg knd dy val tim rep kn clk tol opn bof std xd) [.ref (mo 0), .int (nI (d))].toArray s 0 0 (fun r u => r = nI (cnt (kn d) nf) ∧ u = MW ct mo nd nb nf bdk num thg knd dy val tim rep kn clk tol opn bof std xd)) (MW ct mo nd nb nf bdk num thg knd dy val tim rep kn clk tol opn bof std xd) [(0, .ref (mo 0)), (1, .int (nI (d)))] 0 []
  refine V.aload_n F d_M_counts_0 rfl 0 rfl ?_
  refine V.iload_n F d_M_counts_1 rfl 1 rfl ?_
  refine V.callVI0 (As := [.int (nI (d))]) (rest := []) F (m_isDesk l D hnd d hd0) d_M_counts_2 sv_M_62 im_y_M_isDesk sl_y_M_isDesk 0 rfl rfl rfl rfl rfl (Nat.le_of_ble_eq_true rfl) ⟨rfl, rfl, (Nat.le_of_ble_eq_true rfl), (Nat.le_of_ble_eq_true rfl)⟩ ⟨(Nat.le_of_ble_eq_true rfl), (Nat.le_of_ble_eq_true rfl)⟩ (fun r9 u9 h9 => ?_)
  obtain ⟨rfl, rfl⟩ := h9
  refine V.if_neB (b := true) (tgt := 10) F d_M_counts_5 (by decide) (fun c5 => ?_) (fun c5 => ?_)
  · skip
    refine V.iconst F d_M_counts_10 (v := nI (0)) (by decide) ?_
    refine V.istore_n (lv2 := [(2, .int (nI (0))), (0, .ref (mo 0)), (1, .int (nI (d)))]) F d_M_counts_11 rfl (by decide) rfl ?_
    refine V.iconst F d_M_counts_12 (v := nI (0)) (by decide) ?_
    refine V.istore_n (lv2 := [(3, .int (nI (0))), (2, .int (nI (0))), (0, .ref (mo 0)), (1, .int (nI (d)))]) F d_M_counts_13 rfl (by decide) rfl ?_
    have L14 : ∀ (n9 : Nat) (i : Nat) (z : Nat), nf - i < n9 → (i ≤ nf) → (z = cnt (kn d) i) → V p l e (rmK 1 0 0) s m [.ref (mo 0), .int (nI (d))].toArray below meth c D (va_A (MW ct mo nd nb nf bdk num thg knd dy val tim rep kn clk tol opn bof std xd) s.heap.size) 4 0 0 (EI D below (MW ct mo nd nb nf bdk num thg knd dy val tim rep kn clk tol opn bof std xd) [.ref (mo 0), .int (nI (d))].toArray s 0 0 (fun r u => r = nI (cnt (kn d) nf) ∧ u = MW ct mo nd nb nf bdk num thg knd dy val tim rep kn clk tol opn bof std xd)) (MW ct mo nd nb nf bdk num thg knd dy val tim rep kn clk tol opn bof std xd) [(3, .int (nI (i))), (2, .int (nI (z))), (0, .ref (mo 0)), (1, .int (nI (d)))] 14 [] := by
      intro n9
      induction n9 with
      | zero => intro i z h9 hi hz; exact absurd h9 (Nat.not_lt_zero _)
      | succ n9 ih14 =>
        intro i z h9 hi hz
        refine V.iload_n F d_M_counts_14 rfl 0 rfl ?_
        refine V.aload_n F d_M_counts_15 rfl 2 rfl ?_
        refine V.get F ck_M d_M_counts_16 13 (by decide) lk_M_59 0 rfl rfl ?_
        refine V.icmp_geN (tgt := 51) F d_M_counts_19 (by decide) (by omega) (by omega) (fun c19 => ?_) (fun c19 => ?_)
        · skip
          refine V.iload_n F d_M_counts_51 rfl 1 rfl ?_
          exact V.iret F hr d_M_counts_52 (⟨by rw [hz, show i = nf by omega], rfl⟩)
        · skip
          refine V.iload_n F d_M_counts_22 rfl 1 rfl ?_
          refine V.aload_n F d_M_counts_23 rfl 2 rfl ?_
          refine V.get F ck_M d_M_counts_24 12 (by decide) lk_M_46 0 rfl rfl ?_
          refine V.iload_n F d_M_counts_27 rfl 3 rfl ?_
          refine V.sipush F d_M_counts_28 (v := nI (300)) (by decide) ?_
          refine V.imulN F d_M_counts_31 ?_
          refine V.iload_n F d_M_counts_32 rfl 0 rfl ?_
          refine V.iaddN F d_M_counts_33 ?_
          refine V.zald (v := bI (kn (d) (i))) F d_M_counts_34 12 3 rfl rfl (by omega) (by decide) (kn_at (by omega)) ?_
          refine V.if_eqB (b := kn (d) (i)) (tgt := 42) F d_M_counts_35 (by decide) (fun c35 => ?_) (fun c35 => ?_)
          · skip
            refine V.iconst F d_M_counts_42 (v := nI (0)) (by decide) ?_
            refine V.iaddN F d_M_counts_43 ?_
            refine V.istore_n (lv2 := [(2, .int (nI ((z) + (0)))), (3, .int (nI (i))), (0, .ref (mo 0)), (1, .int (nI (d)))]) F d_M_counts_44 rfl (by decide) rfl ?_
            refine V.iincN (k := 1) (lv2 := [(3, .int (nI (i + 1))), (2, .int (nI ((z) + (0)))), (0, .ref (mo 0)), (1, .int (nI (d)))]) F d_M_counts_45 1 rfl (by decide) (by decide) rfl ?_
            refine V.goto (tgt := 14) F d_M_counts_48 (by decide) ?_
            exact ih14 (i + 1) (z) (by omega) (by omega) (by rw [hz, cnt, if_neg (by rw [c35]; decide)]; rfl)
          · skip
            refine V.iconst F d_M_counts_38 (v := nI (1)) (by decide) ?_
            refine V.goto (tgt := 43) F d_M_counts_39 (by decide) ?_
            refine V.iaddN F d_M_counts_43 ?_
            refine V.istore_n (lv2 := [(2, .int (nI ((z) + (1)))), (3, .int (nI (i))), (0, .ref (mo 0)), (1, .int (nI (d)))]) F d_M_counts_44 rfl (by decide) rfl ?_
            refine V.iincN (k := 1) (lv2 := [(3, .int (nI (i + 1))), (2, .int (nI ((z) + (1)))), (0, .ref (mo 0)), (1, .int (nI (d)))]) F d_M_counts_45 1 rfl (by decide) (by decide) rfl ?_
            refine V.goto (tgt := 14) F d_M_counts_48 (by decide) ?_
            exact ih14 (i + 1) (z + 1) (by omega) (by omega) (by rw [hz, cnt, if_pos c35])
    exact L14 _ (0) (0) (Nat.lt_succ_self _) (by omega) (rfl)
  · skip
    exact absurd c5 (by decide)

set_option maxHeartbeats 4000000 in
set_option maxRecDepth 100000 in
theorem m_equalNo1 (l : Launch) (D : va_G) {ct : Nat → ClassId} {mo : Nat → Nat} {nd : Nat} {nb : Nat} {nf : Nat} {bdk : Nat → Nat} {num : Nat → Nat} {thg : Nat → Nat} {knd : Nat → Nat} {dy : Nat → Nat} {val : Nat → Int64} {tim : Nat → Nat} {rep : Nat → Nat → Bool} {kn : Nat → Nat → Bool} {clk : Nat → Nat} {tol : Nat → Nat} {opn : Nat → Option Nat} {bof : Nat → Option Nat} {std : Nat → Bool} {xd : Int64} (x y : Int32) (hx : x < 0 ∨ nI nd ≤ x) : CI l y_M_equal b_M_equal 5 (some .boolean) (rmK 1 0 0) D (tyL ct) (MW ct mo nd nb nf bdk num thg knd dy val tim rep kn clk tol opn bof std xd) [.ref (mo 0), .int (x), .int (y)] 0 0 (fun r u => r = bI false ∧ u = MW ct mo nd nb nf bdk num thg knd dy val tim rep kn clk tol opn bof std xd) := by
  refine CI.start (by decide) (Nat.le_of_ble_eq_true rfl) ?_
  intro p e s m below meth c F hr hnm
  show V p l e (rmK 1 0 0) s m [.ref (mo 0), .int (x), .int (y)].toArray below meth c D (va_A (MW ct mo nd nb nf bdk num thg knd dy val tim rep kn clk tol opn bof std xd) s.heap.size) 5 0 0 (EI D below (MW ct mo nd nb nf bdk num thg knd dy val tim rep kn clk tol opn bof std xd) [.ref (mo 0), .int (x), .int (y)].toArray s 0 0 (fun r u => r = bI false ∧ u = MW ct mo nd nb nf bdk num thg knd dy val tim rep kn clk tol opn bof std xd)) (MW ct mo nd nb nf bdk num thg knd dy val tim rep kn clk tol opn bof std xd) [(0, .ref (mo 0)), (1, .int (x)), (2, .int (y))] 0 []
  refine V.aload_n F d_M_equal_0 rfl 0 rfl ?_
  refine V.iload_n F d_M_equal_1 rfl 1 rfl ?_
  refine V.callVI0 (As := [.int (x)]) (rest := []) F (m_isDeskNo l D x hx) d_M_equal_2 sv_M_62 im_y_M_isDesk sl_y_M_isDesk 0 rfl rfl rfl rfl rfl (Nat.le_of_ble_eq_true rfl) ⟨rfl, rfl, (Nat.le_of_ble_eq_true rfl), (Nat.le_of_ble_eq_true rfl)⟩ ⟨(Nat.le_of_ble_eq_true rfl), (Nat.le_of_ble_eq_true rfl)⟩ (fun r9 u9 h9 => ?_)
  obtain ⟨rfl, rfl⟩ := h9
  refine V.if_eqB (b := false) (tgt := 16) F d_M_equal_5 (by decide) (fun c5 => ?_) (fun c5 => ?_)
  · skip
    refine V.iconst F d_M_equal_16 (v := nI (0)) (by decide) ?_
    exact V.zret F hr (nar_0) d_M_equal_17 (⟨bI_f, rfl⟩)
  · skip
    exact absurd c5 (by decide)

set_option maxHeartbeats 4000000 in
set_option maxRecDepth 100000 in
theorem m_equalNo2 (l : Launch) (D : va_G) {ct : Nat → ClassId} {mo : Nat → Nat} {nd : Nat} {nb : Nat} {nf : Nat} {bdk : Nat → Nat} {num : Nat → Nat} {thg : Nat → Nat} {knd : Nat → Nat} {dy : Nat → Nat} {val : Nat → Int64} {tim : Nat → Nat} {rep : Nat → Nat → Bool} {kn : Nat → Nat → Bool} {clk : Nat → Nat} {tol : Nat → Nat} {opn : Nat → Option Nat} {bof : Nat → Option Nat} {std : Nat → Bool} {xd : Int64} (hnd : nd ≤ 8) (d : Nat) (hd0 : d < nd) (x : Int32) (hx : x < 0 ∨ nI nd ≤ x) : CI l y_M_equal b_M_equal 5 (some .boolean) (rmK 1 0 0) D (tyL ct) (MW ct mo nd nb nf bdk num thg knd dy val tim rep kn clk tol opn bof std xd) [.ref (mo 0), .int (nI (d)), .int (x)] 0 0 (fun r u => r = bI false ∧ u = MW ct mo nd nb nf bdk num thg knd dy val tim rep kn clk tol opn bof std xd) := by
  refine CI.start (by decide) (Nat.le_of_ble_eq_true rfl) ?_
  intro p e s m below meth c F hr hnm
  show V p l e (rmK 1 0 0) s m [.ref (mo 0), .int (nI (d)), .int (x)].toArray below meth c D (va_A (MW ct mo nd nb nf bdk num thg knd dy val tim rep kn clk tol opn bof std xd) s.heap.size) 5 0 0 (EI D below (MW ct mo nd nb nf bdk num thg knd dy val tim rep kn clk tol opn bof std xd) [.ref (mo 0), .int (nI (d)), .int (x)].toArray s 0 0 (fun r u => r = bI false ∧ u = MW ct mo nd nb nf bdk num thg knd dy val tim rep kn clk tol opn bof std xd)) (MW ct mo nd nb nf bdk num thg knd dy val tim rep kn clk tol opn bof std xd) [(0, .ref (mo 0)), (1, .int (nI (d))), (2, .int (x))] 0 []
  refine V.aload_n F d_M_equal_0 rfl 0 rfl ?_
  refine V.iload_n F d_M_equal_1 rfl 1 rfl ?_
  refine V.callVI0 (As := [.int (nI (d))]) (rest := []) F (m_isDesk l D hnd d hd0) d_M_equal_2 sv_M_62 im_y_M_isDesk sl_y_M_isDesk 0 rfl rfl rfl rfl rfl (Nat.le_of_ble_eq_true rfl) ⟨rfl, rfl, (Nat.le_of_ble_eq_true rfl), (Nat.le_of_ble_eq_true rfl)⟩ ⟨(Nat.le_of_ble_eq_true rfl), (Nat.le_of_ble_eq_true rfl)⟩ (fun r9 u9 h9 => ?_)
  obtain ⟨rfl, rfl⟩ := h9
  refine V.if_eqB (b := true) (tgt := 16) F d_M_equal_5 (by decide) (fun c5 => ?_) (fun c5 => ?_)
  · skip
    exact absurd c5 (by decide)
  · skip
    refine V.aload_n F d_M_equal_8 rfl 0 rfl ?_
    refine V.iload_n F d_M_equal_9 rfl 2 rfl ?_
    refine V.callVI0 (As := [.int (x)]) (rest := []) F (m_isDeskNo l D x hx) d_M_equal_10 sv_M_62 im_y_M_isDesk sl_y_M_isDesk 0 rfl rfl rfl rfl rfl (Nat.le_of_ble_eq_true rfl) ⟨rfl, rfl, (Nat.le_of_ble_eq_true rfl), (Nat.le_of_ble_eq_true rfl)⟩ ⟨(Nat.le_of_ble_eq_true rfl), (Nat.le_of_ble_eq_true rfl)⟩ (fun r9 u9 h9 => ?_)
    obtain ⟨rfl, rfl⟩ := h9
    refine V.if_neB (b := false) (tgt := 18) F d_M_equal_13 (by decide) (fun c13 => ?_) (fun c13 => ?_)
    · skip
      exact absurd c13 (by decide)
    · skip
      refine V.iconst F d_M_equal_16 (v := nI (0)) (by decide) ?_
      exact V.zret F hr (nar_0) d_M_equal_17 (⟨bI_f, rfl⟩)

set_option maxHeartbeats 4000000 in
set_option maxRecDepth 100000 in
theorem m_equal (l : Launch) (D : va_G) {ct : Nat → ClassId} {mo : Nat → Nat} {nd : Nat} {nb : Nat} {nf : Nat} {bdk : Nat → Nat} {num : Nat → Nat} {thg : Nat → Nat} {knd : Nat → Nat} {dy : Nat → Nat} {val : Nat → Int64} {tim : Nat → Nat} {rep : Nat → Nat → Bool} {kn : Nat → Nat → Bool} {clk : Nat → Nat} {tol : Nat → Nat} {opn : Nat → Option Nat} {bof : Nat → Option Nat} {std : Nat → Bool} {xd : Int64} (hnf : nf ≤ 300) (hnd : nd ≤ 8) (d : Nat) (hd0 : d < nd) (d2 : Nat) (hd2 : d2 < nd) : CI l y_M_equal b_M_equal 5 (some .boolean) (rmK 1 0 0) D (tyL ct) (MW ct mo nd nb nf bdk num thg knd dy val tim rep kn clk tol opn bof std xd) [.ref (mo 0), .int (nI (d)), .int (nI (d2))] 0 0 (fun r u => r = bI (sameB (kn d) (kn d2) nf) ∧ u = MW ct mo nd nb nf bdk num thg knd dy val tim rep kn clk tol opn bof std xd) := by
  refine CI.start (by decide) (Nat.le_of_ble_eq_true rfl) ?_
  intro p e s m below meth c F hr hnm
  show V p l e (rmK 1 0 0) s m [.ref (mo 0), .int (nI (d)), .int (nI (d2))].toArray below meth c D (va_A (MW ct mo nd nb nf bdk num thg knd dy val tim rep kn clk tol opn bof std xd) s.heap.size) 5 0 0 (EI D below (MW ct mo nd nb nf bdk num thg knd dy val tim rep kn clk tol opn bof std xd) [.ref (mo 0), .int (nI (d)), .int (nI (d2))].toArray s 0 0 (fun r u => r = bI (sameB (kn d) (kn d2) nf) ∧ u = MW ct mo nd nb nf bdk num thg knd dy val tim rep kn clk tol opn bof std xd)) (MW ct mo nd nb nf bdk num thg knd dy val tim rep kn clk tol opn bof std xd) [(0, .ref (mo 0)), (1, .int (nI (d))), (2, .int (nI (d2)))] 0 []
  refine V.aload_n F d_M_equal_0 rfl 0 rfl ?_
  refine V.iload_n F d_M_equal_1 rfl 1 rfl ?_
  refine V.callVI0 (As := [.int (nI (d))]) (rest := []) F (m_isDesk l D hnd d hd0) d_M_equal_2 sv_M_62 im_y_M_isDesk sl_y_M_isDesk 0 rfl rfl rfl rfl rfl (Nat.le_of_ble_eq_true rfl) ⟨rfl, rfl, (Nat.le_of_ble_eq_true rfl), (Nat.le_of_ble_eq_true rfl)⟩ ⟨(Nat.le_of_ble_eq_true rfl), (Nat.le_of_ble_eq_true rfl)⟩ (fun r9 u9 h9 => ?_)
  obtain ⟨rfl, rfl⟩ := h9
  refine V.if_eqB (b := true) (tgt := 16) F d_M_equal_5 (by decide) (fun c5 => ?_) (fun c5 => ?_)
  · skip
    exact absurd c5 (by decide)
  · skip
    refine V.aload_n F d_M_equal_8 rfl 0 rfl ?_
    refine V.iload_n F d_M_equal_9 rfl 2 rfl ?_
    refine V.callVI0 (As := [.int (nI (d2))]) (rest := []) F (m_isDesk l D hnd d2 hd2) d_M_equal_10 sv_M_62 im_y_M_isDesk sl_y_M_isDesk 0 rfl rfl rfl rfl rfl (Nat.le_of_ble_eq_true rfl) ⟨rfl, rfl, (Nat.le_of_ble_eq_true rfl), (Nat.le_of_ble_eq_true rfl)⟩ ⟨(Nat.le_of_ble_eq_true rfl), (Nat.le_of_ble_eq_true rfl)⟩ (fun r9 u9 h9 => ?_)
    obtain ⟨rfl, rfl⟩ := h9
    refine V.if_neB (b := true) (tgt := 18) F d_M_equal_13 (by decide) (fun c13 => ?_) (fun c13 => ?_)
    · skip
      refine V.iconst F d_M_equal_18 (v := nI (1)) (by decide) ?_
      refine V.istore_n (lv2 := [(3, .int (nI (1))), (0, .ref (mo 0)), (1, .int (nI (d))), (2, .int (nI (d2)))]) F d_M_equal_19 rfl (by decide) rfl ?_
      refine V.iconst F d_M_equal_20 (v := nI (0)) (by decide) ?_
      refine V.istore (lv2 := [(4, .int (nI (0))), (3, .int (nI (1))), (0, .ref (mo 0)), (1, .int (nI (d))), (2, .int (nI (d2)))]) F d_M_equal_21 (by decide) rfl ?_
      have L23 : ∀ (n9 : Nat) (i : Nat) (z : Bool), nf - i < n9 → (i ≤ nf) → (z = sameB (kn d) (kn d2) i) → V p l e (rmK 1 0 0) s m [.ref (mo 0), .int (nI (d)), .int (nI (d2))].toArray below meth c D (va_A (MW ct mo nd nb nf bdk num thg knd dy val tim rep kn clk tol opn bof std xd) s.heap.size) 5 0 0 (EI D below (MW ct mo nd nb nf bdk num thg knd dy val tim rep kn clk tol opn bof std xd) [.ref (mo 0), .int (nI (d)), .int (nI (d2))].toArray s 0 0 (fun r u => r = bI (sameB (kn d) (kn d2) nf) ∧ u = MW ct mo nd nb nf bdk num thg knd dy val tim rep kn clk tol opn bof std xd)) (MW ct mo nd nb nf bdk num thg knd dy val tim rep kn clk tol opn bof std xd) [(4, .int (nI (i))), (3, .int (bI (z))), (0, .ref (mo 0)), (1, .int (nI (d))), (2, .int (nI (d2)))] 23 [] := by
        intro n9
        induction n9 with
        | zero => intro i z h9 hi hz; exact absurd h9 (Nat.not_lt_zero _)
        | succ n9 ih23 =>
          intro i z h9 hi hz
          refine V.iload F d_M_equal_23 0 rfl ?_
          refine V.aload_n F d_M_equal_25 rfl 2 rfl ?_
          refine V.get F ck_M d_M_equal_26 13 (by decide) lk_M_59 0 rfl rfl ?_
          refine V.icmp_geN (tgt := 77) F d_M_equal_29 (by decide) (by omega) (by omega) (fun c29 => ?_) (fun c29 => ?_)
          · skip
            refine V.iload_n F d_M_equal_77 rfl 1 rfl ?_
            exact V.zret F hr (nar_b _) d_M_equal_78 (⟨by rw [hz, show i = nf by omega], rfl⟩)
          · skip
            refine V.iload_n F d_M_equal_32 rfl 1 rfl ?_
            refine V.if_eqB (b := z) (tgt := 77) F d_M_equal_33 (by decide) (fun c33 => ?_) (fun c33 => ?_)
            · skip
              refine V.iload_n F d_M_equal_77 rfl 1 rfl ?_
              exact V.zret F hr (nar_b _) d_M_equal_78 (⟨by rw [c33]; exact congrArg bI (sm_e (hz.symm.trans c33) hi).symm, rfl⟩)
            · skip
              refine V.aload_n F d_M_equal_36 rfl 2 rfl ?_
              refine V.get F ck_M d_M_equal_37 12 (by decide) lk_M_46 0 rfl rfl ?_
              refine V.iload_n F d_M_equal_40 rfl 3 rfl ?_
              refine V.sipush F d_M_equal_41 (v := nI (300)) (by decide) ?_
              refine V.imulN F d_M_equal_44 ?_
              refine V.iload F d_M_equal_45 0 rfl ?_
              refine V.iaddN F d_M_equal_47 ?_
              refine V.zald (v := bI (kn (d) (i))) F d_M_equal_48 12 3 rfl rfl (by omega) (by decide) (kn_at (by omega)) ?_
              refine V.aload_n F d_M_equal_49 rfl 2 rfl ?_
              refine V.get F ck_M d_M_equal_50 12 (by decide) lk_M_46 0 rfl rfl ?_
              refine V.iload_n F d_M_equal_53 rfl 4 rfl ?_
              refine V.sipush F d_M_equal_54 (v := nI (300)) (by decide) ?_
              refine V.imulN F d_M_equal_57 ?_
              refine V.iload F d_M_equal_58 0 rfl ?_
              refine V.iaddN F d_M_equal_60 ?_
              refine V.zald (v := bI (kn (d2) (i))) F d_M_equal_61 12 3 rfl rfl (by omega) (by decide) (kn_at (by omega)) ?_
              refine V.icmp_ne (x := bI (kn (d) (i))) (y := bI (kn (d2) (i))) (tgt := 69) F d_M_equal_62 (by decide) (fun c62 => ?_) (fun c62 => ?_)
              · skip
                refine V.iconst F d_M_equal_69 (v := nI (0)) (by decide) ?_
                refine V.istore_n (lv2 := [(3, .int (nI (0))), (4, .int (nI (i))), (0, .ref (mo 0)), (1, .int (nI (d))), (2, .int (nI (d2)))]) F d_M_equal_70 rfl (by decide) rfl ?_
                refine V.iincN (k := 1) (lv2 := [(4, .int (nI (i + 1))), (3, .int (nI (0))), (0, .ref (mo 0)), (1, .int (nI (d))), (2, .int (nI (d2)))]) F d_M_equal_71 1 rfl (by decide) (by decide) rfl ?_
                refine V.goto (tgt := 23) F d_M_equal_74 (by decide) ?_
                exact ih23 (i + 1) (false) (by omega) (by omega) (by rw [sameB, show (kn d i == kn d2 i) = false from beq_eq_false_iff_ne.mpr (fun q => c62 (by rw [q])), Bool.and_false])
              · skip
                refine V.iconst F d_M_equal_65 (v := nI (1)) (by decide) ?_
                refine V.goto (tgt := 70) F d_M_equal_66 (by decide) ?_
                refine V.istore_n (lv2 := [(3, .int (nI (1))), (4, .int (nI (i))), (0, .ref (mo 0)), (1, .int (nI (d))), (2, .int (nI (d2)))]) F d_M_equal_70 rfl (by decide) rfl ?_
                refine V.iincN (k := 1) (lv2 := [(4, .int (nI (i + 1))), (3, .int (nI (1))), (0, .ref (mo 0)), (1, .int (nI (d))), (2, .int (nI (d2)))]) F d_M_equal_71 1 rfl (by decide) (by decide) rfl ?_
                refine V.goto (tgt := 23) F d_M_equal_74 (by decide) ?_
                exact ih23 (i + 1) (true) (by omega) (by omega) (by rw [sameB, ← hz, c33, show (kn d i == kn d2 i) = true from beq_iff_eq.mpr (bI_inj c62)]; rfl)
      exact L23 _ (0) (true) (Nat.lt_succ_self _) (by omega) (rfl)
    · skip
      exact absurd c13 (by decide)

set_option maxHeartbeats 4000000 in
set_option maxRecDepth 100000 in
theorem m_batchNo (l : Launch) (D : va_G) {ct : Nat → ClassId} {mo : Nat → Nat} {nd : Nat} {nb : Nat} {nf : Nat} {bdk : Nat → Nat} {num : Nat → Nat} {thg : Nat → Nat} {knd : Nat → Nat} {dy : Nat → Nat} {val : Nat → Int64} {tim : Nat → Nat} {rep : Nat → Nat → Bool} {kn : Nat → Nat → Bool} {clk : Nat → Nat} {tol : Nat → Nat} {opn : Nat → Option Nat} {bof : Nat → Option Nat} {std : Nat → Bool} {xd : Int64} (x : Int32) (hx : x < 0 ∨ nI nd ≤ x) : CI l y_M_batch b_M_batch 2 (some .int) (rmK 1 0 0) D (tyL ct) (MW ct mo nd nb nf bdk num thg knd dy val tim rep kn clk tol opn bof std xd) [.ref (mo 0), .int (x)] 0 0 (fun r u => r = -1 ∧ u = MW ct mo nd nb nf bdk num thg knd dy val tim rep kn clk tol opn bof std xd) := by
  refine CI.start (by decide) (Nat.le_of_ble_eq_true rfl) ?_
  intro p e s m below meth c F hr hnm
  show V p l e (rmK 1 0 0) s m [.ref (mo 0), .int (x)].toArray below meth c D (va_A (MW ct mo nd nb nf bdk num thg knd dy val tim rep kn clk tol opn bof std xd) s.heap.size) 2 0 0 (EI D below (MW ct mo nd nb nf bdk num thg knd dy val tim rep kn clk tol opn bof std xd) [.ref (mo 0), .int (x)].toArray s 0 0 (fun r u => r = -1 ∧ u = MW ct mo nd nb nf bdk num thg knd dy val tim rep kn clk tol opn bof std xd)) (MW ct mo nd nb nf bdk num thg knd dy val tim rep kn clk tol opn bof std xd) [(0, .ref (mo 0)), (1, .int (x))] 0 []
  refine V.aload_n F d_M_batch_0 rfl 0 rfl ?_
  refine V.iload_n F d_M_batch_1 rfl 1 rfl ?_
  refine V.callVI0 (As := [.int (x)]) (rest := []) F (m_isDeskNo l D x hx) d_M_batch_2 sv_M_62 im_y_M_isDesk sl_y_M_isDesk 0 rfl rfl rfl rfl rfl (Nat.le_of_ble_eq_true rfl) ⟨rfl, rfl, (Nat.le_of_ble_eq_true rfl), (Nat.le_of_ble_eq_true rfl)⟩ ⟨(Nat.le_of_ble_eq_true rfl), (Nat.le_of_ble_eq_true rfl)⟩ (fun r9 u9 h9 => ?_)
  obtain ⟨rfl, rfl⟩ := h9
  refine V.if_eqB (b := false) (tgt := 18) F d_M_batch_5 (by decide) (fun c5 => ?_) (fun c5 => ?_)
  · skip
    refine V.iconst F d_M_batch_18 (v := -1) (by decide) ?_
    exact V.iret F hr d_M_batch_19 (⟨rfl, rfl⟩)
  · skip
    exact absurd c5 (by decide)

set_option maxHeartbeats 4000000 in
set_option maxRecDepth 100000 in
theorem m_batchOpen (l : Launch) (D : va_G) {ct : Nat → ClassId} {mo : Nat → Nat} {nd : Nat} {nb : Nat} {nf : Nat} {bdk : Nat → Nat} {num : Nat → Nat} {thg : Nat → Nat} {knd : Nat → Nat} {dy : Nat → Nat} {val : Nat → Int64} {tim : Nat → Nat} {rep : Nat → Nat → Bool} {kn : Nat → Nat → Bool} {clk : Nat → Nat} {tol : Nat → Nat} {opn : Nat → Option Nat} {bof : Nat → Option Nat} {std : Nat → Bool} {xd : Int64} (hnd : nd ≤ 8) (d : Nat) (hd0 : d < nd) (b0 : Nat) (ho : opn d = some b0) (hb0 : b0 < 2 ^ 31) : CI l y_M_batch b_M_batch 2 (some .int) (rmK 1 0 0) D (tyL ct) (MW ct mo nd nb nf bdk num thg knd dy val tim rep kn clk tol opn bof std xd) [.ref (mo 0), .int (nI (d))] 0 0 (fun r u => r = -1 ∧ u = MW ct mo nd nb nf bdk num thg knd dy val tim rep kn clk tol opn bof std xd) := by
  refine CI.start (by decide) (Nat.le_of_ble_eq_true rfl) ?_
  intro p e s m below meth c F hr hnm
  show V p l e (rmK 1 0 0) s m [.ref (mo 0), .int (nI (d))].toArray below meth c D (va_A (MW ct mo nd nb nf bdk num thg knd dy val tim rep kn clk tol opn bof std xd) s.heap.size) 2 0 0 (EI D below (MW ct mo nd nb nf bdk num thg knd dy val tim rep kn clk tol opn bof std xd) [.ref (mo 0), .int (nI (d))].toArray s 0 0 (fun r u => r = -1 ∧ u = MW ct mo nd nb nf bdk num thg knd dy val tim rep kn clk tol opn bof std xd)) (MW ct mo nd nb nf bdk num thg knd dy val tim rep kn clk tol opn bof std xd) [(0, .ref (mo 0)), (1, .int (nI (d)))] 0 []
  refine V.aload_n F d_M_batch_0 rfl 0 rfl ?_
  refine V.iload_n F d_M_batch_1 rfl 1 rfl ?_
  refine V.callVI0 (As := [.int (nI (d))]) (rest := []) F (m_isDesk l D hnd d hd0) d_M_batch_2 sv_M_62 im_y_M_isDesk sl_y_M_isDesk 0 rfl rfl rfl rfl rfl (Nat.le_of_ble_eq_true rfl) ⟨rfl, rfl, (Nat.le_of_ble_eq_true rfl), (Nat.le_of_ble_eq_true rfl)⟩ ⟨(Nat.le_of_ble_eq_true rfl), (Nat.le_of_ble_eq_true rfl)⟩ (fun r9 u9 h9 => ?_)
  obtain ⟨rfl, rfl⟩ := h9
  refine V.if_eqB (b := true) (tgt := 18) F d_M_batch_5 (by decide) (fun c5 => ?_) (fun c5 => ?_)
  · skip
    exact absurd c5 (by decide)
  · skip
    refine V.aload_n F d_M_batch_8 rfl 0 rfl ?_
    refine V.get F ck_M d_M_batch_9 3 (by decide) lk_M_17 0 rfl rfl ?_
    refine V.iload_n F d_M_batch_12 rfl 1 rfl ?_
    refine V.iald (v := oI (opn (d))) F d_M_batch_13 3 0 rfl rfl (by omega) (by decide) rfl ?_
    refine V.iconst F d_M_batch_14 (v := -1) (by decide) ?_
    refine V.icmp_eq (x := oI (opn (d))) (y := -1) (tgt := 20) F d_M_batch_15 (by decide) (fun c15 => ?_) (fun c15 => ?_)
    · skip
      exact absurd (show nI b0 = -1 by rw [ho] at c15; exact c15) (nI_nm1 hb0)
    · skip
      refine V.iconst F d_M_batch_18 (v := -1) (by decide) ?_
      exact V.iret F hr d_M_batch_19 (⟨rfl, rfl⟩)

set_option maxHeartbeats 4000000 in
set_option maxRecDepth 100000 in
theorem m_batchFull (l : Launch) (D : va_G) {ct : Nat → ClassId} {mo : Nat → Nat} {nd : Nat} {nb : Nat} {nf : Nat} {bdk : Nat → Nat} {num : Nat → Nat} {thg : Nat → Nat} {knd : Nat → Nat} {dy : Nat → Nat} {val : Nat → Int64} {tim : Nat → Nat} {rep : Nat → Nat → Bool} {kn : Nat → Nat → Bool} {clk : Nat → Nat} {tol : Nat → Nat} {opn : Nat → Option Nat} {bof : Nat → Option Nat} {std : Nat → Bool} {xd : Int64} (hnd : nd ≤ 8) (d : Nat) (hd0 : d < nd) (ho : opn d = none) (hnb : nb = 40) : CI l y_M_batch b_M_batch 2 (some .int) (rmK 1 0 0) D (tyL ct) (MW ct mo nd nb nf bdk num thg knd dy val tim rep kn clk tol opn bof std xd) [.ref (mo 0), .int (nI (d))] 0 0 (fun r u => r = -2 ∧ u = MW ct mo nd nb nf bdk num thg knd dy val tim rep kn clk tol opn bof std xd) := by
  refine CI.start (by decide) (Nat.le_of_ble_eq_true rfl) ?_
  intro p e s m below meth c F hr hnm
  show V p l e (rmK 1 0 0) s m [.ref (mo 0), .int (nI (d))].toArray below meth c D (va_A (MW ct mo nd nb nf bdk num thg knd dy val tim rep kn clk tol opn bof std xd) s.heap.size) 2 0 0 (EI D below (MW ct mo nd nb nf bdk num thg knd dy val tim rep kn clk tol opn bof std xd) [.ref (mo 0), .int (nI (d))].toArray s 0 0 (fun r u => r = -2 ∧ u = MW ct mo nd nb nf bdk num thg knd dy val tim rep kn clk tol opn bof std xd)) (MW ct mo nd nb nf bdk num thg knd dy val tim rep kn clk tol opn bof std xd) [(0, .ref (mo 0)), (1, .int (nI (d)))] 0 []
  refine V.aload_n F d_M_batch_0 rfl 0 rfl ?_
  refine V.iload_n F d_M_batch_1 rfl 1 rfl ?_
  refine V.callVI0 (As := [.int (nI (d))]) (rest := []) F (m_isDesk l D hnd d hd0) d_M_batch_2 sv_M_62 im_y_M_isDesk sl_y_M_isDesk 0 rfl rfl rfl rfl rfl (Nat.le_of_ble_eq_true rfl) ⟨rfl, rfl, (Nat.le_of_ble_eq_true rfl), (Nat.le_of_ble_eq_true rfl)⟩ ⟨(Nat.le_of_ble_eq_true rfl), (Nat.le_of_ble_eq_true rfl)⟩ (fun r9 u9 h9 => ?_)
  obtain ⟨rfl, rfl⟩ := h9
  refine V.if_eqB (b := true) (tgt := 18) F d_M_batch_5 (by decide) (fun c5 => ?_) (fun c5 => ?_)
  · skip
    exact absurd c5 (by decide)
  · skip
    refine V.aload_n F d_M_batch_8 rfl 0 rfl ?_
    refine V.get F ck_M d_M_batch_9 3 (by decide) lk_M_17 0 rfl rfl ?_
    refine V.iload_n F d_M_batch_12 rfl 1 rfl ?_
    refine V.iald (v := oI (opn (d))) F d_M_batch_13 3 0 rfl rfl (by omega) (by decide) rfl ?_
    refine V.iconst F d_M_batch_14 (v := -1) (by decide) ?_
    refine V.icmp_eq (x := oI (opn (d))) (y := -1) (tgt := 20) F d_M_batch_15 (by decide) (fun c15 => ?_) (fun c15 => ?_)
    · skip
      refine V.aload_n F d_M_batch_20 rfl 0 rfl ?_
      refine V.get F ck_M d_M_batch_21 15 (by decide) lk_M_108 0 rfl rfl ?_
      refine V.bipush F d_M_batch_24 (v := nI (40)) (by decide) ?_
      refine V.icmp_neN (tgt := 32) F d_M_batch_26 (by decide) (by omega) (by omega) (fun c26 => ?_) (fun c26 => ?_)
      · skip
        exact absurd hnb c26
      · skip
        refine V.bipush F d_M_batch_29 (v := -2) (by decide) ?_
        exact V.iret F hr d_M_batch_31 (⟨rfl, rfl⟩)
    · skip
      exact absurd (by rw [ho]; rfl) c15

set_option maxHeartbeats 4000000 in
set_option maxRecDepth 100000 in
theorem m_batch (l : Launch) (D : va_G) {ct : Nat → ClassId} {mo : Nat → Nat} {nd : Nat} {nb : Nat} {nf : Nat} {bdk : Nat → Nat} {num : Nat → Nat} {thg : Nat → Nat} {knd : Nat → Nat} {dy : Nat → Nat} {val : Nat → Int64} {tim : Nat → Nat} {rep : Nat → Nat → Bool} {kn : Nat → Nat → Bool} {clk : Nat → Nat} {tol : Nat → Nat} {opn : Nat → Option Nat} {bof : Nat → Option Nat} {std : Nat → Bool} {xd : Int64} (hnd : nd ≤ 8) (d : Nat) (hd0 : d < nd) (ho : opn d = none) (hnb : nb < 40) : CI l y_M_batch b_M_batch 2 (some .int) (rmK 1 0 0) D (tyL ct) (MW ct mo nd nb nf bdk num thg knd dy val tim rep kn clk tol opn bof std xd) [.ref (mo 0), .int (nI (d))] 0 0 (fun r u => r = nI nb ∧ u = MW ct mo nd (nb + 1) nf (va_up bdk nb d) num thg knd dy val tim rep kn clk tol (va_up opn d (some nb)) bof std xd) := by
  refine CI.start (by decide) (Nat.le_of_ble_eq_true rfl) ?_
  intro p e s m below meth c F hr hnm
  show V p l e (rmK 1 0 0) s m [.ref (mo 0), .int (nI (d))].toArray below meth c D (va_A (MW ct mo nd nb nf bdk num thg knd dy val tim rep kn clk tol opn bof std xd) s.heap.size) 2 0 0 (EI D below (MW ct mo nd nb nf bdk num thg knd dy val tim rep kn clk tol opn bof std xd) [.ref (mo 0), .int (nI (d))].toArray s 0 0 (fun r u => r = nI nb ∧ u = MW ct mo nd (nb + 1) nf (va_up bdk nb d) num thg knd dy val tim rep kn clk tol (va_up opn d (some nb)) bof std xd)) (MW ct mo nd nb nf bdk num thg knd dy val tim rep kn clk tol opn bof std xd) [(0, .ref (mo 0)), (1, .int (nI (d)))] 0 []
  refine V.aload_n F d_M_batch_0 rfl 0 rfl ?_
  refine V.iload_n F d_M_batch_1 rfl 1 rfl ?_
  refine V.callVI0 (As := [.int (nI (d))]) (rest := []) F (m_isDesk l D hnd d hd0) d_M_batch_2 sv_M_62 im_y_M_isDesk sl_y_M_isDesk 0 rfl rfl rfl rfl rfl (Nat.le_of_ble_eq_true rfl) ⟨rfl, rfl, (Nat.le_of_ble_eq_true rfl), (Nat.le_of_ble_eq_true rfl)⟩ ⟨(Nat.le_of_ble_eq_true rfl), (Nat.le_of_ble_eq_true rfl)⟩ (fun r9 u9 h9 => ?_)
  obtain ⟨rfl, rfl⟩ := h9
  refine V.if_eqB (b := true) (tgt := 18) F d_M_batch_5 (by decide) (fun c5 => ?_) (fun c5 => ?_)
  · skip
    exact absurd c5 (by decide)
  · skip
    refine V.aload_n F d_M_batch_8 rfl 0 rfl ?_
    refine V.get F ck_M d_M_batch_9 3 (by decide) lk_M_17 0 rfl rfl ?_
    refine V.iload_n F d_M_batch_12 rfl 1 rfl ?_
    refine V.iald (v := oI (opn (d))) F d_M_batch_13 3 0 rfl rfl (by omega) (by decide) rfl ?_
    refine V.iconst F d_M_batch_14 (v := -1) (by decide) ?_
    refine V.icmp_eq (x := oI (opn (d))) (y := -1) (tgt := 20) F d_M_batch_15 (by decide) (fun c15 => ?_) (fun c15 => ?_)
    · skip
      refine V.aload_n F d_M_batch_20 rfl 0 rfl ?_
      refine V.get F ck_M d_M_batch_21 15 (by decide) lk_M_108 0 rfl rfl ?_
      refine V.bipush F d_M_batch_24 (v := nI (40)) (by decide) ?_
      refine V.icmp_neN (tgt := 32) F d_M_batch_26 (by decide) (by omega) (by omega) (fun c26 => ?_) (fun c26 => ?_)
      · skip
        refine V.aload_n F d_M_batch_32 rfl 0 rfl ?_
        refine V.get F ck_M d_M_batch_33 14 (by decide) lk_M_49 0 rfl rfl ?_
        refine V.aload_n F d_M_batch_36 rfl 0 rfl ?_
        refine V.get F ck_M d_M_batch_37 15 (by decide) lk_M_108 0 rfl rfl ?_
        refine V.iload_n F d_M_batch_40 rfl 1 rfl ?_
        refine V.iast (ws2 := MW ct mo nd nb nf (va_up bdk (nb) (d)) num thg knd dy val tim rep kn clk tol opn bof std xd) F d_M_batch_41 13 0 rfl rfl (by omega) (by decide) (by rw [upd_nF]; exact mw_set_bdk) ?_
        refine V.aload_n F d_M_batch_42 rfl 0 rfl ?_
        refine V.get F ck_M d_M_batch_43 3 (by decide) lk_M_17 0 rfl rfl ?_
        refine V.iload_n F d_M_batch_46 rfl 1 rfl ?_
        refine V.aload_n F d_M_batch_47 rfl 0 rfl ?_
        refine V.get F ck_M d_M_batch_48 15 (by decide) lk_M_108 0 rfl rfl ?_
        refine V.iast (ws2 := MW ct mo nd nb nf (va_up bdk (nb) (d)) num thg knd dy val tim rep kn clk tol (va_up opn (d) (some (nb))) bof std xd) F d_M_batch_51 3 0 rfl rfl (by omega) (by decide) (by show (MW ct mo nd nb nf (va_up bdk (nb) (d)) num thg knd dy val tim rep kn clk tol opn bof std xd).set _ (_, .inl (_, _, .inl (upd _ _ (oI (some (nb)))))) = _; rw [upd_oI]; exact mw_set_opn) ?_
        refine V.aload_n F d_M_batch_52 rfl 0 rfl ?_
        refine V.dup F d_M_batch_53 rfl ?_
        refine V.get F ck_M d_M_batch_54 15 (by decide) lk_M_108 0 rfl rfl ?_
        refine V.iconst F d_M_batch_57 (v := nI (1)) (by decide) ?_
        refine V.iaddN F d_M_batch_58 ?_
        refine V.put (ws2 := MW ct mo nd ((nb) + (1)) nf (va_up bdk (nb) (d)) num thg knd dy val tim rep kn clk tol (va_up opn (d) (some (nb))) bof std xd) F ck_M d_M_batch_59 15 (by decide) lk_M_108 0 rfl rfl rfl rfl (Nat.le_of_ble_eq_true rfl) mw_set_nb ?_
        refine V.aload_n F d_M_batch_62 rfl 0 rfl ?_
        refine V.get F ck_M d_M_batch_63 15 (by decide) lk_M_108 0 rfl rfl ?_
        refine V.iconst F d_M_batch_66 (v := nI (1)) (by decide) ?_
        refine V.isubN F d_M_batch_67 (by omega) ?_
        exact V.iret F hr d_M_batch_68 (⟨rfl, rfl⟩)
      · skip
        exact absurd c26 (by omega)
    · skip
      exact absurd (by rw [ho]; rfl) c15

set_option maxHeartbeats 4000000 in
set_option maxRecDepth 100000 in
theorem m_endNo (l : Launch) (D : va_G) {ct : Nat → ClassId} {mo : Nat → Nat} {nd : Nat} {nb : Nat} {nf : Nat} {bdk : Nat → Nat} {num : Nat → Nat} {thg : Nat → Nat} {knd : Nat → Nat} {dy : Nat → Nat} {val : Nat → Int64} {tim : Nat → Nat} {rep : Nat → Nat → Bool} {kn : Nat → Nat → Bool} {clk : Nat → Nat} {tol : Nat → Nat} {opn : Nat → Option Nat} {bof : Nat → Option Nat} {std : Nat → Bool} {xd : Int64} (x : Int32) (hx : x < 0 ∨ nI nb ≤ x) : CI l y_M_endBatch b_M_endBatch 4 (some .boolean) (rmK 0 0 0) D (tyL ct) (MW ct mo nd nb nf bdk num thg knd dy val tim rep kn clk tol opn bof std xd) [.ref (mo 0), .int (x)] 0 0 (fun r u => r = bI false ∧ u = MW ct mo nd nb nf bdk num thg knd dy val tim rep kn clk tol opn bof std xd) := by
  refine CI.start (by decide) (Nat.le_of_ble_eq_true rfl) ?_
  intro p e s m below meth c F hr hnm
  show V p l e (rmK 0 0 0) s m [.ref (mo 0), .int (x)].toArray below meth c D (va_A (MW ct mo nd nb nf bdk num thg knd dy val tim rep kn clk tol opn bof std xd) s.heap.size) 4 0 0 (EI D below (MW ct mo nd nb nf bdk num thg knd dy val tim rep kn clk tol opn bof std xd) [.ref (mo 0), .int (x)].toArray s 0 0 (fun r u => r = bI false ∧ u = MW ct mo nd nb nf bdk num thg knd dy val tim rep kn clk tol opn bof std xd)) (MW ct mo nd nb nf bdk num thg knd dy val tim rep kn clk tol opn bof std xd) [(0, .ref (mo 0)), (1, .int (x))] 0 []
  refine V.iload_n F d_M_endBatch_0 rfl 1 rfl ?_
  refine V.if_lt (x := x) (tgt := 27) F d_M_endBatch_1 (by decide) (fun c1 => ?_) (fun c1 => ?_)
  · skip
    refine V.iconst F d_M_endBatch_27 (v := nI (0)) (by decide) ?_
    exact V.zret F hr (nar_0) d_M_endBatch_28 (⟨bI_f, rfl⟩)
  · skip
    refine V.iload_n F d_M_endBatch_4 rfl 1 rfl ?_
    refine V.aload_n F d_M_endBatch_5 rfl 0 rfl ?_
    refine V.get F ck_M d_M_endBatch_6 15 (by decide) lk_M_108 0 rfl rfl ?_
    refine V.icmp_ge (x := x) (y := nI (nb)) (tgt := 27) F d_M_endBatch_9 (by decide) (fun c9 => ?_) (fun c9 => ?_)
    · skip
      refine V.iconst F d_M_endBatch_27 (v := nI (0)) (by decide) ?_
      exact V.zret F hr (nar_0) d_M_endBatch_28 (⟨bI_f, rfl⟩)
    · skip
      exact absurd c9 (fun q => hx.elim c1 (fun z => q z))

set_option maxHeartbeats 4000000 in
set_option maxRecDepth 100000 in
theorem m_endOld (l : Launch) (D : va_G) {ct : Nat → ClassId} {mo : Nat → Nat} {nd : Nat} {nb : Nat} {nf : Nat} {bdk : Nat → Nat} {num : Nat → Nat} {thg : Nat → Nat} {knd : Nat → Nat} {dy : Nat → Nat} {val : Nat → Int64} {tim : Nat → Nat} {rep : Nat → Nat → Bool} {kn : Nat → Nat → Bool} {clk : Nat → Nat} {tol : Nat → Nat} {opn : Nat → Option Nat} {bof : Nat → Option Nat} {std : Nat → Bool} {xd : Int64} (b0 : Nat) (hb0 : b0 < nb) (hnb : nb ≤ 40) (hbd : bdk b0 < nd) (hnd : nd ≤ 8) (hob : ∀ g, opn (bdk b0) = some g → g < 2 ^ 31) (ho : ¬ opn (bdk b0) = some b0) : CI l y_M_endBatch b_M_endBatch 4 (some .boolean) (rmK 0 0 0) D (tyL ct) (MW ct mo nd nb nf bdk num thg knd dy val tim rep kn clk tol opn bof std xd) [.ref (mo 0), .int (nI (b0))] 0 0 (fun r u => r = bI false ∧ u = MW ct mo nd nb nf bdk num thg knd dy val tim rep kn clk tol opn bof std xd) := by
  refine CI.start (by decide) (Nat.le_of_ble_eq_true rfl) ?_
  intro p e s m below meth c F hr hnm
  show V p l e (rmK 0 0 0) s m [.ref (mo 0), .int (nI (b0))].toArray below meth c D (va_A (MW ct mo nd nb nf bdk num thg knd dy val tim rep kn clk tol opn bof std xd) s.heap.size) 4 0 0 (EI D below (MW ct mo nd nb nf bdk num thg knd dy val tim rep kn clk tol opn bof std xd) [.ref (mo 0), .int (nI (b0))].toArray s 0 0 (fun r u => r = bI false ∧ u = MW ct mo nd nb nf bdk num thg knd dy val tim rep kn clk tol opn bof std xd)) (MW ct mo nd nb nf bdk num thg knd dy val tim rep kn clk tol opn bof std xd) [(0, .ref (mo 0)), (1, .int (nI (b0)))] 0 []
  refine V.iload_n F d_M_endBatch_0 rfl 1 rfl ?_
  refine V.if_lt (x := nI (b0)) (tgt := 27) F d_M_endBatch_1 (by decide) (fun c1 => ?_) (fun c1 => ?_)
  · skip
    exact absurd c1 (nI_pos (by omega))
  · skip
    refine V.iload_n F d_M_endBatch_4 rfl 1 rfl ?_
    refine V.aload_n F d_M_endBatch_5 rfl 0 rfl ?_
    refine V.get F ck_M d_M_endBatch_6 15 (by decide) lk_M_108 0 rfl rfl ?_
    refine V.icmp_geN (tgt := 27) F d_M_endBatch_9 (by decide) (by omega) (by omega) (fun c9 => ?_) (fun c9 => ?_)
    · skip
      exact absurd c9 (by omega)
    · skip
      refine V.aload_n F d_M_endBatch_12 rfl 0 rfl ?_
      refine V.get F ck_M d_M_endBatch_13 3 (by decide) lk_M_17 0 rfl rfl ?_
      refine V.aload_n F d_M_endBatch_16 rfl 0 rfl ?_
      refine V.get F ck_M d_M_endBatch_17 14 (by decide) lk_M_49 0 rfl rfl ?_
      refine V.iload_n F d_M_endBatch_20 rfl 1 rfl ?_
      refine V.iald (v := nI (bdk (b0))) F d_M_endBatch_21 13 0 rfl rfl (by omega) (by decide) rfl ?_
      refine V.iald (v := oI (opn (bdk (b0)))) F d_M_endBatch_22 3 0 rfl rfl (by omega) (by decide) rfl ?_
      refine V.iload_n F d_M_endBatch_23 rfl 1 rfl ?_
      refine V.icmp_eq (x := oI (opn (bdk (b0)))) (y := nI (b0)) (tgt := 29) F d_M_endBatch_24 (by decide) (fun c24 => ?_) (fun c24 => ?_)
      · skip
        exact absurd ((oI_eq hob (by omega)).mp c24) ho
      · skip
        refine V.iconst F d_M_endBatch_27 (v := nI (0)) (by decide) ?_
        exact V.zret F hr (nar_0) d_M_endBatch_28 (⟨bI_f, rfl⟩)

set_option maxHeartbeats 4000000 in
set_option maxRecDepth 100000 in
theorem m_end (l : Launch) (D : va_G) {ct : Nat → ClassId} {mo : Nat → Nat} {nd : Nat} {nb : Nat} {nf : Nat} {bdk : Nat → Nat} {num : Nat → Nat} {thg : Nat → Nat} {knd : Nat → Nat} {dy : Nat → Nat} {val : Nat → Int64} {tim : Nat → Nat} {rep : Nat → Nat → Bool} {kn : Nat → Nat → Bool} {clk : Nat → Nat} {tol : Nat → Nat} {opn : Nat → Option Nat} {bof : Nat → Option Nat} {std : Nat → Bool} {xd : Int64} (hnf : nf ≤ 300) (b0 : Nat) (hb0 : b0 < nb) (hnb : nb ≤ 40) (hbd : bdk b0 < nd) (hnd : nd ≤ 8) (hob : ∀ g, opn (bdk b0) = some g → g < 2 ^ 31) (ho : opn (bdk b0) = some b0) (hbf : ∀ k, k < nf → ∀ g, bof k = some g → g < 2 ^ 31) : CI l y_M_endBatch b_M_endBatch 4 (some .boolean) (rmK 0 0 0) D (tyL ct) (MW ct mo nd nb nf bdk num thg knd dy val tim rep kn clk tol opn bof std xd) [.ref (mo 0), .int (nI (b0))] 0 0 (fun r u => r = bI true ∧ u = MW ct mo nd nb nf bdk num thg knd dy val tim rep (en kn bof (bdk b0) nf b0) clk tol (va_up opn (bdk b0) none) bof std xd) := by
  refine CI.start (by decide) (Nat.le_of_ble_eq_true rfl) ?_
  intro p e s m below meth c F hr hnm
  show V p l e (rmK 0 0 0) s m [.ref (mo 0), .int (nI (b0))].toArray below meth c D (va_A (MW ct mo nd nb nf bdk num thg knd dy val tim rep kn clk tol opn bof std xd) s.heap.size) 4 0 0 (EI D below (MW ct mo nd nb nf bdk num thg knd dy val tim rep kn clk tol opn bof std xd) [.ref (mo 0), .int (nI (b0))].toArray s 0 0 (fun r u => r = bI true ∧ u = MW ct mo nd nb nf bdk num thg knd dy val tim rep (en kn bof (bdk b0) nf b0) clk tol (va_up opn (bdk b0) none) bof std xd)) (MW ct mo nd nb nf bdk num thg knd dy val tim rep kn clk tol opn bof std xd) [(0, .ref (mo 0)), (1, .int (nI (b0)))] 0 []
  refine V.iload_n F d_M_endBatch_0 rfl 1 rfl ?_
  refine V.if_lt (x := nI (b0)) (tgt := 27) F d_M_endBatch_1 (by decide) (fun c1 => ?_) (fun c1 => ?_)
  · skip
    exact absurd c1 (nI_pos (by omega))
  · skip
    refine V.iload_n F d_M_endBatch_4 rfl 1 rfl ?_
    refine V.aload_n F d_M_endBatch_5 rfl 0 rfl ?_
    refine V.get F ck_M d_M_endBatch_6 15 (by decide) lk_M_108 0 rfl rfl ?_
    refine V.icmp_geN (tgt := 27) F d_M_endBatch_9 (by decide) (by omega) (by omega) (fun c9 => ?_) (fun c9 => ?_)
    · skip
      exact absurd c9 (by omega)
    · skip
      refine V.aload_n F d_M_endBatch_12 rfl 0 rfl ?_
      refine V.get F ck_M d_M_endBatch_13 3 (by decide) lk_M_17 0 rfl rfl ?_
      refine V.aload_n F d_M_endBatch_16 rfl 0 rfl ?_
      refine V.get F ck_M d_M_endBatch_17 14 (by decide) lk_M_49 0 rfl rfl ?_
      refine V.iload_n F d_M_endBatch_20 rfl 1 rfl ?_
      refine V.iald (v := nI (bdk (b0))) F d_M_endBatch_21 13 0 rfl rfl (by omega) (by decide) rfl ?_
      refine V.iald (v := oI (opn (bdk (b0)))) F d_M_endBatch_22 3 0 rfl rfl (by omega) (by decide) rfl ?_
      refine V.iload_n F d_M_endBatch_23 rfl 1 rfl ?_
      refine V.icmp_eq (x := oI (opn (bdk (b0)))) (y := nI (b0)) (tgt := 29) F d_M_endBatch_24 (by decide) (fun c24 => ?_) (fun c24 => ?_)
      · skip
        refine V.aload_n F d_M_endBatch_29 rfl 0 rfl ?_
        refine V.get F ck_M d_M_endBatch_30 14 (by decide) lk_M_49 0 rfl rfl ?_
        refine V.iload_n F d_M_endBatch_33 rfl 1 rfl ?_
        refine V.iald (v := nI (bdk (b0))) F d_M_endBatch_34 13 0 rfl rfl (by omega) (by decide) rfl ?_
        refine V.istore_n (lv2 := [(2, .int (nI (bdk (b0)))), (0, .ref (mo 0)), (1, .int (nI (b0)))]) F d_M_endBatch_35 rfl (by decide) rfl ?_
        refine V.aload_n F d_M_endBatch_36 rfl 1 rfl ?_
        refine V.get F ck_M d_M_endBatch_37 3 (by decide) lk_M_17 0 rfl rfl ?_
        refine V.iload_n F d_M_endBatch_40 rfl 0 rfl ?_
        refine V.iconst F d_M_endBatch_41 (v := -1) (by decide) ?_
        refine V.iast (ws2 := MW ct mo nd nb nf bdk num thg knd dy val tim rep kn clk tol (va_up opn (bdk (b0)) (none)) bof std xd) F d_M_endBatch_42 3 0 rfl rfl (by omega) (by decide) (by show (MW ct mo nd nb nf bdk num thg knd dy val tim rep kn clk tol opn bof std xd).set _ (_, .inl (_, _, .inl (upd _ _ (oI (none))))) = _; rw [upd_oI]; exact mw_set_opn) ?_
        refine V.iconst F d_M_endBatch_43 (v := nI (0)) (by decide) ?_
        refine V.istore_n (lv2 := [(3, .int (nI (0))), (2, .int (nI (bdk (b0)))), (0, .ref (mo 0)), (1, .int (nI (b0)))]) F d_M_endBatch_44 rfl (by decide) rfl ?_
        have L45 : ∀ (n9 : Nat) (i : Nat) (K : Nat → Nat → Bool), nf - i < n9 → (i ≤ nf) → (K = en kn bof (bdk b0) i b0) → V p l e (rmK 0 0 0) s m [.ref (mo 0), .int (nI (b0))].toArray below meth c D (va_A (MW ct mo nd nb nf bdk num thg knd dy val tim rep kn clk tol opn bof std xd) s.heap.size) 4 0 0 (EI D below (MW ct mo nd nb nf bdk num thg knd dy val tim rep kn clk tol opn bof std xd) [.ref (mo 0), .int (nI (b0))].toArray s 0 0 (fun r u => r = bI true ∧ u = MW ct mo nd nb nf bdk num thg knd dy val tim rep (en kn bof (bdk b0) nf b0) clk tol (va_up opn (bdk b0) none) bof std xd)) (MW ct mo nd nb nf bdk num thg knd dy val tim rep K clk tol (va_up opn (bdk b0) none) bof std xd) [(3, .int (nI (i))), (2, .int (nI (bdk (b0)))), (0, .ref (mo 0)), (1, .int (nI (b0)))] 45 [] := by
          intro n9
          induction n9 with
          | zero => intro i K h9 hi hK; exact absurd h9 (Nat.not_lt_zero _)
          | succ n9 ih45 =>
            intro i K h9 hi hK
            refine V.iload_n F d_M_endBatch_45 rfl 0 rfl ?_
            refine V.aload_n F d_M_endBatch_46 rfl 2 rfl ?_
            refine V.get F ck_M d_M_endBatch_47 13 (by decide) lk_M_59 0 rfl rfl ?_
            refine V.icmp_geN (tgt := 89) F d_M_endBatch_50 (by decide) (by omega) (by omega) (fun c50 => ?_) (fun c50 => ?_)
            · skip
              have e8 : i = nf := by omega
              rw [e8] at hK
              subst hK
              refine V.iconst F d_M_endBatch_89 (v := nI (1)) (by decide) ?_
              exact V.zret F hr (nar_1) d_M_endBatch_90 (⟨bI_t, rfl⟩)
            · skip
              refine V.aload_n F d_M_endBatch_53 rfl 2 rfl ?_
              refine V.get F ck_M d_M_endBatch_54 12 (by decide) lk_M_46 0 rfl rfl ?_
              refine V.iload_n F d_M_endBatch_57 rfl 1 rfl ?_
              refine V.sipush F d_M_endBatch_58 (v := nI (300)) (by decide) ?_
              refine V.imulN F d_M_endBatch_61 ?_
              refine V.iload_n F d_M_endBatch_62 rfl 0 rfl ?_
              refine V.iaddN F d_M_endBatch_63 ?_
              refine V.dup2_11 F d_M_endBatch_64 rfl rfl ?_
              refine V.zald (v := bI (K (bdk (b0)) (i))) F d_M_endBatch_65 12 3 rfl rfl (by omega) (by decide) (kn_at (by omega)) ?_
              refine V.aload_n F d_M_endBatch_66 rfl 2 rfl ?_
              refine V.get F ck_M d_M_endBatch_67 10 (by decide) lk_M_38 0 rfl rfl ?_
              refine V.iload_n F d_M_endBatch_70 rfl 0 rfl ?_
              refine V.iald (v := oI (bof (i))) F d_M_endBatch_71 10 0 rfl rfl (by omega) (by decide) rfl ?_
              refine V.iload_n F d_M_endBatch_72 rfl 3 rfl ?_
              refine V.icmp_ne (x := oI (bof (i))) (y := nI (b0)) (tgt := 80) F d_M_endBatch_73 (by decide) (fun c73 => ?_) (fun c73 => ?_)
              · skip
                refine V.iconst F d_M_endBatch_80 (v := nI (0)) (by decide) ?_
                refine V.iorB (a := K (bdk (b0)) (i)) (b := false) F d_M_endBatch_81 ?_
                refine V.zast (b := K (bdk (b0)) (i) || false) (ws2 := MW ct mo nd nb nf bdk num thg knd dy val tim rep (up2 K (bdk (b0)) (i) (K (bdk (b0)) (i) || false)) clk tol (va_up opn (bdk b0) none) bof std xd) F d_M_endBatch_82 12 3 rfl rfl (by omega) (by decide) (by rw [kn_up (by omega)]; exact mw_set_kn) ?_
                refine V.iincN (k := 1) (lv2 := [(3, .int (nI (i + 1))), (2, .int (nI (bdk (b0)))), (0, .ref (mo 0)), (1, .int (nI (b0)))]) F d_M_endBatch_83 0 rfl (by decide) (by decide) rfl ?_
                refine V.goto (tgt := 45) F d_M_endBatch_86 (by decide) ?_
                exact ih45 (i + 1) (up2 K (bdk b0) i (K (bdk b0) i || false)) (by omega) (by omega) (by rw [hK]; exact en_step (decide_eq_false (fun q => c73 ((oI_eq (hbf i (by omega)) (by omega)).mpr q))).symm)
              · skip
                refine V.iconst F d_M_endBatch_76 (v := nI (1)) (by decide) ?_
                refine V.goto (tgt := 81) F d_M_endBatch_77 (by decide) ?_
                refine V.iorB (a := K (bdk (b0)) (i)) (b := true) F d_M_endBatch_81 ?_
                refine V.zast (b := K (bdk (b0)) (i) || true) (ws2 := MW ct mo nd nb nf bdk num thg knd dy val tim rep (up2 K (bdk (b0)) (i) (K (bdk (b0)) (i) || true)) clk tol (va_up opn (bdk b0) none) bof std xd) F d_M_endBatch_82 12 3 rfl rfl (by omega) (by decide) (by rw [kn_up (by omega)]; exact mw_set_kn) ?_
                refine V.iincN (k := 1) (lv2 := [(3, .int (nI (i + 1))), (2, .int (nI (bdk (b0)))), (0, .ref (mo 0)), (1, .int (nI (b0)))]) F d_M_endBatch_83 0 rfl (by decide) (by decide) rfl ?_
                refine V.goto (tgt := 45) F d_M_endBatch_86 (by decide) ?_
                exact ih45 (i + 1) (up2 K (bdk b0) i (K (bdk b0) i || true)) (by omega) (by omega) (by rw [hK]; exact en_step (decide_eq_true ((oI_eq (hbf i (by omega)) (by omega)).mp c73)).symm)
        exact L45 _ (0) (kn) (Nat.lt_succ_self _) (by omega) (en_0 kn bof (bdk b0) b0)
      · skip
        exact absurd ((oI_eq hob (by omega)).mpr ho) c24
end
