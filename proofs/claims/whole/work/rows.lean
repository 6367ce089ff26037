section
def lw_okq (q : MethodName × Nat) : Prop := (q.1.cls ≠ "java/lang/invoke/MethodHandle" ∧ q.1.cls ≠ "java/lang/invoke/VarHandle") ∧ Cond.instantiable q.1.cls q.2 ∈ tables_1 ∧ Cond.privateMethod q.1 ∈ tables_1 ∧ Cond.instanceMethod q.1 ∈ tables_1
theorem lw_p0 : lw_okq (⟨"ToldFacts", "deskAt", "(I)LToldFacts$Desk;"⟩, 6) := ⟨⟨by decide +kernel, by decide +kernel⟩, List.mem_of_getElem? (i := 10) (by decide +kernel), List.mem_of_getElem? (i := 122) (by decide +kernel), List.mem_of_getElem? (i := 123) (by decide +kernel)⟩
theorem lw_p1 : lw_okq (⟨"ToldFacts$FactSet", "clear", "()V"⟩, 1) := ⟨⟨by decide +kernel, by decide +kernel⟩, List.mem_of_getElem? (i := 56) (by decide +kernel), List.mem_of_getElem? (i := 130) (by decide +kernel), List.mem_of_getElem? (i := 131) (by decide +kernel)⟩
theorem lw_p2 : lw_okq (⟨"ToldFacts", "tellReplacing", "(LToldFacts$Desk;IJLToldFacts$FactSet;)I"⟩, 6) := ⟨⟨by decide +kernel, by decide +kernel⟩, List.mem_of_getElem? (i := 10) (by decide +kernel), List.mem_of_getElem? (i := 138) (by decide +kernel), List.mem_of_getElem? (i := 139) (by decide +kernel)⟩
theorem lw_p3 : lw_okq (⟨"ToldFacts$Desk", "nextNumber", "()I"⟩, 6) := ⟨⟨by decide +kernel, by decide +kernel⟩, List.mem_of_getElem? (i := 89) (by decide +kernel), List.mem_of_getElem? (i := 142) (by decide +kernel), List.mem_of_getElem? (i := 143) (by decide +kernel)⟩
theorem lw_p4 : lw_okq (⟨"ToldFacts$Desk", "nextTime", "()I"⟩, 6) := ⟨⟨by decide +kernel, by decide +kernel⟩, List.mem_of_getElem? (i := 89) (by decide +kernel), List.mem_of_getElem? (i := 146) (by decide +kernel), List.mem_of_getElem? (i := 147) (by decide +kernel)⟩
theorem lw_p5 : lw_okq (⟨"ToldFacts$Facts", "append", "(IIJILToldFacts$FactSet;)I"⟩, 8) := ⟨⟨by decide +kernel, by decide +kernel⟩, List.mem_of_getElem? (i := 20) (by decide +kernel), List.mem_of_getElem? (i := 150) (by decide +kernel), List.mem_of_getElem? (i := 151) (by decide +kernel)⟩
theorem lw_p6 : lw_okq (⟨"ToldFacts$FactSet", "has", "(I)Z"⟩, 1) := ⟨⟨by decide +kernel, by decide +kernel⟩, List.mem_of_getElem? (i := 56) (by decide +kernel), List.mem_of_getElem? (i := 154) (by decide +kernel), List.mem_of_getElem? (i := 155) (by decide +kernel)⟩
theorem lw_p7 : lw_okq (⟨"ToldFacts$Desk", "hear", "(I)V"⟩, 6) := ⟨⟨by decide +kernel, by decide +kernel⟩, List.mem_of_getElem? (i := 89) (by decide +kernel), List.mem_of_getElem? (i := 161) (by decide +kernel), List.mem_of_getElem? (i := 162) (by decide +kernel)⟩
theorem lw_p8 : lw_okq (⟨"ToldFacts$FactSet", "add", "(I)V"⟩, 1) := ⟨⟨by decide +kernel, by decide +kernel⟩, List.mem_of_getElem? (i := 56) (by decide +kernel), List.mem_of_getElem? (i := 165) (by decide +kernel), List.mem_of_getElem? (i := 166) (by decide +kernel)⟩
theorem lw_p9 : lw_okq (⟨"ToldFacts$Facts", "withNumber", "(I)I"⟩, 8) := ⟨⟨by decide +kernel, by decide +kernel⟩, List.mem_of_getElem? (i := 20) (by decide +kernel), List.mem_of_getElem? (i := 173) (by decide +kernel), List.mem_of_getElem? (i := 174) (by decide +kernel)⟩
theorem lw_p10 : lw_okq (⟨"ToldFacts$Facts", "standsAmong", "(LToldFacts$FactSet;I)Z"⟩, 8) := ⟨⟨by decide +kernel, by decide +kernel⟩, List.mem_of_getElem? (i := 20) (by decide +kernel), List.mem_of_getElem? (i := 177) (by decide +kernel), List.mem_of_getElem? (i := 178) (by decide +kernel)⟩
theorem lw_p11 : lw_okq (⟨"ToldFacts$Desk", "learnFrom", "(LToldFacts$Desk;)V"⟩, 6) := ⟨⟨by decide +kernel, by decide +kernel⟩, List.mem_of_getElem? (i := 89) (by decide +kernel), List.mem_of_getElem? (i := 186) (by decide +kernel), List.mem_of_getElem? (i := 187) (by decide +kernel)⟩
theorem lw_p12 : lw_okq (⟨"ToldFacts$FactSet", "addAll", "(LToldFacts$FactSet;)V"⟩, 1) := ⟨⟨by decide +kernel, by decide +kernel⟩, List.mem_of_getElem? (i := 56) (by decide +kernel), List.mem_of_getElem? (i := 190) (by decide +kernel), List.mem_of_getElem? (i := 191) (by decide +kernel)⟩
theorem lw_p13 : lw_okq (⟨"ToldFacts$Facts", "countConflicts", "(LToldFacts$FactSet;)I"⟩, 8) := ⟨⟨by decide +kernel, by decide +kernel⟩, List.mem_of_getElem? (i := 20) (by decide +kernel), List.mem_of_getElem? (i := 197) (by decide +kernel), List.mem_of_getElem? (i := 198) (by decide +kernel)⟩
theorem lw_p14 : lw_okq (⟨"ToldFacts$Facts", "isFirstOfSpot", "(I)Z"⟩, 8) := ⟨⟨by decide +kernel, by decide +kernel⟩, List.mem_of_getElem? (i := 20) (by decide +kernel), List.mem_of_getElem? (i := 201) (by decide +kernel), List.mem_of_getElem? (i := 202) (by decide +kernel)⟩
theorem lw_p15 : lw_okq (⟨"ToldFacts$Facts", "isConflictFrom", "(ILToldFacts$FactSet;)Z"⟩, 8) := ⟨⟨by decide +kernel, by decide +kernel⟩, List.mem_of_getElem? (i := 20) (by decide +kernel), List.mem_of_getElem? (i := 205) (by decide +kernel), List.mem_of_getElem? (i := 206) (by decide +kernel)⟩
def lw_privs_1 : List (MethodName × Nat) := [(⟨"ToldFacts", "deskAt", "(I)LToldFacts$Desk;"⟩, 6), (⟨"ToldFacts$FactSet", "clear", "()V"⟩, 1), (⟨"ToldFacts", "tellReplacing", "(LToldFacts$Desk;IJLToldFacts$FactSet;)I"⟩, 6), (⟨"ToldFacts$Desk", "nextNumber", "()I"⟩, 6), (⟨"ToldFacts$Desk", "nextTime", "()I"⟩, 6), (⟨"ToldFacts$Facts", "append", "(IIJILToldFacts$FactSet;)I"⟩, 8), (⟨"ToldFacts$FactSet", "has", "(I)Z"⟩, 1), (⟨"ToldFacts$Desk", "hear", "(I)V"⟩, 6), (⟨"ToldFacts$FactSet", "add", "(I)V"⟩, 1), (⟨"ToldFacts$Facts", "withNumber", "(I)I"⟩, 8), (⟨"ToldFacts$Facts", "standsAmong", "(LToldFacts$FactSet;I)Z"⟩, 8), (⟨"ToldFacts$Desk", "learnFrom", "(LToldFacts$Desk;)V"⟩, 6), (⟨"ToldFacts$FactSet", "addAll", "(LToldFacts$FactSet;)V"⟩, 1), (⟨"ToldFacts$Facts", "countConflicts", "(LToldFacts$FactSet;)I"⟩, 8), (⟨"ToldFacts$Facts", "isFirstOfSpot", "(I)Z"⟩, 8), (⟨"ToldFacts$Facts", "isConflictFrom", "(ILToldFacts$FactSet;)Z"⟩, 8)]
theorem lw_r1 : ∀ q ∈ lw_privs_1, lw_okq q := List.forall_mem_cons.mpr ⟨lw_p0, List.forall_mem_cons.mpr ⟨lw_p1, List.forall_mem_cons.mpr ⟨lw_p2, List.forall_mem_cons.mpr ⟨lw_p3, List.forall_mem_cons.mpr ⟨lw_p4, List.forall_mem_cons.mpr ⟨lw_p5, List.forall_mem_cons.mpr ⟨lw_p6, List.forall_mem_cons.mpr ⟨lw_p7, List.forall_mem_cons.mpr ⟨lw_p8, List.forall_mem_cons.mpr ⟨lw_p9, List.forall_mem_cons.mpr ⟨lw_p10, List.forall_mem_cons.mpr ⟨lw_p11, List.forall_mem_cons.mpr ⟨lw_p12, List.forall_mem_cons.mpr ⟨lw_p13, List.forall_mem_cons.mpr ⟨lw_p14, List.forall_mem_cons.mpr ⟨lw_p15, fun _ h => absurd h List.not_mem_nil⟩⟩⟩⟩⟩⟩⟩⟩⟩⟩⟩⟩⟩⟩⟩⟩
theorem lw_p16 : lw_okq (⟨"ToldFacts$Facts", "pickToldBy", "(JLToldFacts$FactSet;LToldFacts$FactSet;)V"⟩, 8) := ⟨⟨by decide +kernel, by decide +kernel⟩, List.mem_of_getElem? (i := 20) (by decide +kernel), List.mem_of_getElem? (i := 215) (by decide +kernel), List.mem_of_getElem? (i := 216) (by decide +kernel)⟩
theorem lw_p17 : lw_okq (⟨"ToldFacts$Facts", "latestStanding", "(LToldFacts$FactSet;IIJ)I"⟩, 8) := ⟨⟨by decide +kernel, by decide +kernel⟩, List.mem_of_getElem? (i := 20) (by decide +kernel), List.mem_of_getElem? (i := 221) (by decide +kernel), List.mem_of_getElem? (i := 222) (by decide +kernel)⟩
theorem lw_p18 : lw_okq (⟨"ToldFacts$Facts", "isLater", "(II)Z"⟩, 8) := ⟨⟨by decide +kernel, by decide +kernel⟩, List.mem_of_getElem? (i := 20) (by decide +kernel), List.mem_of_getElem? (i := 229) (by decide +kernel), List.mem_of_getElem? (i := 230) (by decide +kernel)⟩
theorem lw_p19 : lw_okq (⟨"ToldFacts$Facts", "conflictSpot", "(LToldFacts$FactSet;II)I"⟩, 8) := ⟨⟨by decide +kernel, by decide +kernel⟩, List.mem_of_getElem? (i := 20) (by decide +kernel), List.mem_of_getElem? (i := 237) (by decide +kernel), List.mem_of_getElem? (i := 238) (by decide +kernel)⟩
theorem lw_p20 : lw_okq (⟨"ToldFacts$Facts", "pickStanding", "(LToldFacts$FactSet;ILToldFacts$FactSet;)V"⟩, 8) := ⟨⟨by decide +kernel, by decide +kernel⟩, List.mem_of_getElem? (i := 20) (by decide +kernel), List.mem_of_getElem? (i := 241) (by decide +kernel), List.mem_of_getElem? (i := 242) (by decide +kernel)⟩
theorem lw_p21 : lw_okq (⟨"ToldFacts$FactSet", "size", "()I"⟩, 1) := ⟨⟨by decide +kernel, by decide +kernel⟩, List.mem_of_getElem? (i := 56) (by decide +kernel), List.mem_of_getElem? (i := 252) (by decide +kernel), List.mem_of_getElem? (i := 253) (by decide +kernel)⟩
theorem lw_p22 : lw_okq (⟨"ToldFacts$Facts", "inOrder", "(LToldFacts$FactSet;I)I"⟩, 8) := ⟨⟨by decide +kernel, by decide +kernel⟩, List.mem_of_getElem? (i := 20) (by decide +kernel), List.mem_of_getElem? (i := 262) (by decide +kernel), List.mem_of_getElem? (i := 263) (by decide +kernel)⟩
theorem lw_p23 : lw_okq (⟨"ToldFacts", "numberOrNone", "(I)I"⟩, 6) := ⟨⟨by decide +kernel, by decide +kernel⟩, List.mem_of_getElem? (i := 10) (by decide +kernel), List.mem_of_getElem? (i := 266) (by decide +kernel), List.mem_of_getElem? (i := 267) (by decide +kernel)⟩
theorem lw_p24 : lw_okq (⟨"ToldFacts$FactSet", "isSameAs", "(LToldFacts$FactSet;)Z"⟩, 1) := ⟨⟨by decide +kernel, by decide +kernel⟩, List.mem_of_getElem? (i := 56) (by decide +kernel), List.mem_of_getElem? (i := 279) (by decide +kernel), List.mem_of_getElem? (i := 280) (by decide +kernel)⟩
theorem lw_p25 : lw_okq (⟨"ToldFacts$Desk", "learnPending", "()V"⟩, 6) := ⟨⟨by decide +kernel, by decide +kernel⟩, List.mem_of_getElem? (i := 89) (by decide +kernel), List.mem_of_getElem? (i := 291) (by decide +kernel), List.mem_of_getElem? (i := 292) (by decide +kernel)⟩
theorem lw_p26 : lw_okq (⟨"ToldFacts", "playTurn", "(LToldFacts$Draw;)V"⟩, 6) := ⟨⟨by decide +kernel, by decide +kernel⟩, List.mem_of_getElem? (i := 10) (by decide +kernel), List.mem_of_getElem? (i := 310) (by decide +kernel), List.mem_of_getElem? (i := 311) (by decide +kernel)⟩
theorem lw_p27 : lw_okq (⟨"ToldFacts$Draw", "below", "(I)I"⟩, 1) := ⟨⟨by decide +kernel, by decide +kernel⟩, List.mem_of_getElem? (i := 300) (by decide +kernel), List.mem_of_getElem? (i := 314) (by decide +kernel), List.mem_of_getElem? (i := 315) (by decide +kernel)⟩
theorem lw_p28 : lw_okq (⟨"ToldFacts$Facts", "pickEqual", "(LToldFacts$FactSet;IJLToldFacts$FactSet;)V"⟩, 8) := ⟨⟨by decide +kernel, by decide +kernel⟩, List.mem_of_getElem? (i := 20) (by decide +kernel), List.mem_of_getElem? (i := 329) (by decide +kernel), List.mem_of_getElem? (i := 330) (by decide +kernel)⟩
theorem lw_p29 : lw_okq (⟨"ToldFactsModel", "isDesk", "(I)Z"⟩, 18) := ⟨⟨by decide +kernel, by decide +kernel⟩, List.mem_of_getElem? (i := 335) (by decide +kernel), List.mem_of_getElem? (i := 406) (by decide +kernel), List.mem_of_getElem? (i := 407) (by decide +kernel)⟩
theorem lw_p30 : lw_okq (⟨"ToldFactsModel", "add", "(IIIJJ)I"⟩, 18) := ⟨⟨by decide +kernel, by decide +kernel⟩, List.mem_of_getElem? (i := 335) (by decide +kernel), List.mem_of_getElem? (i := 411) (by decide +kernel), List.mem_of_getElem? (i := 412) (by decide +kernel)⟩
theorem lw_p31 : lw_okq (⟨"ToldFactsModel", "place", "(I)I"⟩, 18) := ⟨⟨by decide +kernel, by decide +kernel⟩, List.mem_of_getElem? (i := 335) (by decide +kernel), List.mem_of_getElem? (i := 419) (by decide +kernel), List.mem_of_getElem? (i := 420) (by decide +kernel)⟩
def lw_privs_2 : List (MethodName × Nat) := [(⟨"ToldFacts$Facts", "pickToldBy", "(JLToldFacts$FactSet;LToldFacts$FactSet;)V"⟩, 8), (⟨"ToldFacts$Facts", "latestStanding", "(LToldFacts$FactSet;IIJ)I"⟩, 8), (⟨"ToldFacts$Facts", "isLater", "(II)Z"⟩, 8), (⟨"ToldFacts$Facts", "conflictSpot", "(LToldFacts$FactSet;II)I"⟩, 8), (⟨"ToldFacts$Facts", "pickStanding", "(LToldFacts$FactSet;ILToldFacts$FactSet;)V"⟩, 8), (⟨"ToldFacts$FactSet", "size", "()I"⟩, 1), (⟨"ToldFacts$Facts", "inOrder", "(LToldFacts$FactSet;I)I"⟩, 8), (⟨"ToldFacts", "numberOrNone", "(I)I"⟩, 6), (⟨"ToldFacts$FactSet", "isSameAs", "(LToldFacts$FactSet;)Z"⟩, 1), (⟨"ToldFacts$Desk", "learnPending", "()V"⟩, 6), (⟨"ToldFacts", "playTurn", "(LToldFacts$Draw;)V"⟩, 6), (⟨"ToldFacts$Draw", "below", "(I)I"⟩, 1), (⟨"ToldFacts$Facts", "pickEqual", "(LToldFacts$FactSet;IJLToldFacts$FactSet;)V"⟩, 8), (⟨"ToldFactsModel", "isDesk", "(I)Z"⟩, 18), (⟨"ToldFactsModel", "add", "(IIIJJ)I"⟩, 18), (⟨"ToldFactsModel", "place", "(I)I"⟩, 18)]
theorem lw_r2 : ∀ q ∈ lw_privs_2, lw_okq q := List.forall_mem_cons.mpr ⟨lw_p16, List.forall_mem_cons.mpr ⟨lw_p17, List.forall_mem_cons.mpr ⟨lw_p18, List.forall_mem_cons.mpr ⟨lw_p19, List.forall_mem_cons.mpr ⟨lw_p20, List.forall_mem_cons.mpr ⟨lw_p21, List.forall_mem_cons.mpr ⟨lw_p22, List.forall_mem_cons.mpr ⟨lw_p23, List.forall_mem_cons.mpr ⟨lw_p24, List.forall_mem_cons.mpr ⟨lw_p25, List.forall_mem_cons.mpr ⟨lw_p26, List.forall_mem_cons.mpr ⟨lw_p27, List.forall_mem_cons.mpr ⟨lw_p28, List.forall_mem_cons.mpr ⟨lw_p29, List.forall_mem_cons.mpr ⟨lw_p30, List.forall_mem_cons.mpr ⟨lw_p31, fun _ h => absurd h List.not_mem_nil⟩⟩⟩⟩⟩⟩⟩⟩⟩⟩⟩⟩⟩⟩⟩⟩
theorem lw_p32 : lw_okq (⟨"ToldFactsModel", "look", "(I)V"⟩, 18) := ⟨⟨by decide +kernel, by decide +kernel⟩, List.mem_of_getElem? (i := 335) (by decide +kernel), List.mem_of_getElem? (i := 423) (by decide +kernel), List.mem_of_getElem? (i := 424) (by decide +kernel)⟩
theorem lw_p33 : lw_okq (⟨"ToldFactsModel", "conflicts", "(I)I"⟩, 18) := ⟨⟨by decide +kernel, by decide +kernel⟩, List.mem_of_getElem? (i := 335) (by decide +kernel), List.mem_of_getElem? (i := 431) (by decide +kernel), List.mem_of_getElem? (i := 432) (by decide +kernel)⟩
theorem lw_p34 : lw_okq (⟨"ToldFactsModel", "isFirstOfConflict", "(I)Z"⟩, 18) := ⟨⟨by decide +kernel, by decide +kernel⟩, List.mem_of_getElem? (i := 335) (by decide +kernel), List.mem_of_getElem? (i := 435) (by decide +kernel), List.mem_of_getElem? (i := 436) (by decide +kernel)⟩
theorem lw_p35 : lw_okq (⟨"ToldFactsModel", "areOne", "(II)Z"⟩, 18) := ⟨⟨by decide +kernel, by decide +kernel⟩, List.mem_of_getElem? (i := 335) (by decide +kernel), List.mem_of_getElem? (i := 439) (by decide +kernel), List.mem_of_getElem? (i := 440) (by decide +kernel)⟩
theorem lw_p36 : lw_okq (⟨"ToldFactsModel", "isBefore", "(II)Z"⟩, 18) := ⟨⟨by decide +kernel, by decide +kernel⟩, List.mem_of_getElem? (i := 335) (by decide +kernel), List.mem_of_getElem? (i := 447) (by decide +kernel), List.mem_of_getElem? (i := 448) (by decide +kernel)⟩
theorem lw_p37 : lw_okq (⟨"ToldFactsModel", "standing", "(II)I"⟩, 18) := ⟨⟨by decide +kernel, by decide +kernel⟩, List.mem_of_getElem? (i := 335) (by decide +kernel), List.mem_of_getElem? (i := 451) (by decide +kernel), List.mem_of_getElem? (i := 452) (by decide +kernel)⟩
theorem lw_p38 : lw_okq (⟨"ToldFactsModel", "stands", "(IIJ)Z"⟩, 18) := ⟨⟨by decide +kernel, by decide +kernel⟩, List.mem_of_getElem? (i := 335) (by decide +kernel), List.mem_of_getElem? (i := 464) (by decide +kernel), List.mem_of_getElem? (i := 465) (by decide +kernel)⟩
theorem lw_p39 : lw_okq (⟨"ToldFactsModel", "isKnown", "(IIJ)Z"⟩, 18) := ⟨⟨by decide +kernel, by decide +kernel⟩, List.mem_of_getElem? (i := 335) (by decide +kernel), List.mem_of_getElem? (i := 468) (by decide +kernel), List.mem_of_getElem? (i := 469) (by decide +kernel)⟩
theorem lw_p40 : lw_okq (⟨"ToldFactsModel", "draw", "(I)I"⟩, 18) := ⟨⟨by decide +kernel, by decide +kernel⟩, List.mem_of_getElem? (i := 335) (by decide +kernel), List.mem_of_getElem? (i := 496) (by decide +kernel), List.mem_of_getElem? (i := 497) (by decide +kernel)⟩
def lw_privs_3 : List (MethodName × Nat) := [(⟨"ToldFactsModel", "look", "(I)V"⟩, 18), (⟨"ToldFactsModel", "conflicts", "(I)I"⟩, 18), (⟨"ToldFactsModel", "isFirstOfConflict", "(I)Z"⟩, 18), (⟨"ToldFactsModel", "areOne", "(II)Z"⟩, 18), (⟨"ToldFactsModel", "isBefore", "(II)Z"⟩, 18), (⟨"ToldFactsModel", "standing", "(II)I"⟩, 18), (⟨"ToldFactsModel", "stands", "(IIJ)Z"⟩, 18), (⟨"ToldFactsModel", "isKnown", "(IIJ)Z"⟩, 18), (⟨"ToldFactsModel", "draw", "(I)I"⟩, 18)]
theorem lw_r3 : ∀ q ∈ lw_privs_3, lw_okq q := List.forall_mem_cons.mpr ⟨lw_p32, List.forall_mem_cons.mpr ⟨lw_p33, List.forall_mem_cons.mpr ⟨lw_p34, List.forall_mem_cons.mpr ⟨lw_p35, List.forall_mem_cons.mpr ⟨lw_p36, List.forall_mem_cons.mpr ⟨lw_p37, List.forall_mem_cons.mpr ⟨lw_p38, List.forall_mem_cons.mpr ⟨lw_p39, List.forall_mem_cons.mpr ⟨lw_p40, fun _ h => absurd h List.not_mem_nil⟩⟩⟩⟩⟩⟩⟩⟩⟩
def lw_privs : List (MethodName × Nat) := lw_privs_1 ++ (lw_privs_2 ++ (lw_privs_3))
def lw_tbl : List Cond := k2_sels lw_privs ++ tables_1
theorem lw_privs_ok : ∀ q ∈ lw_privs, lw_okq q := by
  show ∀ q ∈ lw_privs_1 ++ (lw_privs_2 ++ (lw_privs_3)), lw_okq q
  exact List.forall_mem_append.mpr ⟨lw_r1, List.forall_mem_append.mpr ⟨lw_r2, lw_r3⟩⟩

def TB : List Cond := lw_tbl.filter goodWord
theorem TB_good (w : Cond) (h : w ∈ TB) : (w.onTables && w.keeps) = true ∨ ∃ ty, w = .arrayClass ty := good_of_word (List.mem_filter.mp h).2
theorem TB_in (w : Cond) (h : w ∈ TB) : w ∈ lw_tbl := (List.mem_filter.mp h).1
theorem tb_t {w : Cond} (i : Nat) (h : tables_1[i]? = some w) (g : goodWord w = true) : w ∈ TB := List.mem_filter.mpr ⟨List.mem_append_right _ (List.mem_of_getElem? h), g⟩
theorem tb_p {w : Cond} (i : Nat) (h : (k2_sels lw_privs)[i]? = some w) (g : goodWord w = true) : w ∈ TB := List.mem_filter.mpr ⟨List.mem_append_left _ (List.mem_of_getElem? h), g⟩
def isNest : Cond → Bool
  | .methodLinkNest .. => true
  | .fieldLinkNest .. => true
  | _ => false
def NW : List Cond := tables_1.filter isNest
theorem NW_in (w : Cond) (h : w ∈ NW) : w ∈ lw_tbl := List.mem_append_right _ (List.mem_filter.mp h).1
theorem nw_t {w : Cond} (i : Nat) (h : tables_1[i]? = some w) (g : isNest w = true) : w ∈ NW := List.mem_filter.mpr ⟨List.mem_of_getElem? h, g⟩
theorem NW_on : ∀ w ∈ NW, w.onTables = true := fun w hw => by
  have h := (List.mem_filter.mp hw).2
  cases w <;> first | rfl | (simp [isNest] at h)
theorem NW_warm : ∀ w ∈ NW, ∀ {s U : State}, s.WarmedH U.vm → va_Nw w s → va_Nw w U := fun w hw s U hW hz => by
  have h := (List.mem_filter.mp hw).2
  cases w <;> first | exact va_Nw.warmM hW hz | exact va_Nw.warmF hW hz | (simp [isNest] at h)
def R_T : String := "ToldFacts"
def F_T : u_T := fun k => match k with
  | 0 => ("ToldFacts", "desks", "[LToldFacts$Desk;", true)
  | 1 => ("ToldFacts", "batchDesks", "[I", true)
  | 2 => ("ToldFacts", "facts", "LToldFacts$Facts;", true)
  | 3 => ("ToldFacts", "picked", "LToldFacts$FactSet;", true)
  | 4 => ("ToldFacts", "deskCount", "I", false)
  | _ => ("ToldFacts", "batchCount", "I", false)
def ft_T : Nat → FieldType := fun k => match k with
  | 0 => .array (.object "ToldFacts$Desk")
  | 1 => .array .int
  | 2 => .object "ToldFacts$Facts"
  | 3 => .object "ToldFacts$FactSet"
  | 4 => .int
  | _ => .int
def R_S : String := "ToldFacts$FactSet"
def F_S : u_T := fun k => match k with
  | _ => ("ToldFacts$FactSet", "words", "[J", true)
def ft_S : Nat → FieldType := fun k => match k with
  | _ => .array .long
def R_A : String := "ToldFacts$Facts"
def F_A : u_T := fun k => match k with
  | 0 => ("ToldFacts$Facts", "numbers", "[I", true)
  | 1 => ("ToldFacts$Facts", "spots", "[I", true)
  | 2 => ("ToldFacts$Facts", "values", "[J", true)
  | 3 => ("ToldFacts$Facts", "times", "[I", true)
  | 4 => ("ToldFacts$Facts", "replacers", "[J", true)
  | 5 => ("ToldFacts$Facts", "byNumber", "[I", true)
  | 6 => ("ToldFacts$Facts", "bySpot", "[I", true)
  | _ => ("ToldFacts$Facts", "count", "I", false)
def ft_A : Nat → FieldType := fun k => match k with
  | 0 => .array .int
  | 1 => .array .int
  | 2 => .array .long
  | 3 => .array .int
  | 4 => .array .long
  | 5 => .array .int
  | 6 => .array .int
  | _ => .int
def R_K : String := "ToldFacts$Desk"
def F_K : u_T := fun k => match k with
  | 0 => ("ToldFacts$Desk", "number", "I", true)
  | 1 => ("ToldFacts$Desk", "knows", "LToldFacts$FactSet;", true)
  | 2 => ("ToldFacts$Desk", "pending", "LToldFacts$FactSet;", true)
  | 3 => ("ToldFacts$Desk", "clock", "I", false)
  | 4 => ("ToldFacts$Desk", "toldCount", "I", false)
  | _ => ("ToldFacts$Desk", "openBatch", "I", false)
def ft_K : Nat → FieldType := fun k => match k with
  | 0 => .int
  | 1 => .object "ToldFacts$FactSet"
  | 2 => .object "ToldFacts$FactSet"
  | 3 => .int
  | 4 => .int
  | _ => .int
def R_W : String := "ToldFacts$Draw"
def F_W : u_T := fun k => match k with
  | _ => ("ToldFacts$Draw", "x", "J", false)
def ft_W : Nat → FieldType := fun k => match k with
  | _ => .long
def R_M : String := "ToldFactsModel"
def F_M : u_T := fun k => match k with
  | 0 => ("ToldFactsModel", "desks", "I", false)
  | 1 => ("ToldFactsModel", "clock", "[J", true)
  | 2 => ("ToldFactsModel", "toldAt", "[I", true)
  | 3 => ("ToldFactsModel", "open", "[I", true)
  | 4 => ("ToldFactsModel", "number", "[I", true)
  | 5 => ("ToldFactsModel", "thing", "[I", true)
  | 6 => ("ToldFactsModel", "kind", "[I", true)
  | 7 => ("ToldFactsModel", "day", "[J", true)
  | 8 => ("ToldFactsModel", "value", "[J", true)
  | 9 => ("ToldFactsModel", "time", "[J", true)
  | 10 => ("ToldFactsModel", "batchOf", "[I", true)
  | 11 => ("ToldFactsModel", "replaces", "[Z", true)
  | 12 => ("ToldFactsModel", "knows", "[Z", true)
  | 13 => ("ToldFactsModel", "facts", "I", false)
  | 14 => ("ToldFactsModel", "batchDesk", "[I", true)
  | 15 => ("ToldFactsModel", "batches", "I", false)
  | 16 => ("ToldFactsModel", "stand", "[Z", true)
  | _ => ("ToldFactsModel", "drawn", "J", false)
def ft_M : Nat → FieldType := fun k => match k with
  | 0 => .int
  | 1 => .array .long
  | 2 => .array .int
  | 3 => .array .int
  | 4 => .array .int
  | 5 => .array .int
  | 6 => .array .int
  | 7 => .array .long
  | 8 => .array .long
  | 9 => .array .long
  | 10 => .array .int
  | 11 => .array .boolean
  | 12 => .array .boolean
  | 13 => .int
  | 14 => .array .int
  | 15 => .int
  | 16 => .array .boolean
  | _ => .long
def R_L : String := "ToldFactsLaw"
def R_J : String := "java/lang/Long"
def R_MM : String := "java/lang/Math"
abbrev vwCl : List vw_C := [(R_T, F_T, 6), (R_S, F_S, 1), (R_A, F_A, 8), (R_K, F_K, 6), (R_W, F_W, 1), (R_M, F_M, 18)]
def Ck (ci : Nat) (C : String) (T : u_T) (N : Nat) (ty : Nat → FieldType) : Prop := vwCl[ci]? = some (C, T, N) ∧ (∀ w ∈ u_ws C T N, w ∈ TB) ∧ (∀ k, k < N → parseFieldDescriptor (T k).2.2.1 = some (ty k)) ∧ (∀ a, a < N → ∀ b, b < N → a ≠ b → (T a).2.1 ≠ (T b).2.1) ∧ ∀ k, k < N → (T k).1 = C
theorem ws_T : ∀ w ∈ u_ws R_T F_T 6, w ∈ TB := fun w h => by
  have e : u_ws R_T F_T 6 = [72, 74, 76, 78, 80, 82].filterMap (fun i => tables_1[i]?) := by decide +kernel
  have g : (u_ws R_T F_T 6).all goodWord = true := by decide +kernel
  have h1 := List.all_eq_true.mp g w h
  rw [e] at h
  obtain ⟨i, -, hi⟩ := List.mem_filterMap.mp h
  exact tb_t i hi h1
theorem ck_T : Ck 0 R_T F_T 6 ft_T := ⟨rfl, ws_T, by decide +kernel, by decide +kernel, by decide +kernel⟩
theorem ws_S : ∀ w ∈ u_ws R_S F_S 1, w ∈ TB := fun w h => by
  have e : u_ws R_S F_S 1 = [63].filterMap (fun i => tables_1[i]?) := by decide +kernel
  have g : (u_ws R_S F_S 1).all goodWord = true := by decide +kernel
  have h1 := List.all_eq_true.mp g w h
  rw [e] at h
  obtain ⟨i, -, hi⟩ := List.mem_filterMap.mp h
  exact tb_t i hi h1
theorem ck_S : Ck 1 R_S F_S 1 ft_S := ⟨rfl, ws_S, by decide +kernel, by decide +kernel, by decide +kernel⟩
theorem ws_A : ∀ w ∈ u_ws R_A F_A 8, w ∈ TB := fun w h => by
  have e : u_ws R_A F_A 8 = [36, 38, 40, 42, 44, 46, 48, 50].filterMap (fun i => tables_1[i]?) := by decide +kernel
  have g : (u_ws R_A F_A 8).all goodWord = true := by decide +kernel
  have h1 := List.all_eq_true.mp g w h
  rw [e] at h
  obtain ⟨i, -, hi⟩ := List.mem_filterMap.mp h
  exact tb_t i hi h1
theorem ck_A : Ck 2 R_A F_A 8 ft_A := ⟨rfl, ws_A, by decide +kernel, by decide +kernel, by decide +kernel⟩
theorem ws_K : ∀ w ∈ u_ws R_K F_K 6, w ∈ TB := fun w h => by
  have e : u_ws R_K F_K 6 = [104, 106, 108, 110, 112, 114].filterMap (fun i => tables_1[i]?) := by decide +kernel
  have g : (u_ws R_K F_K 6).all goodWord = true := by decide +kernel
  have h1 := List.all_eq_true.mp g w h
  rw [e] at h
  obtain ⟨i, -, hi⟩ := List.mem_filterMap.mp h
  exact tb_t i hi h1
theorem ck_K : Ck 3 R_K F_K 6 ft_K := ⟨rfl, ws_K, by decide +kernel, by decide +kernel, by decide +kernel⟩
theorem ws_W : ∀ w ∈ u_ws R_W F_W 1, w ∈ TB := fun w h => by
  have e : u_ws R_W F_W 1 = [306].filterMap (fun i => tables_1[i]?) := by decide +kernel
  have g : (u_ws R_W F_W 1).all goodWord = true := by decide +kernel
  have h1 := List.all_eq_true.mp g w h
  rw [e] at h
  obtain ⟨i, -, hi⟩ := List.mem_filterMap.mp h
  exact tb_t i hi h1
theorem ck_W : Ck 4 R_W F_W 1 ft_W := ⟨rfl, ws_W, by decide +kernel, by decide +kernel, by decide +kernel⟩
theorem ws_M : ∀ w ∈ u_ws R_M F_M 18, w ∈ TB := fun w h => by
  have e : u_ws R_M F_M 18 = [359, 361, 363, 365, 367, 369, 371, 373, 375, 377, 379, 381, 383, 385, 387, 389, 391, 393].filterMap (fun i => tables_1[i]?) := by decide +kernel
  have g : (u_ws R_M F_M 18).all goodWord = true := by decide +kernel
  have h1 := List.all_eq_true.mp g w h
  rw [e] at h
  obtain ⟨i, -, hi⟩ := List.mem_filterMap.mp h
  exact tb_t i hi h1
theorem ck_M : Ck 5 R_M F_M 18 ft_M := ⟨rfl, ws_M, by decide +kernel, by decide +kernel, by decide +kernel⟩
abbrev b_T_init : ByteArray := prog_1_method_1_code
def y_T_init : MethodName := ⟨R_T, "<init>", "()V"⟩
theorem cd_T_init : Cond.code y_T_init b_T_init 1 none ∈ TB := tb_t 13 (by decide +kernel) (by decide +kernel)
abbrev b_A_init : ByteArray := prog_5_method_1_code
def y_A_init : MethodName := ⟨R_A, "<init>", "()V"⟩
theorem cd_A_init : Cond.code y_A_init b_A_init 1 none ∈ TB := tb_t 23 (by decide +kernel) (by decide +kernel)
abbrev b_S_init : ByteArray := prog_4_method_1_code
def y_S_init : MethodName := ⟨R_S, "<init>", "()V"⟩
theorem cd_S_init : Cond.code y_S_init b_S_init 1 none ∈ TB := tb_t 59 (by decide +kernel) (by decide +kernel)
abbrev b_T_desk : ByteArray := prog_1_method_2_code
def y_T_desk : MethodName := ⟨R_T, "desk", "()I"⟩
theorem cd_T_desk : Cond.code y_T_desk b_T_desk 2 (some .int) ∈ TB := tb_t 88 (by decide +kernel) (by decide +kernel)
abbrev b_K_init : ByteArray := prog_2_method_1_code
def y_K_init : MethodName := ⟨R_K, "<init>", "(I)V"⟩
theorem cd_K_init : Cond.code y_K_init b_K_init 2 none ∈ TB := tb_t 92 (by decide +kernel) (by decide +kernel)
abbrev b_T_tell : ByteArray := prog_1_method_3_code
def y_T_tell : MethodName := ⟨R_T, "tell", "(IIIJJ)I"⟩
theorem cd_T_tell : Cond.code y_T_tell b_T_tell 9 (some .int) ∈ TB := tb_t 120 (by decide +kernel) (by decide +kernel)
abbrev b_T_deskAt : ByteArray := prog_1_method_15_code
def y_T_deskAt : MethodName := ⟨R_T, "deskAt", "(I)LToldFacts$Desk;"⟩
theorem cd_T_deskAt : Cond.code y_T_deskAt b_T_deskAt 2 (some (.object "ToldFacts$Desk")) ∈ TB := tb_t 124 (by decide +kernel) (by decide +kernel)
abbrev b_T_areThingAndKind : ByteArray := prog_1_method_19_code
def y_T_areThingAndKind : MethodName := ⟨R_T, "areThingAndKind", "(II)Z"⟩
theorem cd_T_areThingAndKind : Cond.code y_T_areThingAndKind b_T_areThingAndKind 2 (some .boolean) ∈ TB := tb_t 127 (by decide +kernel) (by decide +kernel)
abbrev b_S_clear : ByteArray := prog_4_method_5_code
def y_S_clear : MethodName := ⟨R_S, "clear", "()V"⟩
theorem cd_S_clear : Cond.code y_S_clear b_S_clear 2 none ∈ TB := tb_t 132 (by decide +kernel) (by decide +kernel)
abbrev b_T_spotOf : ByteArray := prog_1_method_20_code
def y_T_spotOf : MethodName := ⟨R_T, "spotOf", "(III)I"⟩
theorem cd_T_spotOf : Cond.code y_T_spotOf b_T_spotOf 3 (some .int) ∈ TB := tb_t 135 (by decide +kernel) (by decide +kernel)
abbrev b_T_tellReplacing : ByteArray := prog_1_method_17_code
def y_T_tellReplacing : MethodName := ⟨R_T, "tellReplacing", "(LToldFacts$Desk;IJLToldFacts$FactSet;)I"⟩
theorem cd_T_tellReplacing : Cond.code y_T_tellReplacing b_T_tellReplacing 8 (some .int) ∈ TB := tb_t 140 (by decide +kernel) (by decide +kernel)
abbrev b_K_nextNumber : ByteArray := prog_2_method_2_code
def y_K_nextNumber : MethodName := ⟨R_K, "nextNumber", "()I"⟩
theorem cd_K_nextNumber : Cond.code y_K_nextNumber b_K_nextNumber 1 (some .int) ∈ TB := tb_t 144 (by decide +kernel) (by decide +kernel)
abbrev b_K_nextTime : ByteArray := prog_2_method_3_code
def y_K_nextTime : MethodName := ⟨R_K, "nextTime", "()I"⟩
theorem cd_K_nextTime : Cond.code y_K_nextTime b_K_nextTime 1 (some .int) ∈ TB := tb_t 148 (by decide +kernel) (by decide +kernel)
abbrev b_A_append : ByteArray := prog_5_method_2_code
def y_A_append : MethodName := ⟨R_A, "append", "(IIJILToldFacts$FactSet;)I"⟩
theorem cd_A_append : Cond.code y_A_append b_A_append 9 (some .int) ∈ TB := tb_t 152 (by decide +kernel) (by decide +kernel)
abbrev b_S_has : ByteArray := prog_4_method_2_code
def y_S_has : MethodName := ⟨R_S, "has", "(I)Z"⟩
theorem cd_S_has : Cond.code y_S_has b_S_has 2 (some .boolean) ∈ TB := tb_t 156 (by decide +kernel) (by decide +kernel)
abbrev b_A_insertByKey : ByteArray := prog_5_method_3_code
def y_A_insertByKey : MethodName := ⟨R_A, "insertByKey", "([I[II)V"⟩
theorem cd_A_insertByKey : Cond.code y_A_insertByKey b_A_insertByKey 4 none ∈ TB := tb_t 159 (by decide +kernel) (by decide +kernel)
abbrev b_K_hear : ByteArray := prog_2_method_4_code
def y_K_hear : MethodName := ⟨R_K, "hear", "(I)V"⟩
theorem cd_K_hear : Cond.code y_K_hear b_K_hear 2 none ∈ TB := tb_t 163 (by decide +kernel) (by decide +kernel)
abbrev b_S_add : ByteArray := prog_4_method_3_code
def y_S_add : MethodName := ⟨R_S, "add", "(I)V"⟩
theorem cd_S_add : Cond.code y_S_add b_S_add 2 none ∈ TB := tb_t 167 (by decide +kernel) (by decide +kernel)
abbrev b_T_correct : ByteArray := prog_1_method_4_code
def y_T_correct : MethodName := ⟨R_T, "correct", "(IIJ)I"⟩
theorem cd_T_correct : Cond.code y_T_correct b_T_correct 7 (some .int) ∈ TB := tb_t 171 (by decide +kernel) (by decide +kernel)
abbrev b_A_withNumber : ByteArray := prog_5_method_4_code
def y_A_withNumber : MethodName := ⟨R_A, "withNumber", "(I)I"⟩
theorem cd_A_withNumber : Cond.code y_A_withNumber b_A_withNumber 3 (some .int) ∈ TB := tb_t 175 (by decide +kernel) (by decide +kernel)
abbrev b_A_standsAmong : ByteArray := prog_5_method_6_code
def y_A_standsAmong : MethodName := ⟨R_A, "standsAmong", "(LToldFacts$FactSet;I)Z"⟩
theorem cd_A_standsAmong : Cond.code y_A_standsAmong b_A_standsAmong 4 (some .boolean) ∈ TB := tb_t 179 (by decide +kernel) (by decide +kernel)
abbrev b_T_join : ByteArray := prog_1_method_5_code
def y_T_join : MethodName := ⟨R_T, "join", "(II)I"⟩
theorem cd_T_join : Cond.code y_T_join b_T_join 5 (some .int) ∈ TB := tb_t 184 (by decide +kernel) (by decide +kernel)
abbrev b_K_learnFrom : ByteArray := prog_2_method_5_code
def y_K_learnFrom : MethodName := ⟨R_K, "learnFrom", "(LToldFacts$Desk;)V"⟩
theorem cd_K_learnFrom : Cond.code y_K_learnFrom b_K_learnFrom 2 none ∈ TB := tb_t 188 (by decide +kernel) (by decide +kernel)
abbrev b_S_addAll : ByteArray := prog_4_method_4_code
def y_S_addAll : MethodName := ⟨R_S, "addAll", "(LToldFacts$FactSet;)V"⟩
theorem cd_S_addAll : Cond.code y_S_addAll b_S_addAll 3 none ∈ TB := tb_t 192 (by decide +kernel) (by decide +kernel)
abbrev b_MM_max : ByteArray := prog_9_method_65_code
def y_MM_max : MethodName := ⟨R_MM, "max", "(II)I"⟩
theorem cd_MM_max : Cond.code y_MM_max b_MM_max 2 (some .int) ∈ TB := tb_t 195 (by decide +kernel) (by decide +kernel)
abbrev b_A_countConflicts : ByteArray := prog_5_method_12_code
def y_A_countConflicts : MethodName := ⟨R_A, "countConflicts", "(LToldFacts$FactSet;)I"⟩
theorem cd_A_countConflicts : Cond.code y_A_countConflicts b_A_countConflicts 4 (some .int) ∈ TB := tb_t 199 (by decide +kernel) (by decide +kernel)
abbrev b_A_isFirstOfSpot : ByteArray := prog_5_method_14_code
def y_A_isFirstOfSpot : MethodName := ⟨R_A, "isFirstOfSpot", "(I)Z"⟩
theorem cd_A_isFirstOfSpot : Cond.code y_A_isFirstOfSpot b_A_isFirstOfSpot 2 (some .boolean) ∈ TB := tb_t 203 (by decide +kernel) (by decide +kernel)
abbrev b_A_isConflictFrom : ByteArray := prog_5_method_15_code
def y_A_isConflictFrom : MethodName := ⟨R_A, "isConflictFrom", "(ILToldFacts$FactSet;)Z"⟩
theorem cd_A_isConflictFrom : Cond.code y_A_isConflictFrom b_A_isConflictFrom 7 (some .boolean) ∈ TB := tb_t 207 (by decide +kernel) (by decide +kernel)
abbrev b_T_known : ByteArray := prog_1_method_6_code
def y_T_known : MethodName := ⟨R_T, "known", "(IIIJJ)J"⟩
theorem cd_T_known : Cond.code y_T_known b_T_known 10 (some .long) ∈ TB := tb_t 212 (by decide +kernel) (by decide +kernel)
abbrev b_A_pickToldBy : ByteArray := prog_5_method_8_code
def y_A_pickToldBy : MethodName := ⟨R_A, "pickToldBy", "(JLToldFacts$FactSet;LToldFacts$FactSet;)V"⟩
theorem cd_A_pickToldBy : Cond.code y_A_pickToldBy b_A_pickToldBy 6 none ∈ TB := tb_t 217 (by decide +kernel) (by decide +kernel)
abbrev b_A_latestStanding : ByteArray := prog_5_method_10_code
def y_A_latestStanding : MethodName := ⟨R_A, "latestStanding", "(LToldFacts$FactSet;IIJ)I"⟩
theorem cd_A_latestStanding : Cond.code y_A_latestStanding b_A_latestStanding 9 (some .int) ∈ TB := tb_t 223 (by decide +kernel) (by decide +kernel)
abbrev b_T_dayOf : ByteArray := prog_1_method_23_code
def y_T_dayOf : MethodName := ⟨R_T, "dayOf", "(I)I"⟩
theorem cd_T_dayOf : Cond.code y_T_dayOf b_T_dayOf 1 (some .int) ∈ TB := tb_t 227 (by decide +kernel) (by decide +kernel)
abbrev b_A_isLater : ByteArray := prog_5_method_11_code
def y_A_isLater : MethodName := ⟨R_A, "isLater", "(II)Z"⟩
theorem cd_A_isLater : Cond.code y_A_isLater b_A_isLater 3 (some .boolean) ∈ TB := tb_t 231 (by decide +kernel) (by decide +kernel)
abbrev b_T_conflict : ByteArray := prog_1_method_7_code
def y_T_conflict : MethodName := ⟨R_T, "conflict", "(III)I"⟩
theorem cd_T_conflict : Cond.code y_T_conflict b_T_conflict 6 (some .int) ∈ TB := tb_t 235 (by decide +kernel) (by decide +kernel)
abbrev b_A_conflictSpot : ByteArray := prog_5_method_13_code
def y_A_conflictSpot : MethodName := ⟨R_A, "conflictSpot", "(LToldFacts$FactSet;II)I"⟩
theorem cd_A_conflictSpot : Cond.code y_A_conflictSpot b_A_conflictSpot 7 (some .int) ∈ TB := tb_t 239 (by decide +kernel) (by decide +kernel)
abbrev b_A_pickStanding : ByteArray := prog_5_method_7_code
def y_A_pickStanding : MethodName := ⟨R_A, "pickStanding", "(LToldFacts$FactSet;ILToldFacts$FactSet;)V"⟩
theorem cd_A_pickStanding : Cond.code y_A_pickStanding b_A_pickStanding 5 none ∈ TB := tb_t 243 (by decide +kernel) (by decide +kernel)
abbrev b_T_thingOf : ByteArray := prog_1_method_21_code
def y_T_thingOf : MethodName := ⟨R_T, "thingOf", "(I)I"⟩
theorem cd_T_thingOf : Cond.code y_T_thingOf b_T_thingOf 1 (some .int) ∈ TB := tb_t 246 (by decide +kernel) (by decide +kernel)
abbrev b_T_kindOf : ByteArray := prog_1_method_22_code
def y_T_kindOf : MethodName := ⟨R_T, "kindOf", "(I)I"⟩
theorem cd_T_kindOf : Cond.code y_T_kindOf b_T_kindOf 1 (some .int) ∈ TB := tb_t 249 (by decide +kernel) (by decide +kernel)
abbrev b_S_size : ByteArray := prog_4_method_6_code
def y_S_size : MethodName := ⟨R_S, "size", "()I"⟩
theorem cd_S_size : Cond.code y_S_size b_S_size 3 (some .int) ∈ TB := tb_t 254 (by decide +kernel) (by decide +kernel)
abbrev b_J_bitCount : ByteArray := prog_8_method_50_code
def y_J_bitCount : MethodName := ⟨R_J, "bitCount", "(J)I"⟩
theorem cd_J_bitCount : Cond.code y_J_bitCount b_J_bitCount 2 (some .int) ∈ TB := tb_t 257 (by decide +kernel) (by decide +kernel)
abbrev b_A_inOrder : ByteArray := prog_5_method_5_code
def y_A_inOrder : MethodName := ⟨R_A, "inOrder", "(LToldFacts$FactSet;I)I"⟩
theorem cd_A_inOrder : Cond.code y_A_inOrder b_A_inOrder 6 (some .int) ∈ TB := tb_t 264 (by decide +kernel) (by decide +kernel)
abbrev b_T_numberOrNone : ByteArray := prog_1_method_16_code
def y_T_numberOrNone : MethodName := ⟨R_T, "numberOrNone", "(I)I"⟩
theorem cd_T_numberOrNone : Cond.code y_T_numberOrNone b_T_numberOrNone 2 (some .int) ∈ TB := tb_t 268 (by decide +kernel) (by decide +kernel)
abbrev b_T_settle : ByteArray := prog_1_method_8_code
def y_T_settle : MethodName := ⟨R_T, "settle", "(IIII)I"⟩
theorem cd_T_settle : Cond.code y_T_settle b_T_settle 8 (some .int) ∈ TB := tb_t 272 (by decide +kernel) (by decide +kernel)
abbrev b_T_equal : ByteArray := prog_1_method_9_code
def y_T_equal : MethodName := ⟨R_T, "equal", "(II)Z"⟩
theorem cd_T_equal : Cond.code y_T_equal b_T_equal 5 (some .boolean) ∈ TB := tb_t 277 (by decide +kernel) (by decide +kernel)
abbrev b_S_isSameAs : ByteArray := prog_4_method_7_code
def y_S_isSameAs : MethodName := ⟨R_S, "isSameAs", "(LToldFacts$FactSet;)Z"⟩
theorem cd_S_isSameAs : Cond.code y_S_isSameAs b_S_isSameAs 3 (some .boolean) ∈ TB := tb_t 281 (by decide +kernel) (by decide +kernel)
abbrev b_T_batch : ByteArray := prog_1_method_10_code
def y_T_batch : MethodName := ⟨R_T, "batch", "(I)I"⟩
theorem cd_T_batch : Cond.code y_T_batch b_T_batch 4 (some .int) ∈ TB := tb_t 285 (by decide +kernel) (by decide +kernel)
abbrev b_T_endBatch : ByteArray := prog_1_method_11_code
def y_T_endBatch : MethodName := ⟨R_T, "endBatch", "(I)Z"⟩
theorem cd_T_endBatch : Cond.code y_T_endBatch b_T_endBatch 3 (some .boolean) ∈ TB := tb_t 289 (by decide +kernel) (by decide +kernel)
abbrev b_K_learnPending : ByteArray := prog_2_method_6_code
def y_K_learnPending : MethodName := ⟨R_K, "learnPending", "()V"⟩
theorem cd_K_learnPending : Cond.code y_K_learnPending b_K_learnPending 1 none ∈ TB := tb_t 293 (by decide +kernel) (by decide +kernel)
abbrev b_T_play : ByteArray := prog_1_method_12_code
def y_T_play : MethodName := ⟨R_T, "play", "(JI)I"⟩
theorem cd_T_play : Cond.code y_T_play b_T_play 7 (some .int) ∈ TB := tb_t 298 (by decide +kernel) (by decide +kernel)
abbrev b_W_init : ByteArray := prog_3_method_1_code
def y_W_init : MethodName := ⟨R_W, "<init>", "(J)V"⟩
theorem cd_W_init : Cond.code y_W_init b_W_init 3 none ∈ TB := tb_t 303 (by decide +kernel) (by decide +kernel)
abbrev b_T_playTurn : ByteArray := prog_1_method_18_code
def y_T_playTurn : MethodName := ⟨R_T, "playTurn", "(LToldFacts$Draw;)V"⟩
theorem cd_T_playTurn : Cond.code y_T_playTurn b_T_playTurn 7 none ∈ TB := tb_t 312 (by decide +kernel) (by decide +kernel)
abbrev b_W_below : ByteArray := prog_3_method_2_code
def y_W_below : MethodName := ⟨R_W, "below", "(I)I"⟩
theorem cd_W_below : Cond.code y_W_below b_W_below 2 (some .int) ∈ TB := tb_t 316 (by decide +kernel) (by decide +kernel)
abbrev b_T_counts : ByteArray := prog_1_method_14_code
def y_T_counts : MethodName := ⟨R_T, "counts", "(I)I"⟩
theorem cd_T_counts : Cond.code y_T_counts b_T_counts 3 (some .int) ∈ TB := tb_t 323 (by decide +kernel) (by decide +kernel)
abbrev b_T_find : ByteArray := prog_1_method_13_code
def y_T_find : MethodName := ⟨R_T, "find", "(IIJI)I"⟩
theorem cd_T_find : Cond.code y_T_find b_T_find 7 (some .int) ∈ TB := tb_t 327 (by decide +kernel) (by decide +kernel)
abbrev b_A_pickEqual : ByteArray := prog_5_method_9_code
def y_A_pickEqual : MethodName := ⟨R_A, "pickEqual", "(LToldFacts$FactSet;IJLToldFacts$FactSet;)V"⟩
theorem cd_A_pickEqual : Cond.code y_A_pickEqual b_A_pickEqual 7 none ∈ TB := tb_t 331 (by decide +kernel) (by decide +kernel)
abbrev b_M_init : ByteArray := prog_7_method_1_code
def y_M_init : MethodName := ⟨R_M, "<init>", "()V"⟩
theorem cd_M_init : Cond.code y_M_init b_M_init 1 none ∈ TB := tb_t 338 (by decide +kernel) (by decide +kernel)
abbrev b_M_desk : ByteArray := prog_7_method_3_code
def y_M_desk : MethodName := ⟨R_M, "desk", "()I"⟩
theorem cd_M_desk : Cond.code y_M_desk b_M_desk 1 (some .int) ∈ TB := tb_t 400 (by decide +kernel) (by decide +kernel)
abbrev b_M_tell : ByteArray := prog_7_method_5_code
def y_M_tell : MethodName := ⟨R_M, "tell", "(IIIJJ)I"⟩
theorem cd_M_tell : Cond.code y_M_tell b_M_tell 8 (some .int) ∈ TB := tb_t 404 (by decide +kernel) (by decide +kernel)
abbrev b_M_isDesk : ByteArray := prog_7_method_2_code
def y_M_isDesk : MethodName := ⟨R_M, "isDesk", "(I)Z"⟩
theorem cd_M_isDesk : Cond.code y_M_isDesk b_M_isDesk 2 (some .boolean) ∈ TB := tb_t 408 (by decide +kernel) (by decide +kernel)
abbrev b_M_add : ByteArray := prog_7_method_4_code
def y_M_add : MethodName := ⟨R_M, "add", "(IIIJJ)I"⟩
theorem cd_M_add : Cond.code y_M_add b_M_add 9 (some .int) ∈ TB := tb_t 413 (by decide +kernel) (by decide +kernel)
abbrev b_M_correct : ByteArray := prog_7_method_10_code
def y_M_correct : MethodName := ⟨R_M, "correct", "(IIJ)I"⟩
theorem cd_M_correct : Cond.code y_M_correct b_M_correct 7 (some .int) ∈ TB := tb_t 417 (by decide +kernel) (by decide +kernel)
abbrev b_M_place : ByteArray := prog_7_method_6_code
def y_M_place : MethodName := ⟨R_M, "place", "(I)I"⟩
theorem cd_M_place : Cond.code y_M_place b_M_place 3 (some .int) ∈ TB := tb_t 421 (by decide +kernel) (by decide +kernel)
abbrev b_M_look : ByteArray := prog_7_method_9_code
def y_M_look : MethodName := ⟨R_M, "look", "(I)V"⟩
theorem cd_M_look : Cond.code y_M_look b_M_look 4 none ∈ TB := tb_t 425 (by decide +kernel) (by decide +kernel)
abbrev b_M_join : ByteArray := prog_7_method_15_code
def y_M_join : MethodName := ⟨R_M, "join", "(II)I"⟩
theorem cd_M_join : Cond.code y_M_join b_M_join 4 (some .int) ∈ TB := tb_t 429 (by decide +kernel) (by decide +kernel)
abbrev b_M_conflicts : ByteArray := prog_7_method_13_code
def y_M_conflicts : MethodName := ⟨R_M, "conflicts", "(I)I"⟩
theorem cd_M_conflicts : Cond.code y_M_conflicts b_M_conflicts 4 (some .int) ∈ TB := tb_t 433 (by decide +kernel) (by decide +kernel)
abbrev b_M_isFirstOfConflict : ByteArray := prog_7_method_12_code
def y_M_isFirstOfConflict : MethodName := ⟨R_M, "isFirstOfConflict", "(I)Z"⟩
theorem cd_M_isFirstOfConflict : Cond.code y_M_isFirstOfConflict b_M_isFirstOfConflict 4 (some .boolean) ∈ TB := tb_t 437 (by decide +kernel) (by decide +kernel)
abbrev b_M_areOne : ByteArray := prog_7_method_11_code
def y_M_areOne : MethodName := ⟨R_M, "areOne", "(II)Z"⟩
theorem cd_M_areOne : Cond.code y_M_areOne b_M_areOne 3 (some .boolean) ∈ TB := tb_t 441 (by decide +kernel) (by decide +kernel)
abbrev b_M_conflict : ByteArray := prog_7_method_17_code
def y_M_conflict : MethodName := ⟨R_M, "conflict", "(III)I"⟩
theorem cd_M_conflict : Cond.code y_M_conflict b_M_conflict 7 (some .int) ∈ TB := tb_t 445 (by decide +kernel) (by decide +kernel)
abbrev b_M_isBefore : ByteArray := prog_7_method_14_code
def y_M_isBefore : MethodName := ⟨R_M, "isBefore", "(II)Z"⟩
theorem cd_M_isBefore : Cond.code y_M_isBefore b_M_isBefore 3 (some .boolean) ∈ TB := tb_t 449 (by decide +kernel) (by decide +kernel)
abbrev b_M_standing : ByteArray := prog_7_method_16_code
def y_M_standing : MethodName := ⟨R_M, "standing", "(II)I"⟩
theorem cd_M_standing : Cond.code y_M_standing b_M_standing 8 (some .int) ∈ TB := tb_t 453 (by decide +kernel) (by decide +kernel)
abbrev b_M_settle : ByteArray := prog_7_method_18_code
def y_M_settle : MethodName := ⟨R_M, "settle", "(IIII)I"⟩
theorem cd_M_settle : Cond.code y_M_settle b_M_settle 11 (some .int) ∈ TB := tb_t 457 (by decide +kernel) (by decide +kernel)
abbrev b_M_known : ByteArray := prog_7_method_19_code
def y_M_known : MethodName := ⟨R_M, "known", "(IIIJJ)J"⟩
theorem cd_M_known : Cond.code y_M_known b_M_known 11 (some .long) ∈ TB := tb_t 461 (by decide +kernel) (by decide +kernel)
abbrev b_M_stands : ByteArray := prog_7_method_8_code
def y_M_stands : MethodName := ⟨R_M, "stands", "(IIJ)Z"⟩
theorem cd_M_stands : Cond.code y_M_stands b_M_stands 7 (some .boolean) ∈ TB := tb_t 466 (by decide +kernel) (by decide +kernel)
abbrev b_M_isKnown : ByteArray := prog_7_method_7_code
def y_M_isKnown : MethodName := ⟨R_M, "isKnown", "(IIJ)Z"⟩
theorem cd_M_isKnown : Cond.code y_M_isKnown b_M_isKnown 5 (some .boolean) ∈ TB := tb_t 470 (by decide +kernel) (by decide +kernel)
abbrev b_M_equal : ByteArray := prog_7_method_20_code
def y_M_equal : MethodName := ⟨R_M, "equal", "(II)Z"⟩
theorem cd_M_equal : Cond.code y_M_equal b_M_equal 5 (some .boolean) ∈ TB := tb_t 474 (by decide +kernel) (by decide +kernel)
abbrev b_M_find : ByteArray := prog_7_method_21_code
def y_M_find : MethodName := ⟨R_M, "find", "(IIJI)I"⟩
theorem cd_M_find : Cond.code y_M_find b_M_find 9 (some .int) ∈ TB := tb_t 478 (by decide +kernel) (by decide +kernel)
abbrev b_M_counts : ByteArray := prog_7_method_22_code
def y_M_counts : MethodName := ⟨R_M, "counts", "(I)I"⟩
theorem cd_M_counts : Cond.code y_M_counts b_M_counts 4 (some .int) ∈ TB := tb_t 482 (by decide +kernel) (by decide +kernel)
abbrev b_M_batch : ByteArray := prog_7_method_23_code
def y_M_batch : MethodName := ⟨R_M, "batch", "(I)I"⟩
theorem cd_M_batch : Cond.code y_M_batch b_M_batch 2 (some .int) ∈ TB := tb_t 486 (by decide +kernel) (by decide +kernel)
abbrev b_M_endBatch : ByteArray := prog_7_method_24_code
def y_M_endBatch : MethodName := ⟨R_M, "endBatch", "(I)Z"⟩
theorem cd_M_endBatch : Cond.code y_M_endBatch b_M_endBatch 4 (some .boolean) ∈ TB := tb_t 490 (by decide +kernel) (by decide +kernel)
abbrev b_M_play : ByteArray := prog_7_method_26_code
def y_M_play : MethodName := ⟨R_M, "play", "(JI)I"⟩
theorem cd_M_play : Cond.code y_M_play b_M_play 11 (some .int) ∈ TB := tb_t 494 (by decide +kernel) (by decide +kernel)
abbrev b_M_draw : ByteArray := prog_7_method_25_code
def y_M_draw : MethodName := ⟨R_M, "draw", "(I)I"⟩
theorem cd_M_draw : Cond.code y_M_draw b_M_draw 2 (some .int) ∈ TB := tb_t 498 (by decide +kernel) (by decide +kernel)
theorem im_y_T_init : Cond.instanceMethod y_T_init ∈ TB := tb_t 12 (by decide +kernel) (by decide +kernel)
theorem im_objectInit : Cond.instanceMethod objectInit ∈ TB := tb_t 15 (by decide +kernel) (by decide +kernel)
theorem im_y_A_init : Cond.instanceMethod y_A_init ∈ TB := tb_t 22 (by decide +kernel) (by decide +kernel)
theorem im_y_S_init : Cond.instanceMethod y_S_init ∈ TB := tb_t 58 (by decide +kernel) (by decide +kernel)
theorem im_y_T_desk : Cond.instanceMethod y_T_desk ∈ TB := tb_t 86 (by decide +kernel) (by decide +kernel)
theorem im_y_K_init : Cond.instanceMethod y_K_init ∈ TB := tb_t 91 (by decide +kernel) (by decide +kernel)
theorem im_y_T_tell : Cond.instanceMethod y_T_tell ∈ TB := tb_t 118 (by decide +kernel) (by decide +kernel)
theorem im_y_T_deskAt : Cond.instanceMethod y_T_deskAt ∈ TB := tb_t 123 (by decide +kernel) (by decide +kernel)
theorem im_y_S_clear : Cond.instanceMethod y_S_clear ∈ TB := tb_t 131 (by decide +kernel) (by decide +kernel)
theorem im_y_T_tellReplacing : Cond.instanceMethod y_T_tellReplacing ∈ TB := tb_t 139 (by decide +kernel) (by decide +kernel)
theorem im_y_K_nextNumber : Cond.instanceMethod y_K_nextNumber ∈ TB := tb_t 143 (by decide +kernel) (by decide +kernel)
theorem im_y_K_nextTime : Cond.instanceMethod y_K_nextTime ∈ TB := tb_t 147 (by decide +kernel) (by decide +kernel)
theorem im_y_A_append : Cond.instanceMethod y_A_append ∈ TB := tb_t 151 (by decide +kernel) (by decide +kernel)
theorem im_y_S_has : Cond.instanceMethod y_S_has ∈ TB := tb_t 155 (by decide +kernel) (by decide +kernel)
theorem im_y_K_hear : Cond.instanceMethod y_K_hear ∈ TB := tb_t 162 (by decide +kernel) (by decide +kernel)
theorem im_y_S_add : Cond.instanceMethod y_S_add ∈ TB := tb_t 166 (by decide +kernel) (by decide +kernel)
theorem im_y_T_correct : Cond.instanceMethod y_T_correct ∈ TB := tb_t 169 (by decide +kernel) (by decide +kernel)
theorem im_y_A_withNumber : Cond.instanceMethod y_A_withNumber ∈ TB := tb_t 174 (by decide +kernel) (by decide +kernel)
theorem im_y_A_standsAmong : Cond.instanceMethod y_A_standsAmong ∈ TB := tb_t 178 (by decide +kernel) (by decide +kernel)
theorem im_y_T_join : Cond.instanceMethod y_T_join ∈ TB := tb_t 182 (by decide +kernel) (by decide +kernel)
theorem im_y_K_learnFrom : Cond.instanceMethod y_K_learnFrom ∈ TB := tb_t 187 (by decide +kernel) (by decide +kernel)
theorem im_y_S_addAll : Cond.instanceMethod y_S_addAll ∈ TB := tb_t 191 (by decide +kernel) (by decide +kernel)
theorem im_y_A_countConflicts : Cond.instanceMethod y_A_countConflicts ∈ TB := tb_t 198 (by decide +kernel) (by decide +kernel)
theorem im_y_A_isFirstOfSpot : Cond.instanceMethod y_A_isFirstOfSpot ∈ TB := tb_t 202 (by decide +kernel) (by decide +kernel)
theorem im_y_A_isConflictFrom : Cond.instanceMethod y_A_isConflictFrom ∈ TB := tb_t 206 (by decide +kernel) (by decide +kernel)
theorem im_y_T_known : Cond.instanceMethod y_T_known ∈ TB := tb_t 210 (by decide +kernel) (by decide +kernel)
theorem im_y_A_pickToldBy : Cond.instanceMethod y_A_pickToldBy ∈ TB := tb_t 216 (by decide +kernel) (by decide +kernel)
theorem im_y_A_latestStanding : Cond.instanceMethod y_A_latestStanding ∈ TB := tb_t 222 (by decide +kernel) (by decide +kernel)
theorem im_y_A_isLater : Cond.instanceMethod y_A_isLater ∈ TB := tb_t 230 (by decide +kernel) (by decide +kernel)
theorem im_y_T_conflict : Cond.instanceMethod y_T_conflict ∈ TB := tb_t 233 (by decide +kernel) (by decide +kernel)
theorem im_y_A_conflictSpot : Cond.instanceMethod y_A_conflictSpot ∈ TB := tb_t 238 (by decide +kernel) (by decide +kernel)
theorem im_y_A_pickStanding : Cond.instanceMethod y_A_pickStanding ∈ TB := tb_t 242 (by decide +kernel) (by decide +kernel)
theorem im_y_S_size : Cond.instanceMethod y_S_size ∈ TB := tb_t 253 (by decide +kernel) (by decide +kernel)
theorem im_y_A_inOrder : Cond.instanceMethod y_A_inOrder ∈ TB := tb_t 263 (by decide +kernel) (by decide +kernel)
theorem im_y_T_numberOrNone : Cond.instanceMethod y_T_numberOrNone ∈ TB := tb_t 267 (by decide +kernel) (by decide +kernel)
theorem im_y_T_settle : Cond.instanceMethod y_T_settle ∈ TB := tb_t 270 (by decide +kernel) (by decide +kernel)
theorem im_y_T_equal : Cond.instanceMethod y_T_equal ∈ TB := tb_t 275 (by decide +kernel) (by decide +kernel)
theorem im_y_S_isSameAs : Cond.instanceMethod y_S_isSameAs ∈ TB := tb_t 280 (by decide +kernel) (by decide +kernel)
theorem im_y_T_batch : Cond.instanceMethod y_T_batch ∈ TB := tb_t 283 (by decide +kernel) (by decide +kernel)
theorem im_y_T_endBatch : Cond.instanceMethod y_T_endBatch ∈ TB := tb_t 287 (by decide +kernel) (by decide +kernel)
theorem im_y_K_learnPending : Cond.instanceMethod y_K_learnPending ∈ TB := tb_t 292 (by decide +kernel) (by decide +kernel)
theorem im_y_T_play : Cond.instanceMethod y_T_play ∈ TB := tb_t 296 (by decide +kernel) (by decide +kernel)
theorem im_y_W_init : Cond.instanceMethod y_W_init ∈ TB := tb_t 302 (by decide +kernel) (by decide +kernel)
theorem im_y_T_playTurn : Cond.instanceMethod y_T_playTurn ∈ TB := tb_t 311 (by decide +kernel) (by decide +kernel)
theorem im_y_W_below : Cond.instanceMethod y_W_below ∈ TB := tb_t 315 (by decide +kernel) (by decide +kernel)
theorem im_y_T_counts : Cond.instanceMethod y_T_counts ∈ TB := tb_t 321 (by decide +kernel) (by decide +kernel)
theorem im_y_T_find : Cond.instanceMethod y_T_find ∈ TB := tb_t 325 (by decide +kernel) (by decide +kernel)
theorem im_y_A_pickEqual : Cond.instanceMethod y_A_pickEqual ∈ TB := tb_t 330 (by decide +kernel) (by decide +kernel)
theorem im_y_M_init : Cond.instanceMethod y_M_init ∈ TB := tb_t 337 (by decide +kernel) (by decide +kernel)
theorem im_y_M_desk : Cond.instanceMethod y_M_desk ∈ TB := tb_t 398 (by decide +kernel) (by decide +kernel)
theorem im_y_M_tell : Cond.instanceMethod y_M_tell ∈ TB := tb_t 402 (by decide +kernel) (by decide +kernel)
theorem im_y_M_isDesk : Cond.instanceMethod y_M_isDesk ∈ TB := tb_t 407 (by decide +kernel) (by decide +kernel)
theorem im_y_M_add : Cond.instanceMethod y_M_add ∈ TB := tb_t 412 (by decide +kernel) (by decide +kernel)
theorem im_y_M_correct : Cond.instanceMethod y_M_correct ∈ TB := tb_t 415 (by decide +kernel) (by decide +kernel)
theorem im_y_M_place : Cond.instanceMethod y_M_place ∈ TB := tb_t 420 (by decide +kernel) (by decide +kernel)
theorem im_y_M_look : Cond.instanceMethod y_M_look ∈ TB := tb_t 424 (by decide +kernel) (by decide +kernel)
theorem im_y_M_join : Cond.instanceMethod y_M_join ∈ TB := tb_t 427 (by decide +kernel) (by decide +kernel)
theorem im_y_M_conflicts : Cond.instanceMethod y_M_conflicts ∈ TB := tb_t 432 (by decide +kernel) (by decide +kernel)
theorem im_y_M_isFirstOfConflict : Cond.instanceMethod y_M_isFirstOfConflict ∈ TB := tb_t 436 (by decide +kernel) (by decide +kernel)
theorem im_y_M_areOne : Cond.instanceMethod y_M_areOne ∈ TB := tb_t 440 (by decide +kernel) (by decide +kernel)
theorem im_y_M_conflict : Cond.instanceMethod y_M_conflict ∈ TB := tb_t 443 (by decide +kernel) (by decide +kernel)
theorem im_y_M_isBefore : Cond.instanceMethod y_M_isBefore ∈ TB := tb_t 448 (by decide +kernel) (by decide +kernel)
theorem im_y_M_standing : Cond.instanceMethod y_M_standing ∈ TB := tb_t 452 (by decide +kernel) (by decide +kernel)
theorem im_y_M_settle : Cond.instanceMethod y_M_settle ∈ TB := tb_t 455 (by decide +kernel) (by decide +kernel)
theorem im_y_M_known : Cond.instanceMethod y_M_known ∈ TB := tb_t 459 (by decide +kernel) (by decide +kernel)
theorem im_y_M_stands : Cond.instanceMethod y_M_stands ∈ TB := tb_t 465 (by decide +kernel) (by decide +kernel)
theorem im_y_M_isKnown : Cond.instanceMethod y_M_isKnown ∈ TB := tb_t 469 (by decide +kernel) (by decide +kernel)
theorem im_y_M_equal : Cond.instanceMethod y_M_equal ∈ TB := tb_t 472 (by decide +kernel) (by decide +kernel)
theorem im_y_M_find : Cond.instanceMethod y_M_find ∈ TB := tb_t 476 (by decide +kernel) (by decide +kernel)
theorem im_y_M_counts : Cond.instanceMethod y_M_counts ∈ TB := tb_t 480 (by decide +kernel) (by decide +kernel)
theorem im_y_M_batch : Cond.instanceMethod y_M_batch ∈ TB := tb_t 484 (by decide +kernel) (by decide +kernel)
theorem im_y_M_endBatch : Cond.instanceMethod y_M_endBatch ∈ TB := tb_t 488 (by decide +kernel) (by decide +kernel)
theorem im_y_M_play : Cond.instanceMethod y_M_play ∈ TB := tb_t 492 (by decide +kernel) (by decide +kernel)
theorem im_y_M_draw : Cond.instanceMethod y_M_draw ∈ TB := tb_t 497 (by decide +kernel) (by decide +kernel)
theorem st_y_T_areThingAndKind : Cond.static y_T_areThingAndKind ∈ TB := tb_t 126 (by decide +kernel) (by decide +kernel)
theorem st_y_T_spotOf : Cond.static y_T_spotOf ∈ TB := tb_t 134 (by decide +kernel) (by decide +kernel)
theorem st_y_A_insertByKey : Cond.static y_A_insertByKey ∈ TB := tb_t 158 (by decide +kernel) (by decide +kernel)
theorem mx_static : Cond.static Lib.Math.max.name ∈ TB := tb_t 194 (by decide +kernel) (by decide +kernel)
theorem st_y_MM_max : Cond.static y_MM_max ∈ TB := tb_t 194 (by decide +kernel) (by decide +kernel)
theorem st_y_T_dayOf : Cond.static y_T_dayOf ∈ TB := tb_t 226 (by decide +kernel) (by decide +kernel)
theorem st_y_T_thingOf : Cond.static y_T_thingOf ∈ TB := tb_t 245 (by decide +kernel) (by decide +kernel)
theorem st_y_T_kindOf : Cond.static y_T_kindOf ∈ TB := tb_t 248 (by decide +kernel) (by decide +kernel)
theorem st_y_J_bitCount : Cond.static y_J_bitCount ∈ TB := tb_t 256 (by decide +kernel) (by decide +kernel)
theorem sl_y_T_desk : Cond.selects (y_T_desk).cls y_T_desk y_T_desk ∈ TB := tb_t 87 (by decide +kernel) (by decide +kernel)
theorem sl_y_T_tell : Cond.selects (y_T_tell).cls y_T_tell y_T_tell ∈ TB := tb_t 119 (by decide +kernel) (by decide +kernel)
theorem sl_y_T_correct : Cond.selects (y_T_correct).cls y_T_correct y_T_correct ∈ TB := tb_t 170 (by decide +kernel) (by decide +kernel)
theorem sl_y_T_join : Cond.selects (y_T_join).cls y_T_join y_T_join ∈ TB := tb_t 183 (by decide +kernel) (by decide +kernel)
theorem sl_y_T_known : Cond.selects (y_T_known).cls y_T_known y_T_known ∈ TB := tb_t 211 (by decide +kernel) (by decide +kernel)
theorem sl_y_T_conflict : Cond.selects (y_T_conflict).cls y_T_conflict y_T_conflict ∈ TB := tb_t 234 (by decide +kernel) (by decide +kernel)
theorem sl_y_T_settle : Cond.selects (y_T_settle).cls y_T_settle y_T_settle ∈ TB := tb_t 271 (by decide +kernel) (by decide +kernel)
theorem sl_y_T_equal : Cond.selects (y_T_equal).cls y_T_equal y_T_equal ∈ TB := tb_t 276 (by decide +kernel) (by decide +kernel)
theorem sl_y_T_batch : Cond.selects (y_T_batch).cls y_T_batch y_T_batch ∈ TB := tb_t 284 (by decide +kernel) (by decide +kernel)
theorem sl_y_T_endBatch : Cond.selects (y_T_endBatch).cls y_T_endBatch y_T_endBatch ∈ TB := tb_t 288 (by decide +kernel) (by decide +kernel)
theorem sl_y_T_play : Cond.selects (y_T_play).cls y_T_play y_T_play ∈ TB := tb_t 297 (by decide +kernel) (by decide +kernel)
theorem sl_y_T_counts : Cond.selects (y_T_counts).cls y_T_counts y_T_counts ∈ TB := tb_t 322 (by decide +kernel) (by decide +kernel)
theorem sl_y_T_find : Cond.selects (y_T_find).cls y_T_find y_T_find ∈ TB := tb_t 326 (by decide +kernel) (by decide +kernel)
theorem sl_y_M_desk : Cond.selects (y_M_desk).cls y_M_desk y_M_desk ∈ TB := tb_t 399 (by decide +kernel) (by decide +kernel)
theorem sl_y_M_tell : Cond.selects (y_M_tell).cls y_M_tell y_M_tell ∈ TB := tb_t 403 (by decide +kernel) (by decide +kernel)
theorem sl_y_M_correct : Cond.selects (y_M_correct).cls y_M_correct y_M_correct ∈ TB := tb_t 416 (by decide +kernel) (by decide +kernel)
theorem sl_y_M_join : Cond.selects (y_M_join).cls y_M_join y_M_join ∈ TB := tb_t 428 (by decide +kernel) (by decide +kernel)
theorem sl_y_M_conflict : Cond.selects (y_M_conflict).cls y_M_conflict y_M_conflict ∈ TB := tb_t 444 (by decide +kernel) (by decide +kernel)
theorem sl_y_M_settle : Cond.selects (y_M_settle).cls y_M_settle y_M_settle ∈ TB := tb_t 456 (by decide +kernel) (by decide +kernel)
theorem sl_y_M_known : Cond.selects (y_M_known).cls y_M_known y_M_known ∈ TB := tb_t 460 (by decide +kernel) (by decide +kernel)
theorem sl_y_M_equal : Cond.selects (y_M_equal).cls y_M_equal y_M_equal ∈ TB := tb_t 473 (by decide +kernel) (by decide +kernel)
theorem sl_y_M_find : Cond.selects (y_M_find).cls y_M_find y_M_find ∈ TB := tb_t 477 (by decide +kernel) (by decide +kernel)
theorem sl_y_M_counts : Cond.selects (y_M_counts).cls y_M_counts y_M_counts ∈ TB := tb_t 481 (by decide +kernel) (by decide +kernel)
theorem sl_y_M_batch : Cond.selects (y_M_batch).cls y_M_batch y_M_batch ∈ TB := tb_t 485 (by decide +kernel) (by decide +kernel)
theorem sl_y_M_endBatch : Cond.selects (y_M_endBatch).cls y_M_endBatch y_M_endBatch ∈ TB := tb_t 489 (by decide +kernel) (by decide +kernel)
theorem sl_y_M_play : Cond.selects (y_M_play).cls y_M_play y_M_play ∈ TB := tb_t 493 (by decide +kernel) (by decide +kernel)
theorem sl_y_T_deskAt : Cond.selects (y_T_deskAt).cls y_T_deskAt y_T_deskAt ∈ TB := tb_p 0 (by decide +kernel) (by decide +kernel)
theorem sl_y_S_clear : Cond.selects (y_S_clear).cls y_S_clear y_S_clear ∈ TB := tb_p 1 (by decide +kernel) (by decide +kernel)
theorem sl_y_T_tellReplacing : Cond.selects (y_T_tellReplacing).cls y_T_tellReplacing y_T_tellReplacing ∈ TB := tb_p 2 (by decide +kernel) (by decide +kernel)
theorem sl_y_K_nextNumber : Cond.selects (y_K_nextNumber).cls y_K_nextNumber y_K_nextNumber ∈ TB := tb_p 3 (by decide +kernel) (by decide +kernel)
theorem sl_y_K_nextTime : Cond.selects (y_K_nextTime).cls y_K_nextTime y_K_nextTime ∈ TB := tb_p 4 (by decide +kernel) (by decide +kernel)
theorem sl_y_A_append : Cond.selects (y_A_append).cls y_A_append y_A_append ∈ TB := tb_p 5 (by decide +kernel) (by decide +kernel)
theorem sl_y_S_has : Cond.selects (y_S_has).cls y_S_has y_S_has ∈ TB := tb_p 6 (by decide +kernel) (by decide +kernel)
theorem sl_y_K_hear : Cond.selects (y_K_hear).cls y_K_hear y_K_hear ∈ TB := tb_p 7 (by decide +kernel) (by decide +kernel)
theorem sl_y_S_add : Cond.selects (y_S_add).cls y_S_add y_S_add ∈ TB := tb_p 8 (by decide +kernel) (by decide +kernel)
theorem sl_y_A_withNumber : Cond.selects (y_A_withNumber).cls y_A_withNumber y_A_withNumber ∈ TB := tb_p 9 (by decide +kernel) (by decide +kernel)
theorem sl_y_A_standsAmong : Cond.selects (y_A_standsAmong).cls y_A_standsAmong y_A_standsAmong ∈ TB := tb_p 10 (by decide +kernel) (by decide +kernel)
theorem sl_y_K_learnFrom : Cond.selects (y_K_learnFrom).cls y_K_learnFrom y_K_learnFrom ∈ TB := tb_p 11 (by decide +kernel) (by decide +kernel)
theorem sl_y_S_addAll : Cond.selects (y_S_addAll).cls y_S_addAll y_S_addAll ∈ TB := tb_p 12 (by decide +kernel) (by decide +kernel)
theorem sl_y_A_countConflicts : Cond.selects (y_A_countConflicts).cls y_A_countConflicts y_A_countConflicts ∈ TB := tb_p 13 (by decide +kernel) (by decide +kernel)
theorem sl_y_A_isFirstOfSpot : Cond.selects (y_A_isFirstOfSpot).cls y_A_isFirstOfSpot y_A_isFirstOfSpot ∈ TB := tb_p 14 (by decide +kernel) (by decide +kernel)
theorem sl_y_A_isConflictFrom : Cond.selects (y_A_isConflictFrom).cls y_A_isConflictFrom y_A_isConflictFrom ∈ TB := tb_p 15 (by decide +kernel) (by decide +kernel)
theorem sl_y_A_pickToldBy : Cond.selects (y_A_pickToldBy).cls y_A_pickToldBy y_A_pickToldBy ∈ TB := tb_p 16 (by decide +kernel) (by decide +kernel)
theorem sl_y_A_latestStanding : Cond.selects (y_A_latestStanding).cls y_A_latestStanding y_A_latestStanding ∈ TB := tb_p 17 (by decide +kernel) (by decide +kernel)
theorem sl_y_A_isLater : Cond.selects (y_A_isLater).cls y_A_isLater y_A_isLater ∈ TB := tb_p 18 (by decide +kernel) (by decide +kernel)
theorem sl_y_A_conflictSpot : Cond.selects (y_A_conflictSpot).cls y_A_conflictSpot y_A_conflictSpot ∈ TB := tb_p 19 (by decide +kernel) (by decide +kernel)
theorem sl_y_A_pickStanding : Cond.selects (y_A_pickStanding).cls y_A_pickStanding y_A_pickStanding ∈ TB := tb_p 20 (by decide +kernel) (by decide +kernel)
theorem sl_y_S_size : Cond.selects (y_S_size).cls y_S_size y_S_size ∈ TB := tb_p 21 (by decide +kernel) (by decide +kernel)
theorem sl_y_A_inOrder : Cond.selects (y_A_inOrder).cls y_A_inOrder y_A_inOrder ∈ TB := tb_p 22 (by decide +kernel) (by decide +kernel)
theorem sl_y_T_numberOrNone : Cond.selects (y_T_numberOrNone).cls y_T_numberOrNone y_T_numberOrNone ∈ TB := tb_p 23 (by decide +kernel) (by decide +kernel)
theorem sl_y_S_isSameAs : Cond.selects (y_S_isSameAs).cls y_S_isSameAs y_S_isSameAs ∈ TB := tb_p 24 (by decide +kernel) (by decide +kernel)
theorem sl_y_K_learnPending : Cond.selects (y_K_learnPending).cls y_K_learnPending y_K_learnPending ∈ TB := tb_p 25 (by decide +kernel) (by decide +kernel)
theorem sl_y_T_playTurn : Cond.selects (y_T_playTurn).cls y_T_playTurn y_T_playTurn ∈ TB := tb_p 26 (by decide +kernel) (by decide +kernel)
theorem sl_y_W_below : Cond.selects (y_W_below).cls y_W_below y_W_below ∈ TB := tb_p 27 (by decide +kernel) (by decide +kernel)
theorem sl_y_A_pickEqual : Cond.selects (y_A_pickEqual).cls y_A_pickEqual y_A_pickEqual ∈ TB := tb_p 28 (by decide +kernel) (by decide +kernel)
theorem sl_y_M_isDesk : Cond.selects (y_M_isDesk).cls y_M_isDesk y_M_isDesk ∈ TB := tb_p 29 (by decide +kernel) (by decide +kernel)
theorem sl_y_M_add : Cond.selects (y_M_add).cls y_M_add y_M_add ∈ TB := tb_p 30 (by decide +kernel) (by decide +kernel)
theorem sl_y_M_place : Cond.selects (y_M_place).cls y_M_place y_M_place ∈ TB := tb_p 31 (by decide +kernel) (by decide +kernel)
theorem sl_y_M_look : Cond.selects (y_M_look).cls y_M_look y_M_look ∈ TB := tb_p 32 (by decide +kernel) (by decide +kernel)
theorem sl_y_M_conflicts : Cond.selects (y_M_conflicts).cls y_M_conflicts y_M_conflicts ∈ TB := tb_p 33 (by decide +kernel) (by decide +kernel)
theorem sl_y_M_isFirstOfConflict : Cond.selects (y_M_isFirstOfConflict).cls y_M_isFirstOfConflict y_M_isFirstOfConflict ∈ TB := tb_p 34 (by decide +kernel) (by decide +kernel)
theorem sl_y_M_areOne : Cond.selects (y_M_areOne).cls y_M_areOne y_M_areOne ∈ TB := tb_p 35 (by decide +kernel) (by decide +kernel)
theorem sl_y_M_isBefore : Cond.selects (y_M_isBefore).cls y_M_isBefore y_M_isBefore ∈ TB := tb_p 36 (by decide +kernel) (by decide +kernel)
theorem sl_y_M_standing : Cond.selects (y_M_standing).cls y_M_standing y_M_standing ∈ TB := tb_p 37 (by decide +kernel) (by decide +kernel)
theorem sl_y_M_stands : Cond.selects (y_M_stands).cls y_M_stands y_M_stands ∈ TB := tb_p 38 (by decide +kernel) (by decide +kernel)
theorem sl_y_M_isKnown : Cond.selects (y_M_isKnown).cls y_M_isKnown y_M_isKnown ∈ TB := tb_p 39 (by decide +kernel) (by decide +kernel)
theorem sl_y_M_draw : Cond.selects (y_M_draw).cls y_M_draw y_M_draw ∈ TB := tb_p 40 (by decide +kernel) (by decide +kernel)
theorem ini_L : Cond.initialized R_L ∈ TB := tb_t 0 (by decide +kernel) (by decide +kernel)
theorem ini_T : Cond.initialized R_T ∈ TB := tb_t 1 (by decide +kernel) (by decide +kernel)
theorem ini_A : Cond.initialized R_A ∈ TB := tb_t 2 (by decide +kernel) (by decide +kernel)
theorem ini_S : Cond.initialized R_S ∈ TB := tb_t 3 (by decide +kernel) (by decide +kernel)
theorem ini_M : Cond.initialized R_M ∈ TB := tb_t 4 (by decide +kernel) (by decide +kernel)
theorem ini_K : Cond.initialized R_K ∈ TB := tb_t 5 (by decide +kernel) (by decide +kernel)
theorem mx_init : Cond.initialized "java/lang/Math" ∈ TB := tb_t 6 (by decide +kernel) (by decide +kernel)
theorem ini_J : Cond.initialized R_J ∈ TB := tb_t 7 (by decide +kernel) (by decide +kernel)
theorem ini_W : Cond.initialized R_W ∈ TB := tb_t 8 (by decide +kernel) (by decide +kernel)
theorem mx_code : Cond.code Lib.Math.max.name Lib.Math.max.code 2 (some .int) ∈ TB := tb_t 195 (by decide +kernel) (by decide +kernel)
theorem oi_code : Cond.code objectInit ⟨#[0xb1]⟩ 1 none ∈ TB := tb_t 16 (by decide +kernel) (by decide +kernel)
theorem ins_T : Cond.instantiable R_T 6 ∈ TB := tb_t 10 (by decide +kernel) (by decide +kernel)
theorem ins_A : Cond.instantiable R_A 8 ∈ TB := tb_t 20 (by decide +kernel) (by decide +kernel)
theorem ins_S : Cond.instantiable R_S 1 ∈ TB := tb_t 56 (by decide +kernel) (by decide +kernel)
theorem ins_K : Cond.instantiable R_K 6 ∈ TB := tb_t 89 (by decide +kernel) (by decide +kernel)
theorem ins_W : Cond.instantiable R_W 1 ∈ TB := tb_t 300 (by decide +kernel) (by decide +kernel)
theorem ins_M : Cond.instantiable R_M 18 ∈ TB := tb_t 335 (by decide +kernel) (by decide +kernel)
theorem arr_desk : Cond.arrayOver (.object R_K) ∈ lw_tbl := List.mem_append_right _ (List.mem_of_getElem? (i := 18) (by decide +kernel))
theorem arr_int : Cond.arrayClass .int ∈ TB := tb_t 53 (by decide +kernel) (by decide +kernel)
theorem arr_long : Cond.arrayClass .long ∈ TB := tb_t 54 (by decide +kernel) (by decide +kernel)
theorem arr_boolean : Cond.arrayClass .boolean ∈ TB := tb_t 396 (by decide +kernel) (by decide +kernel)
theorem lk_A_9 : Cond.fieldLink R_A 9 "ToldFacts$Facts" "numbers" "[I" ∈ TB := tb_t 25 (by decide +kernel) (by decide +kernel)
theorem lk_T_158 : Cond.fieldLinkNest R_T 158 "ToldFacts$Facts" "numbers" "[I" "ToldFacts" ∈ NW := nw_t 26 (by decide +kernel) (by decide +kernel)
theorem lk_A_15 : Cond.fieldLink R_A 15 "ToldFacts$Facts" "spots" "[I" ∈ TB := tb_t 27 (by decide +kernel) (by decide +kernel)
theorem lk_T_75 : Cond.fieldLinkNest R_T 75 "ToldFacts$Facts" "spots" "[I" "ToldFacts" ∈ NW := nw_t 28 (by decide +kernel) (by decide +kernel)
theorem lk_A_18 : Cond.fieldLink R_A 18 "ToldFacts$Facts" "values" "[J" ∈ TB := tb_t 29 (by decide +kernel) (by decide +kernel)
theorem lk_T_96 : Cond.fieldLinkNest R_T 96 "ToldFacts$Facts" "values" "[J" "ToldFacts" ∈ NW := nw_t 30 (by decide +kernel) (by decide +kernel)
theorem lk_A_22 : Cond.fieldLink R_A 22 "ToldFacts$Facts" "times" "[I" ∈ TB := tb_t 31 (by decide +kernel) (by decide +kernel)
theorem lk_A_27 : Cond.fieldLink R_A 27 "ToldFacts$Facts" "replacers" "[J" ∈ TB := tb_t 32 (by decide +kernel) (by decide +kernel)
theorem lk_A_30 : Cond.fieldLink R_A 30 "ToldFacts$Facts" "byNumber" "[I" ∈ TB := tb_t 33 (by decide +kernel) (by decide +kernel)
theorem lk_A_33 : Cond.fieldLink R_A 33 "ToldFacts$Facts" "bySpot" "[I" ∈ TB := tb_t 34 (by decide +kernel) (by decide +kernel)
theorem lk_A_36 : Cond.fieldLink R_A 36 "ToldFacts$Facts" "count" "I" ∈ TB := tb_t 35 (by decide +kernel) (by decide +kernel)
theorem lk_S_11 : Cond.fieldLink R_S 11 "ToldFacts$FactSet" "words" "[J" ∈ TB := tb_t 61 (by decide +kernel) (by decide +kernel)
theorem lk_A_48 : Cond.fieldLinkNest R_A 48 "ToldFacts$FactSet" "words" "[J" "ToldFacts" ∈ NW := nw_t 62 (by decide +kernel) (by decide +kernel)
theorem lk_T_11 : Cond.fieldLink R_T 11 "ToldFacts" "desks" "[LToldFacts$Desk;" ∈ TB := tb_t 66 (by decide +kernel) (by decide +kernel)
theorem lk_T_15 : Cond.fieldLink R_T 15 "ToldFacts" "batchDesks" "[I" ∈ TB := tb_t 67 (by decide +kernel) (by decide +kernel)
theorem lk_T_22 : Cond.fieldLink R_T 22 "ToldFacts" "facts" "LToldFacts$Facts;" ∈ TB := tb_t 68 (by decide +kernel) (by decide +kernel)
theorem lk_T_29 : Cond.fieldLink R_T 29 "ToldFacts" "picked" "LToldFacts$FactSet;" ∈ TB := tb_t 69 (by decide +kernel) (by decide +kernel)
theorem lk_T_33 : Cond.fieldLink R_T 33 "ToldFacts" "deskCount" "I" ∈ TB := tb_t 70 (by decide +kernel) (by decide +kernel)
theorem lk_T_136 : Cond.fieldLink R_T 136 "ToldFacts" "batchCount" "I" ∈ TB := tb_t 71 (by decide +kernel) (by decide +kernel)
theorem lk_K_25 : Cond.fieldLink R_K 25 "ToldFacts$Desk" "number" "I" ∈ TB := tb_t 96 (by decide +kernel) (by decide +kernel)
theorem lk_K_12 : Cond.fieldLink R_K 12 "ToldFacts$Desk" "knows" "LToldFacts$FactSet;" ∈ TB := tb_t 97 (by decide +kernel) (by decide +kernel)
theorem lk_T_65 : Cond.fieldLinkNest R_T 65 "ToldFacts$Desk" "knows" "LToldFacts$FactSet;" "ToldFacts" ∈ NW := nw_t 98 (by decide +kernel) (by decide +kernel)
theorem lk_K_18 : Cond.fieldLink R_K 18 "ToldFacts$Desk" "pending" "LToldFacts$FactSet;" ∈ TB := tb_t 99 (by decide +kernel) (by decide +kernel)
theorem lk_K_31 : Cond.fieldLink R_K 31 "ToldFacts$Desk" "clock" "I" ∈ TB := tb_t 100 (by decide +kernel) (by decide +kernel)
theorem lk_K_28 : Cond.fieldLink R_K 28 "ToldFacts$Desk" "toldCount" "I" ∈ TB := tb_t 101 (by decide +kernel) (by decide +kernel)
theorem lk_K_21 : Cond.fieldLink R_K 21 "ToldFacts$Desk" "openBatch" "I" ∈ TB := tb_t 102 (by decide +kernel) (by decide +kernel)
theorem lk_T_133 : Cond.fieldLinkNest R_T 133 "ToldFacts$Desk" "openBatch" "I" "ToldFacts" ∈ NW := nw_t 103 (by decide +kernel) (by decide +kernel)
theorem lk_W_7 : Cond.fieldLink R_W 7 "ToldFacts$Draw" "x" "J" ∈ TB := tb_t 305 (by decide +kernel) (by decide +kernel)
theorem lk_M_55 : Cond.fieldLink R_M 55 "ToldFactsModel" "desks" "I" ∈ TB := tb_t 341 (by decide +kernel) (by decide +kernel)
theorem lk_M_9 : Cond.fieldLink R_M 9 "ToldFactsModel" "clock" "[J" ∈ TB := tb_t 342 (by decide +kernel) (by decide +kernel)
theorem lk_M_13 : Cond.fieldLink R_M 13 "ToldFactsModel" "toldAt" "[I" ∈ TB := tb_t 343 (by decide +kernel) (by decide +kernel)
theorem lk_M_17 : Cond.fieldLink R_M 17 "ToldFactsModel" "open" "[I" ∈ TB := tb_t 344 (by decide +kernel) (by decide +kernel)
theorem lk_M_20 : Cond.fieldLink R_M 20 "ToldFactsModel" "number" "[I" ∈ TB := tb_t 345 (by decide +kernel) (by decide +kernel)
theorem lk_M_23 : Cond.fieldLink R_M 23 "ToldFactsModel" "thing" "[I" ∈ TB := tb_t 346 (by decide +kernel) (by decide +kernel)
theorem lk_M_26 : Cond.fieldLink R_M 26 "ToldFactsModel" "kind" "[I" ∈ TB := tb_t 347 (by decide +kernel) (by decide +kernel)
theorem lk_M_29 : Cond.fieldLink R_M 29 "ToldFactsModel" "day" "[J" ∈ TB := tb_t 348 (by decide +kernel) (by decide +kernel)
theorem lk_M_32 : Cond.fieldLink R_M 32 "ToldFactsModel" "value" "[J" ∈ TB := tb_t 349 (by decide +kernel) (by decide +kernel)
theorem lk_M_35 : Cond.fieldLink R_M 35 "ToldFactsModel" "time" "[J" ∈ TB := tb_t 350 (by decide +kernel) (by decide +kernel)
theorem lk_M_38 : Cond.fieldLink R_M 38 "ToldFactsModel" "batchOf" "[I" ∈ TB := tb_t 351 (by decide +kernel) (by decide +kernel)
theorem lk_M_42 : Cond.fieldLink R_M 42 "ToldFactsModel" "replaces" "[Z" ∈ TB := tb_t 352 (by decide +kernel) (by decide +kernel)
theorem lk_M_46 : Cond.fieldLink R_M 46 "ToldFactsModel" "knows" "[Z" ∈ TB := tb_t 353 (by decide +kernel) (by decide +kernel)
theorem lk_M_59 : Cond.fieldLink R_M 59 "ToldFactsModel" "facts" "I" ∈ TB := tb_t 354 (by decide +kernel) (by decide +kernel)
theorem lk_M_49 : Cond.fieldLink R_M 49 "ToldFactsModel" "batchDesk" "[I" ∈ TB := tb_t 355 (by decide +kernel) (by decide +kernel)
theorem lk_M_108 : Cond.fieldLink R_M 108 "ToldFactsModel" "batches" "I" ∈ TB := tb_t 356 (by decide +kernel) (by decide +kernel)
theorem lk_M_52 : Cond.fieldLink R_M 52 "ToldFactsModel" "stand" "[Z" ∈ TB := tb_t 357 (by decide +kernel) (by decide +kernel)
theorem lk_M_111 : Cond.fieldLink R_M 111 "ToldFactsModel" "drawn" "J" ∈ TB := tb_t 358 (by decide +kernel) (by decide +kernel)
theorem lk_T_48 : Cond.constantLong R_T 48 (100001) ∈ TB := tb_t 128 (by decide +kernel) (by decide +kernel)
theorem lk_T_181 : Cond.constant R_T 181 (100001) ∈ TB := tb_t 136 (by decide +kernel) (by decide +kernel)
theorem lk_T_86 : Cond.constantLong R_T 86 (-9223372036854775808) ∈ TB := tb_t 213 (by decide +kernel) (by decide +kernel)
theorem lk_A_66 : Cond.constant R_A 66 (100001) ∈ TB := tb_t 224 (by decide +kernel) (by decide +kernel)
theorem lk_J_314 : Cond.constantLong R_J 314 (6148914691236517205) ∈ TB := tb_t 258 (by decide +kernel) (by decide +kernel)
theorem lk_J_316 : Cond.constantLong R_J 316 (3689348814741910323) ∈ TB := tb_t 259 (by decide +kernel) (by decide +kernel)
theorem lk_J_318 : Cond.constantLong R_J 318 (1085102592571150095) ∈ TB := tb_t 260 (by decide +kernel) (by decide +kernel)
theorem lk_T_128 : Cond.constant R_T 128 (100000) ∈ TB := tb_t 273 (by decide +kernel) (by decide +kernel)
theorem lk_W_13 : Cond.constantLong R_W 13 (6364136223846793005) ∈ TB := tb_t 317 (by decide +kernel) (by decide +kernel)
theorem lk_W_15 : Cond.constantLong R_W 15 (1442695040888963407) ∈ TB := tb_t 318 (by decide +kernel) (by decide +kernel)
theorem lk_M_41 : Cond.constant R_M 41 (90000) ∈ TB := tb_t 340 (by decide +kernel) (by decide +kernel)
theorem lk_M_66 : Cond.constantLong R_M 66 (100000) ∈ TB := tb_t 409 (by decide +kernel) (by decide +kernel)
theorem lk_M_103 : Cond.constantLong R_M 103 (-9223372036854775808) ∈ TB := tb_t 462 (by decide +kernel) (by decide +kernel)
theorem lk_M_115 : Cond.constantLong R_M 115 (6364136223846793005) ∈ TB := tb_t 499 (by decide +kernel) (by decide +kernel)
theorem lk_M_117 : Cond.constantLong R_M 117 (1442695040888963407) ∈ TB := tb_t 500 (by decide +kernel) (by decide +kernel)
theorem lk_L_18 : Cond.constantLong R_L 18 (4294967295) ∈ TB := tb_t 504 (by decide +kernel) (by decide +kernel)
theorem lk_L_7 : Cond.classLink R_L 7 R_T ∈ TB := tb_t 9 (by decide +kernel) (by decide +kernel)
theorem lk_T_9 : Cond.classLink R_T 9 R_K ∈ TB := tb_t 17 (by decide +kernel) (by decide +kernel)
theorem lk_T_19 : Cond.classLink R_T 19 R_A ∈ TB := tb_t 19 (by decide +kernel) (by decide +kernel)
theorem lk_T_26 : Cond.classLink R_T 26 R_S ∈ TB := tb_t 55 (by decide +kernel) (by decide +kernel)
theorem lk_K_9 : Cond.classLink R_K 9 R_S ∈ TB := tb_t 94 (by decide +kernel) (by decide +kernel)
theorem lk_T_142 : Cond.classLink R_T 142 R_W ∈ TB := tb_t 299 (by decide +kernel) (by decide +kernel)
theorem lk_L_10 : Cond.classLink R_L 10 R_M ∈ TB := tb_t 334 (by decide +kernel) (by decide +kernel)
def Sv (own : String) (index : Nat) (y : MethodName) (b : ByteArray) (mL : Nat) (rt : Option FieldType) (n : Nat) : Prop := (Cond.methodLink own index y ∈ TB ∨ ∃ host, Cond.methodLinkNest own index y host ∈ NW) ∧ Cond.code y b mL rt ∈ TB ∧ Cond.initialized y.cls ∈ TB ∧ y.cls ≠ "java/lang/invoke/MethodHandle" ∧ y.cls ≠ "java/lang/invoke/VarHandle" ∧ (parseMethodDescriptor y.desc).map (fun d => d.parameters.length) = some n
theorem sv_L_9 : Sv R_L 9 y_T_init b_T_init 1 none 0 := ⟨Or.inl (tb_t 11 (by decide +kernel) (by decide +kernel)), cd_T_init, ini_T, by decide +kernel, by decide +kernel, by decide +kernel⟩
theorem lk_T_1 : Cond.methodLink R_T 1 objectInit ∈ TB := tb_t 14 (by decide +kernel) (by decide +kernel)
theorem sv_T_21 : Sv R_T 21 y_A_init b_A_init 1 none 0 := ⟨Or.inr ⟨"ToldFacts", nw_t 21 (by decide +kernel) (by decide +kernel)⟩, cd_A_init, ini_A, by decide +kernel, by decide +kernel, by decide +kernel⟩
theorem lk_A_3 : Cond.methodLink R_A 3 objectInit ∈ TB := tb_t 24 (by decide +kernel) (by decide +kernel)
theorem sv_T_28 : Sv R_T 28 y_S_init b_S_init 1 none 0 := ⟨Or.inr ⟨"ToldFacts", nw_t 57 (by decide +kernel) (by decide +kernel)⟩, cd_S_init, ini_S, by decide +kernel, by decide +kernel, by decide +kernel⟩
theorem lk_S_3 : Cond.methodLink R_S 3 objectInit ∈ TB := tb_t 60 (by decide +kernel) (by decide +kernel)
theorem sv_L_13 : Sv R_L 13 y_T_desk b_T_desk 2 (some .int) 0 := ⟨Or.inl (tb_t 85 (by decide +kernel) (by decide +kernel)), cd_T_desk, ini_T, by decide +kernel, by decide +kernel, by decide +kernel⟩
theorem sv_T_37 : Sv R_T 37 y_K_init b_K_init 2 none 1 := ⟨Or.inr ⟨"ToldFacts", nw_t 90 (by decide +kernel) (by decide +kernel)⟩, cd_K_init, ini_K, by decide +kernel, by decide +kernel, by decide +kernel⟩
theorem lk_K_3 : Cond.methodLink R_K 3 objectInit ∈ TB := tb_t 93 (by decide +kernel) (by decide +kernel)
theorem sv_K_11 : Sv R_K 11 y_S_init b_S_init 1 none 0 := ⟨Or.inr ⟨"ToldFacts", nw_t 95 (by decide +kernel) (by decide +kernel)⟩, cd_S_init, ini_S, by decide +kernel, by decide +kernel, by decide +kernel⟩
theorem sv_L_20 : Sv R_L 20 y_T_tell b_T_tell 9 (some .int) 5 := ⟨Or.inl (tb_t 117 (by decide +kernel) (by decide +kernel)), cd_T_tell, ini_T, by decide +kernel, by decide +kernel, by decide +kernel⟩
theorem sv_T_40 : Sv R_T 40 y_T_deskAt b_T_deskAt 2 (some (.object "ToldFacts$Desk")) 1 := ⟨Or.inl (tb_t 121 (by decide +kernel) (by decide +kernel)), cd_T_deskAt, ini_T, by decide +kernel, by decide +kernel, by decide +kernel⟩
theorem sv_T_44 : Sv R_T 44 y_T_areThingAndKind b_T_areThingAndKind 2 (some .boolean) 2 := ⟨Or.inl (tb_t 125 (by decide +kernel) (by decide +kernel)), cd_T_areThingAndKind, ini_T, by decide +kernel, by decide +kernel, by decide +kernel⟩
theorem sv_T_50 : Sv R_T 50 y_S_clear b_S_clear 2 none 0 := ⟨Or.inr ⟨"ToldFacts", nw_t 129 (by decide +kernel) (by decide +kernel)⟩, cd_S_clear, ini_S, by decide +kernel, by decide +kernel, by decide +kernel⟩
theorem sv_T_53 : Sv R_T 53 y_T_spotOf b_T_spotOf 3 (some .int) 3 := ⟨Or.inl (tb_t 133 (by decide +kernel) (by decide +kernel)), cd_T_spotOf, ini_T, by decide +kernel, by decide +kernel, by decide +kernel⟩
theorem sv_T_57 : Sv R_T 57 y_T_tellReplacing b_T_tellReplacing 8 (some .int) 4 := ⟨Or.inl (tb_t 137 (by decide +kernel) (by decide +kernel)), cd_T_tellReplacing, ini_T, by decide +kernel, by decide +kernel, by decide +kernel⟩
theorem sv_T_161 : Sv R_T 161 y_K_nextNumber b_K_nextNumber 1 (some .int) 0 := ⟨Or.inr ⟨"ToldFacts", nw_t 141 (by decide +kernel) (by decide +kernel)⟩, cd_K_nextNumber, ini_K, by decide +kernel, by decide +kernel, by decide +kernel⟩
theorem sv_T_164 : Sv R_T 164 y_K_nextTime b_K_nextTime 1 (some .int) 0 := ⟨Or.inr ⟨"ToldFacts", nw_t 145 (by decide +kernel) (by decide +kernel)⟩, cd_K_nextTime, ini_K, by decide +kernel, by decide +kernel, by decide +kernel⟩
theorem sv_T_167 : Sv R_T 167 y_A_append b_A_append 9 (some .int) 5 := ⟨Or.inr ⟨"ToldFacts", nw_t 149 (by decide +kernel) (by decide +kernel)⟩, cd_A_append, ini_A, by decide +kernel, by decide +kernel, by decide +kernel⟩
theorem sv_A_40 : Sv R_A 40 y_S_has b_S_has 2 (some .boolean) 1 := ⟨Or.inr ⟨"ToldFacts", nw_t 153 (by decide +kernel) (by decide +kernel)⟩, cd_S_has, ini_S, by decide +kernel, by decide +kernel, by decide +kernel⟩
theorem sv_A_44 : Sv R_A 44 y_A_insertByKey b_A_insertByKey 4 none 3 := ⟨Or.inl (tb_t 157 (by decide +kernel) (by decide +kernel)), cd_A_insertByKey, ini_A, by decide +kernel, by decide +kernel, by decide +kernel⟩
theorem sv_T_171 : Sv R_T 171 y_K_hear b_K_hear 2 none 1 := ⟨Or.inr ⟨"ToldFacts", nw_t 160 (by decide +kernel) (by decide +kernel)⟩, cd_K_hear, ini_K, by decide +kernel, by decide +kernel, by decide +kernel⟩
theorem sv_K_34 : Sv R_K 34 y_S_add b_S_add 2 none 1 := ⟨Or.inr ⟨"ToldFacts", nw_t 164 (by decide +kernel) (by decide +kernel)⟩, cd_S_add, ini_S, by decide +kernel, by decide +kernel, by decide +kernel⟩
theorem sv_L_25 : Sv R_L 25 y_T_correct b_T_correct 7 (some .int) 3 := ⟨Or.inl (tb_t 168 (by decide +kernel) (by decide +kernel)), cd_T_correct, ini_T, by decide +kernel, by decide +kernel, by decide +kernel⟩
theorem sv_T_61 : Sv R_T 61 y_A_withNumber b_A_withNumber 3 (some .int) 1 := ⟨Or.inr ⟨"ToldFacts", nw_t 172 (by decide +kernel) (by decide +kernel)⟩, cd_A_withNumber, ini_A, by decide +kernel, by decide +kernel, by decide +kernel⟩
theorem sv_T_68 : Sv R_T 68 y_A_standsAmong b_A_standsAmong 4 (some .boolean) 2 := ⟨Or.inr ⟨"ToldFacts", nw_t 176 (by decide +kernel) (by decide +kernel)⟩, cd_A_standsAmong, ini_A, by decide +kernel, by decide +kernel, by decide +kernel⟩
theorem sv_T_72 : Sv R_T 72 y_S_add b_S_add 2 none 1 := ⟨Or.inr ⟨"ToldFacts", nw_t 180 (by decide +kernel) (by decide +kernel)⟩, cd_S_add, ini_S, by decide +kernel, by decide +kernel, by decide +kernel⟩
theorem sv_L_30 : Sv R_L 30 y_T_join b_T_join 5 (some .int) 2 := ⟨Or.inl (tb_t 181 (by decide +kernel) (by decide +kernel)), cd_T_join, ini_T, by decide +kernel, by decide +kernel, by decide +kernel⟩
theorem sv_T_78 : Sv R_T 78 y_K_learnFrom b_K_learnFrom 2 none 1 := ⟨Or.inr ⟨"ToldFacts", nw_t 185 (by decide +kernel) (by decide +kernel)⟩, cd_K_learnFrom, ini_K, by decide +kernel, by decide +kernel, by decide +kernel⟩
theorem sv_K_38 : Sv R_K 38 y_S_addAll b_S_addAll 3 none 1 := ⟨Or.inr ⟨"ToldFacts", nw_t 189 (by decide +kernel) (by decide +kernel)⟩, cd_S_addAll, ini_S, by decide +kernel, by decide +kernel, by decide +kernel⟩
theorem lk_K_42 : Cond.methodLink R_K 42 Lib.Math.max.name ∈ TB := tb_t 193 (by decide +kernel) (by decide +kernel)
theorem sv_T_82 : Sv R_T 82 y_A_countConflicts b_A_countConflicts 4 (some .int) 1 := ⟨Or.inr ⟨"ToldFacts", nw_t 196 (by decide +kernel) (by decide +kernel)⟩, cd_A_countConflicts, ini_A, by decide +kernel, by decide +kernel, by decide +kernel⟩
theorem sv_A_74 : Sv R_A 74 y_A_isFirstOfSpot b_A_isFirstOfSpot 2 (some .boolean) 1 := ⟨Or.inl (tb_t 200 (by decide +kernel) (by decide +kernel)), cd_A_isFirstOfSpot, ini_A, by decide +kernel, by decide +kernel, by decide +kernel⟩
theorem sv_A_77 : Sv R_A 77 y_A_isConflictFrom b_A_isConflictFrom 7 (some .boolean) 2 := ⟨Or.inl (tb_t 204 (by decide +kernel) (by decide +kernel)), cd_A_isConflictFrom, ini_A, by decide +kernel, by decide +kernel, by decide +kernel⟩
theorem sv_A_54 : Sv R_A 54 y_A_standsAmong b_A_standsAmong 4 (some .boolean) 2 := ⟨Or.inl (tb_t 208 (by decide +kernel) (by decide +kernel)), cd_A_standsAmong, ini_A, by decide +kernel, by decide +kernel, by decide +kernel⟩
theorem sv_L_35 : Sv R_L 35 y_T_known b_T_known 10 (some .long) 5 := ⟨Or.inl (tb_t 209 (by decide +kernel) (by decide +kernel)), cd_T_known, ini_T, by decide +kernel, by decide +kernel, by decide +kernel⟩
theorem sv_T_88 : Sv R_T 88 y_A_pickToldBy b_A_pickToldBy 6 none 3 := ⟨Or.inr ⟨"ToldFacts", nw_t 214 (by decide +kernel) (by decide +kernel)⟩, cd_A_pickToldBy, ini_A, by decide +kernel, by decide +kernel, by decide +kernel⟩
theorem sv_A_51 : Sv R_A 51 y_S_clear b_S_clear 2 none 0 := ⟨Or.inr ⟨"ToldFacts", nw_t 218 (by decide +kernel) (by decide +kernel)⟩, cd_S_clear, ini_S, by decide +kernel, by decide +kernel, by decide +kernel⟩
theorem sv_A_58 : Sv R_A 58 y_S_add b_S_add 2 none 1 := ⟨Or.inr ⟨"ToldFacts", nw_t 219 (by decide +kernel) (by decide +kernel)⟩, cd_S_add, ini_S, by decide +kernel, by decide +kernel, by decide +kernel⟩
theorem sv_T_92 : Sv R_T 92 y_A_latestStanding b_A_latestStanding 9 (some .int) 4 := ⟨Or.inr ⟨"ToldFacts", nw_t 220 (by decide +kernel) (by decide +kernel)⟩, cd_A_latestStanding, ini_A, by decide +kernel, by decide +kernel, by decide +kernel⟩
theorem sv_A_67 : Sv R_A 67 y_T_dayOf b_T_dayOf 1 (some .int) 1 := ⟨Or.inr ⟨"ToldFacts", nw_t 225 (by decide +kernel) (by decide +kernel)⟩, cd_T_dayOf, ini_T, by decide +kernel, by decide +kernel, by decide +kernel⟩
theorem sv_A_70 : Sv R_A 70 y_A_isLater b_A_isLater 3 (some .boolean) 2 := ⟨Or.inl (tb_t 228 (by decide +kernel) (by decide +kernel)), cd_A_isLater, ini_A, by decide +kernel, by decide +kernel, by decide +kernel⟩
theorem sv_L_40 : Sv R_L 40 y_T_conflict b_T_conflict 6 (some .int) 3 := ⟨Or.inl (tb_t 232 (by decide +kernel) (by decide +kernel)), cd_T_conflict, ini_T, by decide +kernel, by decide +kernel, by decide +kernel⟩
theorem sv_T_100 : Sv R_T 100 y_A_conflictSpot b_A_conflictSpot 7 (some .int) 3 := ⟨Or.inr ⟨"ToldFacts", nw_t 236 (by decide +kernel) (by decide +kernel)⟩, cd_A_conflictSpot, ini_A, by decide +kernel, by decide +kernel, by decide +kernel⟩
theorem sv_T_104 : Sv R_T 104 y_A_pickStanding b_A_pickStanding 5 none 3 := ⟨Or.inr ⟨"ToldFacts", nw_t 240 (by decide +kernel) (by decide +kernel)⟩, cd_A_pickStanding, ini_A, by decide +kernel, by decide +kernel, by decide +kernel⟩
theorem sv_T_108 : Sv R_T 108 y_T_thingOf b_T_thingOf 1 (some .int) 1 := ⟨Or.inl (tb_t 244 (by decide +kernel) (by decide +kernel)), cd_T_thingOf, ini_T, by decide +kernel, by decide +kernel, by decide +kernel⟩
theorem sv_T_111 : Sv R_T 111 y_T_kindOf b_T_kindOf 1 (some .int) 1 := ⟨Or.inl (tb_t 247 (by decide +kernel) (by decide +kernel)), cd_T_kindOf, ini_T, by decide +kernel, by decide +kernel, by decide +kernel⟩
theorem sv_T_114 : Sv R_T 114 y_T_dayOf b_T_dayOf 1 (some .int) 1 := ⟨Or.inl (tb_t 250 (by decide +kernel) (by decide +kernel)), cd_T_dayOf, ini_T, by decide +kernel, by decide +kernel, by decide +kernel⟩
theorem sv_T_117 : Sv R_T 117 y_S_size b_S_size 3 (some .int) 0 := ⟨Or.inr ⟨"ToldFacts", nw_t 251 (by decide +kernel) (by decide +kernel)⟩, cd_S_size, ini_S, by decide +kernel, by decide +kernel, by decide +kernel⟩
theorem sv_S_15 : Sv R_S 15 y_J_bitCount b_J_bitCount 2 (some .int) 1 := ⟨Or.inl (tb_t 255 (by decide +kernel) (by decide +kernel)), cd_J_bitCount, ini_J, by decide +kernel, by decide +kernel, by decide +kernel⟩
theorem sv_T_121 : Sv R_T 121 y_A_inOrder b_A_inOrder 6 (some .int) 2 := ⟨Or.inr ⟨"ToldFacts", nw_t 261 (by decide +kernel) (by decide +kernel)⟩, cd_A_inOrder, ini_A, by decide +kernel, by decide +kernel, by decide +kernel⟩
theorem sv_T_125 : Sv R_T 125 y_T_numberOrNone b_T_numberOrNone 2 (some .int) 1 := ⟨Or.inl (tb_t 265 (by decide +kernel) (by decide +kernel)), cd_T_numberOrNone, ini_T, by decide +kernel, by decide +kernel, by decide +kernel⟩
theorem sv_L_45 : Sv R_L 45 y_T_settle b_T_settle 8 (some .int) 4 := ⟨Or.inl (tb_t 269 (by decide +kernel) (by decide +kernel)), cd_T_settle, ini_T, by decide +kernel, by decide +kernel, by decide +kernel⟩
theorem sv_L_50 : Sv R_L 50 y_T_equal b_T_equal 5 (some .boolean) 2 := ⟨Or.inl (tb_t 274 (by decide +kernel) (by decide +kernel)), cd_T_equal, ini_T, by decide +kernel, by decide +kernel, by decide +kernel⟩
theorem sv_T_129 : Sv R_T 129 y_S_isSameAs b_S_isSameAs 3 (some .boolean) 1 := ⟨Or.inr ⟨"ToldFacts", nw_t 278 (by decide +kernel) (by decide +kernel)⟩, cd_S_isSameAs, ini_S, by decide +kernel, by decide +kernel, by decide +kernel⟩
theorem sv_L_55 : Sv R_L 55 y_T_batch b_T_batch 4 (some .int) 1 := ⟨Or.inl (tb_t 282 (by decide +kernel) (by decide +kernel)), cd_T_batch, ini_T, by decide +kernel, by decide +kernel, by decide +kernel⟩
theorem sv_L_60 : Sv R_L 60 y_T_endBatch b_T_endBatch 3 (some .boolean) 1 := ⟨Or.inl (tb_t 286 (by decide +kernel) (by decide +kernel)), cd_T_endBatch, ini_T, by decide +kernel, by decide +kernel, by decide +kernel⟩
theorem sv_T_139 : Sv R_T 139 y_K_learnPending b_K_learnPending 1 none 0 := ⟨Or.inr ⟨"ToldFacts", nw_t 290 (by decide +kernel) (by decide +kernel)⟩, cd_K_learnPending, ini_K, by decide +kernel, by decide +kernel, by decide +kernel⟩
theorem sv_K_48 : Sv R_K 48 y_S_clear b_S_clear 2 none 0 := ⟨Or.inr ⟨"ToldFacts", nw_t 294 (by decide +kernel) (by decide +kernel)⟩, cd_S_clear, ini_S, by decide +kernel, by decide +kernel, by decide +kernel⟩
theorem sv_L_65 : Sv R_L 65 y_T_play b_T_play 7 (some .int) 2 := ⟨Or.inl (tb_t 295 (by decide +kernel) (by decide +kernel)), cd_T_play, ini_T, by decide +kernel, by decide +kernel, by decide +kernel⟩
theorem sv_T_144 : Sv R_T 144 y_W_init b_W_init 3 none 1 := ⟨Or.inr ⟨"ToldFacts", nw_t 301 (by decide +kernel) (by decide +kernel)⟩, cd_W_init, ini_W, by decide +kernel, by decide +kernel, by decide +kernel⟩
theorem lk_W_1 : Cond.methodLink R_W 1 objectInit ∈ TB := tb_t 304 (by decide +kernel) (by decide +kernel)
theorem sv_T_147 : Sv R_T 147 y_T_playTurn b_T_playTurn 7 none 1 := ⟨Or.inl (tb_t 309 (by decide +kernel) (by decide +kernel)), cd_T_playTurn, ini_T, by decide +kernel, by decide +kernel, by decide +kernel⟩
theorem sv_T_174 : Sv R_T 174 y_W_below b_W_below 2 (some .int) 1 := ⟨Or.inr ⟨"ToldFacts", nw_t 313 (by decide +kernel) (by decide +kernel)⟩, cd_W_below, ini_W, by decide +kernel, by decide +kernel, by decide +kernel⟩
theorem sv_T_177 : Sv R_T 177 y_T_tell b_T_tell 9 (some .int) 5 := ⟨Or.inl (tb_t 319 (by decide +kernel) (by decide +kernel)), cd_T_tell, ini_T, by decide +kernel, by decide +kernel, by decide +kernel⟩
theorem sv_T_151 : Sv R_T 151 y_T_counts b_T_counts 3 (some .int) 1 := ⟨Or.inl (tb_t 320 (by decide +kernel) (by decide +kernel)), cd_T_counts, ini_T, by decide +kernel, by decide +kernel, by decide +kernel⟩
theorem sv_L_70 : Sv R_L 70 y_T_find b_T_find 7 (some .int) 4 := ⟨Or.inl (tb_t 324 (by decide +kernel) (by decide +kernel)), cd_T_find, ini_T, by decide +kernel, by decide +kernel, by decide +kernel⟩
theorem sv_T_154 : Sv R_T 154 y_A_pickEqual b_A_pickEqual 7 none 4 := ⟨Or.inr ⟨"ToldFacts", nw_t 328 (by decide +kernel) (by decide +kernel)⟩, cd_A_pickEqual, ini_A, by decide +kernel, by decide +kernel, by decide +kernel⟩
theorem sv_A_62 : Sv R_A 62 y_T_kindOf b_T_kindOf 1 (some .int) 1 := ⟨Or.inr ⟨"ToldFacts", nw_t 332 (by decide +kernel) (by decide +kernel)⟩, cd_T_kindOf, ini_T, by decide +kernel, by decide +kernel, by decide +kernel⟩
theorem sv_L_75 : Sv R_L 75 y_T_counts b_T_counts 3 (some .int) 1 := ⟨Or.inl (tb_t 333 (by decide +kernel) (by decide +kernel)), cd_T_counts, ini_T, by decide +kernel, by decide +kernel, by decide +kernel⟩
theorem sv_L_12 : Sv R_L 12 y_M_init b_M_init 1 none 0 := ⟨Or.inl (tb_t 336 (by decide +kernel) (by decide +kernel)), cd_M_init, ini_M, by decide +kernel, by decide +kernel, by decide +kernel⟩
theorem lk_M_1 : Cond.methodLink R_M 1 objectInit ∈ TB := tb_t 339 (by decide +kernel) (by decide +kernel)
theorem sv_L_17 : Sv R_L 17 y_M_desk b_M_desk 1 (some .int) 0 := ⟨Or.inl (tb_t 397 (by decide +kernel) (by decide +kernel)), cd_M_desk, ini_M, by decide +kernel, by decide +kernel, by decide +kernel⟩
theorem sv_L_24 : Sv R_L 24 y_M_tell b_M_tell 8 (some .int) 5 := ⟨Or.inl (tb_t 401 (by decide +kernel) (by decide +kernel)), cd_M_tell, ini_M, by decide +kernel, by decide +kernel, by decide +kernel⟩
theorem sv_M_62 : Sv R_M 62 y_M_isDesk b_M_isDesk 2 (some .boolean) 1 := ⟨Or.inl (tb_t 405 (by decide +kernel) (by decide +kernel)), cd_M_isDesk, ini_M, by decide +kernel, by decide +kernel, by decide +kernel⟩
theorem sv_M_68 : Sv R_M 68 y_M_add b_M_add 9 (some .int) 5 := ⟨Or.inl (tb_t 410 (by decide +kernel) (by decide +kernel)), cd_M_add, ini_M, by decide +kernel, by decide +kernel, by decide +kernel⟩
theorem sv_L_29 : Sv R_L 29 y_M_correct b_M_correct 7 (some .int) 3 := ⟨Or.inl (tb_t 414 (by decide +kernel) (by decide +kernel)), cd_M_correct, ini_M, by decide +kernel, by decide +kernel, by decide +kernel⟩
theorem sv_M_76 : Sv R_M 76 y_M_place b_M_place 3 (some .int) 1 := ⟨Or.inl (tb_t 418 (by decide +kernel) (by decide +kernel)), cd_M_place, ini_M, by decide +kernel, by decide +kernel, by decide +kernel⟩
theorem sv_M_80 : Sv R_M 80 y_M_look b_M_look 4 none 1 := ⟨Or.inl (tb_t 422 (by decide +kernel) (by decide +kernel)), cd_M_look, ini_M, by decide +kernel, by decide +kernel, by decide +kernel⟩
theorem sv_L_34 : Sv R_L 34 y_M_join b_M_join 4 (some .int) 2 := ⟨Or.inl (tb_t 426 (by decide +kernel) (by decide +kernel)), cd_M_join, ini_M, by decide +kernel, by decide +kernel, by decide +kernel⟩
theorem sv_M_91 : Sv R_M 91 y_M_conflicts b_M_conflicts 4 (some .int) 1 := ⟨Or.inl (tb_t 430 (by decide +kernel) (by decide +kernel)), cd_M_conflicts, ini_M, by decide +kernel, by decide +kernel, by decide +kernel⟩
theorem sv_M_88 : Sv R_M 88 y_M_isFirstOfConflict b_M_isFirstOfConflict 4 (some .boolean) 1 := ⟨Or.inl (tb_t 434 (by decide +kernel) (by decide +kernel)), cd_M_isFirstOfConflict, ini_M, by decide +kernel, by decide +kernel, by decide +kernel⟩
theorem sv_M_84 : Sv R_M 84 y_M_areOne b_M_areOne 3 (some .boolean) 2 := ⟨Or.inl (tb_t 438 (by decide +kernel) (by decide +kernel)), cd_M_areOne, ini_M, by decide +kernel, by decide +kernel, by decide +kernel⟩
theorem sv_L_44 : Sv R_L 44 y_M_conflict b_M_conflict 7 (some .int) 3 := ⟨Or.inl (tb_t 442 (by decide +kernel) (by decide +kernel)), cd_M_conflict, ini_M, by decide +kernel, by decide +kernel, by decide +kernel⟩
theorem sv_M_94 : Sv R_M 94 y_M_isBefore b_M_isBefore 3 (some .boolean) 2 := ⟨Or.inl (tb_t 446 (by decide +kernel) (by decide +kernel)), cd_M_isBefore, ini_M, by decide +kernel, by decide +kernel, by decide +kernel⟩
theorem sv_M_97 : Sv R_M 97 y_M_standing b_M_standing 8 (some .int) 2 := ⟨Or.inl (tb_t 450 (by decide +kernel) (by decide +kernel)), cd_M_standing, ini_M, by decide +kernel, by decide +kernel, by decide +kernel⟩
theorem sv_L_49 : Sv R_L 49 y_M_settle b_M_settle 11 (some .int) 4 := ⟨Or.inl (tb_t 454 (by decide +kernel) (by decide +kernel)), cd_M_settle, ini_M, by decide +kernel, by decide +kernel, by decide +kernel⟩
theorem sv_L_39 : Sv R_L 39 y_M_known b_M_known 11 (some .long) 5 := ⟨Or.inl (tb_t 458 (by decide +kernel) (by decide +kernel)), cd_M_known, ini_M, by decide +kernel, by decide +kernel, by decide +kernel⟩
theorem sv_M_105 : Sv R_M 105 y_M_stands b_M_stands 7 (some .boolean) 3 := ⟨Or.inl (tb_t 463 (by decide +kernel) (by decide +kernel)), cd_M_stands, ini_M, by decide +kernel, by decide +kernel, by decide +kernel⟩
theorem sv_M_72 : Sv R_M 72 y_M_isKnown b_M_isKnown 5 (some .boolean) 3 := ⟨Or.inl (tb_t 467 (by decide +kernel) (by decide +kernel)), cd_M_isKnown, ini_M, by decide +kernel, by decide +kernel, by decide +kernel⟩
theorem sv_L_54 : Sv R_L 54 y_M_equal b_M_equal 5 (some .boolean) 2 := ⟨Or.inl (tb_t 471 (by decide +kernel) (by decide +kernel)), cd_M_equal, ini_M, by decide +kernel, by decide +kernel, by decide +kernel⟩
theorem sv_L_74 : Sv R_L 74 y_M_find b_M_find 9 (some .int) 4 := ⟨Or.inl (tb_t 475 (by decide +kernel) (by decide +kernel)), cd_M_find, ini_M, by decide +kernel, by decide +kernel, by decide +kernel⟩
theorem sv_L_78 : Sv R_L 78 y_M_counts b_M_counts 4 (some .int) 1 := ⟨Or.inl (tb_t 479 (by decide +kernel) (by decide +kernel)), cd_M_counts, ini_M, by decide +kernel, by decide +kernel, by decide +kernel⟩
theorem sv_L_59 : Sv R_L 59 y_M_batch b_M_batch 2 (some .int) 1 := ⟨Or.inl (tb_t 483 (by decide +kernel) (by decide +kernel)), cd_M_batch, ini_M, by decide +kernel, by decide +kernel, by decide +kernel⟩
theorem sv_L_64 : Sv R_L 64 y_M_endBatch b_M_endBatch 4 (some .boolean) 1 := ⟨Or.inl (tb_t 487 (by decide +kernel) (by decide +kernel)), cd_M_endBatch, ini_M, by decide +kernel, by decide +kernel, by decide +kernel⟩
theorem sv_L_69 : Sv R_L 69 y_M_play b_M_play 11 (some .int) 2 := ⟨Or.inl (tb_t 491 (by decide +kernel) (by decide +kernel)), cd_M_play, ini_M, by decide +kernel, by decide +kernel, by decide +kernel⟩
theorem sv_M_119 : Sv R_M 119 y_M_draw b_M_draw 2 (some .int) 1 := ⟨Or.inl (tb_t 495 (by decide +kernel) (by decide +kernel)), cd_M_draw, ini_M, by decide +kernel, by decide +kernel, by decide +kernel⟩
theorem sv_M_122 : Sv R_M 122 y_M_tell b_M_tell 8 (some .int) 5 := ⟨Or.inl (tb_t 501 (by decide +kernel) (by decide +kernel)), cd_M_tell, ini_M, by decide +kernel, by decide +kernel, by decide +kernel⟩
theorem sv_M_125 : Sv R_M 125 y_M_join b_M_join 4 (some .int) 2 := ⟨Or.inl (tb_t 502 (by decide +kernel) (by decide +kernel)), cd_M_join, ini_M, by decide +kernel, by decide +kernel, by decide +kernel⟩
theorem sv_M_128 : Sv R_M 128 y_M_counts b_M_counts 4 (some .int) 1 := ⟨Or.inl (tb_t 503 (by decide +kernel) (by decide +kernel)), cd_M_counts, ini_M, by decide +kernel, by decide +kernel, by decide +kernel⟩
end
section
theorem d_S_init_0 : decode b_S_init 0 = .ok (.aload_n 0, 1) := by decide +kernel
theorem d_S_init_1 : decode b_S_init 1 = .ok (.invokespecial 3, 3) := by decide +kernel
theorem d_S_init_4 : decode b_S_init 4 = .ok (.aload_n 0, 1) := by decide +kernel
theorem d_S_init_5 : decode b_S_init 5 = .ok (.iconst 5, 1) := by decide +kernel
theorem d_S_init_6 : decode b_S_init 6 = .ok (.newarray .long, 2) := by decide +kernel
theorem d_S_init_8 : decode b_S_init 8 = .ok (.putfield 11, 3) := by decide +kernel
theorem d_S_init_11 : decode b_S_init 11 = .ok (.return_, 1) := by decide +kernel
theorem d_S_has_0 : decode b_S_has 0 = .ok (.aload_n 0, 1) := by decide +kernel
theorem d_S_has_1 : decode b_S_has 1 = .ok (.getfield 11, 3) := by decide +kernel
theorem d_S_has_4 : decode b_S_has 4 = .ok (.iload_n 1, 1) := by decide +kernel
theorem d_S_has_5 : decode b_S_has 5 = .ok (.bipush 64, 2) := by decide +kernel
theorem d_S_has_7 : decode b_S_has 7 = .ok (.idiv, 1) := by decide +kernel
theorem d_S_has_8 : decode b_S_has 8 = .ok (.laload, 1) := by decide +kernel
theorem d_S_has_9 : decode b_S_has 9 = .ok (.lconst 1, 1) := by decide +kernel
theorem d_S_has_10 : decode b_S_has 10 = .ok (.iload_n 1, 1) := by decide +kernel
theorem d_S_has_11 : decode b_S_has 11 = .ok (.bipush 64, 2) := by decide +kernel
theorem d_S_has_13 : decode b_S_has 13 = .ok (.irem, 1) := by decide +kernel
theorem d_S_has_14 : decode b_S_has 14 = .ok (.lshl, 1) := by decide +kernel
theorem d_S_has_15 : decode b_S_has 15 = .ok (.land, 1) := by decide +kernel
theorem d_S_has_16 : decode b_S_has 16 = .ok (.lconst 0, 1) := by decide +kernel
theorem d_S_has_17 : decode b_S_has 17 = .ok (.lcmp, 1) := by decide +kernel
theorem d_S_has_18 : decode b_S_has 18 = .ok (.ifCond .eq 7, 3) := by decide +kernel
theorem d_S_has_21 : decode b_S_has 21 = .ok (.iconst 1, 1) := by decide +kernel
theorem d_S_has_22 : decode b_S_has 22 = .ok (.goto 4, 3) := by decide +kernel
theorem d_S_has_25 : decode b_S_has 25 = .ok (.iconst 0, 1) := by decide +kernel
theorem d_S_has_26 : decode b_S_has 26 = .ok (.ireturn, 1) := by decide +kernel
theorem d_S_add_0 : decode b_S_add 0 = .ok (.aload_n 0, 1) := by decide +kernel
theorem d_S_add_1 : decode b_S_add 1 = .ok (.getfield 11, 3) := by decide +kernel
theorem d_S_add_4 : decode b_S_add 4 = .ok (.iload_n 1, 1) := by decide +kernel
theorem d_S_add_5 : decode b_S_add 5 = .ok (.bipush 64, 2) := by decide +kernel
theorem d_S_add_7 : decode b_S_add 7 = .ok (.idiv, 1) := by decide +kernel
theorem d_S_add_8 : decode b_S_add 8 = .ok (.dup2, 1) := by decide +kernel
theorem d_S_add_9 : decode b_S_add 9 = .ok (.laload, 1) := by decide +kernel
theorem d_S_add_10 : decode b_S_add 10 = .ok (.lconst 1, 1) := by decide +kernel
theorem d_S_add_11 : decode b_S_add 11 = .ok (.iload_n 1, 1) := by decide +kernel
theorem d_S_add_12 : decode b_S_add 12 = .ok (.bipush 64, 2) := by decide +kernel
theorem d_S_add_14 : decode b_S_add 14 = .ok (.irem, 1) := by decide +kernel
theorem d_S_add_15 : decode b_S_add 15 = .ok (.lshl, 1) := by decide +kernel
theorem d_S_add_16 : decode b_S_add 16 = .ok (.lor, 1) := by decide +kernel
theorem d_S_add_17 : decode b_S_add 17 = .ok (.lastore, 1) := by decide +kernel
theorem d_S_add_18 : decode b_S_add 18 = .ok (.return_, 1) := by decide +kernel
theorem d_S_addAll_0 : decode b_S_addAll 0 = .ok (.iconst 0, 1) := by decide +kernel
theorem d_S_addAll_1 : decode b_S_addAll 1 = .ok (.istore_n 2, 1) := by decide +kernel
theorem d_S_addAll_2 : decode b_S_addAll 2 = .ok (.iload_n 2, 1) := by decide +kernel
theorem d_S_addAll_3 : decode b_S_addAll 3 = .ok (.iconst 5, 1) := by decide +kernel
theorem d_S_addAll_4 : decode b_S_addAll 4 = .ok (.if_icmp .ge 24, 3) := by decide +kernel
theorem d_S_addAll_7 : decode b_S_addAll 7 = .ok (.aload_n 0, 1) := by decide +kernel
theorem d_S_addAll_8 : decode b_S_addAll 8 = .ok (.getfield 11, 3) := by decide +kernel
theorem d_S_addAll_11 : decode b_S_addAll 11 = .ok (.iload_n 2, 1) := by decide +kernel
theorem d_S_addAll_12 : decode b_S_addAll 12 = .ok (.dup2, 1) := by decide +kernel
theorem d_S_addAll_13 : decode b_S_addAll 13 = .ok (.laload, 1) := by decide +kernel
theorem d_S_addAll_14 : decode b_S_addAll 14 = .ok (.aload_n 1, 1) := by decide +kernel
theorem d_S_addAll_15 : decode b_S_addAll 15 = .ok (.getfield 11, 3) := by decide +kernel
theorem d_S_addAll_18 : decode b_S_addAll 18 = .ok (.iload_n 2, 1) := by decide +kernel
theorem d_S_addAll_19 : decode b_S_addAll 19 = .ok (.laload, 1) := by decide +kernel
theorem d_S_addAll_20 : decode b_S_addAll 20 = .ok (.lor, 1) := by decide +kernel
theorem d_S_addAll_21 : decode b_S_addAll 21 = .ok (.lastore, 1) := by decide +kernel
theorem d_S_addAll_22 : decode b_S_addAll 22 = .ok (.iinc 2 1, 3) := by decide +kernel
theorem d_S_addAll_25 : decode b_S_addAll 25 = .ok (.goto (-23), 3) := by decide +kernel
theorem d_S_addAll_28 : decode b_S_addAll 28 = .ok (.return_, 1) := by decide +kernel
theorem d_S_clear_0 : decode b_S_clear 0 = .ok (.iconst 0, 1) := by decide +kernel
theorem d_S_clear_1 : decode b_S_clear 1 = .ok (.istore_n 1, 1) := by decide +kernel
theorem d_S_clear_2 : decode b_S_clear 2 = .ok (.iload_n 1, 1) := by decide +kernel
theorem d_S_clear_3 : decode b_S_clear 3 = .ok (.iconst 5, 1) := by decide +kernel
theorem d_S_clear_4 : decode b_S_clear 4 = .ok (.if_icmp .ge 16, 3) := by decide +kernel
theorem d_S_clear_7 : decode b_S_clear 7 = .ok (.aload_n 0, 1) := by decide +kernel
theorem d_S_clear_8 : decode b_S_clear 8 = .ok (.getfield 11, 3) := by decide +kernel
theorem d_S_clear_11 : decode b_S_clear 11 = .ok (.iload_n 1, 1) := by decide +kernel
theorem d_S_clear_12 : decode b_S_clear 12 = .ok (.lconst 0, 1) := by decide +kernel
theorem d_S_clear_13 : decode b_S_clear 13 = .ok (.lastore, 1) := by decide +kernel
theorem d_S_clear_14 : decode b_S_clear 14 = .ok (.iinc 1 1, 3) := by decide +kernel
theorem d_S_clear_17 : decode b_S_clear 17 = .ok (.goto (-15), 3) := by decide +kernel
theorem d_S_clear_20 : decode b_S_clear 20 = .ok (.return_, 1) := by decide +kernel
theorem d_S_size_0 : decode b_S_size 0 = .ok (.iconst 0, 1) := by decide +kernel
theorem d_S_size_1 : decode b_S_size 1 = .ok (.istore_n 1, 1) := by decide +kernel
theorem d_S_size_2 : decode b_S_size 2 = .ok (.iconst 0, 1) := by decide +kernel
theorem d_S_size_3 : decode b_S_size 3 = .ok (.istore_n 2, 1) := by decide +kernel
theorem d_S_size_4 : decode b_S_size 4 = .ok (.iload_n 2, 1) := by decide +kernel
theorem d_S_size_5 : decode b_S_size 5 = .ok (.iconst 5, 1) := by decide +kernel
theorem d_S_size_6 : decode b_S_size 6 = .ok (.if_icmp .ge 21, 3) := by decide +kernel
theorem d_S_size_9 : decode b_S_size 9 = .ok (.iload_n 1, 1) := by decide +kernel
theorem d_S_size_10 : decode b_S_size 10 = .ok (.aload_n 0, 1) := by decide +kernel
theorem d_S_size_11 : decode b_S_size 11 = .ok (.getfield 11, 3) := by decide +kernel
theorem d_S_size_14 : decode b_S_size 14 = .ok (.iload_n 2, 1) := by decide +kernel
theorem d_S_size_15 : decode b_S_size 15 = .ok (.laload, 1) := by decide +kernel
theorem d_S_size_16 : decode b_S_size 16 = .ok (.invokestatic 15, 3) := by decide +kernel
theorem d_S_size_19 : decode b_S_size 19 = .ok (.iadd, 1) := by decide +kernel
theorem d_S_size_20 : decode b_S_size 20 = .ok (.istore_n 1, 1) := by decide +kernel
theorem d_S_size_21 : decode b_S_size 21 = .ok (.iinc 2 1, 3) := by decide +kernel
theorem d_S_size_24 : decode b_S_size 24 = .ok (.goto (-20), 3) := by decide +kernel
theorem d_S_size_27 : decode b_S_size 27 = .ok (.iload_n 1, 1) := by decide +kernel
theorem d_S_size_28 : decode b_S_size 28 = .ok (.ireturn, 1) := by decide +kernel
theorem d_S_isSameAs_0 : decode b_S_isSameAs 0 = .ok (.iconst 0, 1) := by decide +kernel
theorem d_S_isSameAs_1 : decode b_S_isSameAs 1 = .ok (.istore_n 2, 1) := by decide +kernel
theorem d_S_isSameAs_2 : decode b_S_isSameAs 2 = .ok (.iload_n 2, 1) := by decide +kernel
theorem d_S_isSameAs_3 : decode b_S_isSameAs 3 = .ok (.iconst 5, 1) := by decide +kernel
theorem d_S_isSameAs_4 : decode b_S_isSameAs 4 = .ok (.if_icmp .ge 27, 3) := by decide +kernel
theorem d_S_isSameAs_7 : decode b_S_isSameAs 7 = .ok (.aload_n 0, 1) := by decide +kernel
theorem d_S_isSameAs_8 : decode b_S_isSameAs 8 = .ok (.getfield 11, 3) := by decide +kernel
theorem d_S_isSameAs_11 : decode b_S_isSameAs 11 = .ok (.iload_n 2, 1) := by decide +kernel
theorem d_S_isSameAs_12 : decode b_S_isSameAs 12 = .ok (.laload, 1) := by decide +kernel
theorem d_S_isSameAs_13 : decode b_S_isSameAs 13 = .ok (.aload_n 1, 1) := by decide +kernel
theorem d_S_isSameAs_14 : decode b_S_isSameAs 14 = .ok (.getfield 11, 3) := by decide +kernel
theorem d_S_isSameAs_17 : decode b_S_isSameAs 17 = .ok (.iload_n 2, 1) := by decide +kernel
theorem d_S_isSameAs_18 : decode b_S_isSameAs 18 = .ok (.laload, 1) := by decide +kernel
theorem d_S_isSameAs_19 : decode b_S_isSameAs 19 = .ok (.lcmp, 1) := by decide +kernel
theorem d_S_isSameAs_20 : decode b_S_isSameAs 20 = .ok (.ifCond .eq 5, 3) := by decide +kernel
theorem d_S_isSameAs_23 : decode b_S_isSameAs 23 = .ok (.iconst 0, 1) := by decide +kernel
theorem d_S_isSameAs_24 : decode b_S_isSameAs 24 = .ok (.ireturn, 1) := by decide +kernel
theorem d_S_isSameAs_25 : decode b_S_isSameAs 25 = .ok (.iinc 2 1, 3) := by decide +kernel
theorem d_S_isSameAs_28 : decode b_S_isSameAs 28 = .ok (.goto (-26), 3) := by decide +kernel
theorem d_S_isSameAs_31 : decode b_S_isSameAs 31 = .ok (.iconst 1, 1) := by decide +kernel
theorem d_S_isSameAs_32 : decode b_S_isSameAs 32 = .ok (.ireturn, 1) := by decide +kernel
theorem d_K_init_0 : decode b_K_init 0 = .ok (.aload_n 0, 1) := by decide +kernel
theorem d_K_init_1 : decode b_K_init 1 = .ok (.invokespecial 3, 3) := by decide +kernel
theorem d_K_init_4 : decode b_K_init 4 = .ok (.aload_n 0, 1) := by decide +kernel
theorem d_K_init_5 : decode b_K_init 5 = .ok (.new 9, 3) := by decide +kernel
theorem d_K_init_8 : decode b_K_init 8 = .ok (.dup, 1) := by decide +kernel
theorem d_K_init_9 : decode b_K_init 9 = .ok (.invokespecial 11, 3) := by decide +kernel
theorem d_K_init_12 : decode b_K_init 12 = .ok (.putfield 12, 3) := by decide +kernel
theorem d_K_init_15 : decode b_K_init 15 = .ok (.aload_n 0, 1) := by decide +kernel
theorem d_K_init_16 : decode b_K_init 16 = .ok (.new 9, 3) := by decide +kernel
theorem d_K_init_19 : decode b_K_init 19 = .ok (.dup, 1) := by decide +kernel
theorem d_K_init_20 : decode b_K_init 20 = .ok (.invokespecial 11, 3) := by decide +kernel
theorem d_K_init_23 : decode b_K_init 23 = .ok (.putfield 18, 3) := by decide +kernel
theorem d_K_init_26 : decode b_K_init 26 = .ok (.aload_n 0, 1) := by decide +kernel
theorem d_K_init_27 : decode b_K_init 27 = .ok (.iconst (-1), 1) := by decide +kernel
theorem d_K_init_28 : decode b_K_init 28 = .ok (.putfield 21, 3) := by decide +kernel
theorem d_K_init_31 : decode b_K_init 31 = .ok (.aload_n 0, 1) := by decide +kernel
theorem d_K_init_32 : decode b_K_init 32 = .ok (.iload_n 1, 1) := by decide +kernel
theorem d_K_init_33 : decode b_K_init 33 = .ok (.putfield 25, 3) := by decide +kernel
theorem d_K_init_36 : decode b_K_init 36 = .ok (.return_, 1) := by decide +kernel
theorem d_K_nextNumber_0 : decode b_K_nextNumber 0 = .ok (.bipush 8, 2) := by decide +kernel
theorem d_K_nextNumber_2 : decode b_K_nextNumber 2 = .ok (.aload_n 0, 1) := by decide +kernel
theorem d_K_nextNumber_3 : decode b_K_nextNumber 3 = .ok (.getfield 28, 3) := by decide +kernel
theorem d_K_nextNumber_6 : decode b_K_nextNumber 6 = .ok (.imul, 1) := by decide +kernel
theorem d_K_nextNumber_7 : decode b_K_nextNumber 7 = .ok (.aload_n 0, 1) := by decide +kernel
theorem d_K_nextNumber_8 : decode b_K_nextNumber 8 = .ok (.getfield 25, 3) := by decide +kernel
theorem d_K_nextNumber_11 : decode b_K_nextNumber 11 = .ok (.iadd, 1) := by decide +kernel
theorem d_K_nextNumber_12 : decode b_K_nextNumber 12 = .ok (.ireturn, 1) := by decide +kernel
theorem d_K_nextTime_0 : decode b_K_nextTime 0 = .ok (.aload_n 0, 1) := by decide +kernel
theorem d_K_nextTime_1 : decode b_K_nextTime 1 = .ok (.getfield 31, 3) := by decide +kernel
theorem d_K_nextTime_4 : decode b_K_nextTime 4 = .ok (.iconst 1, 1) := by decide +kernel
theorem d_K_nextTime_5 : decode b_K_nextTime 5 = .ok (.iadd, 1) := by decide +kernel
theorem d_K_nextTime_6 : decode b_K_nextTime 6 = .ok (.ireturn, 1) := by decide +kernel
theorem d_K_hear_0 : decode b_K_hear 0 = .ok (.aload_n 0, 1) := by decide +kernel
theorem d_K_hear_1 : decode b_K_hear 1 = .ok (.dup, 1) := by decide +kernel
theorem d_K_hear_2 : decode b_K_hear 2 = .ok (.getfield 28, 3) := by decide +kernel
theorem d_K_hear_5 : decode b_K_hear 5 = .ok (.iconst 1, 1) := by decide +kernel
theorem d_K_hear_6 : decode b_K_hear 6 = .ok (.iadd, 1) := by decide +kernel
theorem d_K_hear_7 : decode b_K_hear 7 = .ok (.putfield 28, 3) := by decide +kernel
theorem d_K_hear_10 : decode b_K_hear 10 = .ok (.aload_n 0, 1) := by decide +kernel
theorem d_K_hear_11 : decode b_K_hear 11 = .ok (.dup, 1) := by decide +kernel
theorem d_K_hear_12 : decode b_K_hear 12 = .ok (.getfield 31, 3) := by decide +kernel
theorem d_K_hear_15 : decode b_K_hear 15 = .ok (.iconst 1, 1) := by decide +kernel
theorem d_K_hear_16 : decode b_K_hear 16 = .ok (.iadd, 1) := by decide +kernel
theorem d_K_hear_17 : decode b_K_hear 17 = .ok (.putfield 31, 3) := by decide +kernel
theorem d_K_hear_20 : decode b_K_hear 20 = .ok (.aload_n 0, 1) := by decide +kernel
theorem d_K_hear_21 : decode b_K_hear 21 = .ok (.getfield 21, 3) := by decide +kernel
theorem d_K_hear_24 : decode b_K_hear 24 = .ok (.iconst (-1), 1) := by decide +kernel
theorem d_K_hear_25 : decode b_K_hear 25 = .ok (.if_icmp .ne 14, 3) := by decide +kernel
theorem d_K_hear_28 : decode b_K_hear 28 = .ok (.aload_n 0, 1) := by decide +kernel
theorem d_K_hear_29 : decode b_K_hear 29 = .ok (.getfield 12, 3) := by decide +kernel
theorem d_K_hear_32 : decode b_K_hear 32 = .ok (.iload_n 1, 1) := by decide +kernel
theorem d_K_hear_33 : decode b_K_hear 33 = .ok (.invokevirtual 34, 3) := by decide +kernel
theorem d_K_hear_36 : decode b_K_hear 36 = .ok (.goto 11, 3) := by decide +kernel
theorem d_K_hear_39 : decode b_K_hear 39 = .ok (.aload_n 0, 1) := by decide +kernel
theorem d_K_hear_40 : decode b_K_hear 40 = .ok (.getfield 18, 3) := by decide +kernel
theorem d_K_hear_43 : decode b_K_hear 43 = .ok (.iload_n 1, 1) := by decide +kernel
theorem d_K_hear_44 : decode b_K_hear 44 = .ok (.invokevirtual 34, 3) := by decide +kernel
theorem d_K_hear_47 : decode b_K_hear 47 = .ok (.return_, 1) := by decide +kernel
theorem d_K_learnFrom_0 : decode b_K_learnFrom 0 = .ok (.aload_n 0, 1) := by decide +kernel
theorem d_K_learnFrom_1 : decode b_K_learnFrom 1 = .ok (.getfield 12, 3) := by decide +kernel
theorem d_K_learnFrom_4 : decode b_K_learnFrom 4 = .ok (.aload_n 1, 1) := by decide +kernel
theorem d_K_learnFrom_5 : decode b_K_learnFrom 5 = .ok (.getfield 12, 3) := by decide +kernel
theorem d_K_learnFrom_8 : decode b_K_learnFrom 8 = .ok (.invokevirtual 38, 3) := by decide +kernel
theorem d_K_learnFrom_11 : decode b_K_learnFrom 11 = .ok (.aload_n 0, 1) := by decide +kernel
theorem d_K_learnFrom_12 : decode b_K_learnFrom 12 = .ok (.aload_n 0, 1) := by decide +kernel
theorem d_K_learnFrom_13 : decode b_K_learnFrom 13 = .ok (.getfield 31, 3) := by decide +kernel
theorem d_K_learnFrom_16 : decode b_K_learnFrom 16 = .ok (.aload_n 1, 1) := by decide +kernel
theorem d_K_learnFrom_17 : decode b_K_learnFrom 17 = .ok (.getfield 31, 3) := by decide +kernel
theorem d_K_learnFrom_20 : decode b_K_learnFrom 20 = .ok (.invokestatic 42, 3) := by decide +kernel
theorem d_K_learnFrom_23 : decode b_K_learnFrom 23 = .ok (.putfield 31, 3) := by decide +kernel
theorem d_K_learnFrom_26 : decode b_K_learnFrom 26 = .ok (.return_, 1) := by decide +kernel
theorem d_K_learnPending_0 : decode b_K_learnPending 0 = .ok (.aload_n 0, 1) := by decide +kernel
theorem d_K_learnPending_1 : decode b_K_learnPending 1 = .ok (.getfield 12, 3) := by decide +kernel
theorem d_K_learnPending_4 : decode b_K_learnPending 4 = .ok (.aload_n 0, 1) := by decide +kernel
theorem d_K_learnPending_5 : decode b_K_learnPending 5 = .ok (.getfield 18, 3) := by decide +kernel
theorem d_K_learnPending_8 : decode b_K_learnPending 8 = .ok (.invokevirtual 38, 3) := by decide +kernel
theorem d_K_learnPending_11 : decode b_K_learnPending 11 = .ok (.aload_n 0, 1) := by decide +kernel
theorem d_K_learnPending_12 : decode b_K_learnPending 12 = .ok (.getfield 18, 3) := by decide +kernel
theorem d_K_learnPending_15 : decode b_K_learnPending 15 = .ok (.invokevirtual 48, 3) := by decide +kernel
theorem d_K_learnPending_18 : decode b_K_learnPending 18 = .ok (.aload_n 0, 1) := by decide +kernel
theorem d_K_learnPending_19 : decode b_K_learnPending 19 = .ok (.iconst (-1), 1) := by decide +kernel
theorem d_K_learnPending_20 : decode b_K_learnPending 20 = .ok (.putfield 21, 3) := by decide +kernel
theorem d_K_learnPending_23 : decode b_K_learnPending 23 = .ok (.return_, 1) := by decide +kernel
theorem d_W_init_0 : decode b_W_init 0 = .ok (.aload_n 0, 1) := by decide +kernel
theorem d_W_init_1 : decode b_W_init 1 = .ok (.invokespecial 1, 3) := by decide +kernel
theorem d_W_init_4 : decode b_W_init 4 = .ok (.aload_n 0, 1) := by decide +kernel
theorem d_W_init_5 : decode b_W_init 5 = .ok (.lload_n 1, 1) := by decide +kernel
theorem d_W_init_6 : decode b_W_init 6 = .ok (.putfield 7, 3) := by decide +kernel
theorem d_W_init_9 : decode b_W_init 9 = .ok (.return_, 1) := by decide +kernel
theorem d_W_below_0 : decode b_W_below 0 = .ok (.aload_n 0, 1) := by decide +kernel
theorem d_W_below_1 : decode b_W_below 1 = .ok (.aload_n 0, 1) := by decide +kernel
theorem d_W_below_2 : decode b_W_below 2 = .ok (.getfield 7, 3) := by decide +kernel
theorem d_W_below_5 : decode b_W_below 5 = .ok (.ldc2_w 13, 3) := by decide +kernel
theorem d_W_below_8 : decode b_W_below 8 = .ok (.lmul, 1) := by decide +kernel
theorem d_W_below_9 : decode b_W_below 9 = .ok (.ldc2_w 15, 3) := by decide +kernel
theorem d_W_below_12 : decode b_W_below 12 = .ok (.ladd, 1) := by decide +kernel
theorem d_W_below_13 : decode b_W_below 13 = .ok (.putfield 7, 3) := by decide +kernel
theorem d_W_below_16 : decode b_W_below 16 = .ok (.iload_n 1, 1) := by decide +kernel
theorem d_W_below_17 : decode b_W_below 17 = .ok (.iconst 1, 1) := by decide +kernel
theorem d_W_below_18 : decode b_W_below 18 = .ok (.if_icmp .ge 7, 3) := by decide +kernel
theorem d_W_below_21 : decode b_W_below 21 = .ok (.iconst 0, 1) := by decide +kernel
theorem d_W_below_22 : decode b_W_below 22 = .ok (.goto 14, 3) := by decide +kernel
theorem d_W_below_25 : decode b_W_below 25 = .ok (.aload_n 0, 1) := by decide +kernel
theorem d_W_below_26 : decode b_W_below 26 = .ok (.getfield 7, 3) := by decide +kernel
theorem d_W_below_29 : decode b_W_below 29 = .ok (.bipush 33, 2) := by decide +kernel
theorem d_W_below_31 : decode b_W_below 31 = .ok (.lushr, 1) := by decide +kernel
theorem d_W_below_32 : decode b_W_below 32 = .ok (.iload_n 1, 1) := by decide +kernel
theorem d_W_below_33 : decode b_W_below 33 = .ok (.i2l, 1) := by decide +kernel
theorem d_W_below_34 : decode b_W_below 34 = .ok (.lrem, 1) := by decide +kernel
theorem d_W_below_35 : decode b_W_below 35 = .ok (.l2i, 1) := by decide +kernel
theorem d_W_below_36 : decode b_W_below 36 = .ok (.ireturn, 1) := by decide +kernel
theorem d_J_bitCount_0 : decode b_J_bitCount 0 = .ok (.lload_n 0, 1) := by decide +kernel
theorem d_J_bitCount_1 : decode b_J_bitCount 1 = .ok (.lload_n 0, 1) := by decide +kernel
theorem d_J_bitCount_2 : decode b_J_bitCount 2 = .ok (.iconst 1, 1) := by decide +kernel
theorem d_J_bitCount_3 : decode b_J_bitCount 3 = .ok (.lushr, 1) := by decide +kernel
theorem d_J_bitCount_4 : decode b_J_bitCount 4 = .ok (.ldc2_w 314, 3) := by decide +kernel
theorem d_J_bitCount_7 : decode b_J_bitCount 7 = .ok (.land, 1) := by decide +kernel
theorem d_J_bitCount_8 : decode b_J_bitCount 8 = .ok (.lsub, 1) := by decide +kernel
theorem d_J_bitCount_9 : decode b_J_bitCount 9 = .ok (.lstore_n 0, 1) := by decide +kernel
theorem d_J_bitCount_10 : decode b_J_bitCount 10 = .ok (.lload_n 0, 1) := by decide +kernel
theorem d_J_bitCount_11 : decode b_J_bitCount 11 = .ok (.ldc2_w 316, 3) := by decide +kernel
theorem d_J_bitCount_14 : decode b_J_bitCount 14 = .ok (.land, 1) := by decide +kernel
theorem d_J_bitCount_15 : decode b_J_bitCount 15 = .ok (.lload_n 0, 1) := by decide +kernel
theorem d_J_bitCount_16 : decode b_J_bitCount 16 = .ok (.iconst 2, 1) := by decide +kernel
theorem d_J_bitCount_17 : decode b_J_bitCount 17 = .ok (.lushr, 1) := by decide +kernel
theorem d_J_bitCount_18 : decode b_J_bitCount 18 = .ok (.ldc2_w 316, 3) := by decide +kernel
theorem d_J_bitCount_21 : decode b_J_bitCount 21 = .ok (.land, 1) := by decide +kernel
theorem d_J_bitCount_22 : decode b_J_bitCount 22 = .ok (.ladd, 1) := by decide +kernel
theorem d_J_bitCount_23 : decode b_J_bitCount 23 = .ok (.lstore_n 0, 1) := by decide +kernel
theorem d_J_bitCount_24 : decode b_J_bitCount 24 = .ok (.lload_n 0, 1) := by decide +kernel
theorem d_J_bitCount_25 : decode b_J_bitCount 25 = .ok (.lload_n 0, 1) := by decide +kernel
theorem d_J_bitCount_26 : decode b_J_bitCount 26 = .ok (.iconst 4, 1) := by decide +kernel
theorem d_J_bitCount_27 : decode b_J_bitCount 27 = .ok (.lushr, 1) := by decide +kernel
theorem d_J_bitCount_28 : decode b_J_bitCount 28 = .ok (.ladd, 1) := by decide +kernel
theorem d_J_bitCount_29 : decode b_J_bitCount 29 = .ok (.ldc2_w 318, 3) := by decide +kernel
theorem d_J_bitCount_32 : decode b_J_bitCount 32 = .ok (.land, 1) := by decide +kernel
theorem d_J_bitCount_33 : decode b_J_bitCount 33 = .ok (.lstore_n 0, 1) := by decide +kernel
theorem d_J_bitCount_34 : decode b_J_bitCount 34 = .ok (.lload_n 0, 1) := by decide +kernel
theorem d_J_bitCount_35 : decode b_J_bitCount 35 = .ok (.lload_n 0, 1) := by decide +kernel
theorem d_J_bitCount_36 : decode b_J_bitCount 36 = .ok (.bipush 8, 2) := by decide +kernel
theorem d_J_bitCount_38 : decode b_J_bitCount 38 = .ok (.lushr, 1) := by decide +kernel
theorem d_J_bitCount_39 : decode b_J_bitCount 39 = .ok (.ladd, 1) := by decide +kernel
theorem d_J_bitCount_40 : decode b_J_bitCount 40 = .ok (.lstore_n 0, 1) := by decide +kernel
theorem d_J_bitCount_41 : decode b_J_bitCount 41 = .ok (.lload_n 0, 1) := by decide +kernel
theorem d_J_bitCount_42 : decode b_J_bitCount 42 = .ok (.lload_n 0, 1) := by decide +kernel
theorem d_J_bitCount_43 : decode b_J_bitCount 43 = .ok (.bipush 16, 2) := by decide +kernel
theorem d_J_bitCount_45 : decode b_J_bitCount 45 = .ok (.lushr, 1) := by decide +kernel
theorem d_J_bitCount_46 : decode b_J_bitCount 46 = .ok (.ladd, 1) := by decide +kernel
theorem d_J_bitCount_47 : decode b_J_bitCount 47 = .ok (.lstore_n 0, 1) := by decide +kernel
theorem d_J_bitCount_48 : decode b_J_bitCount 48 = .ok (.lload_n 0, 1) := by decide +kernel
theorem d_J_bitCount_49 : decode b_J_bitCount 49 = .ok (.lload_n 0, 1) := by decide +kernel
theorem d_J_bitCount_50 : decode b_J_bitCount 50 = .ok (.bipush 32, 2) := by decide +kernel
theorem d_J_bitCount_52 : decode b_J_bitCount 52 = .ok (.lushr, 1) := by decide +kernel
theorem d_J_bitCount_53 : decode b_J_bitCount 53 = .ok (.ladd, 1) := by decide +kernel
theorem d_J_bitCount_54 : decode b_J_bitCount 54 = .ok (.lstore_n 0, 1) := by decide +kernel
theorem d_J_bitCount_55 : decode b_J_bitCount 55 = .ok (.lload_n 0, 1) := by decide +kernel
theorem d_J_bitCount_56 : decode b_J_bitCount 56 = .ok (.l2i, 1) := by decide +kernel
theorem d_J_bitCount_57 : decode b_J_bitCount 57 = .ok (.bipush 127, 2) := by decide +kernel
theorem d_J_bitCount_59 : decode b_J_bitCount 59 = .ok (.iand, 1) := by decide +kernel
theorem d_J_bitCount_60 : decode b_J_bitCount 60 = .ok (.ireturn, 1) := by decide +kernel
end
section
def bI (b : Bool) : Int32 := if b = true then 1 else 0
abbrev nF (g : Nat → Nat) : Nat → Int32 := fun j => nI (g j)
def Kx (D : va_G) (tys : List (ClassId × FieldType)) (U : State) : Prop := va_K D vwCl tys U ∧ (∀ w ∈ NW, va_Nw w U) ∧ va_AO R_K U
theorem Kx.same {D : va_G} {tys : List (ClassId × FieldType)} {u U : State} (h : Kx D tys u) (hv : u.vm = U.vm) : Kx D tys U :=
  ⟨va_K.moved (by rw [hv]; exact Vm.Alike.refl U.vm) h.1, fun w hw => va_Nw.same (NW_on w hw) hv (h.2.1 w hw), va_AO.moved (by rw [hv]; exact Vm.Alike.refl U.vm) h.2.2⟩
theorem Kx.warm {D : va_G} {tys : List (ClassId × FieldType)} {u U : State} (h : Kx D tys u) (hW : u.WarmedH U.vm) : Kx D tys U :=
  ⟨va_K.moved hW.alike h.1, fun w hw => NW_warm w hw hW (h.2.1 w hw), va_AO.moved hW.alike h.2.2⟩
def Fx (p : Program) (m : MethodId) (meth : Method) (c : Code) (cc : ByteArray) (nL : Nat) (s : State) (args : Array Value) (own : String) (D : va_G) (tys : List (ClassId × FieldType)) (A : Nat → Prop) : Prop :=
  CallFix p m c cc nL s args TB own ∧ Kx D tys s ∧ (∀ q : Nat, s.heap.size ≤ q → A q) ∧ meth.locks = false
def V (p : Program) (l : Launch) (e : Env) (R : Room) (s : State) (m : MethodId) (args : Array Value) (below : List Frame) (meth : Method) (c : Code) (D : va_G) (A : Nat → Prop) (nL cells slots : Nat) (Q : State → Prop) (ws : va_W) (lv : List (Nat × Value)) (pc : Nat) (st : List Value) : Prop :=
  ∀ (H : Heap) (locs : List Loc) (ls : Array Slot), va_P D vwCl ws H → va_D A ws → va_S A s.heap H locs → lv_has ls nL lv → W p l e R s m args below meth c H locs cells slots Q (F0 m pc ls st)
section VV
variable {p : Program} {l : Launch} {e : Env} {R : Room} {s : State} {m : MethodId} {args : Array Value} {below : List Frame} {meth : Method} {c : Code} {cc : ByteArray} {nL cells slots : Nat} {own : String} {D : va_G} {tys : List (ClassId × FieldType)} {A : Nat → Prop} {Q : State → Prop} {ws : va_W} {lv : List (Nat × Value)} {pc : Nat} {st : List Value}
theorem V.ws_eq {ws2 : va_W} (h : ws = ws2) (kk : V p l e R s m args below meth c D A nL cells slots Q (ws2) (lv) (pc) (st)) : V p l e R s m args below meth c D A nL cells slots Q (ws) (lv) (pc) (st) := h ▸ kk
theorem V.st_eq {st2 : List Value} (h : st = st2) (kk : V p l e R s m args below meth c D A nL cells slots Q (ws) (lv) (pc) (st2)) : V p l e R s m args below meth c D A nL cells slots Q (ws) (lv) (pc) (st) := h ▸ kk
theorem V.lvs {lv2 : List (Nat × Value)} (ks : List Nat) (h : lv_pick lv ks = lv2) (kk : V p l e R s m args below meth c D A nL cells slots Q (ws) (lv2) (pc) (st)) : V p l e R s m args below meth c D A nL cells slots Q (ws) (lv) (pc) (st) := fun H locs ls hP hD hS hl => kk H locs ls hP hD hS (lv_sub hl ks h)
theorem V.widen {k n : Nat} (h1 : cells ≤ k) (h2 : slots ≤ n) (kk : V p l e R s m args below meth c D A nL k n Q (ws) (lv) (pc) (st)) : V p l e R s m args below meth c D A nL cells slots Q (ws) (lv) (pc) (st) := fun H locs ls hP hD hS hl => W.widen h1 h2 (kk H locs ls hP hD hS hl)
theorem V.ws_sub {ws2 : va_W} (g : ∀ H, va_P D vwCl ws H → va_P D vwCl ws2 H) (g2 : va_D A ws → va_D A ws2) (kk : V p l e R s m args below meth c D A nL cells slots Q (ws2) (lv) (pc) (st)) : V p l e R s m args below meth c D A nL cells slots Q (ws) (lv) (pc) (st) := fun H locs ls hP hD hS hl => kk H locs ls (g H hP) (g2 hD) hS hl
theorem V.iconst (F : Fx p m meth c cc nL s args own D tys A) {n : Int} {v : Int32} (hd : decode cc pc = .ok (.iconst n, 1)) (hv : Int32.ofInt n = v) (kk : V p l e R s m args below meth c D A nL cells slots Q (ws) (lv) (pc + 1) (.int v :: st)) : V p l e R s m args below meth c D A nL cells slots Q (ws) (lv) (pc) (st) := fun H locs ls hP hD hS hl => lv_iconst F.1.1 F.1.2.1 hd hv (kk H locs ls hP hD hS hl)
theorem V.bipush (F : Fx p m meth c cc nL s args own D tys A) {n : Int} {v : Int32} (hd : decode cc pc = .ok (.bipush n, 2)) (hv : (Int8.ofInt n).toInt32 = v) (kk : V p l e R s m args below meth c D A nL cells slots Q (ws) (lv) (pc + 2) (.int v :: st)) : V p l e R s m args below meth c D A nL cells slots Q (ws) (lv) (pc) (st) := fun H locs ls hP hD hS hl => lv_bipush F.1.1 F.1.2.1 hd hv (kk H locs ls hP hD hS hl)
theorem V.sipush (F : Fx p m meth c cc nL s args own D tys A) {n : Int} {v : Int32} (hd : decode cc pc = .ok (.sipush n, 3)) (hv : (Int16.ofInt n).toInt32 = v) (kk : V p l e R s m args below meth c D A nL cells slots Q (ws) (lv) (pc + 3) (.int v :: st)) : V p l e R s m args below meth c D A nL cells slots Q (ws) (lv) (pc) (st) := fun H locs ls hP hD hS hl => lv_sipush F.1.1 F.1.2.1 hd hv (kk H locs ls hP hD hS hl)
theorem V.lconst (F : Fx p m meth c cc nL s args own D tys A) {n : Fin 2} {v : Int64} (hd : decode cc pc = .ok (.lconst n, 1)) (hv : Int64.ofNat (n : Nat) = v) (kk : V p l e R s m args below meth c D A nL cells slots Q (ws) (lv) (pc + 1) (.long v :: st)) : V p l e R s m args below meth c D A nL cells slots Q (ws) (lv) (pc) (st) := fun H locs ls hP hD hS hl => lv_lconst F.1.1 F.1.2.1 hd hv (kk H locs ls hP hD hS hl)
theorem V.ldc (F : Fx p m meth c cc nL s args own D tys A) {index : Nat} {v : Int32} (hd : decode cc pc = .ok (.ldc index, 2)) (hc : Cond.constant own index v ∈ TB) (kk : V p l e R s m args below meth c D A nL cells slots Q (ws) (lv) (pc + 2) (.int v :: st)) : V p l e R s m args below meth c D A nL cells slots Q (ws) (lv) (pc) (st) := fun H locs ls hP hD hS hl => lv_ldc F.1.1 F.1.2.1 F.1.2.2.2.1 (F.1.2.2.2.2 _ hc) hd (kk H locs ls hP hD hS hl)
theorem V.ldc2 (F : Fx p m meth c cc nL s args own D tys A) {index : Nat} {v : Int64} (hd : decode cc pc = .ok (.ldc2_w index, 3)) (hc : Cond.constantLong own index v ∈ TB) (kk : V p l e R s m args below meth c D A nL cells slots Q (ws) (lv) (pc + 3) (.long v :: st)) : V p l e R s m args below meth c D A nL cells slots Q (ws) (lv) (pc) (st) := fun H locs ls hP hD hS hl => lv_ldc2 F.1.1 F.1.2.1 F.1.2.2.2.1 (F.1.2.2.2.2 _ hc) hd (kk H locs ls hP hD hS hl)
theorem V.iload_n (F : Fx p m meth c cc nL s args own D tys A) {k : Fin 4} {i : Nat} {x : Int32} (hd : decode cc pc = .ok (.iload_n k, 1)) (hi : (k : Nat) = i) (j : Nat) (hj : lv[j]? = some (i, .int x)) (kk : V p l e R s m args below meth c D A nL cells slots Q (ws) (lv) (pc + 1) (.int x :: st)) : V p l e R s m args below meth c D A nL cells slots Q (ws) (lv) (pc) (st) := fun H locs ls hP hD hS hl => lv_iload_n F.1.1 F.1.2.1 hd hi (lv_at hl j hj) (kk H locs ls hP hD hS hl)
theorem V.iload (F : Fx p m meth c cc nL s args own D tys A) {i : Nat} {x : Int32} (hd : decode cc pc = .ok (.iload i, 2)) (j : Nat) (hj : lv[j]? = some (i, .int x)) (kk : V p l e R s m args below meth c D A nL cells slots Q (ws) (lv) (pc + 2) (.int x :: st)) : V p l e R s m args below meth c D A nL cells slots Q (ws) (lv) (pc) (st) := fun H locs ls hP hD hS hl => lv_iload F.1.1 F.1.2.1 hd (lv_at hl j hj) (kk H locs ls hP hD hS hl)
theorem V.istore_n (F : Fx p m meth c cc nL s args own D tys A) {k : Fin 4} {i : Nat} {x : Int32} {lv2 : List (Nat × Value)} (hd : decode cc pc = .ok (.istore_n k, 1)) (hi : (k : Nat) = i) (hn : i < nL) (h2 : (i, Value.int x) :: lv.filter (fun q => !(q.1 == i) && !(q.1 + 1 == i && q.2.category == 2)) = lv2) (kk : V p l e R s m args below meth c D A nL cells slots Q (ws) (lv2) (pc + 1) (st)) : V p l e R s m args below meth c D A nL cells slots Q (ws) (lv) (pc) (.int x :: st) := fun H locs ls hP hD hS hl => lv_istore_n F.1.1 F.1.2.1 hd hi hl hn h2 (fun ls2 hl2 => kk H locs ls2 hP hD hS hl2)
theorem V.istore (F : Fx p m meth c cc nL s args own D tys A) {i : Nat} {x : Int32} {lv2 : List (Nat × Value)} (hd : decode cc pc = .ok (.istore i, 2)) (hn : i < nL) (h2 : (i, Value.int x) :: lv.filter (fun q => !(q.1 == i) && !(q.1 + 1 == i && q.2.category == 2)) = lv2) (kk : V p l e R s m args below meth c D A nL cells slots Q (ws) (lv2) (pc + 2) (st)) : V p l e R s m args below meth c D A nL cells slots Q (ws) (lv) (pc) (.int x :: st) := fun H locs ls hP hD hS hl => lv_istore F.1.1 F.1.2.1 hd hl hn h2 (fun ls2 hl2 => kk H locs ls2 hP hD hS hl2)
theorem V.lload_n (F : Fx p m meth c cc nL s args own D tys A) {k : Fin 4} {i : Nat} {x : Int64} (hd : decode cc pc = .ok (.lload_n k, 1)) (hi : (k : Nat) = i) (j : Nat) (hj : lv[j]? = some (i, .long x)) (kk : V p l e R s m args below meth c D A nL cells slots Q (ws) (lv) (pc + 1) (.long x :: st)) : V p l e R s m args below meth c D A nL cells slots Q (ws) (lv) (pc) (st) := fun H locs ls hP hD hS hl => lv_lload_n F.1.1 F.1.2.1 hd hi (lv_at hl j hj) (kk H locs ls hP hD hS hl)
theorem V.lload (F : Fx p m meth c cc nL s args own D tys A) {i : Nat} {x : Int64} (hd : decode cc pc = .ok (.lload i, 2)) (j : Nat) (hj : lv[j]? = some (i, .long x)) (kk : V p l e R s m args below meth c D A nL cells slots Q (ws) (lv) (pc + 2) (.long x :: st)) : V p l e R s m args below meth c D A nL cells slots Q (ws) (lv) (pc) (st) := fun H locs ls hP hD hS hl => lv_lload F.1.1 F.1.2.1 hd (lv_at hl j hj) (kk H locs ls hP hD hS hl)
theorem V.lstore_n (F : Fx p m meth c cc nL s args own D tys A) {k : Fin 4} {i : Nat} {x : Int64} {lv2 : List (Nat × Value)} (hd : decode cc pc = .ok (.lstore_n k, 1)) (hi : (k : Nat) = i) (hn : i + 1 < nL) (h2 : (i, Value.long x) :: lv.filter (fun q => !(q.1 == i) && (!(q.1 == i + 1) && !(q.1 + 1 == i && q.2.category == 2))) = lv2) (kk : V p l e R s m args below meth c D A nL cells slots Q (ws) (lv2) (pc + 1) (st)) : V p l e R s m args below meth c D A nL cells slots Q (ws) (lv) (pc) (.long x :: st) := fun H locs ls hP hD hS hl => lv_lstore_n F.1.1 F.1.2.1 hd hi hl hn h2 (fun ls2 hl2 => kk H locs ls2 hP hD hS hl2)
theorem V.lstore (F : Fx p m meth c cc nL s args own D tys A) {i : Nat} {x : Int64} {lv2 : List (Nat × Value)} (hd : decode cc pc = .ok (.lstore i, 2)) (hn : i + 1 < nL) (h2 : (i, Value.long x) :: lv.filter (fun q => !(q.1 == i) && (!(q.1 == i + 1) && !(q.1 + 1 == i && q.2.category == 2))) = lv2) (kk : V p l e R s m args below meth c D A nL cells slots Q (ws) (lv2) (pc + 2) (st)) : V p l e R s m args below meth c D A nL cells slots Q (ws) (lv) (pc) (.long x :: st) := fun H locs ls hP hD hS hl => lv_lstore F.1.1 F.1.2.1 hd hl hn h2 (fun ls2 hl2 => kk H locs ls2 hP hD hS hl2)
theorem V.aload_n (F : Fx p m meth c cc nL s args own D tys A) {k : Fin 4} {i : Nat} {x : Nat} (hd : decode cc pc = .ok (.aload_n k, 1)) (hi : (k : Nat) = i) (j : Nat) (hj : lv[j]? = some (i, .ref x)) (kk : V p l e R s m args below meth c D A nL cells slots Q (ws) (lv) (pc + 1) (.ref x :: st)) : V p l e R s m args below meth c D A nL cells slots Q (ws) (lv) (pc) (st) := fun H locs ls hP hD hS hl => lv_aload_n F.1.1 F.1.2.1 hd hi (lv_at hl j hj) (kk H locs ls hP hD hS hl)
theorem V.aload (F : Fx p m meth c cc nL s args own D tys A) {i : Nat} {x : Nat} (hd : decode cc pc = .ok (.aload i, 2)) (j : Nat) (hj : lv[j]? = some (i, .ref x)) (kk : V p l e R s m args below meth c D A nL cells slots Q (ws) (lv) (pc + 2) (.ref x :: st)) : V p l e R s m args below meth c D A nL cells slots Q (ws) (lv) (pc) (st) := fun H locs ls hP hD hS hl => lv_aload F.1.1 F.1.2.1 hd (lv_at hl j hj) (kk H locs ls hP hD hS hl)
theorem V.astore_n (F : Fx p m meth c cc nL s args own D tys A) {k : Fin 4} {i : Nat} {x : Nat} {lv2 : List (Nat × Value)} (hd : decode cc pc = .ok (.astore_n k, 1)) (hi : (k : Nat) = i) (hn : i < nL) (h2 : (i, Value.ref x) :: lv.filter (fun q => !(q.1 == i) && !(q.1 + 1 == i && q.2.category == 2)) = lv2) (kk : V p l e R s m args below meth c D A nL cells slots Q (ws) (lv2) (pc + 1) (st)) : V p l e R s m args below meth c D A nL cells slots Q (ws) (lv) (pc) (.ref x :: st) := fun H locs ls hP hD hS hl => lv_astore_n F.1.1 F.1.2.1 hd hi hl hn h2 (fun ls2 hl2 => kk H locs ls2 hP hD hS hl2)
theorem V.astore (F : Fx p m meth c cc nL s args own D tys A) {i : Nat} {x : Nat} {lv2 : List (Nat × Value)} (hd : decode cc pc = .ok (.astore i, 2)) (hn : i < nL) (h2 : (i, Value.ref x) :: lv.filter (fun q => !(q.1 == i) && !(q.1 + 1 == i && q.2.category == 2)) = lv2) (kk : V p l e R s m args below meth c D A nL cells slots Q (ws) (lv2) (pc + 2) (st)) : V p l e R s m args below meth c D A nL cells slots Q (ws) (lv) (pc) (.ref x :: st) := fun H locs ls hP hD hS hl => lv_astore F.1.1 F.1.2.1 hd hl hn h2 (fun ls2 hl2 => kk H locs ls2 hP hD hS hl2)
theorem V.aload_nN (F : Fx p m meth c cc nL s args own D tys A) {k : Fin 4} {i : Nat} (hd : decode cc pc = .ok (.aload_n k, 1)) (hi : (k : Nat) = i) (j : Nat) (hj : lv[j]? = some (i, .null)) (kk : V p l e R s m args below meth c D A nL cells slots Q (ws) (lv) (pc + 1) (.null :: st)) : V p l e R s m args below meth c D A nL cells slots Q (ws) (lv) (pc) (st) := fun H locs ls hP hD hS hl => lv_aload_nN F.1.1 F.1.2.1 hd hi (lv_at hl j hj) (kk H locs ls hP hD hS hl)
theorem V.aloadN (F : Fx p m meth c cc nL s args own D tys A) {i : Nat} (hd : decode cc pc = .ok (.aload i, 2)) (j : Nat) (hj : lv[j]? = some (i, .null)) (kk : V p l e R s m args below meth c D A nL cells slots Q (ws) (lv) (pc + 2) (.null :: st)) : V p l e R s m args below meth c D A nL cells slots Q (ws) (lv) (pc) (st) := fun H locs ls hP hD hS hl => lv_aloadN F.1.1 F.1.2.1 hd (lv_at hl j hj) (kk H locs ls hP hD hS hl)
theorem V.astore_nN (F : Fx p m meth c cc nL s args own D tys A) {k : Fin 4} {i : Nat} {lv2 : List (Nat × Value)} (hd : decode cc pc = .ok (.astore_n k, 1)) (hi : (k : Nat) = i) (hn : i < nL) (h2 : (i, Value.null) :: lv.filter (fun q => !(q.1 == i) && !(q.1 + 1 == i && q.2.category == 2)) = lv2) (kk : V p l e R s m args below meth c D A nL cells slots Q (ws) (lv2) (pc + 1) (st)) : V p l e R s m args below meth c D A nL cells slots Q (ws) (lv) (pc) (.null :: st) := fun H locs ls hP hD hS hl => lv_astore_nN F.1.1 F.1.2.1 hd hi hl hn h2 (fun ls2 hl2 => kk H locs ls2 hP hD hS hl2)
theorem V.astoreN (F : Fx p m meth c cc nL s args own D tys A) {i : Nat} {lv2 : List (Nat × Value)} (hd : decode cc pc = .ok (.astore i, 2)) (hn : i < nL) (h2 : (i, Value.null) :: lv.filter (fun q => !(q.1 == i) && !(q.1 + 1 == i && q.2.category == 2)) = lv2) (kk : V p l e R s m args below meth c D A nL cells slots Q (ws) (lv2) (pc + 2) (st)) : V p l e R s m args below meth c D A nL cells slots Q (ws) (lv) (pc) (.null :: st) := fun H locs ls hP hD hS hl => lv_astoreN F.1.1 F.1.2.1 hd hl hn h2 (fun ls2 hl2 => kk H locs ls2 hP hD hS hl2)
theorem V.iinc (F : Fx p m meth c cc nL s args own D tys A) {i : Nat} {n : Int} {x v : Int32} {lv2 : List (Nat × Value)} (hd : decode cc pc = .ok (.iinc i n, 3)) (j : Nat) (hj : lv[j]? = some (i, .int x)) (hv : x + Int32.ofInt n = v) (hn : i < nL) (h2 : (i, Value.int v) :: lv.filter (fun q => !(q.1 == i) && !(q.1 + 1 == i && q.2.category == 2)) = lv2) (kk : V p l e R s m args below meth c D A nL cells slots Q (ws) (lv2) (pc + 3) (st)) : V p l e R s m args below meth c D A nL cells slots Q (ws) (lv) (pc) (st) := fun H locs ls hP hD hS hl => lv_iinc F.1.1 F.1.2.1 hd hl hj hv hn h2 (fun ls2 hl2 => kk H locs ls2 hP hD hS hl2)
theorem V.iadd (F : Fx p m meth c cc nL s args own D tys A) {x y v : Int32} (hd : decode cc pc = .ok (.iadd, 1)) (hv : x + y = v) (kk : V p l e R s m args below meth c D A nL cells slots Q (ws) (lv) (pc + 1) (.int v :: st)) : V p l e R s m args below meth c D A nL cells slots Q (ws) (lv) (pc) (.int y :: .int x :: st) := fun H locs ls hP hD hS hl => lv_iadd F.1.1 F.1.2.1 hd (hv ▸ (kk H locs ls hP hD hS hl))
theorem V.isub (F : Fx p m meth c cc nL s args own D tys A) {x y v : Int32} (hd : decode cc pc = .ok (.isub, 1)) (hv : x - y = v) (kk : V p l e R s m args below meth c D A nL cells slots Q (ws) (lv) (pc + 1) (.int v :: st)) : V p l e R s m args below meth c D A nL cells slots Q (ws) (lv) (pc) (.int y :: .int x :: st) := fun H locs ls hP hD hS hl => lv_isub F.1.1 F.1.2.1 hd (hv ▸ (kk H locs ls hP hD hS hl))
theorem V.imul (F : Fx p m meth c cc nL s args own D tys A) {x y v : Int32} (hd : decode cc pc = .ok (.imul, 1)) (hv : x * y = v) (kk : V p l e R s m args below meth c D A nL cells slots Q (ws) (lv) (pc + 1) (.int v :: st)) : V p l e R s m args below meth c D A nL cells slots Q (ws) (lv) (pc) (.int y :: .int x :: st) := fun H locs ls hP hD hS hl => lv_imul F.1.1 F.1.2.1 hd (hv ▸ (kk H locs ls hP hD hS hl))
theorem V.iand (F : Fx p m meth c cc nL s args own D tys A) {x y v : Int32} (hd : decode cc pc = .ok (.iand, 1)) (hv : x &&& y = v) (kk : V p l e R s m args below meth c D A nL cells slots Q (ws) (lv) (pc + 1) (.int v :: st)) : V p l e R s m args below meth c D A nL cells slots Q (ws) (lv) (pc) (.int y :: .int x :: st) := fun H locs ls hP hD hS hl => lv_iand F.1.1 F.1.2.1 hd (hv ▸ (kk H locs ls hP hD hS hl))
theorem V.ior (F : Fx p m meth c cc nL s args own D tys A) {x y v : Int32} (hd : decode cc pc = .ok (.ior, 1)) (hv : x ||| y = v) (kk : V p l e R s m args below meth c D A nL cells slots Q (ws) (lv) (pc + 1) (.int v :: st)) : V p l e R s m args below meth c D A nL cells slots Q (ws) (lv) (pc) (.int y :: .int x :: st) := fun H locs ls hP hD hS hl => lv_ior F.1.1 F.1.2.1 hd (hv ▸ (kk H locs ls hP hD hS hl))
theorem V.ladd (F : Fx p m meth c cc nL s args own D tys A) {x y v : Int64} (hd : decode cc pc = .ok (.ladd, 1)) (hv : x + y = v) (kk : V p l e R s m args below meth c D A nL cells slots Q (ws) (lv) (pc + 1) (.long v :: st)) : V p l e R s m args below meth c D A nL cells slots Q (ws) (lv) (pc) (.long y :: .long x :: st) := fun H locs ls hP hD hS hl => lv_ladd F.1.1 F.1.2.1 hd (hv ▸ (kk H locs ls hP hD hS hl))
theorem V.lsub (F : Fx p m meth c cc nL s args own D tys A) {x y v : Int64} (hd : decode cc pc = .ok (.lsub, 1)) (hv : x - y = v) (kk : V p l e R s m args below meth c D A nL cells slots Q (ws) (lv) (pc + 1) (.long v :: st)) : V p l e R s m args below meth c D A nL cells slots Q (ws) (lv) (pc) (.long y :: .long x :: st) := fun H locs ls hP hD hS hl => lv_lsub F.1.1 F.1.2.1 hd (hv ▸ (kk H locs ls hP hD hS hl))
theorem V.lmul (F : Fx p m meth c cc nL s args own D tys A) {x y v : Int64} (hd : decode cc pc = .ok (.lmul, 1)) (hv : x * y = v) (kk : V p l e R s m args below meth c D A nL cells slots Q (ws) (lv) (pc + 1) (.long v :: st)) : V p l e R s m args below meth c D A nL cells slots Q (ws) (lv) (pc) (.long y :: .long x :: st) := fun H locs ls hP hD hS hl => lv_lmul F.1.1 F.1.2.1 hd (hv ▸ (kk H locs ls hP hD hS hl))
theorem V.land (F : Fx p m meth c cc nL s args own D tys A) {x y v : Int64} (hd : decode cc pc = .ok (.land, 1)) (hv : x &&& y = v) (kk : V p l e R s m args below meth c D A nL cells slots Q (ws) (lv) (pc + 1) (.long v :: st)) : V p l e R s m args below meth c D A nL cells slots Q (ws) (lv) (pc) (.long y :: .long x :: st) := fun H locs ls hP hD hS hl => lv_land F.1.1 F.1.2.1 hd (hv ▸ (kk H locs ls hP hD hS hl))
theorem V.lor (F : Fx p m meth c cc nL s args own D tys A) {x y v : Int64} (hd : decode cc pc = .ok (.lor, 1)) (hv : x ||| y = v) (kk : V p l e R s m args below meth c D A nL cells slots Q (ws) (lv) (pc + 1) (.long v :: st)) : V p l e R s m args below meth c D A nL cells slots Q (ws) (lv) (pc) (.long y :: .long x :: st) := fun H locs ls hP hD hS hl => lv_lor F.1.1 F.1.2.1 hd (hv ▸ (kk H locs ls hP hD hS hl))
theorem V.lxor (F : Fx p m meth c cc nL s args own D tys A) {x y v : Int64} (hd : decode cc pc = .ok (.lxor, 1)) (hv : x ^^^ y = v) (kk : V p l e R s m args below meth c D A nL cells slots Q (ws) (lv) (pc + 1) (.long v :: st)) : V p l e R s m args below meth c D A nL cells slots Q (ws) (lv) (pc) (.long y :: .long x :: st) := fun H locs ls hP hD hS hl => lv_lxor F.1.1 F.1.2.1 hd (hv ▸ (kk H locs ls hP hD hS hl))
theorem V.idivN (F : Fx p m meth c cc nL s args own D tys A) {a d : Nat} (hd : decode cc pc = .ok (.idiv, 1)) (ha : a < 2 ^ 31) (h0 : 0 < d) (h1 : d < 2 ^ 31) (kk : V p l e R s m args below meth c D A nL cells slots Q (ws) (lv) (pc + 1) (.int (nI (a / d)) :: st)) : V p l e R s m args below meth c D A nL cells slots Q (ws) (lv) (pc) (.int (nI d) :: .int (nI a) :: st) := fun H locs ls hP hD hS hl => lv_idiv F.1.1 F.1.2.1 hd (nI_ne0 h0 h1) ((pk_div ha h0 h1).symm ▸ (kk H locs ls hP hD hS hl))
theorem V.iremN (F : Fx p m meth c cc nL s args own D tys A) {a d : Nat} (hd : decode cc pc = .ok (.irem, 1)) (ha : a < 2 ^ 31) (h0 : 0 < d) (h1 : d < 2 ^ 31) (kk : V p l e R s m args below meth c D A nL cells slots Q (ws) (lv) (pc + 1) (.int (nI (a % d)) :: st)) : V p l e R s m args below meth c D A nL cells slots Q (ws) (lv) (pc) (.int (nI d) :: .int (nI a) :: st) := fun H locs ls hP hD hS hl => lv_irem F.1.1 F.1.2.1 hd (nI_ne0 h0 h1) ((pk_rem ha h0 h1).symm ▸ (kk H locs ls hP hD hS hl))
theorem V.lremN (F : Fx p m meth c cc nL s args own D tys A) {a d : Nat} (hd : decode cc pc = .ok (.lrem, 1)) (ha : a < 2 ^ 63) (h0 : 0 < d) (h1 : d < 2 ^ 63) (kk : V p l e R s m args below meth c D A nL cells slots Q (ws) (lv) (pc + 1) (.long (lN (a % d)) :: st)) : V p l e R s m args below meth c D A nL cells slots Q (ws) (lv) (pc) (.long (lN d) :: .long (lN a) :: st) := fun H locs ls hP hD hS hl => lv_lrem F.1.1 F.1.2.1 hd (fun q => absurd ((pk_lEQ h1 (by decide)).mp q) (Nat.ne_of_gt h0)) ((pk_lRem ha h0 h1).symm ▸ (kk H locs ls hP hD hS hl))
theorem V.iaddN (F : Fx p m meth c cc nL s args own D tys A) {a b : Nat} (hd : decode cc pc = .ok (.iadd, 1)) (kk : V p l e R s m args below meth c D A nL cells slots Q (ws) (lv) (pc + 1) (.int (nI (a + b)) :: st)) : V p l e R s m args below meth c D A nL cells slots Q (ws) (lv) (pc) (.int (nI b) :: .int (nI a) :: st) := fun H locs ls hP hD hS hl => lv_iadd F.1.1 F.1.2.1 hd ((nI_add a b).symm ▸ (kk H locs ls hP hD hS hl))
theorem V.imulN (F : Fx p m meth c cc nL s args own D tys A) {a b : Nat} (hd : decode cc pc = .ok (.imul, 1)) (kk : V p l e R s m args below meth c D A nL cells slots Q (ws) (lv) (pc + 1) (.int (nI (a * b)) :: st)) : V p l e R s m args below meth c D A nL cells slots Q (ws) (lv) (pc) (.int (nI b) :: .int (nI a) :: st) := fun H locs ls hP hD hS hl => lv_imul F.1.1 F.1.2.1 hd ((pk_mul a b).symm ▸ (kk H locs ls hP hD hS hl))
theorem V.isubN (F : Fx p m meth c cc nL s args own D tys A) {a b : Nat} (hd : decode cc pc = .ok (.isub, 1)) (h : b ≤ a) (kk : V p l e R s m args below meth c D A nL cells slots Q (ws) (lv) (pc + 1) (.int (nI (a - b)) :: st)) : V p l e R s m args below meth c D A nL cells slots Q (ws) (lv) (pc) (.int (nI b) :: .int (nI a) :: st) := fun H locs ls hP hD hS hl => lv_isub F.1.1 F.1.2.1 hd ((pk_sub h).symm ▸ (kk H locs ls hP hD hS hl))
theorem V.iincN (F : Fx p m meth c cc nL s args own D tys A) {i a k : Nat} {n : Int} {lv2 : List (Nat × Value)} (hd : decode cc pc = .ok (.iinc i n, 3)) (j : Nat) (hj : lv[j]? = some (i, .int (nI a))) (hk : Int32.ofInt n = nI k) (hn : i < nL) (h2 : (i, Value.int (nI (a + k))) :: lv.filter (fun q => !(q.1 == i) && !(q.1 + 1 == i && q.2.category == 2)) = lv2) (kk : V p l e R s m args below meth c D A nL cells slots Q (ws) (lv2) (pc + 3) (st)) : V p l e R s m args below meth c D A nL cells slots Q (ws) (lv) (pc) (st) := fun H locs ls hP hD hS hl => lv_iinc F.1.1 F.1.2.1 hd hl hj (by rw [hk]; exact nI_add a k) hn h2 (fun ls2 hl2 => kk H locs ls2 hP hD hS hl2)
theorem V.idecN (F : Fx p m meth c cc nL s args own D tys A) {i a : Nat} {lv2 : List (Nat × Value)} (hd : decode cc pc = .ok (.iinc i (-1), 3)) (j : Nat) (hj : lv[j]? = some (i, .int (nI (a + 1)))) (hn : i < nL) (h2 : (i, Value.int (nI a)) :: lv.filter (fun q => !(q.1 == i) && !(q.1 + 1 == i && q.2.category == 2)) = lv2) (kk : V p l e R s m args below meth c D A nL cells slots Q (ws) (lv2) (pc + 3) (st)) : V p l e R s m args below meth c D A nL cells slots Q (ws) (lv) (pc) (st) := fun H locs ls hP hD hS hl => lv_iinc F.1.1 F.1.2.1 hd hl hj (pk_m1 a) hn h2 (fun ls2 hl2 => kk H locs ls2 hP hD hS hl2)
theorem V.lushr (F : Fx p m meth c cc nL s args own D tys A) {x v : Int64} {y : Int32} (hd : decode cc pc = .ok (.lushr, 1)) (hv : (x.toUInt64 >>> (y.toInt64.toUInt64 &&& Int64.toUInt64 63)).toInt64 = v) (kk : V p l e R s m args below meth c D A nL cells slots Q (ws) (lv) (pc + 1) (.long v :: st)) : V p l e R s m args below meth c D A nL cells slots Q (ws) (lv) (pc) (.int y :: .long x :: st) := fun H locs ls hP hD hS hl => lv_lushr F.1.1 F.1.2.1 hd hv (kk H locs ls hP hD hS hl)
theorem V.lshl (F : Fx p m meth c cc nL s args own D tys A) {x v : Int64} {y : Int32} (hd : decode cc pc = .ok (.lshl, 1)) (hv : x <<< (y.toInt64 &&& 63) = v) (kk : V p l e R s m args below meth c D A nL cells slots Q (ws) (lv) (pc + 1) (.long v :: st)) : V p l e R s m args below meth c D A nL cells slots Q (ws) (lv) (pc) (.int y :: .long x :: st) := fun H locs ls hP hD hS hl => lv_lshl F.1.1 F.1.2.1 hd hv (kk H locs ls hP hD hS hl)
theorem V.lshr (F : Fx p m meth c cc nL s args own D tys A) {x v : Int64} {y : Int32} (hd : decode cc pc = .ok (.lshr, 1)) (hv : x >>> (y.toInt64 &&& 63) = v) (kk : V p l e R s m args below meth c D A nL cells slots Q (ws) (lv) (pc + 1) (.long v :: st)) : V p l e R s m args below meth c D A nL cells slots Q (ws) (lv) (pc) (.int y :: .long x :: st) := fun H locs ls hP hD hS hl => lv_lshr F.1.1 F.1.2.1 hd hv (kk H locs ls hP hD hS hl)
theorem V.i2l (F : Fx p m meth c cc nL s args own D tys A) {x : Int32} {v : Int64} (hd : decode cc pc = .ok (.i2l, 1)) (hv : x.toInt64 = v) (kk : V p l e R s m args below meth c D A nL cells slots Q (ws) (lv) (pc + 1) (.long v :: st)) : V p l e R s m args below meth c D A nL cells slots Q (ws) (lv) (pc) (.int x :: st) := fun H locs ls hP hD hS hl => lv_i2l F.1.1 F.1.2.1 hd hv (kk H locs ls hP hD hS hl)
theorem V.l2i (F : Fx p m meth c cc nL s args own D tys A) {x : Int64} {v : Int32} (hd : decode cc pc = .ok (.l2i, 1)) (hv : x.toInt32 = v) (kk : V p l e R s m args below meth c D A nL cells slots Q (ws) (lv) (pc + 1) (.int v :: st)) : V p l e R s m args below meth c D A nL cells slots Q (ws) (lv) (pc) (.long x :: st) := fun H locs ls hP hD hS hl => lv_l2i F.1.1 F.1.2.1 hd hv (kk H locs ls hP hD hS hl)
theorem V.dup (F : Fx p m meth c cc nL s args own D tys A) {v : Value} (hd : decode cc pc = .ok (.dup, 1)) (hc : v.category = 1) (kk : V p l e R s m args below meth c D A nL cells slots Q (ws) (lv) (pc + 1) (v :: v :: st)) : V p l e R s m args below meth c D A nL cells slots Q (ws) (lv) (pc) (v :: st) := fun H locs ls hP hD hS hl => lv_dup F.1.1 F.1.2.1 hd hc (kk H locs ls hP hD hS hl)
theorem V.pop (F : Fx p m meth c cc nL s args own D tys A) {v : Value} (hd : decode cc pc = .ok (.pop, 1)) (hc : v.category = 1) (kk : V p l e R s m args below meth c D A nL cells slots Q (ws) (lv) (pc + 1) (st)) : V p l e R s m args below meth c D A nL cells slots Q (ws) (lv) (pc) (v :: st) := fun H locs ls hP hD hS hl => lv_pop F.1.1 F.1.2.1 hd hc (kk H locs ls hP hD hS hl)
theorem V.dup2_11 (F : Fx p m meth c cc nL s args own D tys A) {v w : Value} (hd : decode cc pc = .ok (.dup2, 1)) (h1 : v.category = 1) (h2 : w.category = 1) (kk : V p l e R s m args below meth c D A nL cells slots Q (ws) (lv) (pc + 1) (v :: w :: v :: w :: st)) : V p l e R s m args below meth c D A nL cells slots Q (ws) (lv) (pc) (v :: w :: st) := fun H locs ls hP hD hS hl => lv_dup2_11 F.1.1 F.1.2.1 hd h1 h2 (kk H locs ls hP hD hS hl)
theorem V.null (F : Fx p m meth c cc nL s args own D tys A) (hd : decode cc pc = .ok (.aconst_null, 1)) (kk : V p l e R s m args below meth c D A nL cells slots Q (ws) (lv) (pc + 1) (.null :: st)) : V p l e R s m args below meth c D A nL cells slots Q (ws) (lv) (pc) (st) := fun H locs ls hP hD hS hl => lv_null F.1.1 F.1.2.1 hd (kk H locs ls hP hD hS hl)
theorem V.if_eq (F : Fx p m meth c cc nL s args own D tys A) {x : Int32} {off : Int} {tgt : Nat} (hd : decode cc pc = .ok (.ifCond .eq off, 3)) (ht : (pc : Int) + off = (tgt : Int)) (kt : x = 0 → V p l e R s m args below meth c D A nL cells slots Q (ws) (lv) (tgt) (st)) (kf : ¬ x = 0 → V p l e R s m args below meth c D A nL cells slots Q (ws) (lv) (pc + 3) (st)) : V p l e R s m args below meth c D A nL cells slots Q (ws) (lv) (pc) (.int x :: st) := fun H locs ls hP hD hS hl => lv_if_eq F.1.1 F.1.2.1 hd ht (fun h => kt h H locs ls hP hD hS hl) (fun h => kf h H locs ls hP hD hS hl)
theorem V.if_ne (F : Fx p m meth c cc nL s args own D tys A) {x : Int32} {off : Int} {tgt : Nat} (hd : decode cc pc = .ok (.ifCond .ne off, 3)) (ht : (pc : Int) + off = (tgt : Int)) (kt : ¬ x = 0 → V p l e R s m args below meth c D A nL cells slots Q (ws) (lv) (tgt) (st)) (kf : x = 0 → V p l e R s m args below meth c D A nL cells slots Q (ws) (lv) (pc + 3) (st)) : V p l e R s m args below meth c D A nL cells slots Q (ws) (lv) (pc) (.int x :: st) := fun H locs ls hP hD hS hl => lv_if_ne F.1.1 F.1.2.1 hd ht (fun h => kt h H locs ls hP hD hS hl) (fun h => kf h H locs ls hP hD hS hl)
theorem V.if_lt (F : Fx p m meth c cc nL s args own D tys A) {x : Int32} {off : Int} {tgt : Nat} (hd : decode cc pc = .ok (.ifCond .lt off, 3)) (ht : (pc : Int) + off = (tgt : Int)) (kt : x < 0 → V p l e R s m args below meth c D A nL cells slots Q (ws) (lv) (tgt) (st)) (kf : ¬ x < 0 → V p l e R s m args below meth c D A nL cells slots Q (ws) (lv) (pc + 3) (st)) : V p l e R s m args below meth c D A nL cells slots Q (ws) (lv) (pc) (.int x :: st) := fun H locs ls hP hD hS hl => lv_if_lt F.1.1 F.1.2.1 hd ht (fun h => kt h H locs ls hP hD hS hl) (fun h => kf h H locs ls hP hD hS hl)
theorem V.if_ge (F : Fx p m meth c cc nL s args own D tys A) {x : Int32} {off : Int} {tgt : Nat} (hd : decode cc pc = .ok (.ifCond .ge off, 3)) (ht : (pc : Int) + off = (tgt : Int)) (kt : 0 ≤ x → V p l e R s m args below meth c D A nL cells slots Q (ws) (lv) (tgt) (st)) (kf : ¬ 0 ≤ x → V p l e R s m args below meth c D A nL cells slots Q (ws) (lv) (pc + 3) (st)) : V p l e R s m args below meth c D A nL cells slots Q (ws) (lv) (pc) (.int x :: st) := fun H locs ls hP hD hS hl => lv_if_ge F.1.1 F.1.2.1 hd ht (fun h => kt h H locs ls hP hD hS hl) (fun h => kf h H locs ls hP hD hS hl)
theorem V.if_gt (F : Fx p m meth c cc nL s args own D tys A) {x : Int32} {off : Int} {tgt : Nat} (hd : decode cc pc = .ok (.ifCond .gt off, 3)) (ht : (pc : Int) + off = (tgt : Int)) (kt : 0 < x → V p l e R s m args below meth c D A nL cells slots Q (ws) (lv) (tgt) (st)) (kf : ¬ 0 < x → V p l e R s m args below meth c D A nL cells slots Q (ws) (lv) (pc + 3) (st)) : V p l e R s m args below meth c D A nL cells slots Q (ws) (lv) (pc) (.int x :: st) := fun H locs ls hP hD hS hl => lv_if_gt F.1.1 F.1.2.1 hd ht (fun h => kt h H locs ls hP hD hS hl) (fun h => kf h H locs ls hP hD hS hl)
theorem V.if_le (F : Fx p m meth c cc nL s args own D tys A) {x : Int32} {off : Int} {tgt : Nat} (hd : decode cc pc = .ok (.ifCond .le off, 3)) (ht : (pc : Int) + off = (tgt : Int)) (kt : x ≤ 0 → V p l e R s m args below meth c D A nL cells slots Q (ws) (lv) (tgt) (st)) (kf : ¬ x ≤ 0 → V p l e R s m args below meth c D A nL cells slots Q (ws) (lv) (pc + 3) (st)) : V p l e R s m args below meth c D A nL cells slots Q (ws) (lv) (pc) (.int x :: st) := fun H locs ls hP hD hS hl => lv_if_le F.1.1 F.1.2.1 hd ht (fun h => kt h H locs ls hP hD hS hl) (fun h => kf h H locs ls hP hD hS hl)
theorem V.icmp_eq (F : Fx p m meth c cc nL s args own D tys A) {x y : Int32} {off : Int} {tgt : Nat} (hd : decode cc pc = .ok (.if_icmp .eq off, 3)) (ht : (pc : Int) + off = (tgt : Int)) (kt : x = y → V p l e R s m args below meth c D A nL cells slots Q (ws) (lv) (tgt) (st)) (kf : ¬ x = y → V p l e R s m args below meth c D A nL cells slots Q (ws) (lv) (pc + 3) (st)) : V p l e R s m args below meth c D A nL cells slots Q (ws) (lv) (pc) (.int y :: .int x :: st) := fun H locs ls hP hD hS hl => lv_icmp_eq F.1.1 F.1.2.1 hd ht (fun h => kt h H locs ls hP hD hS hl) (fun h => kf h H locs ls hP hD hS hl)
theorem V.icmp_eqN (F : Fx p m meth c cc nL s args own D tys A) {a b : Nat} {off : Int} {tgt : Nat} (hd : decode cc pc = .ok (.if_icmp .eq off, 3)) (ht : (pc : Int) + off = (tgt : Int)) (ha : a < 2 ^ 31) (hb : b < 2 ^ 31) (kt : a = b → V p l e R s m args below meth c D A nL cells slots Q (ws) (lv) (tgt) (st)) (kf : a ≠ b → V p l e R s m args below meth c D A nL cells slots Q (ws) (lv) (pc + 3) (st)) : V p l e R s m args below meth c D A nL cells slots Q (ws) (lv) (pc) (.int (nI b) :: .int (nI a) :: st) := fun H locs ls hP hD hS hl => lv_icmp_eq F.1.1 F.1.2.1 hd ht (fun h => kt ((nI_eq ha hb).mp h) H locs ls hP hD hS hl) (fun h => kf (fun q => h ((nI_eq ha hb).mpr q)) H locs ls hP hD hS hl)
theorem V.icmp_ne (F : Fx p m meth c cc nL s args own D tys A) {x y : Int32} {off : Int} {tgt : Nat} (hd : decode cc pc = .ok (.if_icmp .ne off, 3)) (ht : (pc : Int) + off = (tgt : Int)) (kt : ¬ x = y → V p l e R s m args below meth c D A nL cells slots Q (ws) (lv) (tgt) (st)) (kf : x = y → V p l e R s m args below meth c D A nL cells slots Q (ws) (lv) (pc + 3) (st)) : V p l e R s m args below meth c D A nL cells slots Q (ws) (lv) (pc) (.int y :: .int x :: st) := fun H locs ls hP hD hS hl => lv_icmp_ne F.1.1 F.1.2.1 hd ht (fun h => kt h H locs ls hP hD hS hl) (fun h => kf h H locs ls hP hD hS hl)
theorem V.icmp_neN (F : Fx p m meth c cc nL s args own D tys A) {a b : Nat} {off : Int} {tgt : Nat} (hd : decode cc pc = .ok (.if_icmp .ne off, 3)) (ht : (pc : Int) + off = (tgt : Int)) (ha : a < 2 ^ 31) (hb : b < 2 ^ 31) (kt : a ≠ b → V p l e R s m args below meth c D A nL cells slots Q (ws) (lv) (tgt) (st)) (kf : a = b → V p l e R s m args below meth c D A nL cells slots Q (ws) (lv) (pc + 3) (st)) : V p l e R s m args below meth c D A nL cells slots Q (ws) (lv) (pc) (.int (nI b) :: .int (nI a) :: st) := fun H locs ls hP hD hS hl => lv_icmp_ne F.1.1 F.1.2.1 hd ht (fun h => kt (fun q => h ((nI_eq ha hb).mpr q)) H locs ls hP hD hS hl) (fun h => kf ((nI_eq ha hb).mp h) H locs ls hP hD hS hl)
theorem V.icmp_lt (F : Fx p m meth c cc nL s args own D tys A) {x y : Int32} {off : Int} {tgt : Nat} (hd : decode cc pc = .ok (.if_icmp .lt off, 3)) (ht : (pc : Int) + off = (tgt : Int)) (kt : x < y → V p l e R s m args below meth c D A nL cells slots Q (ws) (lv) (tgt) (st)) (kf : ¬ x < y → V p l e R s m args below meth c D A nL cells slots Q (ws) (lv) (pc + 3) (st)) : V p l e R s m args below meth c D A nL cells slots Q (ws) (lv) (pc) (.int y :: .int x :: st) := fun H locs ls hP hD hS hl => lv_icmp_lt F.1.1 F.1.2.1 hd ht (fun h => kt h H locs ls hP hD hS hl) (fun h => kf h H locs ls hP hD hS hl)
theorem V.icmp_ltN (F : Fx p m meth c cc nL s args own D tys A) {a b : Nat} {off : Int} {tgt : Nat} (hd : decode cc pc = .ok (.if_icmp .lt off, 3)) (ht : (pc : Int) + off = (tgt : Int)) (ha : a < 2 ^ 31) (hb : b < 2 ^ 31) (kt : a < b → V p l e R s m args below meth c D A nL cells slots Q (ws) (lv) (tgt) (st)) (kf : b ≤ a → V p l e R s m args below meth c D A nL cells slots Q (ws) (lv) (pc + 3) (st)) : V p l e R s m args below meth c D A nL cells slots Q (ws) (lv) (pc) (.int (nI b) :: .int (nI a) :: st) := fun H locs ls hP hD hS hl => lv_icmp_lt F.1.1 F.1.2.1 hd ht (fun h => kt ((nI_ltI ha hb).mp h) H locs ls hP hD hS hl) (fun h => kf (Nat.not_lt.mp (fun q => h ((nI_ltI ha hb).mpr q))) H locs ls hP hD hS hl)
theorem V.icmp_ge (F : Fx p m meth c cc nL s args own D tys A) {x y : Int32} {off : Int} {tgt : Nat} (hd : decode cc pc = .ok (.if_icmp .ge off, 3)) (ht : (pc : Int) + off = (tgt : Int)) (kt : y ≤ x → V p l e R s m args below meth c D A nL cells slots Q (ws) (lv) (tgt) (st)) (kf : ¬ y ≤ x → V p l e R s m args below meth c D A nL cells slots Q (ws) (lv) (pc + 3) (st)) : V p l e R s m args below meth c D A nL cells slots Q (ws) (lv) (pc) (.int y :: .int x :: st) := fun H locs ls hP hD hS hl => lv_icmp_ge F.1.1 F.1.2.1 hd ht (fun h => kt h H locs ls hP hD hS hl) (fun h => kf h H locs ls hP hD hS hl)
theorem V.icmp_geN (F : Fx p m meth c cc nL s args own D tys A) {a b : Nat} {off : Int} {tgt : Nat} (hd : decode cc pc = .ok (.if_icmp .ge off, 3)) (ht : (pc : Int) + off = (tgt : Int)) (ha : a < 2 ^ 31) (hb : b < 2 ^ 31) (kt : b ≤ a → V p l e R s m args below meth c D A nL cells slots Q (ws) (lv) (tgt) (st)) (kf : a < b → V p l e R s m args below meth c D A nL cells slots Q (ws) (lv) (pc + 3) (st)) : V p l e R s m args below meth c D A nL cells slots Q (ws) (lv) (pc) (.int (nI b) :: .int (nI a) :: st) := fun H locs ls hP hD hS hl => lv_icmp_ge F.1.1 F.1.2.1 hd ht (fun h => kt ((nI_leI hb ha).mp h) H locs ls hP hD hS hl) (fun h => kf (Nat.not_le.mp (fun q => h ((nI_leI hb ha).mpr q))) H locs ls hP hD hS hl)
theorem V.icmp_gt (F : Fx p m meth c cc nL s args own D tys A) {x y : Int32} {off : Int} {tgt : Nat} (hd : decode cc pc = .ok (.if_icmp .gt off, 3)) (ht : (pc : Int) + off = (tgt : Int)) (kt : y < x → V p l e R s m args below meth c D A nL cells slots Q (ws) (lv) (tgt) (st)) (kf : ¬ y < x → V p l e R s m args below meth c D A nL cells slots Q (ws) (lv) (pc + 3) (st)) : V p l e R s m args below meth c D A nL cells slots Q (ws) (lv) (pc) (.int y :: .int x :: st) := fun H locs ls hP hD hS hl => lv_icmp_gt F.1.1 F.1.2.1 hd ht (fun h => kt h H locs ls hP hD hS hl) (fun h => kf h H locs ls hP hD hS hl)
theorem V.icmp_gtN (F : Fx p m meth c cc nL s args own D tys A) {a b : Nat} {off : Int} {tgt : Nat} (hd : decode cc pc = .ok (.if_icmp .gt off, 3)) (ht : (pc : Int) + off = (tgt : Int)) (ha : a < 2 ^ 31) (hb : b < 2 ^ 31) (kt : b < a → V p l e R s m args below meth c D A nL cells slots Q (ws) (lv) (tgt) (st)) (kf : a ≤ b → V p l e R s m args below meth c D A nL cells slots Q (ws) (lv) (pc + 3) (st)) : V p l e R s m args below meth c D A nL cells slots Q (ws) (lv) (pc) (.int (nI b) :: .int (nI a) :: st) := fun H locs ls hP hD hS hl => lv_icmp_gt F.1.1 F.1.2.1 hd ht (fun h => kt ((nI_ltI hb ha).mp h) H locs ls hP hD hS hl) (fun h => kf (Nat.not_lt.mp (fun q => h ((nI_ltI hb ha).mpr q))) H locs ls hP hD hS hl)
theorem V.icmp_le (F : Fx p m meth c cc nL s args own D tys A) {x y : Int32} {off : Int} {tgt : Nat} (hd : decode cc pc = .ok (.if_icmp .le off, 3)) (ht : (pc : Int) + off = (tgt : Int)) (kt : x ≤ y → V p l e R s m args below meth c D A nL cells slots Q (ws) (lv) (tgt) (st)) (kf : ¬ x ≤ y → V p l e R s m args below meth c D A nL cells slots Q (ws) (lv) (pc + 3) (st)) : V p l e R s m args below meth c D A nL cells slots Q (ws) (lv) (pc) (.int y :: .int x :: st) := fun H locs ls hP hD hS hl => lv_icmp_le F.1.1 F.1.2.1 hd ht (fun h => kt h H locs ls hP hD hS hl) (fun h => kf h H locs ls hP hD hS hl)
theorem V.icmp_leN (F : Fx p m meth c cc nL s args own D tys A) {a b : Nat} {off : Int} {tgt : Nat} (hd : decode cc pc = .ok (.if_icmp .le off, 3)) (ht : (pc : Int) + off = (tgt : Int)) (ha : a < 2 ^ 31) (hb : b < 2 ^ 31) (kt : a ≤ b → V p l e R s m args below meth c D A nL cells slots Q (ws) (lv) (tgt) (st)) (kf : b < a → V p l e R s m args below meth c D A nL cells slots Q (ws) (lv) (pc + 3) (st)) : V p l e R s m args below meth c D A nL cells slots Q (ws) (lv) (pc) (.int (nI b) :: .int (nI a) :: st) := fun H locs ls hP hD hS hl => lv_icmp_le F.1.1 F.1.2.1 hd ht (fun h => kt ((nI_leI ha hb).mp h) H locs ls hP hD hS hl) (fun h => kf (Nat.not_le.mp (fun q => h ((nI_leI ha hb).mpr q))) H locs ls hP hD hS hl)
theorem bI_0 {b : Bool} : bI b = 0 ↔ b = false := by cases b <;> simp [bI]
theorem V.if_eqB (F : Fx p m meth c cc nL s args own D tys A) {b : Bool} {off : Int} {tgt : Nat} (hd : decode cc pc = .ok (.ifCond .eq off, 3)) (ht : (pc : Int) + off = (tgt : Int)) (kt : b = false → V p l e R s m args below meth c D A nL cells slots Q (ws) (lv) (tgt) (st)) (kf : b = true → V p l e R s m args below meth c D A nL cells slots Q (ws) (lv) (pc + 3) (st)) : V p l e R s m args below meth c D A nL cells slots Q (ws) (lv) (pc) (.int (bI b) :: st) := fun H locs ls hP hD hS hl => lv_if_eq F.1.1 F.1.2.1 hd ht (fun h => kt (bI_0.mp h) H locs ls hP hD hS hl) (fun h => kf (Bool.not_eq_false _ |>.mp (fun q => h (bI_0.mpr q))) H locs ls hP hD hS hl)
theorem V.if_neB (F : Fx p m meth c cc nL s args own D tys A) {b : Bool} {off : Int} {tgt : Nat} (hd : decode cc pc = .ok (.ifCond .ne off, 3)) (ht : (pc : Int) + off = (tgt : Int)) (kt : b = true → V p l e R s m args below meth c D A nL cells slots Q (ws) (lv) (tgt) (st)) (kf : b = false → V p l e R s m args below meth c D A nL cells slots Q (ws) (lv) (pc + 3) (st)) : V p l e R s m args below meth c D A nL cells slots Q (ws) (lv) (pc) (.int (bI b) :: st) := fun H locs ls hP hD hS hl => lv_if_ne F.1.1 F.1.2.1 hd ht (fun h => kt (Bool.not_eq_false _ |>.mp (fun q => h (bI_0.mpr q))) H locs ls hP hD hS hl) (fun h => kf (bI_0.mp h) H locs ls hP hD hS hl)
theorem V.if_eqN (F : Fx p m meth c cc nL s args own D tys A) {a : Nat} {off : Int} {tgt : Nat} (hd : decode cc pc = .ok (.ifCond .eq off, 3)) (ht : (pc : Int) + off = (tgt : Int)) (ha : a < 2 ^ 31) (kt : a = 0 → V p l e R s m args below meth c D A nL cells slots Q (ws) (lv) (tgt) (st)) (kf : a ≠ 0 → V p l e R s m args below meth c D A nL cells slots Q (ws) (lv) (pc + 3) (st)) : V p l e R s m args below meth c D A nL cells slots Q (ws) (lv) (pc) (.int (nI a) :: st) := fun H locs ls hP hD hS hl => lv_if_eq F.1.1 F.1.2.1 hd ht (fun h => kt (Nat.eq_zero_of_not_pos (fun q => nI_ne0 q ha h)) H locs ls hP hD hS hl) (fun h => kf (fun q => h (by rw [q]; rfl)) H locs ls hP hD hS hl)
theorem V.if_neN (F : Fx p m meth c cc nL s args own D tys A) {a : Nat} {off : Int} {tgt : Nat} (hd : decode cc pc = .ok (.ifCond .ne off, 3)) (ht : (pc : Int) + off = (tgt : Int)) (ha : a < 2 ^ 31) (kt : a ≠ 0 → V p l e R s m args below meth c D A nL cells slots Q (ws) (lv) (tgt) (st)) (kf : a = 0 → V p l e R s m args below meth c D A nL cells slots Q (ws) (lv) (pc + 3) (st)) : V p l e R s m args below meth c D A nL cells slots Q (ws) (lv) (pc) (.int (nI a) :: st) := fun H locs ls hP hD hS hl => lv_if_ne F.1.1 F.1.2.1 hd ht (fun h => kt (fun q => h (by rw [q]; rfl)) H locs ls hP hD hS hl) (fun h => kf (Nat.eq_zero_of_not_pos (fun q => nI_ne0 q ha h)) H locs ls hP hD hS hl)
theorem V.if_leN (F : Fx p m meth c cc nL s args own D tys A) {a : Nat} {off : Int} {tgt : Nat} (hd : decode cc pc = .ok (.ifCond .le off, 3)) (ht : (pc : Int) + off = (tgt : Int)) (ha : a < 2 ^ 31) (kt : a = 0 → V p l e R s m args below meth c D A nL cells slots Q (ws) (lv) (tgt) (st)) (kf : 0 < a → V p l e R s m args below meth c D A nL cells slots Q (ws) (lv) (pc + 3) (st)) : V p l e R s m args below meth c D A nL cells slots Q (ws) (lv) (pc) (.int (nI a) :: st) := fun H locs ls hP hD hS hl => lv_if_le F.1.1 F.1.2.1 hd ht (fun h => kt (Nat.eq_zero_of_not_pos (fun q => nI_nle q ha h)) H locs ls hP hD hS hl) (fun h => kf (Nat.pos_of_ne_zero (fun q => h (by rw [q]; decide))) H locs ls hP hD hS hl)
theorem V.if_gtN (F : Fx p m meth c cc nL s args own D tys A) {a : Nat} {off : Int} {tgt : Nat} (hd : decode cc pc = .ok (.ifCond .gt off, 3)) (ht : (pc : Int) + off = (tgt : Int)) (ha : a < 2 ^ 31) (kt : 0 < a → V p l e R s m args below meth c D A nL cells slots Q (ws) (lv) (tgt) (st)) (kf : a = 0 → V p l e R s m args below meth c D A nL cells slots Q (ws) (lv) (pc + 3) (st)) : V p l e R s m args below meth c D A nL cells slots Q (ws) (lv) (pc) (.int (nI a) :: st) := fun H locs ls hP hD hS hl => lv_if_gt F.1.1 F.1.2.1 hd ht (fun h => kt (Nat.pos_of_ne_zero (fun q => by rw [q] at h; exact absurd h (by decide))) H locs ls hP hD hS hl) (fun h => kf (Nat.eq_zero_of_not_pos (fun q => h ((nI_ltI (by decide) ha).mpr q))) H locs ls hP hD hS hl)
theorem lc_eq (x y : Int64) : lg_cmp x y = 0 ↔ x = y := by
  unfold lg_cmp
  split
  · rename_i h
    exact ⟨fun q => absurd q (by decide), fun q => by subst q; simp at h⟩
  · split
    · rename_i h; exact ⟨fun _ => h, fun _ => rfl⟩
    · rename_i h; exact ⟨fun q => absurd q (by decide), fun q => absurd q h⟩
theorem lc_lt (x y : Int64) : lg_cmp x y < 0 ↔ x < y := by
  unfold lg_cmp
  simp only [gt_iff_lt, Int64.lt_iff_toInt_lt, ← Int64.toInt_inj]
  split
  · rename_i h; exact ⟨fun q => absurd q (by decide), fun q => by omega⟩
  · split
    · rename_i h; exact ⟨fun q => absurd q (by decide), fun q => by omega⟩
    · rename_i h; exact ⟨fun _ => by omega, fun _ => by decide⟩
theorem lc_gt (x y : Int64) : 0 < lg_cmp x y ↔ y < x := by
  unfold lg_cmp
  simp only [gt_iff_lt, Int64.lt_iff_toInt_lt, ← Int64.toInt_inj]
  split
  · rename_i h; exact ⟨fun _ => h, fun _ => by decide⟩
  · rename_i h0
    split
    · rename_i h; exact ⟨fun q => absurd q (by decide), fun q => absurd q h0⟩
    · rename_i h; exact ⟨fun q => absurd q (by decide), fun q => absurd q h0⟩
theorem lc_ge (x y : Int64) : 0 ≤ lg_cmp x y ↔ y ≤ x := lg_cmp_ge x y
theorem lc_le (x y : Int64) : lg_cmp x y ≤ 0 ↔ x ≤ y := by
  have h := lc_gt x y
  have e1 : (lg_cmp x y ≤ 0) ↔ ¬ (0 < lg_cmp x y) := by simp only [Int32.lt_iff_toInt_lt, Int32.le_iff_toInt_le]; omega
  have e2 : (x ≤ y) ↔ ¬ (y < x) := by simp only [Int64.lt_iff_toInt_lt, Int64.le_iff_toInt_le]; omega
  rw [e1, e2, h]
theorem V.lcmp_eq (F : Fx p m meth c cc nL s args own D tys A) {x y : Int64} {off : Int} {tgt : Nat} (hd : decode cc pc = .ok (.lcmp, 1)) (hd2 : decode cc (pc + 1) = .ok (.ifCond .eq off, 3)) (ht : ((pc + 1 : Nat) : Int) + off = (tgt : Int)) (kt : x = y → V p l e R s m args below meth c D A nL cells slots Q (ws) (lv) (tgt) (st)) (kf : ¬ x = y → V p l e R s m args below meth c D A nL cells slots Q (ws) (lv) (pc + 1 + 3) (st)) : V p l e R s m args below meth c D A nL cells slots Q (ws) (lv) (pc) (.long y :: .long x :: st) := fun H locs ls hP hD hS hl => W.lcmp F.1.1 F.1.2.1 hd (lv_if_eq F.1.1 F.1.2.1 hd2 ht (fun h => kt ((lc_eq x y).mp h) H locs ls hP hD hS hl) (fun h => kf (fun q => h ((lc_eq x y).mpr q)) H locs ls hP hD hS hl))
theorem V.lcmp_ne (F : Fx p m meth c cc nL s args own D tys A) {x y : Int64} {off : Int} {tgt : Nat} (hd : decode cc pc = .ok (.lcmp, 1)) (hd2 : decode cc (pc + 1) = .ok (.ifCond .ne off, 3)) (ht : ((pc + 1 : Nat) : Int) + off = (tgt : Int)) (kt : ¬ x = y → V p l e R s m args below meth c D A nL cells slots Q (ws) (lv) (tgt) (st)) (kf : x = y → V p l e R s m args below meth c D A nL cells slots Q (ws) (lv) (pc + 1 + 3) (st)) : V p l e R s m args below meth c D A nL cells slots Q (ws) (lv) (pc) (.long y :: .long x :: st) := fun H locs ls hP hD hS hl => W.lcmp F.1.1 F.1.2.1 hd (lv_if_ne F.1.1 F.1.2.1 hd2 ht (fun h => kt (fun q => h ((lc_eq x y).mpr q)) H locs ls hP hD hS hl) (fun h => kf ((lc_eq x y).mp h) H locs ls hP hD hS hl))
theorem V.lcmp_lt (F : Fx p m meth c cc nL s args own D tys A) {x y : Int64} {off : Int} {tgt : Nat} (hd : decode cc pc = .ok (.lcmp, 1)) (hd2 : decode cc (pc + 1) = .ok (.ifCond .lt off, 3)) (ht : ((pc + 1 : Nat) : Int) + off = (tgt : Int)) (kt : x < y → V p l e R s m args below meth c D A nL cells slots Q (ws) (lv) (tgt) (st)) (kf : ¬ x < y → V p l e R s m args below meth c D A nL cells slots Q (ws) (lv) (pc + 1 + 3) (st)) : V p l e R s m args below meth c D A nL cells slots Q (ws) (lv) (pc) (.long y :: .long x :: st) := fun H locs ls hP hD hS hl => W.lcmp F.1.1 F.1.2.1 hd (lv_if_lt F.1.1 F.1.2.1 hd2 ht (fun h => kt ((lc_lt x y).mp h) H locs ls hP hD hS hl) (fun h => kf (fun q => h ((lc_lt x y).mpr q)) H locs ls hP hD hS hl))
theorem V.lcmp_ge (F : Fx p m meth c cc nL s args own D tys A) {x y : Int64} {off : Int} {tgt : Nat} (hd : decode cc pc = .ok (.lcmp, 1)) (hd2 : decode cc (pc + 1) = .ok (.ifCond .ge off, 3)) (ht : ((pc + 1 : Nat) : Int) + off = (tgt : Int)) (kt : y ≤ x → V p l e R s m args below meth c D A nL cells slots Q (ws) (lv) (tgt) (st)) (kf : ¬ y ≤ x → V p l e R s m args below meth c D A nL cells slots Q (ws) (lv) (pc + 1 + 3) (st)) : V p l e R s m args below meth c D A nL cells slots Q (ws) (lv) (pc) (.long y :: .long x :: st) := fun H locs ls hP hD hS hl => W.lcmp F.1.1 F.1.2.1 hd (lv_if_ge F.1.1 F.1.2.1 hd2 ht (fun h => kt ((lc_ge x y).mp h) H locs ls hP hD hS hl) (fun h => kf (fun q => h ((lc_ge x y).mpr q)) H locs ls hP hD hS hl))
theorem V.lcmp_gt (F : Fx p m meth c cc nL s args own D tys A) {x y : Int64} {off : Int} {tgt : Nat} (hd : decode cc pc = .ok (.lcmp, 1)) (hd2 : decode cc (pc + 1) = .ok (.ifCond .gt off, 3)) (ht : ((pc + 1 : Nat) : Int) + off = (tgt : Int)) (kt : y < x → V p l e R s m args below meth c D A nL cells slots Q (ws) (lv) (tgt) (st)) (kf : ¬ y < x → V p l e R s m args below meth c D A nL cells slots Q (ws) (lv) (pc + 1 + 3) (st)) : V p l e R s m args below meth c D A nL cells slots Q (ws) (lv) (pc) (.long y :: .long x :: st) := fun H locs ls hP hD hS hl => W.lcmp F.1.1 F.1.2.1 hd (lv_if_gt F.1.1 F.1.2.1 hd2 ht (fun h => kt ((lc_gt x y).mp h) H locs ls hP hD hS hl) (fun h => kf (fun q => h ((lc_gt x y).mpr q)) H locs ls hP hD hS hl))
theorem V.lcmp_le (F : Fx p m meth c cc nL s args own D tys A) {x y : Int64} {off : Int} {tgt : Nat} (hd : decode cc pc = .ok (.lcmp, 1)) (hd2 : decode cc (pc + 1) = .ok (.ifCond .le off, 3)) (ht : ((pc + 1 : Nat) : Int) + off = (tgt : Int)) (kt : x ≤ y → V p l e R s m args below meth c D A nL cells slots Q (ws) (lv) (tgt) (st)) (kf : ¬ x ≤ y → V p l e R s m args below meth c D A nL cells slots Q (ws) (lv) (pc + 1 + 3) (st)) : V p l e R s m args below meth c D A nL cells slots Q (ws) (lv) (pc) (.long y :: .long x :: st) := fun H locs ls hP hD hS hl => W.lcmp F.1.1 F.1.2.1 hd (lv_if_le F.1.1 F.1.2.1 hd2 ht (fun h => kt ((lc_le x y).mp h) H locs ls hP hD hS hl) (fun h => kf (fun q => h ((lc_le x y).mpr q)) H locs ls hP hD hS hl))
theorem V.goto (F : Fx p m meth c cc nL s args own D tys A) {off : Int} {tgt : Nat} (hd : decode cc pc = .ok (.goto off, 3)) (ht : (pc : Int) + off = (tgt : Int)) (kk : V p l e R s m args below meth c D A nL cells slots Q (ws) (lv) (tgt) (st)) : V p l e R s m args below meth c D A nL cells slots Q (ws) (lv) (pc) (st) := fun H locs ls hP hD hS hl => lv_goto F.1.1 F.1.2.1 hd ht (kk H locs ls hP hD hS hl)
theorem V.ifnull (F : Fx p m meth c cc nL s args own D tys A) {x : Nat} {off : Int} (hd : decode cc pc = .ok (.ifnull off, 3)) (kk : V p l e R s m args below meth c D A nL cells slots Q (ws) (lv) (pc + 3) (st)) : V p l e R s m args below meth c D A nL cells slots Q (ws) (lv) (pc) (.ref x :: st) := fun H locs ls hP hD hS hl => lv_ifnull F.1.1 F.1.2.1 hd (kk H locs ls hP hD hS hl)
theorem V.ifnonnull (F : Fx p m meth c cc nL s args own D tys A) {x : Nat} {off : Int} {tgt : Nat} (hd : decode cc pc = .ok (.ifnonnull off, 3)) (ht : (pc : Int) + off = (tgt : Int)) (kk : V p l e R s m args below meth c D A nL cells slots Q (ws) (lv) (tgt) (st)) : V p l e R s m args below meth c D A nL cells slots Q (ws) (lv) (pc) (.ref x :: st) := fun H locs ls hP hD hS hl => lv_ifnonnull F.1.1 F.1.2.1 hd ht (kk H locs ls hP hD hS hl)
theorem V.ifnullN (F : Fx p m meth c cc nL s args own D tys A) {off : Int} {tgt : Nat} (hd : decode cc pc = .ok (.ifnull off, 3)) (ht : (pc : Int) + off = (tgt : Int)) (kk : V p l e R s m args below meth c D A nL cells slots Q (ws) (lv) (tgt) (st)) : V p l e R s m args below meth c D A nL cells slots Q (ws) (lv) (pc) (.null :: st) := fun H locs ls hP hD hS hl => lv_ifnullN F.1.1 F.1.2.1 hd ht (kk H locs ls hP hD hS hl)
theorem V.ifnonnullN (F : Fx p m meth c cc nL s args own D tys A) {off : Int} (hd : decode cc pc = .ok (.ifnonnull off, 3)) (kk : V p l e R s m args below meth c D A nL cells slots Q (ws) (lv) (pc + 3) (st)) : V p l e R s m args below meth c D A nL cells slots Q (ws) (lv) (pc) (.null :: st) := fun H locs ls hP hD hS hl => lv_ifnonnullN F.1.1 F.1.2.1 hd (kk H locs ls hP hD hS hl)
theorem V.tableOut (F : Fx p m meth c cc nL s args own D tys A) {dflt lo hi : Int} {offs : Array Int} {len : Nat} {x : Int32} {tgt : Nat} (hd : decode cc pc = .ok (.tableswitch dflt lo hi offs, len)) (h : x.toInt < lo ∨ hi < x.toInt) (ht : (pc : Int) + dflt = (tgt : Int)) (kk : V p l e R s m args below meth c D A nL cells slots Q (ws) (lv) (tgt) (st)) : V p l e R s m args below meth c D A nL cells slots Q (ws) (lv) (pc) (.int x :: st) := fun H locs ls hP hD hS hl => lv_tableOut F.1.1 F.1.2.1 hd h ht (kk H locs ls hP hD hS hl)
theorem V.tableIn (F : Fx p m meth c cc nL s args own D tys A) {dflt lo hi : Int} {offs : Array Int} {len : Nat} {x : Int32} {off : Int} {tgt : Nat} (hd : decode cc pc = .ok (.tableswitch dflt lo hi offs, len)) (h1 : ¬ x.toInt < lo) (h2 : ¬ hi < x.toInt) (ho : offs[(x.toInt - lo).toNat]? = some off) (ht : (pc : Int) + off = (tgt : Int)) (kk : V p l e R s m args below meth c D A nL cells slots Q (ws) (lv) (tgt) (st)) : V p l e R s m args below meth c D A nL cells slots Q (ws) (lv) (pc) (.int x :: st) := fun H locs ls hP hD hS hl => lv_tableIn F.1.1 F.1.2.1 hd h1 h2 ho ht (kk H locs ls hP hD hS hl)
theorem V.get (F : Fx p m meth c cc nL s args own D tys A) {ci : Nat} {C : String} {T : u_T} {N : Nat} {ty : Nat → FieldType} (hC : Ck ci C T N ty) {a index : Nat} {fs : List Value} {v : Value} (hd : decode cc pc = .ok (.getfield index, 3)) (k : Nat) (hk : k < N) (hlk : Cond.fieldLink own index C (T k).2.1 (T k).2.2.1 ∈ TB) (q0 : Nat) (he : ws[q0]? = some (a, .inr (ci, fs))) (hv : fs[k]? = some v) (kk : V p l e R s m args below meth c D A nL cells slots Q (ws) (lv) (pc + 3) (v :: st)) : V p l e R s m args below meth c D A nL cells slots Q (ws) (lv) (pc) (.ref a :: st) := fun H locs ls hP hD hS hl => va_get F.1.1 F.1.2.1 F.1.2.2.2.2 hC.2.1 F.1.2.2.2.1 F.2.1.1 hP q0 he hC.1 k hk (F.1.2.2.2.2 _ hlk) (fun x h => (hC.2.2.2.2 k hk) ▸ h) hv hd (kk H locs ls hP hD hS hl)
theorem V.put (F : Fx p m meth c cc nL s args own D tys A) {ci : Nat} {C : String} {T : u_T} {N : Nat} {ty : Nat → FieldType} (hC : Ck ci C T N ty) {a index : Nat} {fs : List Value} {v : Value} {ws2 : va_W} (hd : decode cc pc = .ok (.putfield index, 3)) (k : Nat) (hk : k < N) (hlk : Cond.fieldLink own index C (T k).2.1 (T k).2.2.1 ∈ TB) (q0 : Nat) (he : ws[q0]? = some (a, .inr (ci, fs))) (hfin : (T k).2.2.2 = false) (hn : narrow (ty k) v = v) (hfit : fits (ty k) v = true) (hlen : k < fs.length) (hw : ws.set q0 (a, .inr (ci, fs.set k v)) = ws2) (kk : V p l e R s m args below meth c D A nL cells slots Q (ws2) (lv) (pc + 3) (st)) : V p l e R s m args below meth c D A nL cells slots Q (ws) (lv) (pc) (v :: .ref a :: st) := fun H locs ls hP hD hS hl => va_put F.1.1 F.1.2.1 F.1.2.2.2.2 hC.2.1 ty hC.2.2.1 hC.2.2.2.1 F.1.2.2.2.1 F.2.1.1 hP hD hS q0 he hC.1 k hk (F.1.2.2.2.2 _ hlk) (fun x h => (hC.2.2.2.2 k hk) ▸ h) hfin (hC.2.2.1 k hk) hn hfit hlen hd (fun H1 locs1 hP1 hD1 hS1 => kk H1 locs1 ls (hw ▸ hP1) (hw ▸ hD1) hS1 hl)
theorem V.getN (F : Fx p m meth c cc nL s args own D tys A) {ci : Nat} {C : String} {T : u_T} {N : Nat} {ty : Nat → FieldType} (hC : Ck ci C T N ty) {a index : Nat} {fs : List Value} {v : Value} {host : String} (hd : decode cc pc = .ok (.getfield index, 3)) (k : Nat) (hk : k < N) (hlk : Cond.fieldLinkNest own index C (T k).2.1 (T k).2.2.1 host ∈ NW) (q0 : Nat) (he : ws[q0]? = some (a, .inr (ci, fs))) (hv : fs[k]? = some v) (kk : V p l e R s m args below meth c D A nL cells slots Q (ws) (lv) (pc + 3) (v :: st)) : V p l e R s m args below meth c D A nL cells slots Q (ws) (lv) (pc) (.ref a :: st) := fun H locs ls hP hD hS hl => va_getN F.1.1 F.1.2.1 F.1.2.2.2.2 hC.2.1 F.1.2.2.2.1 F.2.1.1 hP q0 he hC.1 k hk (va_Nw.use (NW_on _ hlk) (F.2.1.2.1 _ hlk)) (fun x h => (hC.2.2.2.2 k hk) ▸ h) hv hd (kk H locs ls hP hD hS hl)
theorem V.putN (F : Fx p m meth c cc nL s args own D tys A) {ci : Nat} {C : String} {T : u_T} {N : Nat} {ty : Nat → FieldType} (hC : Ck ci C T N ty) {a index : Nat} {fs : List Value} {v : Value} {ws2 : va_W} {host : String} (hd : decode cc pc = .ok (.putfield index, 3)) (k : Nat) (hk : k < N) (hlk : Cond.fieldLinkNest own index C (T k).2.1 (T k).2.2.1 host ∈ NW) (q0 : Nat) (he : ws[q0]? = some (a, .inr (ci, fs))) (hfin : (T k).2.2.2 = false) (hn : narrow (ty k) v = v) (hfit : fits (ty k) v = true) (hlen : k < fs.length) (hw : ws.set q0 (a, .inr (ci, fs.set k v)) = ws2) (kk : V p l e R s m args below meth c D A nL cells slots Q (ws2) (lv) (pc + 3) (st)) : V p l e R s m args below meth c D A nL cells slots Q (ws) (lv) (pc) (v :: .ref a :: st) := fun H locs ls hP hD hS hl => va_putN F.1.1 F.1.2.1 F.1.2.2.2.2 hC.2.1 ty hC.2.2.1 hC.2.2.2.1 F.1.2.2.2.1 F.2.1.1 hP hD hS q0 he hC.1 k hk (va_Nw.use (NW_on _ hlk) (F.2.1.2.1 _ hlk)) (fun x h => (hC.2.2.2.2 k hk) ▸ h) hfin (hC.2.2.1 k hk) hn hfit hlen hd (fun H1 locs1 hP1 hD1 hS1 => kk H1 locs1 ls (hw ▸ hP1) (hw ▸ hD1) hS1 hl)
theorem V.putF (F : Fx p m meth c cc nL s args own D tys A) {ci : Nat} {C : String} {T : u_T} {N : Nat} {ty : Nat → FieldType} (hC : Ck ci C T N ty) {a index : Nat} {fs : List Value} {v : Value} {ws2 : va_W} (hd : decode cc pc = .ok (.putfield index, 3)) (k : Nat) (hk : k < N) (hlk : Cond.fieldLink own index C (T k).2.1 (T k).2.2.1 ∈ TB) (q0 : Nat) (he : ws[q0]? = some (a, .inr (ci, fs))) (hfin : (T k).2.2.2 = true) (hin2 : meth.name = "<init>") (hoC : C = own) (hn : narrow (ty k) v = v) (hfit : fits (ty k) v = true) (hlen : k < fs.length) (hw : ws.set q0 (a, .inr (ci, fs.set k v)) = ws2) (kk : V p l e R s m args below meth c D A nL cells slots Q (ws2) (lv) (pc + 3) (st)) : V p l e R s m args below meth c D A nL cells slots Q (ws) (lv) (pc) (v :: .ref a :: st) := fun H locs ls hP hD hS hl => va_putF F.1.1 F.1.2.1 F.1.2.2.2.2 hC.2.1 ty hC.2.2.1 hC.2.2.2.1 F.1.2.2.2.1 F.2.1.1 hP hD hS q0 he hC.1 k hk (F.1.2.2.2.2 _ hlk) (fun x h => (hC.2.2.2.2 k hk) ▸ h) hfin hin2 ((hC.2.2.2.2 k hk).trans hoC) (hC.2.2.1 k hk) hn hfit hlen hd (fun H1 locs1 hP1 hD1 hS1 => kk H1 locs1 ls (hw ▸ hP1) (hw ▸ hD1) hS1 hl)
theorem cl_nI {i : Nat} (h : i < 2 ^ 31) : (nI i).toNatClampNeg = i := nI_clamp h
theorem V.iald (F : Fx p m meth c cc nL s args own D tys A) {a n i : Nat} {cA : ClassId} {f : Nat → Int32} {v : Int32} (hd : decode cc pc = .ok (.iaload, 1)) (q0 t0 : Nat) (ha : ws[q0]? = some (a, .inl (cA, n, .inl f))) (ht : tys[t0]? = some (cA, .int)) (hi : i < n) (hn : n < 2 ^ 31) (hv : f i = v) (kk : V p l e R s m args below meth c D A nL cells slots Q (ws) (lv) (pc + 1) (.int v :: st)) : V p l e R s m args below meth c D A nL cells slots Q (ws) (lv) (pc) (.int (nI i) :: .ref a :: st) := fun H locs ls hP hD hS hl => va_iald F.1.1 F.1.2.1 F.2.1.1 hP q0 t0 ha ht (vp_in_nI hi hn) hd (by rw [cl_nI (Nat.lt_trans hi hn), hv]; exact (kk H locs ls hP hD hS hl))
theorem V.lald (F : Fx p m meth c cc nL s args own D tys A) {a n i : Nat} {cA : ClassId} {f : Nat → Int64} {v : Int64} (hd : decode cc pc = .ok (.laload, 1)) (q0 t0 : Nat) (ha : ws[q0]? = some (a, .inl (cA, n, .inr (.inl f)))) (ht : tys[t0]? = some (cA, .long)) (hi : i < n) (hn : n < 2 ^ 31) (hv : f i = v) (kk : V p l e R s m args below meth c D A nL cells slots Q (ws) (lv) (pc + 1) (.long v :: st)) : V p l e R s m args below meth c D A nL cells slots Q (ws) (lv) (pc) (.int (nI i) :: .ref a :: st) := fun H locs ls hP hD hS hl => va_lald F.1.1 F.1.2.1 F.2.1.1 hP q0 t0 ha ht (vp_in_nI hi hn) hd (by rw [cl_nI (Nat.lt_trans hi hn), hv]; exact (kk H locs ls hP hD hS hl))
theorem V.aldq (F : Fx p m meth c cc nL s args own D tys A) {a n i : Nat} {cA : ClassId} {C : String} {f : Nat → Option Nat} {v : Value} (hd : decode cc pc = .ok (.aaload, 1)) (q0 t0 : Nat) (ha : ws[q0]? = some (a, .inl (cA, n, .inr (.inr (.inr (.inr f)))))) (ht : tys[t0]? = some (cA, .object C)) (hi : i < n) (hn : n < 2 ^ 31) (hv : va_rf (f i) = v) (kk : V p l e R s m args below meth c D A nL cells slots Q (ws) (lv) (pc + 1) (v :: st)) : V p l e R s m args below meth c D A nL cells slots Q (ws) (lv) (pc) (.int (nI i) :: .ref a :: st) := fun H locs ls hP hD hS hl => va_aldq F.1.1 F.1.2.1 F.2.1.1 hP q0 t0 ha ht (vp_in_nI hi hn) hd (by rw [cl_nI (Nat.lt_trans hi hn), hv]; exact (kk H locs ls hP hD hS hl))
theorem V.iast (F : Fx p m meth c cc nL s args own D tys A) {a n i : Nat} {cA : ClassId} {f : Nat → Int32} {x : Int32} {ws2 : va_W} (hd : decode cc pc = .ok (.iastore, 1)) (q0 t0 : Nat) (ha : ws[q0]? = some (a, .inl (cA, n, .inl f))) (ht : tys[t0]? = some (cA, .int)) (hi : i < n) (hn : n < 2 ^ 31) (hw : ws.set q0 (a, .inl (cA, n, .inl (upd f i x))) = ws2) (kk : V p l e R s m args below meth c D A nL cells slots Q (ws2) (lv) (pc + 1) (st)) : V p l e R s m args below meth c D A nL cells slots Q (ws) (lv) (pc) (.int x :: .int (nI i) :: .ref a :: st) := fun H locs ls hP hD hS hl => va_iast F.1.1 F.1.2.1 F.2.1.1 hP hD hS q0 t0 ha ht (vp_in_nI hi hn) hd (fun H1 locs1 hP1 hD1 hS1 => kk H1 locs1 ls (by rw [cl_nI (Nat.lt_trans hi hn)] at hP1; exact hw ▸ hP1) (by rw [cl_nI (Nat.lt_trans hi hn)] at hD1; exact hw ▸ hD1) hS1 hl)
theorem V.last (F : Fx p m meth c cc nL s args own D tys A) {a n i : Nat} {cA : ClassId} {f : Nat → Int64} {x : Int64} {ws2 : va_W} (hd : decode cc pc = .ok (.lastore, 1)) (q0 t0 : Nat) (ha : ws[q0]? = some (a, .inl (cA, n, .inr (.inl f)))) (ht : tys[t0]? = some (cA, .long)) (hi : i < n) (hn : n < 2 ^ 31) (hw : ws.set q0 (a, .inl (cA, n, .inr (.inl (vp_updL f i x)))) = ws2) (kk : V p l e R s m args below meth c D A nL cells slots Q (ws2) (lv) (pc + 1) (st)) : V p l e R s m args below meth c D A nL cells slots Q (ws) (lv) (pc) (.long x :: .int (nI i) :: .ref a :: st) := fun H locs ls hP hD hS hl => va_last F.1.1 F.1.2.1 F.2.1.1 hP hD hS q0 t0 ha ht (vp_in_nI hi hn) hd (fun H1 locs1 hP1 hD1 hS1 => kk H1 locs1 ls (by rw [cl_nI (Nat.lt_trans hi hn)] at hP1; exact hw ▸ hP1) (by rw [cl_nI (Nat.lt_trans hi hn)] at hD1; exact hw ▸ hD1) hS1 hl)
theorem V.astq (F : Fx p m meth c cc nL s args own D tys A) {a n i v ci : Nat} {cA : ClassId} {r : vw_C} {vs : List Value} {f : Nat → Option Nat} {ws2 : va_W} (hd : decode cc pc = .ok (.aastore, 1)) (q0 t0 qk : Nat) (ha : ws[q0]? = some (a, .inl (cA, n, .inr (.inr (.inr (.inr f)))))) (ht : tys[t0]? = some (cA, .object r.1)) (hv : ws[qk]? = some (v, .inr (ci, vs))) (hc : vwCl[ci]? = some r) (hi : i < n) (hn : n < 2 ^ 31) (hw : ws.set q0 (a, .inl (cA, n, .inr (.inr (.inr (.inr (va_up f i (some v))))))) = ws2) (kk : V p l e R s m args below meth c D A nL cells slots Q (ws2) (lv) (pc + 1) (st)) : V p l e R s m args below meth c D A nL cells slots Q (ws) (lv) (pc) (.ref v :: .int (nI i) :: .ref a :: st) := fun H locs ls hP hD hS hl => va_astq F.1.1 F.1.2.1 F.2.1.1 hP hD hS q0 t0 qk ci ha ht hv hc (vp_in_nI hi hn) hd (fun H1 locs1 hP1 hD1 hS1 => kk H1 locs1 ls (by rw [cl_nI (Nat.lt_trans hi hn)] at hP1; exact hw ▸ hP1) (by rw [cl_nI (Nat.lt_trans hi hn)] at hD1; exact hw ▸ hD1) hS1 hl)
theorem V.alen (F : Fx p m meth c cc nL s args own D tys A) {a : Nat} {cA : ClassId} {x : vp_A} {ty : FieldType} {v : Int32} (hd : decode cc pc = .ok (.arraylength, 1)) (q0 t0 : Nat) (ha : ws[q0]? = some (a, .inl (cA, x))) (ht : tys[t0]? = some (cA, ty)) (hv : Int32.ofNat x.1 = v) (kk : V p l e R s m args below meth c D A nL cells slots Q (ws) (lv) (pc + 1) (.int v :: st)) : V p l e R s m args below meth c D A nL cells slots Q (ws) (lv) (pc) (.ref a :: st) := fun H locs ls hP hD hS hl => va_alen F.1.1 F.1.2.1 F.2.1.1 hP q0 t0 ha ht hv hd (kk H locs ls hP hD hS hl)
theorem V.newa_i (F : Fx p m meth c cc nL s args own D tys A) {cA : ClassId} {n : Nat} (hd : decode cc pc = .ok (.newarray .int, 2)) (hw : Cond.arrayClass .int ∈ TB) (t0 : Nat) (ht : tys[t0]? = some (cA, .int)) (hn : n < 2 ^ 20) (hcells : cells + 1 ≤ R.cells) (hslots : slots + n ≤ R.slots) (kk : ∀ q : Nat, V p l e R s m args below meth c D A nL (cells + 1) (slots + n) Q (ws ++ [(q, .inl (cA, n, .inl (fun _ => 0)))]) (lv) (pc + 2) (.ref q :: st)) : V p l e R s m args below meth c D A nL cells slots Q (ws) (lv) (pc) (.int (nI n) :: st) := fun H locs ls hP hD hS hl => va_newa (atype := .int) (N' := n) (a0 := (n, .inl (fun _ => 0))) F.1.1 F.1.2.1 (F.1.2.2.2.2 _ hw) rfl F.2.1.1 hP hD hS F.2.2.1 (fun _ => rfl) (nI_pos (by omega)) (cl_nI (by omega)) (by show n * 4 ≤ _; omega) hcells hslots hd (fun q cA2 H1 hK1 hP1 hD1 hS1 => by
    have e1 := va_nm_int (F.2.1.1.2 t0 _ ht).2
    have e2 := va_nm_int (hK1.2 tys.length _ (by rw [List.getElem?_append_right (Nat.le_refl _), Nat.sub_self]; rfl)).2
    have e3 : cA2 = cA := Option.some.inj (e2.symm.trans e1)
    subst e3
    exact kk q H1 locs ls hP1 hD1 hS1 hl)
theorem V.newa_l (F : Fx p m meth c cc nL s args own D tys A) {cA : ClassId} {n : Nat} (hd : decode cc pc = .ok (.newarray .long, 2)) (hw : Cond.arrayClass .long ∈ TB) (t0 : Nat) (ht : tys[t0]? = some (cA, .long)) (hn : n < 2 ^ 20) (hcells : cells + 1 ≤ R.cells) (hslots : slots + n ≤ R.slots) (kk : ∀ q : Nat, V p l e R s m args below meth c D A nL (cells + 1) (slots + n) Q (ws ++ [(q, .inl (cA, n, .inr (.inl (fun _ => 0))))]) (lv) (pc + 2) (.ref q :: st)) : V p l e R s m args below meth c D A nL cells slots Q (ws) (lv) (pc) (.int (nI n) :: st) := fun H locs ls hP hD hS hl => va_newa (atype := .long) (N' := n) (a0 := (n, .inr (.inl (fun _ => 0)))) F.1.1 F.1.2.1 (F.1.2.2.2.2 _ hw) rfl F.2.1.1 hP hD hS F.2.2.1 (fun _ => rfl) (nI_pos (by omega)) (cl_nI (by omega)) (by show n * 8 ≤ _; omega) hcells hslots hd (fun q cA2 H1 hK1 hP1 hD1 hS1 => by
    have e1 := va_nm_long (F.2.1.1.2 t0 _ ht).2
    have e2 := va_nm_long (hK1.2 tys.length _ (by rw [List.getElem?_append_right (Nat.le_refl _), Nat.sub_self]; rfl)).2
    have e3 : cA2 = cA := Option.some.inj (e2.symm.trans e1)
    subst e3
    exact kk q H1 locs ls hP1 hD1 hS1 hl)
theorem V.newq (F : Fx p m meth c cc nL s args own D tys A) {cA : ClassId} {index n : Nat} (hd : decode cc pc = .ok (.anewarray index, 3)) (hw : Cond.classLink own index R_K ∈ TB) (t0 : Nat) (ht : tys[t0]? = some (cA, .object R_K)) (hn : n < 2 ^ 20) (hcells : cells + 1 ≤ R.cells) (hslots : slots + n ≤ R.slots) (kk : ∀ q : Nat, V p l e R s m args below meth c D A nL (cells + 1) (slots + n) Q (ws ++ [(q, .inl (cA, n, .inr (.inr (.inr (.inr (fun _ => none))))))]) (lv) (pc + 3) (.ref q :: st)) : V p l e R s m args below meth c D A nL cells slots Q (ws) (lv) (pc) (.int (nI n) :: st) := fun H locs ls hP hD hS hl => va_newq (N' := n) F.1.1 F.1.2.1 F.1.2.2.2.1 (F.1.2.2.2.2 _ hw) F.2.1.2.2 F.2.1.1 hP hD hS F.2.2.1 (nI_pos (by omega)) (cl_nI (by omega)) (by omega) hcells hslots hd (fun q cA2 H1 hK1 hP1 hD1 hS1 => by
    obtain ⟨_, _, _, _, _, e1⟩ := (F.2.1.1.2 t0 _ ht).2
    obtain ⟨_, _, _, _, _, e2⟩ := (hK1.2 tys.length _ (by rw [List.getElem?_append_right (Nat.le_refl _), Nat.sub_self]; rfl)).2
    have e3 : cA2 = cA := Option.some.inj (e2.symm.trans e1)
    subst e3
    exact kk q H1 locs ls hP1 hD1 hS1 hl)
theorem V.new (F : Fx p m meth c cc nL s args own D tys A) {ci : Nat} {C : String} {T : u_T} {N : Nat} {ty : Nat → FieldType} (hC : Ck ci C T N ty) {index : Nat} (hd : decode cc pc = .ok (.new index, 3)) (h1 : Cond.classLink own index C ∈ TB) (h2 : Cond.instantiable C N ∈ TB) (h3 : Cond.initialized C ∈ TB) {fs : List Value} (hfs : ∀ j, j < N → defaultValue (ty j) = vp_V fs j) (hcells : cells + 1 ≤ R.cells) (hslots : slots + N ≤ R.slots) (kk : ∀ q : Nat, V p l e R s m args below meth c D A nL (cells + 1) (slots + N) Q (ws ++ [(q, .inr (ci, fs))]) (lv) (pc + 3) (.ref q :: st)) : V p l e R s m args below meth c D A nL cells slots Q (ws) (lv) (pc) (st) := fun H locs ls hP hD hS hl => va_new F.1.1 F.1.2.1 F.1.2.2.2.2 hC.2.1 ty hC.2.2.1 F.1.2.2.2.1 (F.1.2.2.2.2 _ h1) (F.1.2.2.2.2 _ h2) (F.1.2.2.2.2 _ h3) F.2.1.1 hP hD hS F.2.2.1 hC.1 hfs hcells hslots hd (fun q H1 hP1 hD1 hS1 => kk q H1 locs ls hP1 hD1 hS1 hl)
theorem V.objInit (F : Fx p m meth c cc nL s args own D tys A) {a index : Nat} (hd : decode cc pc = .ok (.invokespecial index, 3)) (h1 : Cond.methodLink own index objectInit ∈ TB) (h2 : Cond.instanceMethod objectInit ∈ TB) (h3 : Cond.code objectInit ⟨#[0xb1]⟩ 1 none ∈ TB) (hfr : 1 ≤ R.frames) (hlo : (st.map fun v => v.category).sum + 12 ≤ R.locals) (kk : V p l e R s m args below meth c D A nL cells slots Q (ws) (lv) (pc + 3) (st)) : V p l e R s m args below meth c D A nL cells slots Q (ws) (lv) (pc) (.ref a :: st) := fun H locs ls hP hD hS hl => W.objInit F.1.1 F.1.2.1 F.1.2.2.2.1 (F.1.2.2.2.2 _ h1) (F.1.2.2.2.2 _ h2) (F.1.2.2.2.2 _ h3) rfl (hl.1.trans F.1.2.2.1.symm) rfl hd hfr (by show 2 * 0 + _ + 12 ≤ _; omega) (kk H locs ls hP hD hS hl)
def CI (l : Launch) (y : MethodName) (b : ByteArray) (mL : Nat) (rt : Option FieldType) (rm : Room) (D : va_G) (tys : List (ClassId × FieldType)) (ws : va_W) (av : List Value) (mc ms : Nat) (post : Int32 → va_W → Prop) : Prop :=
  ∀ sz : Nat, Met l y (Cond.code y b mL rt :: TB) rm (va_Pc av (fun U => U.heap.size = sz ∧ va_P D vwCl ws U.heap ∧ Kx D tys U ∧ va_D (fun _ => True) ws)) (va_Qi post (fun u t => va_P D vwCl u t.heap ∧ va_D (va_A ws sz) u) (va_A ws sz)) mc ms (va_A ws sz)
def EI (D : va_G) (below : List Frame) (ws : va_W) (args : Array Value) (s : State) (mc ms : Nat) (post : Int32 → va_W → Prop) : State → Prop := MQ below (va_Qi post (fun u t => va_P D vwCl u t.heap ∧ va_D (va_A ws s.heap.size) u) (va_A ws s.heap.size)) args s mc ms (va_A ws s.heap.size)
def CL (l : Launch) (y : MethodName) (b : ByteArray) (mL : Nat) (rt : Option FieldType) (rm : Room) (D : va_G) (tys : List (ClassId × FieldType)) (ws : va_W) (av : List Value) (mc ms : Nat) (post : Int64 → va_W → Prop) : Prop :=
  ∀ sz : Nat, Met l y (Cond.code y b mL rt :: TB) rm (va_Pc av (fun U => U.heap.size = sz ∧ va_P D vwCl ws U.heap ∧ Kx D tys U ∧ va_D (fun _ => True) ws)) (va_Ql post (fun u t => va_P D vwCl u t.heap ∧ va_D (va_A ws sz) u) (va_A ws sz)) mc ms (va_A ws sz)
def EL (D : va_G) (below : List Frame) (ws : va_W) (args : Array Value) (s : State) (mc ms : Nat) (post : Int64 → va_W → Prop) : State → Prop := MQ below (va_Ql post (fun u t => va_P D vwCl u t.heap ∧ va_D (va_A ws s.heap.size) u) (va_A ws s.heap.size)) args s mc ms (va_A ws s.heap.size)
def CQ (l : Launch) (y : MethodName) (b : ByteArray) (mL : Nat) (rt : Option FieldType) (rm : Room) (D : va_G) (tys : List (ClassId × FieldType)) (ws : va_W) (av : List Value) (mc ms : Nat) (post : Option Nat → va_W → Prop) : Prop :=
  ∀ sz : Nat, Met l y (Cond.code y b mL rt :: TB) rm (va_Pc av (fun U => U.heap.size = sz ∧ va_P D vwCl ws U.heap ∧ Kx D tys U ∧ va_D (fun _ => True) ws)) (va_Qq post (fun u t => va_P D vwCl u t.heap ∧ va_D (va_A ws sz) u) (va_A ws sz)) mc ms (va_A ws sz)
def EQ (D : va_G) (below : List Frame) (ws : va_W) (args : Array Value) (s : State) (mc ms : Nat) (post : Option Nat → va_W → Prop) : State → Prop := MQ below (va_Qq post (fun u t => va_P D vwCl u t.heap ∧ va_D (va_A ws s.heap.size) u) (va_A ws s.heap.size)) args s mc ms (va_A ws s.heap.size)
def CV (l : Launch) (y : MethodName) (b : ByteArray) (mL : Nat) (rt : Option FieldType) (rm : Room) (D : va_G) (tys : List (ClassId × FieldType)) (ws : va_W) (av : List Value) (mc ms : Nat) (post : va_W → Prop) : Prop :=
  ∀ sz : Nat, Met l y (Cond.code y b mL rt :: TB) rm (va_Pc av (fun U => U.heap.size = sz ∧ va_P D vwCl ws U.heap ∧ Kx D tys U ∧ va_D (fun _ => True) ws)) (va_Qv post (fun u t => va_P D vwCl u t.heap ∧ va_D (va_A ws sz) u) (va_A ws sz)) mc ms (va_A ws sz)
def EV (D : va_G) (below : List Frame) (ws : va_W) (args : Array Value) (s : State) (mc ms : Nat) (post : va_W → Prop) : State → Prop := MQ below (va_Qv post (fun u t => va_P D vwCl u t.heap ∧ va_D (va_A ws s.heap.size) u) (va_A ws s.heap.size)) args s mc ms (va_A ws s.heap.size)
theorem CI.start {l : Launch} {y : MethodName} {b : ByteArray} {mL : Nat} {rt : Option FieldType} {rm : Room} {D : va_G} {tys : List (ClassId × FieldType)} {ws : va_W} {av : List Value} {mc ms : Nat} {post : Int32 → va_W → Prop} (hy : plainName y.cls = true) (hn : (lg_sl av).length ≤ mL)
    (body : ∀ (p : Program) (e : Env) (s : State) (m : MethodId) (below : List Frame) (meth : Method) (c : Code), Fx p m meth c b mL s av.toArray y.cls D tys (va_A ws s.heap.size) → meth.sig.returnType = rt → meth.name = y.name → V p l e rm s m av.toArray below meth c D (va_A ws s.heap.size) mL 0 0 (EI D below ws av.toArray s mc ms post) ws (lv_args 0 av) 0 []) : CI l y b mL rt rm D tys ws av mc ms post := by
  intro sz
  refine Met.ofW (cc := b) (maxL := mL) (ret := rt) hy rfl ?_
  intro p e s m args below meth c s₁ B hml hv
  obtain ⟨rfl, hsz, hP, hK, hD0⟩ := hv
  have hts := atoms_spec (ws := Cond.code y b mL rt :: TB) B.pre
  subst hsz
  have hl := lv_entry av (n := mL) hn
  have h := body p e s m below meth c ⟨⟨B.exec, B.bytes, hml, findClass_of_methodNamed B.named, fun w hw => hts w (List.mem_cons_of_mem _ hw)⟩, hK, fun q hq => Or.inr hq, B.notSynchronized⟩ B.returns (name_of_methodNamed B.named B.method).1 s.heap [] _ hP hD0.self va_S.rf hl
  rw [lg_entry_eq]
  exact h
theorem CL.start {l : Launch} {y : MethodName} {b : ByteArray} {mL : Nat} {rt : Option FieldType} {rm : Room} {D : va_G} {tys : List (ClassId × FieldType)} {ws : va_W} {av : List Value} {mc ms : Nat} {post : Int64 → va_W → Prop} (hy : plainName y.cls = true) (hn : (lg_sl av).length ≤ mL)
    (body : ∀ (p : Program) (e : Env) (s : State) (m : MethodId) (below : List Frame) (meth : Method) (c : Code), Fx p m meth c b mL s av.toArray y.cls D tys (va_A ws s.heap.size) → meth.sig.returnType = rt → meth.name = y.name → V p l e rm s m av.toArray below meth c D (va_A ws s.heap.size) mL 0 0 (EL D below ws av.toArray s mc ms post) ws (lv_args 0 av) 0 []) : CL l y b mL rt rm D tys ws av mc ms post := by
  intro sz
  refine Met.ofW (cc := b) (maxL := mL) (ret := rt) hy rfl ?_
  intro p e s m args below meth c s₁ B hml hv
  obtain ⟨rfl, hsz, hP, hK, hD0⟩ := hv
  have hts := atoms_spec (ws := Cond.code y b mL rt :: TB) B.pre
  subst hsz
  have hl := lv_entry av (n := mL) hn
  have h := body p e s m below meth c ⟨⟨B.exec, B.bytes, hml, findClass_of_methodNamed B.named, fun w hw => hts w (List.mem_cons_of_mem _ hw)⟩, hK, fun q hq => Or.inr hq, B.notSynchronized⟩ B.returns (name_of_methodNamed B.named B.method).1 s.heap [] _ hP hD0.self va_S.rf hl
  rw [lg_entry_eq]
  exact h
theorem CQ.start {l : Launch} {y : MethodName} {b : ByteArray} {mL : Nat} {rt : Option FieldType} {rm : Room} {D : va_G} {tys : List (ClassId × FieldType)} {ws : va_W} {av : List Value} {mc ms : Nat} {post : Option Nat → va_W → Prop} (hy : plainName y.cls = true) (hn : (lg_sl av).length ≤ mL)
    (body : ∀ (p : Program) (e : Env) (s : State) (m : MethodId) (below : List Frame) (meth : Method) (c : Code), Fx p m meth c b mL s av.toArray y.cls D tys (va_A ws s.heap.size) → meth.sig.returnType = rt → meth.name = y.name → V p l e rm s m av.toArray below meth c D (va_A ws s.heap.size) mL 0 0 (EQ D below ws av.toArray s mc ms post) ws (lv_args 0 av) 0 []) : CQ l y b mL rt rm D tys ws av mc ms post := by
  intro sz
  refine Met.ofW (cc := b) (maxL := mL) (ret := rt) hy rfl ?_
  intro p e s m args below meth c s₁ B hml hv
  obtain ⟨rfl, hsz, hP, hK, hD0⟩ := hv
  have hts := atoms_spec (ws := Cond.code y b mL rt :: TB) B.pre
  subst hsz
  have hl := lv_entry av (n := mL) hn
  have h := body p e s m below meth c ⟨⟨B.exec, B.bytes, hml, findClass_of_methodNamed B.named, fun w hw => hts w (List.mem_cons_of_mem _ hw)⟩, hK, fun q hq => Or.inr hq, B.notSynchronized⟩ B.returns (name_of_methodNamed B.named B.method).1 s.heap [] _ hP hD0.self va_S.rf hl
  rw [lg_entry_eq]
  exact h
theorem CV.start {l : Launch} {y : MethodName} {b : ByteArray} {mL : Nat} {rt : Option FieldType} {rm : Room} {D : va_G} {tys : List (ClassId × FieldType)} {ws : va_W} {av : List Value} {mc ms : Nat} {post : va_W → Prop} (hy : plainName y.cls = true) (hn : (lg_sl av).length ≤ mL)
    (body : ∀ (p : Program) (e : Env) (s : State) (m : MethodId) (below : List Frame) (meth : Method) (c : Code), Fx p m meth c b mL s av.toArray y.cls D tys (va_A ws s.heap.size) → meth.sig.returnType = rt → meth.name = y.name → V p l e rm s m av.toArray below meth c D (va_A ws s.heap.size) mL 0 0 (EV D below ws av.toArray s mc ms post) ws (lv_args 0 av) 0 []) : CV l y b mL rt rm D tys ws av mc ms post := by
  intro sz
  refine Met.ofW (cc := b) (maxL := mL) (ret := rt) hy rfl ?_
  intro p e s m args below meth c s₁ B hml hv
  obtain ⟨rfl, hsz, hP, hK, hD0⟩ := hv
  have hts := atoms_spec (ws := Cond.code y b mL rt :: TB) B.pre
  subst hsz
  have hl := lv_entry av (n := mL) hn
  have h := body p e s m below meth c ⟨⟨B.exec, B.bytes, hml, findClass_of_methodNamed B.named, fun w hw => hts w (List.mem_cons_of_mem _ hw)⟩, hK, fun q hq => Or.inr hq, B.notSynchronized⟩ B.returns (name_of_methodNamed B.named B.method).1 s.heap [] _ hP hD0.self va_S.rf hl
  rw [lg_entry_eq]
  exact h
theorem V.iret {w0 : va_W} {post : Int32 → va_W → Prop} {v : Int32} (F : Fx p m meth c cc nL s args own D tys (va_A w0 s.heap.size)) (hr : meth.sig.returnType = some .int)  (hd : decode cc pc = .ok (.ireturn, 1)) (hp : post v ws) : V p l e R s m args below meth c D (va_A w0 s.heap.size) nL cells slots (EI D below w0 args s cells slots post) ws lv pc [.int v] := fun H locs ls hP hD hS hl => W.iret F.1.1 F.1.2.1 hr  (fun t ht hW => ⟨⟨v, ws, rfl, hp, by rw [ht]; exact hP, hD⟩, hS.F ht⟩) hS.2.2 hd F.2.2.2
theorem V.zret {w0 : va_W} {post : Int32 → va_W → Prop} {v : Int32} (F : Fx p m meth c cc nL s args own D tys (va_A w0 s.heap.size)) (hr : meth.sig.returnType = some .boolean) (hn : narrow .boolean (.int v) = .int v) (hd : decode cc pc = .ok (.ireturn, 1)) (hp : post v ws) : V p l e R s m args below meth c D (va_A w0 s.heap.size) nL cells slots (EI D below w0 args s cells slots post) ws lv pc [.int v] := fun H locs ls hP hD hS hl => W.zret F.1.1 F.1.2.1 hr hn (fun t ht hW => ⟨⟨v, ws, rfl, hp, by rw [ht]; exact hP, hD⟩, hS.F ht⟩) hS.2.2 hd F.2.2.2
theorem V.lret {w0 : va_W} {post : Int64 → va_W → Prop} {v : Int64} (F : Fx p m meth c cc nL s args own D tys (va_A w0 s.heap.size)) (hr : meth.sig.returnType = some .long)  (hd : decode cc pc = .ok (.lreturn, 1)) (hp : post v ws) : V p l e R s m args below meth c D (va_A w0 s.heap.size) nL cells slots (EL D below w0 args s cells slots post) ws lv pc [.long v] := fun H locs ls hP hD hS hl => W.lret F.1.1 F.1.2.1 hr  (fun t ht hW => ⟨⟨v, ws, rfl, hp, by rw [ht]; exact hP, hD⟩, hS.F ht⟩) hS.2.2 hd F.2.2.2
theorem V.vret {w0 : va_W} {post : va_W → Prop} (F : Fx p m meth c cc nL s args own D tys (va_A w0 s.heap.size)) (hr : meth.sig.returnType = none)  (hd : decode cc pc = .ok (.return_, 1)) (hp : post ws) : V p l e R s m args below meth c D (va_A w0 s.heap.size) nL cells slots (EV D below w0 args s cells slots post) ws lv pc [] := fun H locs ls hP hD hS hl => W.vret F.1.1 F.1.2.1 hr  (fun t ht hW => ⟨⟨ws, rfl, hp, by rw [ht]; exact hP, hD⟩, hS.F ht⟩) hS.2.2 hd F.2.2.2
theorem V.aret {C : String} {w0 : va_W} {post : Option Nat → va_W → Prop} {v : Option Nat} (F : Fx p m meth c cc nL s args own D tys (va_A w0 s.heap.size)) (hr : meth.sig.returnType = some (.object C))  (hd : decode cc pc = .ok (.areturn, 1)) (hp : post v ws) : V p l e R s m args below meth c D (va_A w0 s.heap.size) nL cells slots (EQ D below w0 args s cells slots post) ws lv pc [va_rf v] := fun H locs ls hP hD hS hl => W.aret F.1.1 F.1.2.1 hr (Or.inl ⟨_, rfl⟩) (va_rf_or v) (fun t ht hW => ⟨⟨v, ws, rfl, hp, by rw [ht]; exact hP, hD⟩, hS.F ht⟩) hS.2.2 hd F.2.2.2
theorem TB_pay {args : Array Value} {s : State} {y : MethodName} {b : ByteArray} {mL : Nat} {rt : Option FieldType} (hts : ∀ w ∈ TB, w.before args s = true) (h : Cond.code y b mL rt ∈ TB) : ∀ w ∈ (Cond.code y b mL rt :: TB), ∀ (a' : Array Value) (U : State), s.WarmedH U.vm → w.before a' U = true := pay_in (big := TB) hts (fun w hw => by
  rcases List.mem_cons.mp hw with rfl | hw
  · exact ⟨h, TB_good _ h⟩
  · exact ⟨hw, TB_good _ hw⟩)
theorem Pc_blind {av : List Value} {D : va_G} {tys : List (ClassId × FieldType)} {ws : va_W} {sz : Nat} : FrameBlind (va_Pc av (fun U => U.heap.size = sz ∧ va_P D vwCl ws U.heap ∧ Kx D tys U ∧ va_D (fun _ => True) ws)) := fun a U g mk q => by
  obtain ⟨q0, q1, qP, qK, qD⟩ := q
  exact ⟨q0, q1, qP, qK.same rfl, qD⟩
theorem fr_join {A0 : Nat → Prop} {D : va_G} {wa wc wb u : va_W} {H H1 : Heap} (hP : va_P D vwCl (wa ++ wc ++ wb) H) (hD : va_D A0 (wa ++ wc ++ wb)) (hk : ∀ q : Nat, q < H.size → ¬ va_A wc H.size q → H1[q]? = H[q]?) (hF : ∀ q, va_A wc H.size q → A0 q) (hP1 : va_P D vwCl u H1) (hD1 : va_D (va_A wc H.size) u) : va_P D vwCl (wa ++ u ++ wb) H1 ∧ va_D A0 (wa ++ u ++ wb) := by
  have ga : ∀ (k : Nat) (q : Nat × va_E), wa[k]? = some q → (wa ++ wc ++ wb)[k]? = some q := fun k q h => by
    have hl := (List.getElem?_eq_some_iff.mp h).1
    rw [List.append_assoc, List.getElem?_append_left hl]; exact h
  have gc : ∀ (k : Nat) (q : Nat × va_E), wc[k]? = some q → (wa ++ wc ++ wb)[wa.length + k]? = some q := fun k q h => by
    have hl := (List.getElem?_eq_some_iff.mp h).1
    rw [List.append_assoc, List.getElem?_append_right (by omega), Nat.add_sub_cancel_left, List.getElem?_append_left hl]; exact h
  have gb : ∀ (k : Nat) (q : Nat × va_E), wb[k]? = some q → (wa ++ wc ++ wb)[wa.length + wc.length + k]? = some q := fun k q h => by
    rw [List.append_assoc, List.getElem?_append_right (by omega), List.getElem?_append_right (by omega)]
    rw [show wa.length + wc.length + k - wa.length - wc.length = k by omega]; exact h
  have apA : ∀ (k : Nat) (q : Nat × va_E), wa[k]? = some q → q.1 < H.size ∧ ¬ va_A wc H.size q.1 := fun k q h => by
    have hl := (hP _ q (ga k q h)).lt
    refine ⟨hl, fun hz => ?_⟩
    rcases hz with ⟨k2, e, h2⟩ | h2
    · have := hD.1 _ _ q (q.1, e) (ga k q h) (gc k2 _ h2) rfl
      have := (List.getElem?_eq_some_iff.mp h).1
      omega
    · omega
  have apB : ∀ (k : Nat) (q : Nat × va_E), wb[k]? = some q → q.1 < H.size ∧ ¬ va_A wc H.size q.1 := fun k q h => by
    have hl := (hP _ q (gb k q h)).lt
    refine ⟨hl, fun hz => ?_⟩
    rcases hz with ⟨k2, e, h2⟩ | h2
    · have := hD.1 _ _ q (q.1, e) (gb k q h) (gc k2 _ h2) rfl
      have := (List.getElem?_eq_some_iff.mp h2).1
      omega
    · omega
  refine ⟨va_P.app (va_P.app (fun k q h => ?_) hP1) (fun k q h => ?_), va_D.app (va_D.app (hD.by (fun k => k) (fun k q h => ga k q h) (fun i j hi hj e => e)) (hD1.weaken (fun k q _ h => hF q.1 h)) (fun i j x y hx hy hxy => ?_)) (hD.by (fun k => wa.length + wc.length + k) (fun k q h => gb k q h) (fun i j hi hj e => by omega)) (fun i j x y hx hy hxy => ?_)⟩
  · obtain ⟨g1, g2⟩ := apA k q h
    exact (hP _ q (ga k q h)).kept (hk q.1 g1 g2)
  · obtain ⟨g1, g2⟩ := apB k q h
    exact (hP _ q (gb k q h)).kept (hk q.1 g1 g2)
  · exact (apA i x hx).2 (by rw [hxy]; exact hD1.2 j y hy)
  · rcases List.mem_append.mp (List.mem_of_getElem? hx) with h | h
    · obtain ⟨k, hk2⟩ := List.getElem?_of_mem h
      have e1 := hD.1 _ _ x y (ga k x hk2) (gb j y hy) hxy
      have := (List.getElem?_eq_some_iff.mp hk2).1
      omega
    · obtain ⟨k, hk2⟩ := List.getElem?_of_mem h
      exact (apB j y hy).2 (by rw [← hxy]; exact hD1.2 k x hk2)
theorem fr_cut {D : va_G} {wa wc wb : va_W} {H : Heap} (hP : va_P D vwCl (wa ++ wc ++ wb) H) : va_P D vwCl wc H := fun k q h => hP (wa.length + k) q (by
  have hl := (List.getElem?_eq_some_iff.mp h).1
  rw [List.append_assoc, List.getElem?_append_right (by omega), Nat.add_sub_cancel_left, List.getElem?_append_left hl]; exact h)
theorem fr_cutD {A0 B : Nat → Prop} {wa wc wb : va_W} (hD : va_D A0 (wa ++ wc ++ wb)) (hB : ∀ q, A0 q → B q) : va_D B wc := (hD.by (ws' := wc) (fun k => wa.length + k) (fun k q h => by
  have hl := (List.getElem?_eq_some_iff.mp h).1
  rw [List.append_assoc, List.getElem?_append_right (by omega), Nat.add_sub_cancel_left, List.getElem?_append_left hl]; exact h) (fun i j hi hj e => by omega)).weaken (fun _ q _ h => hB _ h)
theorem fr_free {A0 : Nat → Prop} {wa wc wb : va_W} {H0 H : Heap} {locs : List Loc} (hD : va_D A0 (wa ++ wc ++ wb)) (hS : va_S A0 H0 H locs) (hA : ∀ q, H0.size ≤ q → A0 q) : ∀ q, va_A wc H.size q → A0 q := by
  intro q h
  rcases h with ⟨k, e, h⟩ | h
  · exact (fr_cutD (B := A0) hD (fun _ h => h)).2 k (q, e) h
  · exact hA q (Nat.le_trans hS.1 h)
theorem V.callVI {y : MethodName} {bytes : ByteArray} {maxL n index mc ms : Nat} {ret : Option FieldType} {rm : Room} {As rest : List Value} {wc : va_W} {b : Nat} {post : Int32 → va_W → Prop} (F : Fx p m meth c cc nL s args own D tys A) (hM : CI l y bytes maxL ret rm D tys wc (.ref b :: As) mc ms post) (hd : decode cc pc = .ok (.invokevirtual index, 3)) (hs : Sv own index y bytes maxL ret n) (h2 : Cond.instanceMethod y ∈ TB) (h3 : Cond.selects y.cls y y ∈ TB) (wa wb : va_W) (hws : ws = wa ++ wc ++ wb) {ci : Nat} {r0 : vw_C} {fs : List Value} (q0 : Nat) (hq : ws[q0]? = some (b, .inr (ci, fs))) (hc : vwCl[ci]? = some r0) (hr0 : r0.1 = y.cls) (hst : st = As.reverse ++ .ref b :: rest) (hn : As.length = n) (hW : (rest.map fun v => v.category).sum ≤ 8) (hrm : rm.cells = mc ∧ rm.slots = ms ∧ rm.frames + 1 ≤ R.frames ∧ 8 + (maxL + 11) + rm.locals ≤ R.locals) (hf : cells + mc ≤ R.cells ∧ slots + ms ≤ R.slots)
    (kk : ∀ (r : Int32) (u : va_W), post r u → V p l e R s m args below meth c D A nL (cells + mc) (slots + ms) Q (wa ++ u ++ wb) (lv) (pc + 3) (.int r :: rest)) : V p l e R s m args below meth c D A nL cells slots Q (ws) (lv) (pc) (st) := by
  intro H locs ls hP hD hS hl
  have hpre : ∀ U : State, U.heap = H → s.WarmedH U.vm → va_Pc (.ref b :: As) (fun U => U.heap.size = H.size ∧ va_P D vwCl wc U.heap ∧ Kx D tys U ∧ va_D (fun _ => True) wc) ((.ref b :: As)).toArray U := fun U hU hWm => ⟨rfl, by rw [hU], by rw [hU]; exact fr_cut (hws ▸ hP), F.2.1.warm hWm, fr_cutD (hws ▸ hD) (fun _ _ => trivial)⟩
  have hFr := fr_free (hws ▸ hD : va_D A (wa ++ wc ++ wb)) hS F.2.2.1
  have hRun : va_Run p l e R s m args below meth c H locs cells slots mc ms (F0 m pc ls st) rest (va_Qi post (fun u t => va_P D vwCl u t.heap ∧ va_D (va_A wc H.size) u) (va_A wc H.size) ((.ref b :: As)).toArray) (va_A wc H.size) := by
    rcases hs.1 with hlk | ⟨host, hlk⟩
    · exact va_runV (As := As) (rest := rest) ⟨F.1.1, F.1.2.1, F.1.2.2.1, F.1.2.2.2.1, F.1.2.2.2.2⟩ (hM H.size) ⟨⟨hrm.1, hrm.2.1, hrm.2.2.1, hrm.2.2.2, TB_pay F.1.2.2.2.2 hs.2.1, List.mem_cons_self, F.1.2.2.2.2 _ hs.2.1, F.1.2.2.2.2 _ hs.2.2.1, ⟨hs.2.2.2.1, hs.2.2.2.2.1⟩, fun sig h => by have h9 := hs.2.2.2.2.2; rw [h] at h9; exact (Option.some.inj h9).symm, F.1.2.2.2.2 _ hlk⟩, F.1.2.2.2.2 _ h2, F.1.2.2.2.2 _ h3⟩ ⟨Pc_blind, by rw [← hr0]; exact va_recv F.2.1.1 hP hc hq, hpre⟩ rfl hn hl.1 hst (lv_room hW) hd hf
    · exact va_runVN (host := host) (As := As) (rest := rest) ⟨F.1.1, F.1.2.1, F.1.2.2.1, F.1.2.2.2.1, F.1.2.2.2.2⟩ (hM H.size) ⟨⟨⟨hrm.1, hrm.2.1, hrm.2.2.1, hrm.2.2.2, TB_pay F.1.2.2.2.2 hs.2.1, List.mem_cons_self⟩, F.1.2.2.2.2 _ hs.2.1, F.1.2.2.2.2 _ hs.2.2.1, ⟨hs.2.2.2.1, hs.2.2.2.2.1⟩, fun sig h => by have h9 := hs.2.2.2.2.2; rw [h] at h9; exact (Option.some.inj h9).symm, va_Nw.use (NW_on _ hlk) (F.2.1.2.1 _ hlk)⟩, F.1.2.2.2.2 _ h2, F.1.2.2.2.2 _ h3⟩ ⟨Pc_blind, by rw [← hr0]; exact va_recv F.2.1.1 hP hc hq, hpre⟩ rfl hn hl.1 hst (lv_room hW) hd hf
  refine va_calli hRun hS (fun q _ h => hFr q h) hFr (fun r u t H1 locs1 ht hvm hp hB hz1 hk1 hS1 => ?_)
  obtain ⟨hP1, hD1⟩ := hB
  rw [ht] at hP1
  obtain ⟨hP2, hD2⟩ := fr_join (hws ▸ hP : va_P D vwCl (wa ++ wc ++ wb) H) (hws ▸ hD) hk1 hFr hP1 hD1
  exact kk r u hp H1 locs1 ls hP2 hD2 hS1 hl
theorem V.callSI {y : MethodName} {bytes : ByteArray} {maxL n index mc ms : Nat} {ret : Option FieldType} {rm : Room} {As rest : List Value} {wc : va_W} {post : Int32 → va_W → Prop} (F : Fx p m meth c cc nL s args own D tys A) (hM : CI l y bytes maxL ret rm D tys wc As mc ms post) (hd : decode cc pc = .ok (.invokestatic index, 3)) (hs : Sv own index y bytes maxL ret n) (h2 : Cond.static y ∈ TB) (wa wb : va_W) (hws : ws = wa ++ wc ++ wb) (hst : st = As.reverse ++ rest) (hn : As.length = n) (hW : (rest.map fun v => v.category).sum ≤ 8) (hrm : rm.cells = mc ∧ rm.slots = ms ∧ rm.frames + 1 ≤ R.frames ∧ 8 + (maxL + 11) + rm.locals ≤ R.locals) (hf : cells + mc ≤ R.cells ∧ slots + ms ≤ R.slots)
    (kk : ∀ (r : Int32) (u : va_W), post r u → V p l e R s m args below meth c D A nL (cells + mc) (slots + ms) Q (wa ++ u ++ wb) (lv) (pc + 3) (.int r :: rest)) : V p l e R s m args below meth c D A nL cells slots Q (ws) (lv) (pc) (st) := by
  intro H locs ls hP hD hS hl
  have hpre : ∀ U : State, U.heap = H → s.WarmedH U.vm → va_Pc As (fun U => U.heap.size = H.size ∧ va_P D vwCl wc U.heap ∧ Kx D tys U ∧ va_D (fun _ => True) wc) (As).toArray U := fun U hU hWm => ⟨rfl, by rw [hU], by rw [hU]; exact fr_cut (hws ▸ hP), F.2.1.warm hWm, fr_cutD (hws ▸ hD) (fun _ _ => trivial)⟩
  have hFr := fr_free (hws ▸ hD : va_D A (wa ++ wc ++ wb)) hS F.2.2.1
  have hRun : va_Run p l e R s m args below meth c H locs cells slots mc ms (F0 m pc ls st) rest (va_Qi post (fun u t => va_P D vwCl u t.heap ∧ va_D (va_A wc H.size) u) (va_A wc H.size) (As).toArray) (va_A wc H.size) := by
    rcases hs.1 with hlk | ⟨host, hlk⟩
    · exact va_runS (As := As) (rest := rest) ⟨F.1.1, F.1.2.1, F.1.2.2.1, F.1.2.2.2.1, F.1.2.2.2.2⟩ (hM H.size) ⟨⟨hrm.1, hrm.2.1, hrm.2.2.1, hrm.2.2.2, TB_pay F.1.2.2.2.2 hs.2.1, List.mem_cons_self, F.1.2.2.2.2 _ hs.2.1, F.1.2.2.2.2 _ hs.2.2.1, ⟨hs.2.2.2.1, hs.2.2.2.2.1⟩, fun sig h => by have h9 := hs.2.2.2.2.2; rw [h] at h9; exact (Option.some.inj h9).symm, F.1.2.2.2.2 _ hlk⟩, F.1.2.2.2.2 _ h2⟩ ⟨Pc_blind, hpre⟩ rfl hn hl.1 hst (lv_room hW) hd hf
    · exact va_runSN (host := host) (As := As) (rest := rest) ⟨F.1.1, F.1.2.1, F.1.2.2.1, F.1.2.2.2.1, F.1.2.2.2.2⟩ (hM H.size) ⟨⟨⟨hrm.1, hrm.2.1, hrm.2.2.1, hrm.2.2.2, TB_pay F.1.2.2.2.2 hs.2.1, List.mem_cons_self⟩, F.1.2.2.2.2 _ hs.2.1, F.1.2.2.2.2 _ hs.2.2.1, ⟨hs.2.2.2.1, hs.2.2.2.2.1⟩, fun sig h => by have h9 := hs.2.2.2.2.2; rw [h] at h9; exact (Option.some.inj h9).symm, va_Nw.use (NW_on _ hlk) (F.2.1.2.1 _ hlk)⟩, F.1.2.2.2.2 _ h2, trivial⟩ ⟨Pc_blind, hpre⟩ rfl hn hl.1 hst (lv_room hW) hd hf
  refine va_calli hRun hS (fun q _ h => hFr q h) hFr (fun r u t H1 locs1 ht hvm hp hB hz1 hk1 hS1 => ?_)
  obtain ⟨hP1, hD1⟩ := hB
  rw [ht] at hP1
  obtain ⟨hP2, hD2⟩ := fr_join (hws ▸ hP : va_P D vwCl (wa ++ wc ++ wb) H) (hws ▸ hD) hk1 hFr hP1 hD1
  exact kk r u hp H1 locs1 ls hP2 hD2 hS1 hl
theorem V.callVL {y : MethodName} {bytes : ByteArray} {maxL n index mc ms : Nat} {ret : Option FieldType} {rm : Room} {As rest : List Value} {wc : va_W} {b : Nat} {post : Int64 → va_W → Prop} (F : Fx p m meth c cc nL s args own D tys A) (hM : CL l y bytes maxL ret rm D tys wc (.ref b :: As) mc ms post) (hd : decode cc pc = .ok (.invokevirtual index, 3)) (hs : Sv own index y bytes maxL ret n) (h2 : Cond.instanceMethod y ∈ TB) (h3 : Cond.selects y.cls y y ∈ TB) (wa wb : va_W) (hws : ws = wa ++ wc ++ wb) {ci : Nat} {r0 : vw_C} {fs : List Value} (q0 : Nat) (hq : ws[q0]? = some (b, .inr (ci, fs))) (hc : vwCl[ci]? = some r0) (hr0 : r0.1 = y.cls) (hst : st = As.reverse ++ .ref b :: rest) (hn : As.length = n) (hW : (rest.map fun v => v.category).sum ≤ 8) (hrm : rm.cells = mc ∧ rm.slots = ms ∧ rm.frames + 1 ≤ R.frames ∧ 8 + (maxL + 11) + rm.locals ≤ R.locals) (hf : cells + mc ≤ R.cells ∧ slots + ms ≤ R.slots)
    (kk : ∀ (r : Int64) (u : va_W), post r u → V p l e R s m args below meth c D A nL (cells + mc) (slots + ms) Q (wa ++ u ++ wb) (lv) (pc + 3) (.long r :: rest)) : V p l e R s m args below meth c D A nL cells slots Q (ws) (lv) (pc) (st) := by
  intro H locs ls hP hD hS hl
  have hpre : ∀ U : State, U.heap = H → s.WarmedH U.vm → va_Pc (.ref b :: As) (fun U => U.heap.size = H.size ∧ va_P D vwCl wc U.heap ∧ Kx D tys U ∧ va_D (fun _ => True) wc) ((.ref b :: As)).toArray U := fun U hU hWm => ⟨rfl, by rw [hU], by rw [hU]; exact fr_cut (hws ▸ hP), F.2.1.warm hWm, fr_cutD (hws ▸ hD) (fun _ _ => trivial)⟩
  have hFr := fr_free (hws ▸ hD : va_D A (wa ++ wc ++ wb)) hS F.2.2.1
  have hRun : va_Run p l e R s m args below meth c H locs cells slots mc ms (F0 m pc ls st) rest (va_Ql post (fun u t => va_P D vwCl u t.heap ∧ va_D (va_A wc H.size) u) (va_A wc H.size) ((.ref b :: As)).toArray) (va_A wc H.size) := by
    rcases hs.1 with hlk | ⟨host, hlk⟩
    · exact va_runV (As := As) (rest := rest) ⟨F.1.1, F.1.2.1, F.1.2.2.1, F.1.2.2.2.1, F.1.2.2.2.2⟩ (hM H.size) ⟨⟨hrm.1, hrm.2.1, hrm.2.2.1, hrm.2.2.2, TB_pay F.1.2.2.2.2 hs.2.1, List.mem_cons_self, F.1.2.2.2.2 _ hs.2.1, F.1.2.2.2.2 _ hs.2.2.1, ⟨hs.2.2.2.1, hs.2.2.2.2.1⟩, fun sig h => by have h9 := hs.2.2.2.2.2; rw [h] at h9; exact (Option.some.inj h9).symm, F.1.2.2.2.2 _ hlk⟩, F.1.2.2.2.2 _ h2, F.1.2.2.2.2 _ h3⟩ ⟨Pc_blind, by rw [← hr0]; exact va_recv F.2.1.1 hP hc hq, hpre⟩ rfl hn hl.1 hst (lv_room hW) hd hf
    · exact va_runVN (host := host) (As := As) (rest := rest) ⟨F.1.1, F.1.2.1, F.1.2.2.1, F.1.2.2.2.1, F.1.2.2.2.2⟩ (hM H.size) ⟨⟨⟨hrm.1, hrm.2.1, hrm.2.2.1, hrm.2.2.2, TB_pay F.1.2.2.2.2 hs.2.1, List.mem_cons_self⟩, F.1.2.2.2.2 _ hs.2.1, F.1.2.2.2.2 _ hs.2.2.1, ⟨hs.2.2.2.1, hs.2.2.2.2.1⟩, fun sig h => by have h9 := hs.2.2.2.2.2; rw [h] at h9; exact (Option.some.inj h9).symm, va_Nw.use (NW_on _ hlk) (F.2.1.2.1 _ hlk)⟩, F.1.2.2.2.2 _ h2, F.1.2.2.2.2 _ h3⟩ ⟨Pc_blind, by rw [← hr0]; exact va_recv F.2.1.1 hP hc hq, hpre⟩ rfl hn hl.1 hst (lv_room hW) hd hf
  refine va_calll hRun hS (fun q _ h => hFr q h) hFr (fun r u t H1 locs1 ht hvm hp hB hz1 hk1 hS1 => ?_)
  obtain ⟨hP1, hD1⟩ := hB
  rw [ht] at hP1
  obtain ⟨hP2, hD2⟩ := fr_join (hws ▸ hP : va_P D vwCl (wa ++ wc ++ wb) H) (hws ▸ hD) hk1 hFr hP1 hD1
  exact kk r u hp H1 locs1 ls hP2 hD2 hS1 hl
theorem V.callSL {y : MethodName} {bytes : ByteArray} {maxL n index mc ms : Nat} {ret : Option FieldType} {rm : Room} {As rest : List Value} {wc : va_W} {post : Int64 → va_W → Prop} (F : Fx p m meth c cc nL s args own D tys A) (hM : CL l y bytes maxL ret rm D tys wc As mc ms post) (hd : decode cc pc = .ok (.invokestatic index, 3)) (hs : Sv own index y bytes maxL ret n) (h2 : Cond.static y ∈ TB) (wa wb : va_W) (hws : ws = wa ++ wc ++ wb) (hst : st = As.reverse ++ rest) (hn : As.length = n) (hW : (rest.map fun v => v.category).sum ≤ 8) (hrm : rm.cells = mc ∧ rm.slots = ms ∧ rm.frames + 1 ≤ R.frames ∧ 8 + (maxL + 11) + rm.locals ≤ R.locals) (hf : cells + mc ≤ R.cells ∧ slots + ms ≤ R.slots)
    (kk : ∀ (r : Int64) (u : va_W), post r u → V p l e R s m args below meth c D A nL (cells + mc) (slots + ms) Q (wa ++ u ++ wb) (lv) (pc + 3) (.long r :: rest)) : V p l e R s m args below meth c D A nL cells slots Q (ws) (lv) (pc) (st) := by
  intro H locs ls hP hD hS hl
  have hpre : ∀ U : State, U.heap = H → s.WarmedH U.vm → va_Pc As (fun U => U.heap.size = H.size ∧ va_P D vwCl wc U.heap ∧ Kx D tys U ∧ va_D (fun _ => True) wc) (As).toArray U := fun U hU hWm => ⟨rfl, by rw [hU], by rw [hU]; exact fr_cut (hws ▸ hP), F.2.1.warm hWm, fr_cutD (hws ▸ hD) (fun _ _ => trivial)⟩
  have hFr := fr_free (hws ▸ hD : va_D A (wa ++ wc ++ wb)) hS F.2.2.1
  have hRun : va_Run p l e R s m args below meth c H locs cells slots mc ms (F0 m pc ls st) rest (va_Ql post (fun u t => va_P D vwCl u t.heap ∧ va_D (va_A wc H.size) u) (va_A wc H.size) (As).toArray) (va_A wc H.size) := by
    rcases hs.1 with hlk | ⟨host, hlk⟩
    · exact va_runS (As := As) (rest := rest) ⟨F.1.1, F.1.2.1, F.1.2.2.1, F.1.2.2.2.1, F.1.2.2.2.2⟩ (hM H.size) ⟨⟨hrm.1, hrm.2.1, hrm.2.2.1, hrm.2.2.2, TB_pay F.1.2.2.2.2 hs.2.1, List.mem_cons_self, F.1.2.2.2.2 _ hs.2.1, F.1.2.2.2.2 _ hs.2.2.1, ⟨hs.2.2.2.1, hs.2.2.2.2.1⟩, fun sig h => by have h9 := hs.2.2.2.2.2; rw [h] at h9; exact (Option.some.inj h9).symm, F.1.2.2.2.2 _ hlk⟩, F.1.2.2.2.2 _ h2⟩ ⟨Pc_blind, hpre⟩ rfl hn hl.1 hst (lv_room hW) hd hf
    · exact va_runSN (host := host) (As := As) (rest := rest) ⟨F.1.1, F.1.2.1, F.1.2.2.1, F.1.2.2.2.1, F.1.2.2.2.2⟩ (hM H.size) ⟨⟨⟨hrm.1, hrm.2.1, hrm.2.2.1, hrm.2.2.2, TB_pay F.1.2.2.2.2 hs.2.1, List.mem_cons_self⟩, F.1.2.2.2.2 _ hs.2.1, F.1.2.2.2.2 _ hs.2.2.1, ⟨hs.2.2.2.1, hs.2.2.2.2.1⟩, fun sig h => by have h9 := hs.2.2.2.2.2; rw [h] at h9; exact (Option.some.inj h9).symm, va_Nw.use (NW_on _ hlk) (F.2.1.2.1 _ hlk)⟩, F.1.2.2.2.2 _ h2, trivial⟩ ⟨Pc_blind, hpre⟩ rfl hn hl.1 hst (lv_room hW) hd hf
  refine va_calll hRun hS (fun q _ h => hFr q h) hFr (fun r u t H1 locs1 ht hvm hp hB hz1 hk1 hS1 => ?_)
  obtain ⟨hP1, hD1⟩ := hB
  rw [ht] at hP1
  obtain ⟨hP2, hD2⟩ := fr_join (hws ▸ hP : va_P D vwCl (wa ++ wc ++ wb) H) (hws ▸ hD) hk1 hFr hP1 hD1
  exact kk r u hp H1 locs1 ls hP2 hD2 hS1 hl
theorem V.callVQ {y : MethodName} {bytes : ByteArray} {maxL n index mc ms : Nat} {ret : Option FieldType} {rm : Room} {As rest : List Value} {wc : va_W} {b : Nat} {post : Option Nat → va_W → Prop} (F : Fx p m meth c cc nL s args own D tys A) (hM : CQ l y bytes maxL ret rm D tys wc (.ref b :: As) mc ms post) (hd : decode cc pc = .ok (.invokevirtual index, 3)) (hs : Sv own index y bytes maxL ret n) (h2 : Cond.instanceMethod y ∈ TB) (h3 : Cond.selects y.cls y y ∈ TB) (wa wb : va_W) (hws : ws = wa ++ wc ++ wb) {ci : Nat} {r0 : vw_C} {fs : List Value} (q0 : Nat) (hq : ws[q0]? = some (b, .inr (ci, fs))) (hc : vwCl[ci]? = some r0) (hr0 : r0.1 = y.cls) (hst : st = As.reverse ++ .ref b :: rest) (hn : As.length = n) (hW : (rest.map fun v => v.category).sum ≤ 8) (hrm : rm.cells = mc ∧ rm.slots = ms ∧ rm.frames + 1 ≤ R.frames ∧ 8 + (maxL + 11) + rm.locals ≤ R.locals) (hf : cells + mc ≤ R.cells ∧ slots + ms ≤ R.slots)
    (kk : ∀ (r : Option Nat) (u : va_W), post r u → V p l e R s m args below meth c D A nL (cells + mc) (slots + ms) Q (wa ++ u ++ wb) (lv) (pc + 3) (va_rf r :: rest)) : V p l e R s m args below meth c D A nL cells slots Q (ws) (lv) (pc) (st) := by
  intro H locs ls hP hD hS hl
  have hpre : ∀ U : State, U.heap = H → s.WarmedH U.vm → va_Pc (.ref b :: As) (fun U => U.heap.size = H.size ∧ va_P D vwCl wc U.heap ∧ Kx D tys U ∧ va_D (fun _ => True) wc) ((.ref b :: As)).toArray U := fun U hU hWm => ⟨rfl, by rw [hU], by rw [hU]; exact fr_cut (hws ▸ hP), F.2.1.warm hWm, fr_cutD (hws ▸ hD) (fun _ _ => trivial)⟩
  have hFr := fr_free (hws ▸ hD : va_D A (wa ++ wc ++ wb)) hS F.2.2.1
  have hRun : va_Run p l e R s m args below meth c H locs cells slots mc ms (F0 m pc ls st) rest (va_Qq post (fun u t => va_P D vwCl u t.heap ∧ va_D (va_A wc H.size) u) (va_A wc H.size) ((.ref b :: As)).toArray) (va_A wc H.size) := by
    rcases hs.1 with hlk | ⟨host, hlk⟩
    · exact va_runV (As := As) (rest := rest) ⟨F.1.1, F.1.2.1, F.1.2.2.1, F.1.2.2.2.1, F.1.2.2.2.2⟩ (hM H.size) ⟨⟨hrm.1, hrm.2.1, hrm.2.2.1, hrm.2.2.2, TB_pay F.1.2.2.2.2 hs.2.1, List.mem_cons_self, F.1.2.2.2.2 _ hs.2.1, F.1.2.2.2.2 _ hs.2.2.1, ⟨hs.2.2.2.1, hs.2.2.2.2.1⟩, fun sig h => by have h9 := hs.2.2.2.2.2; rw [h] at h9; exact (Option.some.inj h9).symm, F.1.2.2.2.2 _ hlk⟩, F.1.2.2.2.2 _ h2, F.1.2.2.2.2 _ h3⟩ ⟨Pc_blind, by rw [← hr0]; exact va_recv F.2.1.1 hP hc hq, hpre⟩ rfl hn hl.1 hst (lv_room hW) hd hf
    · exact va_runVN (host := host) (As := As) (rest := rest) ⟨F.1.1, F.1.2.1, F.1.2.2.1, F.1.2.2.2.1, F.1.2.2.2.2⟩ (hM H.size) ⟨⟨⟨hrm.1, hrm.2.1, hrm.2.2.1, hrm.2.2.2, TB_pay F.1.2.2.2.2 hs.2.1, List.mem_cons_self⟩, F.1.2.2.2.2 _ hs.2.1, F.1.2.2.2.2 _ hs.2.2.1, ⟨hs.2.2.2.1, hs.2.2.2.2.1⟩, fun sig h => by have h9 := hs.2.2.2.2.2; rw [h] at h9; exact (Option.some.inj h9).symm, va_Nw.use (NW_on _ hlk) (F.2.1.2.1 _ hlk)⟩, F.1.2.2.2.2 _ h2, F.1.2.2.2.2 _ h3⟩ ⟨Pc_blind, by rw [← hr0]; exact va_recv F.2.1.1 hP hc hq, hpre⟩ rfl hn hl.1 hst (lv_room hW) hd hf
  refine va_callq hRun hS (fun q _ h => hFr q h) hFr (fun r u t H1 locs1 ht hvm hp hB hz1 hk1 hS1 => ?_)
  obtain ⟨hP1, hD1⟩ := hB
  rw [ht] at hP1
  obtain ⟨hP2, hD2⟩ := fr_join (hws ▸ hP : va_P D vwCl (wa ++ wc ++ wb) H) (hws ▸ hD) hk1 hFr hP1 hD1
  exact kk r u hp H1 locs1 ls hP2 hD2 hS1 hl
theorem V.callSQ {y : MethodName} {bytes : ByteArray} {maxL n index mc ms : Nat} {ret : Option FieldType} {rm : Room} {As rest : List Value} {wc : va_W} {post : Option Nat → va_W → Prop} (F : Fx p m meth c cc nL s args own D tys A) (hM : CQ l y bytes maxL ret rm D tys wc As mc ms post) (hd : decode cc pc = .ok (.invokestatic index, 3)) (hs : Sv own index y bytes maxL ret n) (h2 : Cond.static y ∈ TB) (wa wb : va_W) (hws : ws = wa ++ wc ++ wb) (hst : st = As.reverse ++ rest) (hn : As.length = n) (hW : (rest.map fun v => v.category).sum ≤ 8) (hrm : rm.cells = mc ∧ rm.slots = ms ∧ rm.frames + 1 ≤ R.frames ∧ 8 + (maxL + 11) + rm.locals ≤ R.locals) (hf : cells + mc ≤ R.cells ∧ slots + ms ≤ R.slots)
    (kk : ∀ (r : Option Nat) (u : va_W), post r u → V p l e R s m args below meth c D A nL (cells + mc) (slots + ms) Q (wa ++ u ++ wb) (lv) (pc + 3) (va_rf r :: rest)) : V p l e R s m args below meth c D A nL cells slots Q (ws) (lv) (pc) (st) := by
  intro H locs ls hP hD hS hl
  have hpre : ∀ U : State, U.heap = H → s.WarmedH U.vm → va_Pc As (fun U => U.heap.size = H.size ∧ va_P D vwCl wc U.heap ∧ Kx D tys U ∧ va_D (fun _ => True) wc) (As).toArray U := fun U hU hWm => ⟨rfl, by rw [hU], by rw [hU]; exact fr_cut (hws ▸ hP), F.2.1.warm hWm, fr_cutD (hws ▸ hD) (fun _ _ => trivial)⟩
  have hFr := fr_free (hws ▸ hD : va_D A (wa ++ wc ++ wb)) hS F.2.2.1
  have hRun : va_Run p l e R s m args below meth c H locs cells slots mc ms (F0 m pc ls st) rest (va_Qq post (fun u t => va_P D vwCl u t.heap ∧ va_D (va_A wc H.size) u) (va_A wc H.size) (As).toArray) (va_A wc H.size) := by
    rcases hs.1 with hlk | ⟨host, hlk⟩
    · exact va_runS (As := As) (rest := rest) ⟨F.1.1, F.1.2.1, F.1.2.2.1, F.1.2.2.2.1, F.1.2.2.2.2⟩ (hM H.size) ⟨⟨hrm.1, hrm.2.1, hrm.2.2.1, hrm.2.2.2, TB_pay F.1.2.2.2.2 hs.2.1, List.mem_cons_self, F.1.2.2.2.2 _ hs.2.1, F.1.2.2.2.2 _ hs.2.2.1, ⟨hs.2.2.2.1, hs.2.2.2.2.1⟩, fun sig h => by have h9 := hs.2.2.2.2.2; rw [h] at h9; exact (Option.some.inj h9).symm, F.1.2.2.2.2 _ hlk⟩, F.1.2.2.2.2 _ h2⟩ ⟨Pc_blind, hpre⟩ rfl hn hl.1 hst (lv_room hW) hd hf
    · exact va_runSN (host := host) (As := As) (rest := rest) ⟨F.1.1, F.1.2.1, F.1.2.2.1, F.1.2.2.2.1, F.1.2.2.2.2⟩ (hM H.size) ⟨⟨⟨hrm.1, hrm.2.1, hrm.2.2.1, hrm.2.2.2, TB_pay F.1.2.2.2.2 hs.2.1, List.mem_cons_self⟩, F.1.2.2.2.2 _ hs.2.1, F.1.2.2.2.2 _ hs.2.2.1, ⟨hs.2.2.2.1, hs.2.2.2.2.1⟩, fun sig h => by have h9 := hs.2.2.2.2.2; rw [h] at h9; exact (Option.some.inj h9).symm, va_Nw.use (NW_on _ hlk) (F.2.1.2.1 _ hlk)⟩, F.1.2.2.2.2 _ h2, trivial⟩ ⟨Pc_blind, hpre⟩ rfl hn hl.1 hst (lv_room hW) hd hf
  refine va_callq hRun hS (fun q _ h => hFr q h) hFr (fun r u t H1 locs1 ht hvm hp hB hz1 hk1 hS1 => ?_)
  obtain ⟨hP1, hD1⟩ := hB
  rw [ht] at hP1
  obtain ⟨hP2, hD2⟩ := fr_join (hws ▸ hP : va_P D vwCl (wa ++ wc ++ wb) H) (hws ▸ hD) hk1 hFr hP1 hD1
  exact kk r u hp H1 locs1 ls hP2 hD2 hS1 hl
theorem V.callVV {y : MethodName} {bytes : ByteArray} {maxL n index mc ms : Nat} {ret : Option FieldType} {rm : Room} {As rest : List Value} {wc : va_W} {b : Nat} {post : va_W → Prop} (F : Fx p m meth c cc nL s args own D tys A) (hM : CV l y bytes maxL ret rm D tys wc (.ref b :: As) mc ms post) (hd : decode cc pc = .ok (.invokevirtual index, 3)) (hs : Sv own index y bytes maxL ret n) (h2 : Cond.instanceMethod y ∈ TB) (h3 : Cond.selects y.cls y y ∈ TB) (wa wb : va_W) (hws : ws = wa ++ wc ++ wb) {ci : Nat} {r0 : vw_C} {fs : List Value} (q0 : Nat) (hq : ws[q0]? = some (b, .inr (ci, fs))) (hc : vwCl[ci]? = some r0) (hr0 : r0.1 = y.cls) (hst : st = As.reverse ++ .ref b :: rest) (hn : As.length = n) (hW : (rest.map fun v => v.category).sum ≤ 8) (hrm : rm.cells = mc ∧ rm.slots = ms ∧ rm.frames + 1 ≤ R.frames ∧ 8 + (maxL + 11) + rm.locals ≤ R.locals) (hf : cells + mc ≤ R.cells ∧ slots + ms ≤ R.slots)
    (kk : ∀ (u : va_W), post u → V p l e R s m args below meth c D A nL (cells + mc) (slots + ms) Q (wa ++ u ++ wb) (lv) (pc + 3) (rest)) : V p l e R s m args below meth c D A nL cells slots Q (ws) (lv) (pc) (st) := by
  intro H locs ls hP hD hS hl
  have hpre : ∀ U : State, U.heap = H → s.WarmedH U.vm → va_Pc (.ref b :: As) (fun U => U.heap.size = H.size ∧ va_P D vwCl wc U.heap ∧ Kx D tys U ∧ va_D (fun _ => True) wc) ((.ref b :: As)).toArray U := fun U hU hWm => ⟨rfl, by rw [hU], by rw [hU]; exact fr_cut (hws ▸ hP), F.2.1.warm hWm, fr_cutD (hws ▸ hD) (fun _ _ => trivial)⟩
  have hFr := fr_free (hws ▸ hD : va_D A (wa ++ wc ++ wb)) hS F.2.2.1
  have hRun : va_Run p l e R s m args below meth c H locs cells slots mc ms (F0 m pc ls st) rest (va_Qv post (fun u t => va_P D vwCl u t.heap ∧ va_D (va_A wc H.size) u) (va_A wc H.size) ((.ref b :: As)).toArray) (va_A wc H.size) := by
    rcases hs.1 with hlk | ⟨host, hlk⟩
    · exact va_runV (As := As) (rest := rest) ⟨F.1.1, F.1.2.1, F.1.2.2.1, F.1.2.2.2.1, F.1.2.2.2.2⟩ (hM H.size) ⟨⟨hrm.1, hrm.2.1, hrm.2.2.1, hrm.2.2.2, TB_pay F.1.2.2.2.2 hs.2.1, List.mem_cons_self, F.1.2.2.2.2 _ hs.2.1, F.1.2.2.2.2 _ hs.2.2.1, ⟨hs.2.2.2.1, hs.2.2.2.2.1⟩, fun sig h => by have h9 := hs.2.2.2.2.2; rw [h] at h9; exact (Option.some.inj h9).symm, F.1.2.2.2.2 _ hlk⟩, F.1.2.2.2.2 _ h2, F.1.2.2.2.2 _ h3⟩ ⟨Pc_blind, by rw [← hr0]; exact va_recv F.2.1.1 hP hc hq, hpre⟩ rfl hn hl.1 hst (lv_room hW) hd hf
    · exact va_runVN (host := host) (As := As) (rest := rest) ⟨F.1.1, F.1.2.1, F.1.2.2.1, F.1.2.2.2.1, F.1.2.2.2.2⟩ (hM H.size) ⟨⟨⟨hrm.1, hrm.2.1, hrm.2.2.1, hrm.2.2.2, TB_pay F.1.2.2.2.2 hs.2.1, List.mem_cons_self⟩, F.1.2.2.2.2 _ hs.2.1, F.1.2.2.2.2 _ hs.2.2.1, ⟨hs.2.2.2.1, hs.2.2.2.2.1⟩, fun sig h => by have h9 := hs.2.2.2.2.2; rw [h] at h9; exact (Option.some.inj h9).symm, va_Nw.use (NW_on _ hlk) (F.2.1.2.1 _ hlk)⟩, F.1.2.2.2.2 _ h2, F.1.2.2.2.2 _ h3⟩ ⟨Pc_blind, by rw [← hr0]; exact va_recv F.2.1.1 hP hc hq, hpre⟩ rfl hn hl.1 hst (lv_room hW) hd hf
  refine va_callv hRun hS (fun q _ h => hFr q h) hFr (fun u t H1 locs1 ht hvm hp hB hz1 hk1 hS1 => ?_)
  obtain ⟨hP1, hD1⟩ := hB
  rw [ht] at hP1
  obtain ⟨hP2, hD2⟩ := fr_join (hws ▸ hP : va_P D vwCl (wa ++ wc ++ wb) H) (hws ▸ hD) hk1 hFr hP1 hD1
  exact kk u hp H1 locs1 ls hP2 hD2 hS1 hl
theorem V.callSV {y : MethodName} {bytes : ByteArray} {maxL n index mc ms : Nat} {ret : Option FieldType} {rm : Room} {As rest : List Value} {wc : va_W} {post : va_W → Prop} (F : Fx p m meth c cc nL s args own D tys A) (hM : CV l y bytes maxL ret rm D tys wc As mc ms post) (hd : decode cc pc = .ok (.invokestatic index, 3)) (hs : Sv own index y bytes maxL ret n) (h2 : Cond.static y ∈ TB) (wa wb : va_W) (hws : ws = wa ++ wc ++ wb) (hst : st = As.reverse ++ rest) (hn : As.length = n) (hW : (rest.map fun v => v.category).sum ≤ 8) (hrm : rm.cells = mc ∧ rm.slots = ms ∧ rm.frames + 1 ≤ R.frames ∧ 8 + (maxL + 11) + rm.locals ≤ R.locals) (hf : cells + mc ≤ R.cells ∧ slots + ms ≤ R.slots)
    (kk : ∀ (u : va_W), post u → V p l e R s m args below meth c D A nL (cells + mc) (slots + ms) Q (wa ++ u ++ wb) (lv) (pc + 3) (rest)) : V p l e R s m args below meth c D A nL cells slots Q (ws) (lv) (pc) (st) := by
  intro H locs ls hP hD hS hl
  have hpre : ∀ U : State, U.heap = H → s.WarmedH U.vm → va_Pc As (fun U => U.heap.size = H.size ∧ va_P D vwCl wc U.heap ∧ Kx D tys U ∧ va_D (fun _ => True) wc) (As).toArray U := fun U hU hWm => ⟨rfl, by rw [hU], by rw [hU]; exact fr_cut (hws ▸ hP), F.2.1.warm hWm, fr_cutD (hws ▸ hD) (fun _ _ => trivial)⟩
  have hFr := fr_free (hws ▸ hD : va_D A (wa ++ wc ++ wb)) hS F.2.2.1
  have hRun : va_Run p l e R s m args below meth c H locs cells slots mc ms (F0 m pc ls st) rest (va_Qv post (fun u t => va_P D vwCl u t.heap ∧ va_D (va_A wc H.size) u) (va_A wc H.size) (As).toArray) (va_A wc H.size) := by
    rcases hs.1 with hlk | ⟨host, hlk⟩
    · exact va_runS (As := As) (rest := rest) ⟨F.1.1, F.1.2.1, F.1.2.2.1, F.1.2.2.2.1, F.1.2.2.2.2⟩ (hM H.size) ⟨⟨hrm.1, hrm.2.1, hrm.2.2.1, hrm.2.2.2, TB_pay F.1.2.2.2.2 hs.2.1, List.mem_cons_self, F.1.2.2.2.2 _ hs.2.1, F.1.2.2.2.2 _ hs.2.2.1, ⟨hs.2.2.2.1, hs.2.2.2.2.1⟩, fun sig h => by have h9 := hs.2.2.2.2.2; rw [h] at h9; exact (Option.some.inj h9).symm, F.1.2.2.2.2 _ hlk⟩, F.1.2.2.2.2 _ h2⟩ ⟨Pc_blind, hpre⟩ rfl hn hl.1 hst (lv_room hW) hd hf
    · exact va_runSN (host := host) (As := As) (rest := rest) ⟨F.1.1, F.1.2.1, F.1.2.2.1, F.1.2.2.2.1, F.1.2.2.2.2⟩ (hM H.size) ⟨⟨⟨hrm.1, hrm.2.1, hrm.2.2.1, hrm.2.2.2, TB_pay F.1.2.2.2.2 hs.2.1, List.mem_cons_self⟩, F.1.2.2.2.2 _ hs.2.1, F.1.2.2.2.2 _ hs.2.2.1, ⟨hs.2.2.2.1, hs.2.2.2.2.1⟩, fun sig h => by have h9 := hs.2.2.2.2.2; rw [h] at h9; exact (Option.some.inj h9).symm, va_Nw.use (NW_on _ hlk) (F.2.1.2.1 _ hlk)⟩, F.1.2.2.2.2 _ h2, trivial⟩ ⟨Pc_blind, hpre⟩ rfl hn hl.1 hst (lv_room hW) hd hf
  refine va_callv hRun hS (fun q _ h => hFr q h) hFr (fun u t H1 locs1 ht hvm hp hB hz1 hk1 hS1 => ?_)
  obtain ⟨hP1, hD1⟩ := hB
  rw [ht] at hP1
  obtain ⟨hP2, hD2⟩ := fr_join (hws ▸ hP : va_P D vwCl (wa ++ wc ++ wb) H) (hws ▸ hD) hk1 hFr hP1 hD1
  exact kk u hp H1 locs1 ls hP2 hD2 hS1 hl
theorem V.callIV {y : MethodName} {bytes : ByteArray} {maxL n index mc ms : Nat} {rm : Room} {As rest : List Value} {wc : va_W} {b : Nat} {post : va_W → Prop} (F : Fx p m meth c cc nL s args own D tys A) (hM : CV l y bytes maxL none rm D tys wc (.ref b :: As) mc ms post) (hd : decode cc pc = .ok (.invokespecial index, 3)) (hs : Sv own index y bytes maxL none n) (h2 : Cond.instanceMethod y ∈ TB) (h3 : y.name = "<init>") (wa wb : va_W) (hws : ws = wa ++ wc ++ wb) (hst : st = As.reverse ++ .ref b :: rest) (hn : As.length = n) (hW : (rest.map fun v => v.category).sum ≤ 8) (hrm : rm.cells = mc ∧ rm.slots = ms ∧ rm.frames + 1 ≤ R.frames ∧ 8 + (maxL + 11) + rm.locals ≤ R.locals) (hf : cells + mc ≤ R.cells ∧ slots + ms ≤ R.slots)
    (kk : ∀ (u : va_W), post u → V p l e R s m args below meth c D A nL (cells + mc) (slots + ms) Q (wa ++ u ++ wb) (lv) (pc + 3) (rest)) : V p l e R s m args below meth c D A nL cells slots Q (ws) (lv) (pc) (st) := by
  intro H locs ls hP hD hS hl
  have hpre : ∀ U : State, U.heap = H → s.WarmedH U.vm → va_Pc (.ref b :: As) (fun U => U.heap.size = H.size ∧ va_P D vwCl wc U.heap ∧ Kx D tys U ∧ va_D (fun _ => True) wc) ((.ref b :: As)).toArray U := fun U hU hWm => ⟨rfl, by rw [hU], by rw [hU]; exact fr_cut (hws ▸ hP), F.2.1.warm hWm, fr_cutD (hws ▸ hD) (fun _ _ => trivial)⟩
  have hFr := fr_free (hws ▸ hD : va_D A (wa ++ wc ++ wb)) hS F.2.2.1
  have hRun : va_Run p l e R s m args below meth c H locs cells slots mc ms (F0 m pc ls st) rest (va_Qv post (fun u t => va_P D vwCl u t.heap ∧ va_D (va_A wc H.size) u) (va_A wc H.size) ((.ref b :: As)).toArray) (va_A wc H.size) := by
    rcases hs.1 with hlk | ⟨host, hlk⟩
    · exact va_runI (As := As) (rest := rest) ⟨F.1.1, F.1.2.1, F.1.2.2.1, F.1.2.2.2.1, F.1.2.2.2.2⟩ (hM H.size) ⟨⟨hrm.1, hrm.2.1, hrm.2.2.1, hrm.2.2.2, TB_pay F.1.2.2.2.2 hs.2.1, List.mem_cons_self, F.1.2.2.2.2 _ hs.2.1, F.1.2.2.2.2 _ hs.2.2.1, ⟨hs.2.2.2.1, hs.2.2.2.2.1⟩, fun sig h => by have h9 := hs.2.2.2.2.2; rw [h] at h9; exact (Option.some.inj h9).symm, F.1.2.2.2.2 _ hlk⟩, h3, F.1.2.2.2.2 _ h2⟩ ⟨Pc_blind, hpre⟩ rfl hn hl.1 hst (lv_room hW) hd hf
    · exact va_runIN (host := host) (As := As) (rest := rest) ⟨F.1.1, F.1.2.1, F.1.2.2.1, F.1.2.2.2.1, F.1.2.2.2.2⟩ (hM H.size) ⟨⟨⟨hrm.1, hrm.2.1, hrm.2.2.1, hrm.2.2.2, TB_pay F.1.2.2.2.2 hs.2.1, List.mem_cons_self⟩, F.1.2.2.2.2 _ hs.2.1, F.1.2.2.2.2 _ hs.2.2.1, ⟨hs.2.2.2.1, hs.2.2.2.2.1⟩, fun sig h => by have h9 := hs.2.2.2.2.2; rw [h] at h9; exact (Option.some.inj h9).symm, va_Nw.use (NW_on _ hlk) (F.2.1.2.1 _ hlk)⟩, h3, F.1.2.2.2.2 _ h2⟩ ⟨Pc_blind, hpre⟩ rfl hn hl.1 hst (lv_room hW) hd hf
  refine va_callv hRun hS (fun q _ h => hFr q h) hFr (fun u t H1 locs1 ht hvm hp hB hz1 hk1 hS1 => ?_)
  obtain ⟨hP1, hD1⟩ := hB
  rw [ht] at hP1
  obtain ⟨hP2, hD2⟩ := fr_join (hws ▸ hP : va_P D vwCl (wa ++ wc ++ wb) H) (hws ▸ hD) hk1 hFr hP1 hD1
  exact kk u hp H1 locs1 ls hP2 hD2 hS1 hl
theorem V.mmaxN (F : Fx p m meth c cc nL s args own D tys A) {a b index : Nat} (hd : decode cc pc = .ok (.invokestatic index, 3)) (h1 : Cond.methodLink own index Lib.Math.max.name ∈ TB) (h2 : Cond.static Lib.Math.max.name ∈ TB) (h3 : Cond.initialized "java/lang/Math" ∈ TB) (h4 : Cond.code Lib.Math.max.name Lib.Math.max.code 2 (some .int) ∈ TB) (hfr : 1 ≤ R.frames) (hlo : (st.map fun v => v.category).sum + 13 ≤ R.locals) (hcl : cells ≤ R.cells) (hsl : slots ≤ R.slots) (ha : a < 2 ^ 31) (hb : b < 2 ^ 31) (kk : V p l e R s m args below meth c D A nL cells slots Q (ws) (lv) (pc + 3) (.int (nI (max a b)) :: st)) : V p l e R s m args below meth c D A nL cells slots Q (ws) (lv) (pc) (.int (nI b) :: .int (nI a) :: st) := fun H locs ls hP hD hS hl => va_mmax F.1.1 F.1.2.1 (F.1.2.2.1.trans hl.1.symm) F.1.2.2.2.1 (F.1.2.2.2.2 _ h1) (F.1.2.2.2.2 _ h2) (F.1.2.2.2.2 _ h3) (F.1.2.2.2.2 _ h4) hfr hlo hcl hsl hd (by
    have e : (if nI a < nI b then nI b else nI a) = nI (max a b) := by
      by_cases h : a < b
      · rw [if_pos ((nI_ltI ha hb).mpr h), Nat.max_eq_right (by omega)]
      · rw [if_neg (fun q => h ((nI_ltI ha hb).mp q)), Nat.max_eq_left (by omega)]
    rw [e]; exact (kk H locs ls hP hD hS hl))
theorem V.callVI0 {y : MethodName} {bytes : ByteArray} {maxL n index : Nat} {ret : Option FieldType} {rm : Room} {As rest : List Value} {b : Nat} {post : Int32 → va_W → Prop} (F : Fx p m meth c cc nL s args own D tys A) (hM : CI l y bytes maxL ret rm D tys ws (.ref b :: As) 0 0 post) (hd : decode cc pc = .ok (.invokevirtual index, 3)) (hs : Sv own index y bytes maxL ret n) (h2 : Cond.instanceMethod y ∈ TB) (h3 : Cond.selects y.cls y y ∈ TB) {ci : Nat} {r0 : vw_C} {fs : List Value} (q0 : Nat) (hq : ws[q0]? = some (b, .inr (ci, fs))) (hc : vwCl[ci]? = some r0) (hr0 : r0.1 = y.cls) (hst : st = As.reverse ++ .ref b :: rest) (hn : As.length = n) (hW : (rest.map fun v => v.category).sum ≤ 8) (hrm : rm.cells = 0 ∧ rm.slots = 0 ∧ rm.frames + 1 ≤ R.frames ∧ 8 + (maxL + 11) + rm.locals ≤ R.locals) (hf : cells ≤ R.cells ∧ slots ≤ R.slots)
    (kk : ∀ (r : Int32) (u : va_W), post r u → V p l e R s m args below meth c D A nL cells slots Q (u) (lv) (pc + 3) (.int r :: rest)) : V p l e R s m args below meth c D A nL cells slots Q (ws) (lv) (pc) (st) :=
  V.callVI F hM hd hs h2 h3 [] [] (by rw [List.nil_append, List.append_nil]) q0 hq hc hr0 hst hn hW hrm hf (fun r u hp => by rw [List.nil_append, List.append_nil]; exact kk r u hp)
theorem V.callSI0 {y : MethodName} {bytes : ByteArray} {maxL n index : Nat} {ret : Option FieldType} {rm : Room} {As rest : List Value} {post : Int32 → va_W → Prop} (F : Fx p m meth c cc nL s args own D tys A) (hM : CI l y bytes maxL ret rm D tys ws As 0 0 post) (hd : decode cc pc = .ok (.invokestatic index, 3)) (hs : Sv own index y bytes maxL ret n) (h2 : Cond.static y ∈ TB) (hst : st = As.reverse ++ rest) (hn : As.length = n) (hW : (rest.map fun v => v.category).sum ≤ 8) (hrm : rm.cells = 0 ∧ rm.slots = 0 ∧ rm.frames + 1 ≤ R.frames ∧ 8 + (maxL + 11) + rm.locals ≤ R.locals) (hf : cells ≤ R.cells ∧ slots ≤ R.slots)
    (kk : ∀ (r : Int32) (u : va_W), post r u → V p l e R s m args below meth c D A nL cells slots Q (u) (lv) (pc + 3) (.int r :: rest)) : V p l e R s m args below meth c D A nL cells slots Q (ws) (lv) (pc) (st) :=
  V.callSI F hM hd hs h2 [] [] (by rw [List.nil_append, List.append_nil]) hst hn hW hrm hf (fun r u hp => by rw [List.nil_append, List.append_nil]; exact kk r u hp)
theorem V.callVL0 {y : MethodName} {bytes : ByteArray} {maxL n index : Nat} {ret : Option FieldType} {rm : Room} {As rest : List Value} {b : Nat} {post : Int64 → va_W → Prop} (F : Fx p m meth c cc nL s args own D tys A) (hM : CL l y bytes maxL ret rm D tys ws (.ref b :: As) 0 0 post) (hd : decode cc pc = .ok (.invokevirtual index, 3)) (hs : Sv own index y bytes maxL ret n) (h2 : Cond.instanceMethod y ∈ TB) (h3 : Cond.selects y.cls y y ∈ TB) {ci : Nat} {r0 : vw_C} {fs : List Value} (q0 : Nat) (hq : ws[q0]? = some (b, .inr (ci, fs))) (hc : vwCl[ci]? = some r0) (hr0 : r0.1 = y.cls) (hst : st = As.reverse ++ .ref b :: rest) (hn : As.length = n) (hW : (rest.map fun v => v.category).sum ≤ 8) (hrm : rm.cells = 0 ∧ rm.slots = 0 ∧ rm.frames + 1 ≤ R.frames ∧ 8 + (maxL + 11) + rm.locals ≤ R.locals) (hf : cells ≤ R.cells ∧ slots ≤ R.slots)
    (kk : ∀ (r : Int64) (u : va_W), post r u → V p l e R s m args below meth c D A nL cells slots Q (u) (lv) (pc + 3) (.long r :: rest)) : V p l e R s m args below meth c D A nL cells slots Q (ws) (lv) (pc) (st) :=
  V.callVL F hM hd hs h2 h3 [] [] (by rw [List.nil_append, List.append_nil]) q0 hq hc hr0 hst hn hW hrm hf (fun r u hp => by rw [List.nil_append, List.append_nil]; exact kk r u hp)
theorem V.callSL0 {y : MethodName} {bytes : ByteArray} {maxL n index : Nat} {ret : Option FieldType} {rm : Room} {As rest : List Value} {post : Int64 → va_W → Prop} (F : Fx p m meth c cc nL s args own D tys A) (hM : CL l y bytes maxL ret rm D tys ws As 0 0 post) (hd : decode cc pc = .ok (.invokestatic index, 3)) (hs : Sv own index y bytes maxL ret n) (h2 : Cond.static y ∈ TB) (hst : st = As.reverse ++ rest) (hn : As.length = n) (hW : (rest.map fun v => v.category).sum ≤ 8) (hrm : rm.cells = 0 ∧ rm.slots = 0 ∧ rm.frames + 1 ≤ R.frames ∧ 8 + (maxL + 11) + rm.locals ≤ R.locals) (hf : cells ≤ R.cells ∧ slots ≤ R.slots)
    (kk : ∀ (r : Int64) (u : va_W), post r u → V p l e R s m args below meth c D A nL cells slots Q (u) (lv) (pc + 3) (.long r :: rest)) : V p l e R s m args below meth c D A nL cells slots Q (ws) (lv) (pc) (st) :=
  V.callSL F hM hd hs h2 [] [] (by rw [List.nil_append, List.append_nil]) hst hn hW hrm hf (fun r u hp => by rw [List.nil_append, List.append_nil]; exact kk r u hp)
theorem V.callVQ0 {y : MethodName} {bytes : ByteArray} {maxL n index : Nat} {ret : Option FieldType} {rm : Room} {As rest : List Value} {b : Nat} {post : Option Nat → va_W → Prop} (F : Fx p m meth c cc nL s args own D tys A) (hM : CQ l y bytes maxL ret rm D tys ws (.ref b :: As) 0 0 post) (hd : decode cc pc = .ok (.invokevirtual index, 3)) (hs : Sv own index y bytes maxL ret n) (h2 : Cond.instanceMethod y ∈ TB) (h3 : Cond.selects y.cls y y ∈ TB) {ci : Nat} {r0 : vw_C} {fs : List Value} (q0 : Nat) (hq : ws[q0]? = some (b, .inr (ci, fs))) (hc : vwCl[ci]? = some r0) (hr0 : r0.1 = y.cls) (hst : st = As.reverse ++ .ref b :: rest) (hn : As.length = n) (hW : (rest.map fun v => v.category).sum ≤ 8) (hrm : rm.cells = 0 ∧ rm.slots = 0 ∧ rm.frames + 1 ≤ R.frames ∧ 8 + (maxL + 11) + rm.locals ≤ R.locals) (hf : cells ≤ R.cells ∧ slots ≤ R.slots)
    (kk : ∀ (r : Option Nat) (u : va_W), post r u → V p l e R s m args below meth c D A nL cells slots Q (u) (lv) (pc + 3) (va_rf r :: rest)) : V p l e R s m args below meth c D A nL cells slots Q (ws) (lv) (pc) (st) :=
  V.callVQ F hM hd hs h2 h3 [] [] (by rw [List.nil_append, List.append_nil]) q0 hq hc hr0 hst hn hW hrm hf (fun r u hp => by rw [List.nil_append, List.append_nil]; exact kk r u hp)
theorem V.callSQ0 {y : MethodName} {bytes : ByteArray} {maxL n index : Nat} {ret : Option FieldType} {rm : Room} {As rest : List Value} {post : Option Nat → va_W → Prop} (F : Fx p m meth c cc nL s args own D tys A) (hM : CQ l y bytes maxL ret rm D tys ws As 0 0 post) (hd : decode cc pc = .ok (.invokestatic index, 3)) (hs : Sv own index y bytes maxL ret n) (h2 : Cond.static y ∈ TB) (hst : st = As.reverse ++ rest) (hn : As.length = n) (hW : (rest.map fun v => v.category).sum ≤ 8) (hrm : rm.cells = 0 ∧ rm.slots = 0 ∧ rm.frames + 1 ≤ R.frames ∧ 8 + (maxL + 11) + rm.locals ≤ R.locals) (hf : cells ≤ R.cells ∧ slots ≤ R.slots)
    (kk : ∀ (r : Option Nat) (u : va_W), post r u → V p l e R s m args below meth c D A nL cells slots Q (u) (lv) (pc + 3) (va_rf r :: rest)) : V p l e R s m args below meth c D A nL cells slots Q (ws) (lv) (pc) (st) :=
  V.callSQ F hM hd hs h2 [] [] (by rw [List.nil_append, List.append_nil]) hst hn hW hrm hf (fun r u hp => by rw [List.nil_append, List.append_nil]; exact kk r u hp)
theorem V.callVV0 {y : MethodName} {bytes : ByteArray} {maxL n index : Nat} {ret : Option FieldType} {rm : Room} {As rest : List Value} {b : Nat} {post : va_W → Prop} (F : Fx p m meth c cc nL s args own D tys A) (hM : CV l y bytes maxL ret rm D tys ws (.ref b :: As) 0 0 post) (hd : decode cc pc = .ok (.invokevirtual index, 3)) (hs : Sv own index y bytes maxL ret n) (h2 : Cond.instanceMethod y ∈ TB) (h3 : Cond.selects y.cls y y ∈ TB) {ci : Nat} {r0 : vw_C} {fs : List Value} (q0 : Nat) (hq : ws[q0]? = some (b, .inr (ci, fs))) (hc : vwCl[ci]? = some r0) (hr0 : r0.1 = y.cls) (hst : st = As.reverse ++ .ref b :: rest) (hn : As.length = n) (hW : (rest.map fun v => v.category).sum ≤ 8) (hrm : rm.cells = 0 ∧ rm.slots = 0 ∧ rm.frames + 1 ≤ R.frames ∧ 8 + (maxL + 11) + rm.locals ≤ R.locals) (hf : cells ≤ R.cells ∧ slots ≤ R.slots)
    (kk : ∀ (u : va_W), post u → V p l e R s m args below meth c D A nL cells slots Q (u) (lv) (pc + 3) (rest)) : V p l e R s m args below meth c D A nL cells slots Q (ws) (lv) (pc) (st) :=
  V.callVV F hM hd hs h2 h3 [] [] (by rw [List.nil_append, List.append_nil]) q0 hq hc hr0 hst hn hW hrm hf (fun u hp => by rw [List.nil_append, List.append_nil]; exact kk u hp)
theorem V.callSV0 {y : MethodName} {bytes : ByteArray} {maxL n index : Nat} {ret : Option FieldType} {rm : Room} {As rest : List Value} {post : va_W → Prop} (F : Fx p m meth c cc nL s args own D tys A) (hM : CV l y bytes maxL ret rm D tys ws As 0 0 post) (hd : decode cc pc = .ok (.invokestatic index, 3)) (hs : Sv own index y bytes maxL ret n) (h2 : Cond.static y ∈ TB) (hst : st = As.reverse ++ rest) (hn : As.length = n) (hW : (rest.map fun v => v.category).sum ≤ 8) (hrm : rm.cells = 0 ∧ rm.slots = 0 ∧ rm.frames + 1 ≤ R.frames ∧ 8 + (maxL + 11) + rm.locals ≤ R.locals) (hf : cells ≤ R.cells ∧ slots ≤ R.slots)
    (kk : ∀ (u : va_W), post u → V p l e R s m args below meth c D A nL cells slots Q (u) (lv) (pc + 3) (rest)) : V p l e R s m args below meth c D A nL cells slots Q (ws) (lv) (pc) (st) :=
  V.callSV F hM hd hs h2 [] [] (by rw [List.nil_append, List.append_nil]) hst hn hW hrm hf (fun u hp => by rw [List.nil_append, List.append_nil]; exact kk u hp)
theorem V.sld (F : Fx p m meth c cc nL s args own D tys A) {b L i : Nat} {xs : Nat → Int32} {v : Int32} (hd : decode cc pc = .ok (.iaload, 1)) (hX : va_X b L xs s s.heap) (hbl : b < s.heap.size) (hbA : ¬ A b) (hi : i < L) (hL : L < 2 ^ 31) (hv : xs i = v) (kk : V p l e R s m args below meth c D A nL cells slots Q (ws) (lv) (pc + 1) (.int v :: st)) : V p l e R s m args below meth c D A nL cells slots Q (ws) (lv) (pc) (.int (nI i) :: .ref b :: st) := fun H locs ls hP hD hS hl => va_sld F.1.1 F.1.2.1 hX hbl hbA hS (vp_in_nI hi hL) hd (by rw [cl_nI (Nat.lt_trans hi hL), hv]; exact (kk H locs ls hP hD hS hl))
theorem V.slen (F : Fx p m meth c cc nL s args own D tys A) {b L : Nat} {xs : Nat → Int32} (hd : decode cc pc = .ok (.arraylength, 1)) (hX : va_X b L xs s s.heap) (hbl : b < s.heap.size) (hbA : ¬ A b) (kk : V p l e R s m args below meth c D A nL cells slots Q (ws) (lv) (pc + 1) (.int (nI L) :: st)) : V p l e R s m args below meth c D A nL cells slots Q (ws) (lv) (pc) (.ref b :: st) := fun H locs ls hP hD hS hl => va_slen F.1.1 F.1.2.1 hX hbl hbA hS hd (kk H locs ls hP hD hS hl)
end VV
end
section
def bvS (g : Nat → Bool) : Nat → BitVec 64
  | 0 => 0#64
  | k + 1 => bvS g k ||| (if g k = true then BitVec.twoPow 64 k else 0#64)
theorem bvS_get (g : Nat → Bool) : ∀ (k i : Nat), k ≤ 64 → (bvS g k).getLsbD i = (decide (i < k) && g i)
  | 0, i, _ => by simp [bvS]
  | k + 1, i, h => by
    rw [bvS, BitVec.getLsbD_or, bvS_get g k i (by omega)]
    by_cases hg : g k = true
    · rw [if_pos hg, BitVec.getLsbD_twoPow]
      by_cases hik : k = i
      · subst hik
        simp [hg]
        omega
      · have e1 : decide (i < k + 1) = decide (i < k) := by
          by_cases h1 : i < k
          · simp [h1]; omega
          · simp [h1]; omega
        rw [e1]
        simp [hik]
    · rw [if_neg hg]
      by_cases hik : k = i
      · subst hik
        simp [hg]
      · have e1 : decide (i < k + 1) = decide (i < k) := by
          by_cases h1 : i < k
          · simp [h1]; omega
          · simp [h1]; omega
        rw [e1]
        simp
def wd (S : Nat → Bool) (w : Nat) : Int64 := Int64.ofBitVec (bvS (fun b => S (64 * w + b)) 64)
theorem wd_bv (S : Nat → Bool) (w : Nat) : (wd S w).toBitVec = bvS (fun b => S (64 * w + b)) 64 := rfl
theorem wd_get (S : Nat → Bool) (w : Nat) {i : Nat} (h : i < 64) : (wd S w).toBitVec.getLsbD i = S (64 * w + i) := by
  rw [wd_bv, bvS_get _ 64 i (Nat.le_refl _)]
  simp [h]
theorem i64_ext {x y : Int64} (h : ∀ i, i < 64 → x.toBitVec.getLsbD i = y.toBitVec.getLsbD i) : x = y := by
  apply Int64.toBitVec_inj.mp
  apply BitVec.eq_of_getLsbD_eq
  intro i hi
  exact h i hi
theorem sh_1 : ∀ k, k < 64 → ((1 : Int64) <<< ((nI k).toInt64 &&& 63)).toBitVec = BitVec.twoPow 64 k := by decide +kernel
theorem wd_eq {S T : Nat → Bool} {w : Nat} (h : ∀ b, b < 64 → S (64 * w + b) = T (64 * w + b)) : wd S w = wd T w := i64_ext fun i hi => by rw [wd_get S w hi, wd_get T w hi]; exact h i hi
theorem wd_eq_iff {S T : Nat → Bool} {w : Nat} : wd S w = wd T w ↔ ∀ b, b < 64 → S (64 * w + b) = T (64 * w + b) := ⟨fun h b hb => by rw [← wd_get S w hb, ← wd_get T w hb, h], wd_eq⟩
theorem dm64 (n : Nat) : 64 * (n / 64) + n % 64 = n := Nat.div_add_mod n 64
theorem wd_bit (S : Nat → Bool) (n : Nat) : (wd S (n / 64) &&& ((1 : Int64) <<< ((nI (n % 64)).toInt64 &&& 63))) = 0 ↔ S n = false := by
  have hk : n % 64 < 64 := Nat.mod_lt _ (by decide)
  have e1 := wd_get S (n / 64) hk
  rw [dm64] at e1
  rw [← Int64.toBitVec_inj, Int64.toBitVec_and, sh_1 _ hk, BitVec.and_twoPow, e1]
  by_cases h : S n = true
  · rw [if_pos h, h]
    constructor
    · intro q
      have q2 := congrArg (fun v : BitVec 64 => v.getLsbD (n % 64)) q
      simp [BitVec.getLsbD_twoPow] at q2
      omega
    · intro q
      exact absurd q (by decide)
  · rw [if_neg h]
    simp at h
    simp [h]
theorem wd_or1 (S : Nat → Bool) (n : Nat) : (wd S (n / 64) ||| ((1 : Int64) <<< ((nI (n % 64)).toInt64 &&& 63))) = wd (fun k => S k || decide (k = n)) (n / 64) := by
  have hk : n % 64 < 64 := Nat.mod_lt _ (by decide)
  refine i64_ext fun i hi => ?_
  rw [Int64.toBitVec_or, sh_1 _ hk, BitVec.getLsbD_or, wd_get _ _ hi, wd_get _ _ hi, BitVec.getLsbD_twoPow]
  have e : (decide (n % 64 < 64) && decide (n % 64 = i)) = decide (64 * (n / 64) + i = n) := by
    by_cases h : n % 64 = i
    · subst h
      rw [dm64]
      simp [hk]
    · have h2 : ¬ 64 * (n / 64) + i = n := by omega
      simp [h, h2]
  rw [e]
theorem wd_or (S T : Nat → Bool) (w : Nat) : (wd S w ||| wd T w) = wd (fun k => S k || T k) w := by
  refine i64_ext fun i hi => ?_
  rw [Int64.toBitVec_or, BitVec.getLsbD_or, wd_get _ _ hi, wd_get _ _ hi, wd_get _ _ hi]
theorem wd_0 (w : Nat) : wd (fun _ => false) w = 0 := by
  refine i64_ext fun i hi => ?_
  rw [wd_get _ _ hi]
  simp
theorem wd_and0 (S T : Nat → Bool) (w : Nat) : (wd S w &&& wd T w) = 0 ↔ ∀ b, b < 64 → (S (64 * w + b) && T (64 * w + b)) = false := by
  constructor
  · intro h b hb
    have q2 := congrArg (fun v : Int64 => v.toBitVec.getLsbD b) h
    simp only [Int64.toBitVec_and, BitVec.getLsbD_and, wd_get _ _ hb] at q2
    rw [q2]
    simp
  · intro h
    refine i64_ext fun i hi => ?_
    rw [Int64.toBitVec_and, BitVec.getLsbD_and, wd_get _ _ hi, wd_get _ _ hi, h i hi]
    simp
theorem wd_upd {S S2 : Nat → Bool} {w : Nat} {x : Int64} (hx : x = wd S2 w) (h : ∀ n, n / 64 ≠ w → S2 n = S n) : vp_updL (wd S) w x = wd S2 := by
  funext j
  unfold vp_updL
  by_cases hj : j = w
  · rw [if_pos hj, hx, hj]
  · rw [if_neg hj]
    exact wd_eq fun b hb => (h _ (by omega)).symm
theorem upd_nF (g : Nat → Nat) (i x : Nat) : upd (nF g) i (nI x) = nF (va_up g i x) := by
  funext j
  by_cases h : j = i
  · subst h; show _ = nI (va_up g j x j); rw [va_up_self]; simp [upd]
  · show _ = nI (va_up g i x j); rw [va_up_ne _ _ h]; simp [upd, h]
theorem updL_up (f : Nat → Int64) (i : Nat) (x : Int64) : vp_updL f i x = va_up f i x := rfl
def cnt (g : Nat → Bool) : Nat → Nat
  | 0 => 0
  | k + 1 => cnt g k + (if g k = true then 1 else 0)
theorem cnt_le (g : Nat → Bool) : ∀ k, cnt g k ≤ k
  | 0 => Nat.le_refl _
  | k + 1 => by
    have := cnt_le g k
    rw [cnt]
    split <;> omega
theorem cnt_congr {g h : Nat → Bool} : ∀ {k : Nat}, (∀ i, i < k → g i = h i) → cnt g k = cnt h k
  | 0, _ => rfl
  | k + 1, H => by rw [cnt, cnt, cnt_congr (fun i hi => H i (by omega)), H k (by omega)]
theorem cnt_add (g : Nat → Bool) (a : Nat) : ∀ b, cnt g (a + b) = cnt g a + cnt (fun i => g (a + i)) b
  | 0 => rfl
  | b + 1 => by rw [← Nat.add_assoc, cnt, cnt, cnt_add g a b, Nat.add_assoc]
end
section
theorem la_split (a b c d : Nat) (ha : a < 256) (hc : c < 256) : (a + 256 * b) &&& (c + 256 * d) = (a &&& c) + 256 * (b &&& d) := by
  have hac : a &&& c < 256 := Nat.lt_of_le_of_lt Nat.and_le_left ha
  apply Nat.eq_of_testBit_eq
  intro i
  have e : ∀ x y : Nat, x < 256 → (x + 256 * y).testBit i = if i < 8 then x.testBit i else y.testBit (i - 8) := by
    intro x y hx
    rw [show x + 256 * y = 2 ^ 8 * y + x by omega]
    by_cases h : i < 8
    · rw [if_pos h, Nat.testBit_two_pow_mul_add y hx i, if_pos h]
    · rw [if_neg h, Nat.testBit_two_pow_mul_add y hx i, if_neg h]
  rw [Nat.testBit_and, e a b ha, e c d hc, e _ _ hac]
  split
  · rw [Nat.testBit_and]
  · rw [Nat.testBit_and]
def m55 : Nat → Nat
  | 0 => 0
  | k + 1 => 85 + 256 * m55 k
def m33 : Nat → Nat
  | 0 => 0
  | k + 1 => 51 + 256 * m33 k
def m0f : Nat → Nat
  | 0 => 0
  | k + 1 => 15 + 256 * m0f k
def s1 (k x : Nat) : Nat := x - ((x / 2) &&& m55 k)
def s2 (k x : Nat) : Nat := (x &&& m33 k) + ((x / 4) &&& m33 k)
def s3 (k x : Nat) : Nat := (x + x / 16) &&& m0f k
theorem q1 : ∀ v, v < 256 → ∀ r, r < 2 → ((v / 2 + 128 * r) &&& 85) = ((v / 2) &&& 85) := by decide +kernel
theorem q2 : ∀ v, v < 256 → ∀ r, r < 4 → ((v / 4 + 64 * r) &&& 51) = ((v / 4) &&& 51) := by decide +kernel
theorem s1_step (k v x : Nat) (hv : v < 256) : s1 (k + 1) (v + 256 * x) = (v - ((v / 2) &&& 85)) + 256 * s1 k x := by
  unfold s1
  have e1 : (v + 256 * x) / 2 = (v / 2 + 128 * (x % 2)) + 256 * (x / 2) := by omega
  rw [e1, m55, la_split _ _ _ _ (by omega) (by decide), q1 v hv (x % 2) (Nat.mod_lt _ (by decide))]
  have h1 : ((v / 2) &&& 85) ≤ v / 2 := Nat.and_le_left
  have h2 : ((x / 2) &&& m55 k) ≤ x / 2 := Nat.and_le_left
  omega
theorem s2_step (k v x : Nat) (hv : v < 256) : s2 (k + 1) (v + 256 * x) = ((v &&& 51) + ((v / 4) &&& 51)) + 256 * s2 k x := by
  unfold s2
  have e1 : (v + 256 * x) / 4 = (v / 4 + 64 * (x % 4)) + 256 * (x / 4) := by omega
  rw [e1, m33, la_split v x 51 (m33 k) hv (by decide), la_split (v / 4 + 64 * (x % 4)) (x / 4) 51 (m33 k) (by omega) (by decide), q2 v hv (x % 4) (Nat.mod_lt _ (by decide))]
  omega
def w2 (v : Nat) : Nat := ((v - ((v / 2) &&& 85)) &&& 51) + (((v - ((v / 2) &&& 85)) / 4) &&& 51)
def pc8 (v : Nat) : Nat := cnt (fun i => v.testBit i) 8
theorem q3 : ∀ v, v < 256 → ∀ r, r < 5 → (w2 v + w2 v / 16 + 16 * r < 256) ∧ ((w2 v + w2 v / 16 + 16 * r) &&& 15) = pc8 v ∧ w2 v % 16 < 5 ∧ v - ((v / 2) &&& 85) < 256 := by decide +kernel
theorem s12_step (k v x : Nat) (hv : v < 256) : s2 (k + 1) (s1 (k + 1) (v + 256 * x)) = w2 v + 256 * s2 k (s1 k x) := by
  rw [s1_step k v x hv, s2_step k _ _ (q3 v hv 0 (by decide)).2.2.2]
  rfl
theorem s12_low : ∀ (k x : Nat), x < 256 ^ k → s2 k (s1 k x) % 16 < 5
  | 0, x, h => by
    have : x = 0 := by simpa using h
    subst this
    decide
  | k + 1, x, h => by
    have e : x = x % 256 + 256 * (x / 256) := by omega
    rw [e, s12_step k _ _ (Nat.mod_lt _ (by decide))]
    have := (q3 (x % 256) (Nat.mod_lt _ (by decide)) 0 (by decide)).2.2.1
    omega
theorem s123_step (k v x : Nat) (hv : v < 256) (hx : x < 256 ^ k) : s3 (k + 1) (s2 (k + 1) (s1 (k + 1) (v + 256 * x))) = pc8 v + 256 * s3 k (s2 k (s1 k x)) := by
  rw [s12_step k v x hv]
  have hl := s12_low k x hx
  generalize s2 k (s1 k x) = P at hl ⊢
  obtain ⟨h1, h2, -, -⟩ := q3 v hv (P % 16) hl
  unfold s3
  have e1 : w2 v + 256 * P + (w2 v + 256 * P) / 16 = (w2 v + w2 v / 16 + 16 * (P % 16)) + 256 * (P + P / 16) := by omega
  rw [e1, m0f, la_split _ _ _ _ h1 (by decide), h2]
def byteSum (f : Nat → Nat) : Nat → Nat → Nat
  | 0, _ => 0
  | k + 1, x => f (x % 256) + 256 * byteSum f k (x / 256)
theorem s123 : ∀ (k x : Nat), x < 256 ^ k → s3 k (s2 k (s1 k x)) = byteSum pc8 k x
  | 0, x, h => by
    have : x = 0 := by simpa using h
    subst this
    decide
  | k + 1, x, h => by
    have e : x = x % 256 + 256 * (x / 256) := by omega
    have hx : x / 256 < 256 ^ k := by
      rw [Nat.pow_succ] at h
      omega
    rw [byteSum, ← s123 k (x / 256) hx, ← s123_step k _ _ (Nat.mod_lt _ (by decide)) hx, ← e]
theorem pc8_le (v : Nat) : pc8 v ≤ 8 := cnt_le _ 8
theorem cnt_bytes (x : Nat) : ∀ k, cnt (fun i => x.testBit i) (8 * k) = (List.range k).foldr (fun j a => pc8 (x / 256 ^ j) + a) 0
  | 0 => rfl
  | k + 1 => by
    rw [show 8 * (k + 1) = 8 * k + 8 by omega, cnt_add, cnt_bytes x k, List.range_succ, List.foldr_append]
    have e : cnt (fun i => x.testBit (8 * k + i)) 8 = pc8 (x / 256 ^ k) := by
      unfold pc8
      refine cnt_congr fun i _ => ?_
      rw [show 256 ^ k = 2 ^ (8 * k) by rw [Nat.pow_mul], Nat.testBit_div_two_pow]
      congr 1
      omega
    rw [e]
    have g : ∀ (l : List Nat) (z : Nat), l.foldr (fun j a => pc8 (x / 256 ^ j) + a) z = l.foldr (fun j a => pc8 (x / 256 ^ j) + a) 0 + z := by
      intro l
      induction l with
      | nil => intro z; simp
      | cons a t ih => intro z; simp only [List.foldr_cons]; rw [ih z]; omega
    rw [List.foldr_cons, List.foldr_nil, g _ (pc8 (x / 256 ^ k) + 0)]
    omega
def swar (x : Nat) : Nat :=
  let a := s3 8 (s2 8 (s1 8 x))
  let b := a + a / 256
  let c := b + b / 65536
  (c + c / 4294967296) % 128
theorem pc8_mod (v : Nat) : pc8 (v % 256) = pc8 v := by
  unfold pc8
  refine cnt_congr fun i hi => ?_
  rw [show 256 = 2 ^ 8 by decide, Nat.testBit_mod_two_pow]
  simp [hi]
theorem dv (x A : Nat) (h : x < 256) : (x + 256 * A) / 256 = A := by omega
theorem md (x A : Nat) (h : x < 128) : (x + 256 * A) % 128 = x := by omega
theorem swar_eq (x : Nat) (h : x < 2 ^ 64) : swar x = cnt (fun i => x.testBit i) 64 := by
  have e := cnt_bytes x 8
  rw [show 8 * 8 = 64 by decide] at e
  rw [e]
  unfold swar
  rw [s123 8 x (by rw [show 256 ^ 8 = 2 ^ 64 by decide]; exact h)]
  simp only [byteSum, List.range, List.range.loop, List.foldr_cons, List.foldr_nil]
  simp only [Nat.div_div_eq_div_mul, pc8_mod]
  simp only [show 256 * 256 = 65536 by decide, show 65536 * 256 = 16777216 by decide, show 16777216 * 256 = 4294967296 by decide, show 4294967296 * 256 = 1099511627776 by decide, show 1099511627776 * 256 = 281474976710656 by decide, show 281474976710656 * 256 = 72057594037927936 by decide, show 256 ^ 0 = 1 by decide, show 256 ^ 1 = 256 by decide, show 256 ^ 2 = 65536 by decide, show 256 ^ 3 = 16777216 by decide, show 256 ^ 4 = 4294967296 by decide, show 256 ^ 5 = 1099511627776 by decide, show 256 ^ 6 = 281474976710656 by decide, show 256 ^ 7 = 72057594037927936 by decide, Nat.div_one]
  have h0 := pc8_le x
  have h1 := pc8_le (x / 256)
  have h2 := pc8_le (x / 65536)
  have h3 := pc8_le (x / 16777216)
  have h4 := pc8_le (x / 4294967296)
  have h5 := pc8_le (x / 1099511627776)
  have h6 := pc8_le (x / 281474976710656)
  have h7 := pc8_le (x / 72057594037927936)
  generalize pc8 x = y0 at *
  generalize pc8 (x / 256) = y1 at *
  generalize pc8 (x / 65536) = y2 at *
  generalize pc8 (x / 16777216) = y3 at *
  generalize pc8 (x / 4294967296) = y4 at *
  generalize pc8 (x / 1099511627776) = y5 at *
  generalize pc8 (x / 281474976710656) = y6 at *
  generalize pc8 (x / 72057594037927936) = y7 at *
  have e1 : (y0 + 256 * (y1 + 256 * (y2 + 256 * (y3 + 256 * (y4 + 256 * (y5 + 256 * (y6 + 256 * (y7 + 256 * 0)))))))) / 256 = (y1 + 256 * (y2 + 256 * (y3 + 256 * (y4 + 256 * (y5 + 256 * (y6 + 256 * (y7 + 256 * 0))))))) := dv _ _ (by omega)
  rw [e1]
  clear e1
  have e2 : (y0 + 256 * (y1 + 256 * (y2 + 256 * (y3 + 256 * (y4 + 256 * (y5 + 256 * (y6 + 256 * (y7 + 256 * 0)))))))) + (y1 + 256 * (y2 + 256 * (y3 + 256 * (y4 + 256 * (y5 + 256 * (y6 + 256 * (y7 + 256 * 0))))))) = ((y0 + y1) + 256 * ((y1 + y2) + 256 * ((y2 + y3) + 256 * ((y3 + y4) + 256 * ((y4 + y5) + 256 * ((y5 + y6) + 256 * ((y6 + y7) + 256 * (y7 + 256 * 0)))))))) := by clear h0 h1 h2 h3 h4 h5 h6 h7; omega
  rw [e2]
  clear e2
  have f1 : ((y0 + y1) + 256 * ((y1 + y2) + 256 * ((y2 + y3) + 256 * ((y3 + y4) + 256 * ((y4 + y5) + 256 * ((y5 + y6) + 256 * ((y6 + y7) + 256 * (y7 + 256 * 0)))))))) / 65536 = ((y2 + y3) + 256 * ((y3 + y4) + 256 * ((y4 + y5) + 256 * ((y5 + y6) + 256 * ((y6 + y7) + 256 * (y7 + 256 * 0)))))) := by
    rw [show 65536 = 256 * 256 by decide, ← Nat.div_div_eq_div_mul, dv _ _ (by omega), dv _ _ (by omega)]
  rw [f1]
  clear f1
  have f2 : ((y0 + y1) + 256 * ((y1 + y2) + 256 * ((y2 + y3) + 256 * ((y3 + y4) + 256 * ((y4 + y5) + 256 * ((y5 + y6) + 256 * ((y6 + y7) + 256 * (y7 + 256 * 0)))))))) + ((y2 + y3) + 256 * ((y3 + y4) + 256 * ((y4 + y5) + 256 * ((y5 + y6) + 256 * ((y6 + y7) + 256 * (y7 + 256 * 0)))))) = (((y0 + y1) + (y2 + y3)) + 256 * (((y1 + y2) + (y3 + y4)) + 256 * (((y2 + y3) + (y4 + y5)) + 256 * (((y3 + y4) + (y5 + y6)) + 256 * (((y4 + y5) + (y6 + y7)) + 256 * (((y5 + y6) + y7) + 256 * ((y6 + y7) + 256 * (y7 + 256 * 0)))))))) := by clear h0 h1 h2 h3 h4 h5 h6 h7; omega
  rw [f2]
  clear f2
  have h9 : (((y0 + y1) + (y2 + y3)) + 256 * (((y1 + y2) + (y3 + y4)) + 256 * (((y2 + y3) + (y4 + y5)) + 256 * (((y3 + y4) + (y5 + y6)) + 256 * (((y4 + y5) + (y6 + y7)) + 256 * (((y5 + y6) + y7) + 256 * ((y6 + y7) + 256 * (y7 + 256 * 0)))))))) / 4294967296 = (((y4 + y5) + (y6 + y7)) + 256 * (((y5 + y6) + y7) + 256 * ((y6 + y7) + 256 * (y7 + 256 * 0)))) := by
    rw [show 4294967296 = 256 * 256 * 256 * 256 by decide, ← Nat.div_div_eq_div_mul, ← Nat.div_div_eq_div_mul, ← Nat.div_div_eq_div_mul, dv _ _ (by omega), dv _ _ (by omega), dv _ _ (by omega), dv _ _ (by omega)]
  rw [h9]
  clear h9
  have k9 : (((y0 + y1) + (y2 + y3)) + 256 * (((y1 + y2) + (y3 + y4)) + 256 * (((y2 + y3) + (y4 + y5)) + 256 * (((y3 + y4) + (y5 + y6)) + 256 * (((y4 + y5) + (y6 + y7)) + 256 * (((y5 + y6) + y7) + 256 * ((y6 + y7) + 256 * (y7 + 256 * 0)))))))) + (((y4 + y5) + (y6 + y7)) + 256 * (((y5 + y6) + y7) + 256 * ((y6 + y7) + 256 * (y7 + 256 * 0)))) = ((((y0 + y1) + (y2 + y3)) + ((y4 + y5) + (y6 + y7))) + 256 * ((((y1 + y2) + (y3 + y4)) + ((y5 + y6) + y7)) + 256 * ((((y2 + y3) + (y4 + y5)) + (y6 + y7)) + 256 * ((((y3 + y4) + (y5 + y6)) + y7) + 256 * (((y4 + y5) + (y6 + y7)) + 256 * (((y5 + y6) + y7) + 256 * ((y6 + y7) + 256 * (y7 + 256 * 0)))))))) := by clear h0 h1 h2 h3 h4 h5 h6 h7; omega
  rw [k9, md _ _ (by omega)]
  clear k9
  omega
end
section
def uN (x : Int64) : Nat := x.toUInt64.toNat
theorem uN_lt (x : Int64) : uN x < 18446744073709551616 := x.toUInt64.toNat_lt
theorem uN_bv (x : Int64) : uN x = x.toBitVec.toNat := rfl
theorem uN_add {x y : Int64} {a b : Nat} (hx : uN x = a) (hy : uN y = b) (h : a + b < 18446744073709551616) : uN (x + y) = a + b := by
  have e : uN (x + y) = (uN x + uN y) % 18446744073709551616 := by
    show (x.toUInt64 + y.toUInt64).toNat = _
    rw [UInt64.toNat_add]; rfl
  rw [e, hx, hy, Nat.mod_eq_of_lt h]
theorem uN_sub {x y : Int64} {a b : Nat} (hx : uN x = a) (hy : uN y = b) (h : b ≤ a) : uN (x - y) = a - b := by
  have hle : y.toUInt64 ≤ x.toUInt64 := by
    rw [UInt64.le_iff_toNat_le]
    show uN y ≤ uN x
    omega
  have e : uN (x - y) = uN x - uN y := by
    show (x.toUInt64 - y.toUInt64).toNat = _
    exact UInt64.toNat_sub_of_le _ _ hle
  rw [e, hx, hy]
theorem uN_and {x y : Int64} {a b : Nat} (hx : uN x = a) (hy : uN y = b) : uN (x &&& y) = a &&& b := by
  have e : uN (x &&& y) = uN x &&& uN y := UInt64.toNat_and _ _
  rw [e, hx, hy]
theorem uN_shr (x : Int64) (s : UInt64) : uN (x.toUInt64 >>> s).toInt64 = uN x / 2 ^ (s.toNat % 64) := by
  show (x.toUInt64 >>> s).toNat = _
  rw [UInt64.toNat_shiftRight, Nat.shiftRight_eq_div_pow]
  rfl
theorem u63 : ∀ k, k < 64 → (((nI k).toInt64.toUInt64 &&& Int64.toUInt64 63)).toNat % 64 = k := by decide +kernel
theorem uN_sk {x : Int64} {a k : Nat} (hx : uN x = a) (hk : k < 64) : uN (x.toUInt64 >>> ((nI k).toInt64.toUInt64 &&& Int64.toUInt64 63)).toInt64 = a / 2 ^ k := by
  rw [uN_shr, u63 k hk, hx]
theorem bc_127 (x : Int64) : x.toInt32 &&& nI 127 = nI (uN x % 128) := by
  rw [pk_and x.toInt32 (m := nI 127) 7 (by decide)]
  congr 1
  show (x.toBitVec.signExtend 32).toNat % 2 ^ 7 = x.toBitVec.toNat % 128
  rw [BitVec.signExtend_eq_setWidth_of_le _ (by decide), BitVec.toNat_setWidth]
  omega
theorem m55_8 : m55 8 = 6148914691236517205 := by decide
theorem m33_8 : m33 8 = 3689348814741910323 := by decide
theorem m0f_8 : m0f 8 = 1085102592571150095 := by decide
def ones : Nat → Nat
  | 0 => 0
  | k + 1 => 1 + 256 * ones k
theorem bs_ar {w y o : Nat} (h1 : w ≤ 8 * o) (h2 : y ≤ 8) : y + 256 * w ≤ 8 * (1 + 256 * o) := by omega
theorem bs_le : ∀ k x, byteSum pc8 k x ≤ 8 * ones k
  | 0, x => Nat.le_refl _
  | k + 1, x => bs_ar (bs_le k (x / 256)) (pc8_le (x % 256))
theorem bc_eq {x i1 i2 i3 i4 i5 i6 : Int64} (e1 : i1 = x - ((x.toUInt64 >>> ((nI 1).toInt64.toUInt64 &&& Int64.toUInt64 63)).toInt64 &&& 6148914691236517205)) (e2 : i2 = (i1 &&& 3689348814741910323) + ((i1.toUInt64 >>> ((nI 2).toInt64.toUInt64 &&& Int64.toUInt64 63)).toInt64 &&& 3689348814741910323)) (e3 : i3 = (i2 + (i2.toUInt64 >>> ((nI 4).toInt64.toUInt64 &&& Int64.toUInt64 63)).toInt64) &&& 1085102592571150095) (e4 : i4 = i3 + (i3.toUInt64 >>> ((nI 8).toInt64.toUInt64 &&& Int64.toUInt64 63)).toInt64) (e5 : i5 = i4 + (i4.toUInt64 >>> ((nI 16).toInt64.toUInt64 &&& Int64.toUInt64 63)).toInt64) (e6 : i6 = i5 + (i5.toUInt64 >>> ((nI 32).toInt64.toUInt64 &&& Int64.toUInt64 63)).toInt64) : i6.toInt32 &&& nI 127 = nI (cnt (fun b => x.toBitVec.getLsbD b) 64) := by
  obtain ⟨n, hn⟩ : ∃ n, uN x = n := ⟨_, rfl⟩
  have hlt : n < 18446744073709551616 := hn ▸ uN_lt x
  have k55 : uN (6148914691236517205 : Int64) = m55 8 := by decide
  have k33 : uN (3689348814741910323 : Int64) = m33 8 := by decide
  have k0f : uN (1085102592571150095 : Int64) = m0f 8 := by decide
  have h1 : uN i1 = s1 8 n := by
    rw [e1]
    have := uN_and (uN_sk (k := 1) hn (by decide)) k55
    exact uN_sub hn this (Nat.le_trans Nat.and_le_left (Nat.div_le_self _ _))
  have h2 : uN i2 = s2 8 (s1 8 n) := by
    rw [e2]
    have hA := uN_and h1 k33
    have hB := uN_and (uN_sk (k := 2) h1 (by decide)) k33
    refine uN_add hA hB ?_
    have a1 : (s1 8 n &&& m33 8) ≤ m33 8 := Nat.and_le_right
    have a2 : (s1 8 n / 4 &&& m33 8) ≤ m33 8 := Nat.and_le_right
    rw [m33_8] at *
    omega
  have b2 : s2 8 (s1 8 n) ≤ 2 * 3689348814741910323 := by
    unfold s2
    have a1 : (s1 8 n &&& m33 8) ≤ m33 8 := Nat.and_le_right
    have a2 : (s1 8 n / 4 &&& m33 8) ≤ m33 8 := Nat.and_le_right
    rw [m33_8] at *
    omega
  have h3 : uN i3 = s3 8 (s2 8 (s1 8 n)) := by
    rw [e3]
    refine uN_and (uN_add h2 (uN_sk (k := 4) h2 (by decide)) ?_) k0f
    omega
  have hs := s123 8 n (by rw [show 256 ^ 8 = 18446744073709551616 by decide]; exact hlt)
  have hb := bs_le 8 n
  rw [← hs, show ones 8 = 72340172838076673 by decide] at hb
  have hw : swar n = cnt (fun i => n.testBit i) 64 := swar_eq n hlt
  unfold swar at hw
  generalize hA : s3 8 (s2 8 (s1 8 n)) = a at *
  have h4 : uN i4 = a + a / 256 := by
    rw [e4]
    exact uN_add h3 (uN_sk (k := 8) h3 (by decide)) (by omega)
  have h5 : uN i5 = (a + a / 256) + (a + a / 256) / 65536 := by
    rw [e5]
    exact uN_add h4 (uN_sk (k := 16) h4 (by decide)) (by omega)
  have h6 : uN i6 = ((a + a / 256) + (a + a / 256) / 65536) + ((a + a / 256) + (a + a / 256) / 65536) / 4294967296 := by
    rw [e6]
    exact uN_add h5 (uN_sk (k := 32) h5 (by decide)) (by omega)
  rw [bc_127, h6]
  congr 1
  rw [← hn] at hw
  exact hw.trans (cnt_congr fun i hi => rfl)
end
section
def oI (o : Option Nat) : Int32 := match o with
  | none => -1
  | some b => nI b
abbrev aI (ct : Nat → ClassId) (n : Nat) (g : Nat → Nat) : va_E := .inl (ct 0, n, .inl (nF g))
abbrev aL (ct : Nat → ClassId) (n : Nat) (f : Nat → Int64) : va_E := .inl (ct 1, n, .inr (.inl f))
def dkA (da : Nat → Nat → Nat) (nd : Nat) : Nat → Option Nat := fun j => if j < nd then some (da j 0) else none
def rpW (rep : Nat → Nat → Bool) : Nat → Int64 := fun j => wd (rep (j / 5)) (j % 5)
def fl (f : Nat → va_W) : Nat → va_W
  | 0 => []
  | n + 1 => fl f n ++ f n
theorem fl_len {f : Nat → va_W} (h : ∀ i, (f i).length = 5) : ∀ n, (fl f n).length = 5 * n
  | 0 => rfl
  | n + 1 => by rw [fl, List.length_append, fl_len h n, h n]; omega
theorem fl_get {f : Nat → va_W} (h : ∀ i, (f i).length = 5) : ∀ (n i j : Nat), i < n → j < 5 → (fl f n)[5 * i + j]? = (f i)[j]?
  | 0, i, j, hi, _ => absurd hi (Nat.not_lt_zero _)
  | n + 1, i, j, hi, hj => by
    rw [fl]
    by_cases hin : i < n
    · rw [List.getElem?_append_left (by rw [fl_len h n]; omega)]
      exact fl_get h n i j hin hj
    · have e : i = n := by omega
      subst e
      rw [List.getElem?_append_right (by rw [fl_len h i]; omega), fl_len h i, Nat.add_sub_cancel_left]
theorem fl_congr {f g : Nat → va_W} : ∀ {n : Nat}, (∀ i, i < n → f i = g i) → fl f n = fl g n
  | 0, _ => rfl
  | n + 1, H => by rw [fl, fl, fl_congr (fun i hi => H i (by omega)), H n (by omega)]
theorem fl_set {f g : Nat → va_W} (h : ∀ i, (f i).length = 5) {i j : Nat} {x : Nat × va_E} (hj : j < 5) (hg : ∀ k, k ≠ i → g k = f k) (hi : g i = (f i).set j x) : ∀ n, i < n → (fl f n).set (5 * i + j) x = fl g n
  | 0, hn => absurd hn (Nat.not_lt_zero _)
  | n + 1, hn => by
    rw [fl, fl]
    by_cases hin : i < n
    · rw [List.set_append_left _ _ (by rw [fl_len h n]; omega), fl_set h hj hg hi n hin, hg n (by omega)]
    · have e : i = n := by omega
      subst e
      rw [List.set_append_right _ _ (by rw [fl_len h i]; omega), fl_len h i, Nat.add_sub_cancel_left, hi, fl_congr (f := f) (g := g) (fun k hk => (hg k (by omega)).symm)]
abbrev dkC (ct : Nat → ClassId) (da : Nat → Nat → Nat) (kn : Nat → Nat → Bool) (pe : Nat → Nat → Bool) (clk : Nat → Nat) (tol : Nat → Nat) (opn : Nat → Option Nat) (i : Nat) : va_W := [(da i 0, .inr (3, [.int (nI i), .ref (da i 1), .ref (da i 3), .int (nI (clk i)), .int (nI (tol i)), .int (oI (opn i))])), (da i 1, .inr (1, [.ref (da i 2)])), (da i 2, aL ct 5 (wd (kn i))), (da i 3, .inr (1, [.ref (da i 4)])), (da i 4, aL ct 5 (wd (pe i)))]
def CW (ct : Nat → ClassId) (ad : Nat → Nat) (da : Nat → Nat → Nat) (nd : Nat) (nb : Nat) (nf : Nat) (bdk : Nat → Nat) (num : Nat → Nat) (spt : Nat → Nat) (val : Nat → Int64) (tim : Nat → Nat) (rep : Nat → Nat → Bool) (byN : Nat → Nat) (byS : Nat → Nat) (pk : Nat → Bool) (kn : Nat → Nat → Bool) (pe : Nat → Nat → Bool) (clk : Nat → Nat) (tol : Nat → Nat) (opn : Nat → Option Nat) : va_W := [(ad 0, .inr (0, [.ref (ad 1), .ref (ad 2), .ref (ad 3), .ref (ad 11), .int (nI nd), .int (nI nb)])), (ad 1, .inl (ct 2, 8, .inr (.inr (.inr (.inr (dkA da nd)))))), (ad 2, aI ct 40 bdk), (ad 3, .inr (2, [.ref (ad 4), .ref (ad 5), .ref (ad 6), .ref (ad 7), .ref (ad 8), .ref (ad 9), .ref (ad 10), .int (nI nf)])), (ad 4, aI ct 300 num), (ad 5, aI ct 300 spt), (ad 6, aL ct 300 val), (ad 7, aI ct 300 tim), (ad 8, aL ct 1500 (rpW rep)), (ad 9, aI ct 300 byN), (ad 10, aI ct 300 byS), (ad 11, .inr (1, [.ref (ad 12)])), (ad 12, aL ct 5 (wd pk))] ++ fl (dkC ct da kn pe clk tol opn) nd
section CWS
variable {ct : Nat → ClassId} {ad : Nat → Nat} {da : Nat → Nat → Nat} {nd : Nat} {nb : Nat} {nf : Nat} {bdk : Nat → Nat} {num : Nat → Nat} {spt : Nat → Nat} {val : Nat → Int64} {tim : Nat → Nat} {rep : Nat → Nat → Bool} {byN : Nat → Nat} {byS : Nat → Nat} {pk : Nat → Bool} {kn : Nat → Nat → Bool} {pe : Nat → Nat → Bool} {clk : Nat → Nat} {tol : Nat → Nat} {opn : Nat → Option Nat}
theorem cw_d0 {i : Nat} (h : i < nd) : (CW ct ad da nd nb nf bdk num spt val tim rep byN byS pk kn pe clk tol opn)[13 + (5 * i + 0)]? = some (da i 0, .inr (3, [.int (nI i), .ref (da i 1), .ref (da i 3), .int (nI (clk i)), .int (nI (tol i)), .int (oI (opn i))])) := by
  unfold CW
  rw [List.getElem?_append_right (by show 13 ≤ _; omega)]
  show (fl _ nd)[13 + (5 * i + 0) - 13]? = _
  rw [Nat.add_sub_cancel_left]
  exact fl_get (fun _ => rfl) nd i 0 h (by decide)
theorem cw_d1 {i : Nat} (h : i < nd) : (CW ct ad da nd nb nf bdk num spt val tim rep byN byS pk kn pe clk tol opn)[13 + (5 * i + 1)]? = some (da i 1, .inr (1, [.ref (da i 2)])) := by
  unfold CW
  rw [List.getElem?_append_right (by show 13 ≤ _; omega)]
  show (fl _ nd)[13 + (5 * i + 1) - 13]? = _
  rw [Nat.add_sub_cancel_left]
  exact fl_get (fun _ => rfl) nd i 1 h (by decide)
theorem cw_d2 {i : Nat} (h : i < nd) : (CW ct ad da nd nb nf bdk num spt val tim rep byN byS pk kn pe clk tol opn)[13 + (5 * i + 2)]? = some (da i 2, aL ct 5 (wd (kn i))) := by
  unfold CW
  rw [List.getElem?_append_right (by show 13 ≤ _; omega)]
  show (fl _ nd)[13 + (5 * i + 2) - 13]? = _
  rw [Nat.add_sub_cancel_left]
  exact fl_get (fun _ => rfl) nd i 2 h (by decide)
theorem cw_d3 {i : Nat} (h : i < nd) : (CW ct ad da nd nb nf bdk num spt val tim rep byN byS pk kn pe clk tol opn)[13 + (5 * i + 3)]? = some (da i 3, .inr (1, [.ref (da i 4)])) := by
  unfold CW
  rw [List.getElem?_append_right (by show 13 ≤ _; omega)]
  show (fl _ nd)[13 + (5 * i + 3) - 13]? = _
  rw [Nat.add_sub_cancel_left]
  exact fl_get (fun _ => rfl) nd i 3 h (by decide)
theorem cw_d4 {i : Nat} (h : i < nd) : (CW ct ad da nd nb nf bdk num spt val tim rep byN byS pk kn pe clk tol opn)[13 + (5 * i + 4)]? = some (da i 4, aL ct 5 (wd (pe i))) := by
  unfold CW
  rw [List.getElem?_append_right (by show 13 ≤ _; omega)]
  show (fl _ nd)[13 + (5 * i + 4) - 13]? = _
  rw [Nat.add_sub_cancel_left]
  exact fl_get (fun _ => rfl) nd i 4 h (by decide)
theorem cw_set_clk {i : Nat} {x : Nat} (h : i < nd) : (CW ct ad da nd nb nf bdk num spt val tim rep byN byS pk kn pe clk tol opn).set (13 + (5 * i + 0)) (da i 0, .inr (3, [.int (nI i), .ref (da i 1), .ref (da i 3), .int (nI x), .int (nI (tol i)), .int (oI (opn i))])) = CW ct ad da nd nb nf bdk num spt val tim rep byN byS pk kn pe (va_up clk i x) tol opn := by
  unfold CW
  rw [List.set_append_right _ _ (by show 13 ≤ _; omega)]
  show _ ++ (fl _ nd).set (13 + (5 * i + 0) - 13) _ = _
  rw [Nat.add_sub_cancel_left, fl_set (fun _ => rfl) (by decide : 0 < 5) (g := dkC ct da kn pe (va_up clk i x) tol opn) (fun k hk => by simp only [dkC, va_up_ne _ _ hk]) (by first | (simp only [dkC, va_up_self]; done) | (simp only [dkC, va_up_self]; rfl)) nd h]
theorem cw_set_tol {i : Nat} {x : Nat} (h : i < nd) : (CW ct ad da nd nb nf bdk num spt val tim rep byN byS pk kn pe clk tol opn).set (13 + (5 * i + 0)) (da i 0, .inr (3, [.int (nI i), .ref (da i 1), .ref (da i 3), .int (nI (clk i)), .int (nI x), .int (oI (opn i))])) = CW ct ad da nd nb nf bdk num spt val tim rep byN byS pk kn pe clk (va_up tol i x) opn := by
  unfold CW
  rw [List.set_append_right _ _ (by show 13 ≤ _; omega)]
  show _ ++ (fl _ nd).set (13 + (5 * i + 0) - 13) _ = _
  rw [Nat.add_sub_cancel_left, fl_set (fun _ => rfl) (by decide : 0 < 5) (g := dkC ct da kn pe clk (va_up tol i x) opn) (fun k hk => by simp only [dkC, va_up_ne _ _ hk]) (by first | (simp only [dkC, va_up_self]; done) | (simp only [dkC, va_up_self]; rfl)) nd h]
theorem cw_set_opn {i : Nat} {x : Option Nat} (h : i < nd) : (CW ct ad da nd nb nf bdk num spt val tim rep byN byS pk kn pe clk tol opn).set (13 + (5 * i + 0)) (da i 0, .inr (3, [.int (nI i), .ref (da i 1), .ref (da i 3), .int (nI (clk i)), .int (nI (tol i)), .int (oI x)])) = CW ct ad da nd nb nf bdk num spt val tim rep byN byS pk kn pe clk tol (va_up opn i x) := by
  unfold CW
  rw [List.set_append_right _ _ (by show 13 ≤ _; omega)]
  show _ ++ (fl _ nd).set (13 + (5 * i + 0) - 13) _ = _
  rw [Nat.add_sub_cancel_left, fl_set (fun _ => rfl) (by decide : 0 < 5) (g := dkC ct da kn pe clk tol (va_up opn i x)) (fun k hk => by simp only [dkC, va_up_ne _ _ hk]) (by first | (simp only [dkC, va_up_self]; done) | (simp only [dkC, va_up_self]; rfl)) nd h]
theorem cw_set_kn {i : Nat} {x : Nat → Bool} (h : i < nd) : (CW ct ad da nd nb nf bdk num spt val tim rep byN byS pk kn pe clk tol opn).set (13 + (5 * i + 2)) (da i 2, aL ct 5 (wd x)) = CW ct ad da nd nb nf bdk num spt val tim rep byN byS pk (va_up kn i x) pe clk tol opn := by
  unfold CW
  rw [List.set_append_right _ _ (by show 13 ≤ _; omega)]
  show _ ++ (fl _ nd).set (13 + (5 * i + 2) - 13) _ = _
  rw [Nat.add_sub_cancel_left, fl_set (fun _ => rfl) (by decide : 2 < 5) (g := dkC ct da (va_up kn i x) pe clk tol opn) (fun k hk => by simp only [dkC, va_up_ne _ _ hk]) (by first | (simp only [dkC, va_up_self]; done) | (simp only [dkC, va_up_self]; rfl)) nd h]
theorem cw_set_pe {i : Nat} {x : Nat → Bool} (h : i < nd) : (CW ct ad da nd nb nf bdk num spt val tim rep byN byS pk kn pe clk tol opn).set (13 + (5 * i + 4)) (da i 4, aL ct 5 (wd x)) = CW ct ad da nd nb nf bdk num spt val tim rep byN byS pk kn (va_up pe i x) clk tol opn := by
  unfold CW
  rw [List.set_append_right _ _ (by show 13 ≤ _; omega)]
  show _ ++ (fl _ nd).set (13 + (5 * i + 4) - 13) _ = _
  rw [Nat.add_sub_cancel_left, fl_set (fun _ => rfl) (by decide : 4 < 5) (g := dkC ct da kn (va_up pe i x) clk tol opn) (fun k hk => by simp only [dkC, va_up_ne _ _ hk]) (by first | (simp only [dkC, va_up_self]; done) | (simp only [dkC, va_up_self]; rfl)) nd h]
theorem cw_set_nb {x : Nat} : (CW ct ad da nd nb nf bdk num spt val tim rep byN byS pk kn pe clk tol opn).set 0 (ad 0, .inr (0, [.ref (ad 1), .ref (ad 2), .ref (ad 3), .ref (ad 11), .int (nI nd), .int (nI x)])) = CW ct ad da nd x nf bdk num spt val tim rep byN byS pk kn pe clk tol opn := rfl
theorem cw_set_nf {x : Nat} : (CW ct ad da nd nb nf bdk num spt val tim rep byN byS pk kn pe clk tol opn).set 3 (ad 3, .inr (2, [.ref (ad 4), .ref (ad 5), .ref (ad 6), .ref (ad 7), .ref (ad 8), .ref (ad 9), .ref (ad 10), .int (nI x)])) = CW ct ad da nd nb x bdk num spt val tim rep byN byS pk kn pe clk tol opn := rfl
theorem cw_set_bdk {x : Nat → Nat} : (CW ct ad da nd nb nf bdk num spt val tim rep byN byS pk kn pe clk tol opn).set 2 (ad 2, aI ct 40 x) = CW ct ad da nd nb nf x num spt val tim rep byN byS pk kn pe clk tol opn := rfl
theorem cw_set_num {x : Nat → Nat} : (CW ct ad da nd nb nf bdk num spt val tim rep byN byS pk kn pe clk tol opn).set 4 (ad 4, aI ct 300 x) = CW ct ad da nd nb nf bdk x spt val tim rep byN byS pk kn pe clk tol opn := rfl
theorem cw_set_spt {x : Nat → Nat} : (CW ct ad da nd nb nf bdk num spt val tim rep byN byS pk kn pe clk tol opn).set 5 (ad 5, aI ct 300 x) = CW ct ad da nd nb nf bdk num x val tim rep byN byS pk kn pe clk tol opn := rfl
theorem cw_set_tim {x : Nat → Nat} : (CW ct ad da nd nb nf bdk num spt val tim rep byN byS pk kn pe clk tol opn).set 7 (ad 7, aI ct 300 x) = CW ct ad da nd nb nf bdk num spt val x rep byN byS pk kn pe clk tol opn := rfl
theorem cw_set_byN {x : Nat → Nat} : (CW ct ad da nd nb nf bdk num spt val tim rep byN byS pk kn pe clk tol opn).set 9 (ad 9, aI ct 300 x) = CW ct ad da nd nb nf bdk num spt val tim rep x byS pk kn pe clk tol opn := rfl
theorem cw_set_byS {x : Nat → Nat} : (CW ct ad da nd nb nf bdk num spt val tim rep byN byS pk kn pe clk tol opn).set 10 (ad 10, aI ct 300 x) = CW ct ad da nd nb nf bdk num spt val tim rep byN x pk kn pe clk tol opn := rfl
theorem cw_set_val {x : Nat → Int64} : (CW ct ad da nd nb nf bdk num spt val tim rep byN byS pk kn pe clk tol opn).set 6 (ad 6, aL ct 300 x) = CW ct ad da nd nb nf bdk num spt x tim rep byN byS pk kn pe clk tol opn := rfl
theorem cw_set_rep {x : Nat → Nat → Bool} : (CW ct ad da nd nb nf bdk num spt val tim rep byN byS pk kn pe clk tol opn).set 8 (ad 8, aL ct 1500 (rpW x)) = CW ct ad da nd nb nf bdk num spt val tim x byN byS pk kn pe clk tol opn := rfl
theorem cw_set_pk {x : Nat → Bool} : (CW ct ad da nd nb nf bdk num spt val tim rep byN byS pk kn pe clk tol opn).set 12 (ad 12, aL ct 5 (wd x)) = CW ct ad da nd nb nf bdk num spt val tim rep byN byS x kn pe clk tol opn := rfl
def fsP : Option (Nat × Bool) → Nat
  | none => 11
  | some (i, false) => 13 + (5 * i + 1)
  | some (i, true) => 13 + (5 * i + 3)
def fsX : Option (Nat × Bool) → Nat
  | none => 12
  | some (i, false) => 13 + (5 * i + 2)
  | some (i, true) => 13 + (5 * i + 4)
def fsO (ad : Nat → Nat) (da : Nat → Nat → Nat) : Option (Nat × Bool) → Nat
  | none => ad 11
  | some (i, false) => da i 1
  | some (i, true) => da i 3
def fsW (ad : Nat → Nat) (da : Nat → Nat → Nat) : Option (Nat × Bool) → Nat
  | none => ad 12
  | some (i, false) => da i 2
  | some (i, true) => da i 4
def fsS (pk : Nat → Bool) (kn pe : Nat → Nat → Bool) : Option (Nat × Bool) → Nat → Bool
  | none => pk
  | some (i, false) => kn i
  | some (i, true) => pe i
def fsOk (nd : Nat) : Option (Nat × Bool) → Prop
  | none => True
  | some (i, _) => i < nd
def fsPk (q : Option (Nat × Bool)) (S pk : Nat → Bool) : Nat → Bool := match q with
  | none => S
  | _ => pk
def fsKn (q : Option (Nat × Bool)) (S : Nat → Bool) (kn : Nat → Nat → Bool) : Nat → Nat → Bool := match q with
  | some (i, false) => va_up kn i S
  | _ => kn
def fsPe (q : Option (Nat × Bool)) (S : Nat → Bool) (pe : Nat → Nat → Bool) : Nat → Nat → Bool := match q with
  | some (i, true) => va_up pe i S
  | _ => pe
theorem cw_fs {q : Option (Nat × Bool)} (h : fsOk nd q) : (CW ct ad da nd nb nf bdk num spt val tim rep byN byS pk kn pe clk tol opn)[fsP q]? = some (fsO ad da q, .inr (1, [.ref (fsW ad da q)])) := by
  match q, h with
  | none, _ => rfl
  | some (i, false), h => exact cw_d1 h
  | some (i, true), h => exact cw_d3 h
theorem cw_fw {q : Option (Nat × Bool)} (h : fsOk nd q) : (CW ct ad da nd nb nf bdk num spt val tim rep byN byS pk kn pe clk tol opn)[fsX q]? = some (fsW ad da q, aL ct 5 (wd (fsS pk kn pe q))) := by
  match q, h with
  | none, _ => rfl
  | some (i, false), h => exact cw_d2 h
  | some (i, true), h => exact cw_d4 h
theorem cw_set_fw {q : Option (Nat × Bool)} {S : Nat → Bool} (h : fsOk nd q) : (CW ct ad da nd nb nf bdk num spt val tim rep byN byS pk kn pe clk tol opn).set (fsX q) (fsW ad da q, aL ct 5 (wd S)) = CW ct ad da nd nb nf bdk num spt val tim rep byN byS (fsPk q S pk) (fsKn q S kn) (fsPe q S pe) clk tol opn := by
  match q, h with
  | none, _ => rfl
  | some (i, false), h => exact cw_set_kn h
  | some (i, true), h => exact cw_set_pe h
end CWS
theorem fsS_up {q : Option (Nat × Bool)} {S pk : Nat → Bool} {kn pe : Nat → Nat → Bool} : fsS (fsPk q S pk) (fsKn q S kn) (fsPe q S pe) q = S := by
  match q with
  | none => rfl
  | some (i, false) => exact va_up_self kn i S
  | some (i, true) => exact va_up_self pe i S
theorem fs_up2 {q : Option (Nat × Bool)} {S S2 pk : Nat → Bool} {kn pe : Nat → Nat → Bool} : fsPk q S2 (fsPk q S pk) = fsPk q S2 pk ∧ fsKn q S2 (fsKn q S kn) = fsKn q S2 kn ∧ fsPe q S2 (fsPe q S pe) = fsPe q S2 pe := by
  match q with
  | none => exact ⟨rfl, rfl, rfl⟩
  | some (i, false) => exact ⟨rfl, bx_uu kn i S S2, rfl⟩
  | some (i, true) => exact ⟨rfl, rfl, bx_uu pe i S S2⟩
theorem va_up_id {α : Type} (f : Nat → α) (k : Nat) : va_up f k (f k) = f := by
  funext j
  by_cases h : j = k
  · subst h; exact va_up_self f j (f j)
  · exact va_up_ne f _ h
theorem fs_id {q : Option (Nat × Bool)} {pk : Nat → Bool} {kn pe : Nat → Nat → Bool} : fsPk q (fsS pk kn pe q) pk = pk ∧ fsKn q (fsS pk kn pe q) kn = kn ∧ fsPe q (fsS pk kn pe q) pe = pe := by
  match q with
  | none => exact ⟨rfl, rfl, rfl⟩
  | some (i, false) => exact ⟨rfl, va_up_id kn i, rfl⟩
  | some (i, true) => exact ⟨rfl, rfl, va_up_id pe i⟩
theorem fsS_ne {q r : Option (Nat × Bool)} {S pk : Nat → Bool} {kn pe : Nat → Nat → Bool} (h : r ≠ q) : fsS (fsPk q S pk) (fsKn q S kn) (fsPe q S pe) r = fsS pk kn pe r := by
  match q, r, h with
  | none, none, h => exact absurd rfl h
  | none, some (i, false), _ => rfl
  | none, some (i, true), _ => rfl
  | some (i, false), none, _ => rfl
  | some (i, true), none, _ => rfl
  | some (i, false), some (j, true), _ => rfl
  | some (i, true), some (j, false), _ => rfl
  | some (i, false), some (j, false), h => exact va_up_ne kn S (fun e => h (by rw [e]))
  | some (i, true), some (j, true), h => exact va_up_ne pe S (fun e => h (by rw [e]))
end
