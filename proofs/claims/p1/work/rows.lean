section
-- ===== PART A: goes FIRST, ahead of the names: the tables' words, and 'selects' of the private methods out of them =====
/-- a private method of a class that the tables say can be made, by its rows of tables_1 -/
def lw_okq (q : MethodName × Nat) : Prop := (q.1.cls ≠ "java/lang/invoke/MethodHandle" ∧ q.1.cls ≠ "java/lang/invoke/VarHandle") ∧ Cond.instantiable q.1.cls q.2 ∈ tables_1 ∧ Cond.privateMethod q.1 ∈ tables_1 ∧ Cond.instanceMethod q.1 ∈ tables_1
theorem lw_p0 : lw_okq (⟨"HandsReturned", "houseAt", "(I)LHandsReturned$House;"⟩, 12) := ⟨⟨by decide +kernel, by decide +kernel⟩, List.mem_of_getElem? (i := 17) (by decide +kernel), List.mem_of_getElem? (i := 312) (by decide +kernel), List.mem_of_getElem? (i := 313) (by decide +kernel)⟩
theorem lw_p1 : lw_okq (⟨"HandsReturned$Tape", "append", "(I)V"⟩, 2) := ⟨⟨by decide +kernel, by decide +kernel⟩, List.mem_of_getElem? (i := 99) (by decide +kernel), List.mem_of_getElem? (i := 327) (by decide +kernel), List.mem_of_getElem? (i := 328) (by decide +kernel)⟩
theorem lw_p2 : lw_okq (⟨"HandsReturned$Custom", "read", "(LHandsReturned$Tape;)I"⟩, 8) := ⟨⟨by decide +kernel, by decide +kernel⟩, List.mem_of_getElem? (i := 115) (by decide +kernel), List.mem_of_getElem? (i := 339) (by decide +kernel), List.mem_of_getElem? (i := 340) (by decide +kernel)⟩
theorem lw_p3 : lw_okq (⟨"HandsReturned$Tape", "at", "(I)I"⟩, 2) := ⟨⟨by decide +kernel, by decide +kernel⟩, List.mem_of_getElem? (i := 99) (by decide +kernel), List.mem_of_getElem? (i := 346) (by decide +kernel), List.mem_of_getElem? (i := 347) (by decide +kernel)⟩
theorem lw_p4 : lw_okq (⟨"HandsReturned$Custom", "takeToken", "(LHandsReturned$Tape;I)I"⟩, 8) := ⟨⟨by decide +kernel, by decide +kernel⟩, List.mem_of_getElem? (i := 115) (by decide +kernel), List.mem_of_getElem? (i := 353) (by decide +kernel), List.mem_of_getElem? (i := 354) (by decide +kernel)⟩
theorem lw_p5 : lw_okq (⟨"HandsReturned$Custom", "takeWord", "(LHandsReturned$Tape;I)I"⟩, 8) := ⟨⟨by decide +kernel, by decide +kernel⟩, List.mem_of_getElem? (i := 115) (by decide +kernel), List.mem_of_getElem? (i := 357) (by decide +kernel), List.mem_of_getElem? (i := 358) (by decide +kernel)⟩
theorem lw_p6 : lw_okq (⟨"HandsReturned$Custom", "takeNumber", "(LHandsReturned$Tape;I)I"⟩, 8) := ⟨⟨by decide +kernel, by decide +kernel⟩, List.mem_of_getElem? (i := 115) (by decide +kernel), List.mem_of_getElem? (i := 425) (by decide +kernel), List.mem_of_getElem? (i := 426) (by decide +kernel)⟩
theorem lw_p7 : lw_okq (⟨"HandsReturned$Custom", "note", "(II)V"⟩, 8) := ⟨⟨by decide +kernel, by decide +kernel⟩, List.mem_of_getElem? (i := 115) (by decide +kernel), List.mem_of_getElem? (i := 440) (by decide +kernel), List.mem_of_getElem? (i := 441) (by decide +kernel)⟩
theorem lw_p8 : lw_okq (⟨"HandsReturned", "fieldAt", "(I)LHandsReturned$Field;"⟩, 12) := ⟨⟨by decide +kernel, by decide +kernel⟩, List.mem_of_getElem? (i := 17) (by decide +kernel), List.mem_of_getElem? (i := 461) (by decide +kernel), List.mem_of_getElem? (i := 462) (by decide +kernel)⟩
theorem lw_p9 : lw_okq (⟨"HandsReturned$Field", "takes", "(II)Z"⟩, 7) := ⟨⟨by decide +kernel, by decide +kernel⟩, List.mem_of_getElem? (i := 64) (by decide +kernel), List.mem_of_getElem? (i := 465) (by decide +kernel), List.mem_of_getElem? (i := 466) (by decide +kernel)⟩
theorem lw_p10 : lw_okq (⟨"HandsReturned$House", "freeHands", "()I"⟩, 9) := ⟨⟨by decide +kernel, by decide +kernel⟩, List.mem_of_getElem? (i := 26) (by decide +kernel), List.mem_of_getElem? (i := 469) (by decide +kernel), List.mem_of_getElem? (i := 470) (by decide +kernel)⟩
theorem lw_p11 : lw_okq (⟨"HandsReturned", "oweForWork", "(ILHandsReturned$Field;I)V"⟩, 12) := ⟨⟨by decide +kernel, by decide +kernel⟩, List.mem_of_getElem? (i := 17) (by decide +kernel), List.mem_of_getElem? (i := 473) (by decide +kernel), List.mem_of_getElem? (i := 474) (by decide +kernel)⟩
theorem lw_p12 : lw_okq (⟨"HandsReturned$Debts", "lessen", "(III)I"⟩, 5) := ⟨⟨by decide +kernel, by decide +kernel⟩, List.mem_of_getElem? (i := 154) (by decide +kernel), List.mem_of_getElem? (i := 477) (by decide +kernel), List.mem_of_getElem? (i := 478) (by decide +kernel)⟩
theorem lw_p13 : lw_okq (⟨"HandsReturned$Debts", "isOf", "(III)Z"⟩, 5) := ⟨⟨by decide +kernel, by decide +kernel⟩, List.mem_of_getElem? (i := 154) (by decide +kernel), List.mem_of_getElem? (i := 481) (by decide +kernel), List.mem_of_getElem? (i := 482) (by decide +kernel)⟩
theorem lw_p14 : lw_okq (⟨"HandsReturned$Debts", "dropEmpty", "()V"⟩, 5) := ⟨⟨by decide +kernel, by decide +kernel⟩, List.mem_of_getElem? (i := 154) (by decide +kernel), List.mem_of_getElem? (i := 486) (by decide +kernel), List.mem_of_getElem? (i := 487) (by decide +kernel)⟩
theorem lw_p15 : lw_okq (⟨"HandsReturned$Debts", "put", "(IIII)V"⟩, 5) := ⟨⟨by decide +kernel, by decide +kernel⟩, List.mem_of_getElem? (i := 154) (by decide +kernel), List.mem_of_getElem? (i := 490) (by decide +kernel), List.mem_of_getElem? (i := 491) (by decide +kernel)⟩
def lw_privs_1 : List (MethodName × Nat) := [(⟨"HandsReturned", "houseAt", "(I)LHandsReturned$House;"⟩, 12), (⟨"HandsReturned$Tape", "append", "(I)V"⟩, 2), (⟨"HandsReturned$Custom", "read", "(LHandsReturned$Tape;)I"⟩, 8), (⟨"HandsReturned$Tape", "at", "(I)I"⟩, 2), (⟨"HandsReturned$Custom", "takeToken", "(LHandsReturned$Tape;I)I"⟩, 8), (⟨"HandsReturned$Custom", "takeWord", "(LHandsReturned$Tape;I)I"⟩, 8), (⟨"HandsReturned$Custom", "takeNumber", "(LHandsReturned$Tape;I)I"⟩, 8), (⟨"HandsReturned$Custom", "note", "(II)V"⟩, 8), (⟨"HandsReturned", "fieldAt", "(I)LHandsReturned$Field;"⟩, 12), (⟨"HandsReturned$Field", "takes", "(II)Z"⟩, 7), (⟨"HandsReturned$House", "freeHands", "()I"⟩, 9), (⟨"HandsReturned", "oweForWork", "(ILHandsReturned$Field;I)V"⟩, 12), (⟨"HandsReturned$Debts", "lessen", "(III)I"⟩, 5), (⟨"HandsReturned$Debts", "isOf", "(III)Z"⟩, 5), (⟨"HandsReturned$Debts", "dropEmpty", "()V"⟩, 5), (⟨"HandsReturned$Debts", "put", "(IIII)V"⟩, 5)]
theorem lw_r1 : ∀ q ∈ lw_privs_1, lw_okq q := List.forall_mem_cons.mpr ⟨lw_p0, List.forall_mem_cons.mpr ⟨lw_p1, List.forall_mem_cons.mpr ⟨lw_p2, List.forall_mem_cons.mpr ⟨lw_p3, List.forall_mem_cons.mpr ⟨lw_p4, List.forall_mem_cons.mpr ⟨lw_p5, List.forall_mem_cons.mpr ⟨lw_p6, List.forall_mem_cons.mpr ⟨lw_p7, List.forall_mem_cons.mpr ⟨lw_p8, List.forall_mem_cons.mpr ⟨lw_p9, List.forall_mem_cons.mpr ⟨lw_p10, List.forall_mem_cons.mpr ⟨lw_p11, List.forall_mem_cons.mpr ⟨lw_p12, List.forall_mem_cons.mpr ⟨lw_p13, List.forall_mem_cons.mpr ⟨lw_p14, List.forall_mem_cons.mpr ⟨lw_p15, fun _ h => absurd h List.not_mem_nil⟩⟩⟩⟩⟩⟩⟩⟩⟩⟩⟩⟩⟩⟩⟩⟩
theorem lw_p16 : lw_okq (⟨"HandsReturned", "workDone", "(LHandsReturned$Field;I)I"⟩, 12) := ⟨⟨by decide +kernel, by decide +kernel⟩, List.mem_of_getElem? (i := 17) (by decide +kernel), List.mem_of_getElem? (i := 494) (by decide +kernel), List.mem_of_getElem? (i := 495) (by decide +kernel)⟩
theorem lw_p17 : lw_okq (⟨"HandsReturned", "nextDay", "()V"⟩, 12) := ⟨⟨by decide +kernel, by decide +kernel⟩, List.mem_of_getElem? (i := 17) (by decide +kernel), List.mem_of_getElem? (i := 513) (by decide +kernel), List.mem_of_getElem? (i := 514) (by decide +kernel)⟩
theorem lw_p18 : lw_okq (⟨"HandsReturned", "lapseDebts", "()V"⟩, 12) := ⟨⟨by decide +kernel, by decide +kernel⟩, List.mem_of_getElem? (i := 17) (by decide +kernel), List.mem_of_getElem? (i := 517) (by decide +kernel), List.mem_of_getElem? (i := 518) (by decide +kernel)⟩
theorem lw_p19 : lw_okq (⟨"HandsReturned$Debts", "net", "(I)I"⟩, 5) := ⟨⟨by decide +kernel, by decide +kernel⟩, List.mem_of_getElem? (i := 154) (by decide +kernel), List.mem_of_getElem? (i := 527) (by decide +kernel), List.mem_of_getElem? (i := 528) (by decide +kernel)⟩
theorem lw_p20 : lw_okq (⟨"HandsReturned", "areTwoHouses", "(II)Z"⟩, 12) := ⟨⟨by decide +kernel, by decide +kernel⟩, List.mem_of_getElem? (i := 17) (by decide +kernel), List.mem_of_getElem? (i := 539) (by decide +kernel), List.mem_of_getElem? (i := 540) (by decide +kernel)⟩
theorem lw_p21 : lw_okq (⟨"HandsReturned$Debts", "unitsOwed", "(II)I"⟩, 5) := ⟨⟨by decide +kernel, by decide +kernel⟩, List.mem_of_getElem? (i := 154) (by decide +kernel), List.mem_of_getElem? (i := 543) (by decide +kernel), List.mem_of_getElem? (i := 544) (by decide +kernel)⟩
theorem lw_p22 : lw_okq (⟨"HandsReturned$Debts", "firstDay", "(II)I"⟩, 5) := ⟨⟨by decide +kernel, by decide +kernel⟩, List.mem_of_getElem? (i := 154) (by decide +kernel), List.mem_of_getElem? (i := 551) (by decide +kernel), List.mem_of_getElem? (i := 552) (by decide +kernel)⟩
theorem lw_p23 : lw_okq (⟨"HandsReturned$Evening", "tellFor", "(LHandsReturned$Debts;)V"⟩, 9) := ⟨⟨by decide +kernel, by decide +kernel⟩, List.mem_of_getElem? (i := 184) (by decide +kernel), List.mem_of_getElem? (i := 559) (by decide +kernel), List.mem_of_getElem? (i := 560) (by decide +kernel)⟩
theorem lw_p24 : lw_okq (⟨"HandsReturned$Evening", "takeNets", "(LHandsReturned$Debts;)Z"⟩, 9) := ⟨⟨by decide +kernel, by decide +kernel⟩, List.mem_of_getElem? (i := 184) (by decide +kernel), List.mem_of_getElem? (i := 563) (by decide +kernel), List.mem_of_getElem? (i := 564) (by decide +kernel)⟩
theorem lw_p25 : lw_okq (⟨"HandsReturned$Evening", "tell", "()V"⟩, 9) := ⟨⟨by decide +kernel, by decide +kernel⟩, List.mem_of_getElem? (i := 184) (by decide +kernel), List.mem_of_getElem? (i := 568) (by decide +kernel), List.mem_of_getElem? (i := 569) (by decide +kernel)⟩
theorem lw_p26 : lw_okq (⟨"HandsReturned$Evening", "countGroups", "()V"⟩, 9) := ⟨⟨by decide +kernel, by decide +kernel⟩, List.mem_of_getElem? (i := 184) (by decide +kernel), List.mem_of_getElem? (i := 572) (by decide +kernel), List.mem_of_getElem? (i := 573) (by decide +kernel)⟩
theorem lw_p27 : lw_okq (⟨"HandsReturned$Evening", "leastGroup", "(I)I"⟩, 9) := ⟨⟨by decide +kernel, by decide +kernel⟩, List.mem_of_getElem? (i := 184) (by decide +kernel), List.mem_of_getElem? (i := 577) (by decide +kernel), List.mem_of_getElem? (i := 578) (by decide +kernel)⟩
theorem lw_p28 : lw_okq (⟨"HandsReturned$Evening", "payWithin", "(I)V"⟩, 9) := ⟨⟨by decide +kernel, by decide +kernel⟩, List.mem_of_getElem? (i := 184) (by decide +kernel), List.mem_of_getElem? (i := 581) (by decide +kernel), List.mem_of_getElem? (i := 582) (by decide +kernel)⟩
theorem lw_p29 : lw_okq (⟨"HandsReturned$Evening", "leastInGroup", "(II)I"⟩, 9) := ⟨⟨by decide +kernel, by decide +kernel⟩, List.mem_of_getElem? (i := 184) (by decide +kernel), List.mem_of_getElem? (i := 585) (by decide +kernel), List.mem_of_getElem? (i := 586) (by decide +kernel)⟩
theorem lw_p30 : lw_okq (⟨"HandsReturned", "waitingFields", "()I"⟩, 12) := ⟨⟨by decide +kernel, by decide +kernel⟩, List.mem_of_getElem? (i := 17) (by decide +kernel), List.mem_of_getElem? (i := 602) (by decide +kernel), List.mem_of_getElem? (i := 603) (by decide +kernel)⟩
theorem lw_p31 : lw_okq (⟨"HandsReturned$Plan", "begin", "(II)V"⟩, 12) := ⟨⟨by decide +kernel, by decide +kernel⟩, List.mem_of_getElem? (i := 222) (by decide +kernel), List.mem_of_getElem? (i := 606) (by decide +kernel), List.mem_of_getElem? (i := 607) (by decide +kernel)⟩
def lw_privs_2 : List (MethodName × Nat) := [(⟨"HandsReturned", "workDone", "(LHandsReturned$Field;I)I"⟩, 12), (⟨"HandsReturned", "nextDay", "()V"⟩, 12), (⟨"HandsReturned", "lapseDebts", "()V"⟩, 12), (⟨"HandsReturned$Debts", "net", "(I)I"⟩, 5), (⟨"HandsReturned", "areTwoHouses", "(II)Z"⟩, 12), (⟨"HandsReturned$Debts", "unitsOwed", "(II)I"⟩, 5), (⟨"HandsReturned$Debts", "firstDay", "(II)I"⟩, 5), (⟨"HandsReturned$Evening", "tellFor", "(LHandsReturned$Debts;)V"⟩, 9), (⟨"HandsReturned$Evening", "takeNets", "(LHandsReturned$Debts;)Z"⟩, 9), (⟨"HandsReturned$Evening", "tell", "()V"⟩, 9), (⟨"HandsReturned$Evening", "countGroups", "()V"⟩, 9), (⟨"HandsReturned$Evening", "leastGroup", "(I)I"⟩, 9), (⟨"HandsReturned$Evening", "payWithin", "(I)V"⟩, 9), (⟨"HandsReturned$Evening", "leastInGroup", "(II)I"⟩, 9), (⟨"HandsReturned", "waitingFields", "()I"⟩, 12), (⟨"HandsReturned$Plan", "begin", "(II)V"⟩, 12)]
theorem lw_r2 : ∀ q ∈ lw_privs_2, lw_okq q := List.forall_mem_cons.mpr ⟨lw_p16, List.forall_mem_cons.mpr ⟨lw_p17, List.forall_mem_cons.mpr ⟨lw_p18, List.forall_mem_cons.mpr ⟨lw_p19, List.forall_mem_cons.mpr ⟨lw_p20, List.forall_mem_cons.mpr ⟨lw_p21, List.forall_mem_cons.mpr ⟨lw_p22, List.forall_mem_cons.mpr ⟨lw_p23, List.forall_mem_cons.mpr ⟨lw_p24, List.forall_mem_cons.mpr ⟨lw_p25, List.forall_mem_cons.mpr ⟨lw_p26, List.forall_mem_cons.mpr ⟨lw_p27, List.forall_mem_cons.mpr ⟨lw_p28, List.forall_mem_cons.mpr ⟨lw_p29, List.forall_mem_cons.mpr ⟨lw_p30, List.forall_mem_cons.mpr ⟨lw_p31, fun _ h => absurd h List.not_mem_nil⟩⟩⟩⟩⟩⟩⟩⟩⟩⟩⟩⟩⟩⟩⟩⟩
theorem lw_p32 : lw_okq (⟨"HandsReturned$Plan", "take", "(ILHandsReturned$Field;)V"⟩, 12) := ⟨⟨by decide +kernel, by decide +kernel⟩, List.mem_of_getElem? (i := 222) (by decide +kernel), List.mem_of_getElem? (i := 611) (by decide +kernel), List.mem_of_getElem? (i := 612) (by decide +kernel)⟩
theorem lw_p33 : lw_okq (⟨"HandsReturned$Plan", "move", "(II)V"⟩, 12) := ⟨⟨by decide +kernel, by decide +kernel⟩, List.mem_of_getElem? (i := 222) (by decide +kernel), List.mem_of_getElem? (i := 615) (by decide +kernel), List.mem_of_getElem? (i := 616) (by decide +kernel)⟩
theorem lw_p34 : lw_okq (⟨"HandsReturned$Plan", "choose", "([I)I"⟩, 12) := ⟨⟨by decide +kernel, by decide +kernel⟩, List.mem_of_getElem? (i := 222) (by decide +kernel), List.mem_of_getElem? (i := 619) (by decide +kernel), List.mem_of_getElem? (i := 620) (by decide +kernel)⟩
theorem lw_p35 : lw_okq (⟨"HandsReturned$Plan", "chooseNext", "(I[I)V"⟩, 12) := ⟨⟨by decide +kernel, by decide +kernel⟩, List.mem_of_getElem? (i := 222) (by decide +kernel), List.mem_of_getElem? (i := 623) (by decide +kernel), List.mem_of_getElem? (i := 624) (by decide +kernel)⟩
theorem lw_p36 : lw_okq (⟨"HandsReturned$Plan", "dayDone", "(II)I"⟩, 12) := ⟨⟨by decide +kernel, by decide +kernel⟩, List.mem_of_getElem? (i := 222) (by decide +kernel), List.mem_of_getElem? (i := 627) (by decide +kernel), List.mem_of_getElem? (i := 628) (by decide +kernel)⟩
theorem lw_p37 : lw_okq (⟨"HandsReturnedModel", "isHouse", "(I)Z"⟩, 49) := ⟨⟨by decide +kernel, by decide +kernel⟩, List.mem_of_getElem? (i := 640) (by decide +kernel), List.mem_of_getElem? (i := 807) (by decide +kernel), List.mem_of_getElem? (i := 808) (by decide +kernel)⟩
theorem lw_p38 : lw_okq (⟨"HandsReturnedModel", "put", "(I)V"⟩, 49) := ⟨⟨by decide +kernel, by decide +kernel⟩, List.mem_of_getElem? (i := 640) (by decide +kernel), List.mem_of_getElem? (i := 824) (by decide +kernel), List.mem_of_getElem? (i := 825) (by decide +kernel)⟩
theorem lw_p39 : lw_okq (⟨"HandsReturnedModel", "next", "(I)V"⟩, 49) := ⟨⟨by decide +kernel, by decide +kernel⟩, List.mem_of_getElem? (i := 640) (by decide +kernel), List.mem_of_getElem? (i := 836) (by decide +kernel), List.mem_of_getElem? (i := 837) (by decide +kernel)⟩
theorem lw_p40 : lw_okq (⟨"HandsReturnedModel", "clause", "(I)V"⟩, 49) := ⟨⟨by decide +kernel, by decide +kernel⟩, List.mem_of_getElem? (i := 640) (by decide +kernel), List.mem_of_getElem? (i := 861) (by decide +kernel), List.mem_of_getElem? (i := 862) (by decide +kernel)⟩
theorem lw_p41 : lw_okq (⟨"HandsReturnedModel", "fails", "(I)V"⟩, 49) := ⟨⟨by decide +kernel, by decide +kernel⟩, List.mem_of_getElem? (i := 640) (by decide +kernel), List.mem_of_getElem? (i := 865) (by decide +kernel), List.mem_of_getElem? (i := 866) (by decide +kernel)⟩
theorem lw_p42 : lw_okq (⟨"HandsReturnedModel", "canWork", "(II)Z"⟩, 49) := ⟨⟨by decide +kernel, by decide +kernel⟩, List.mem_of_getElem? (i := 640) (by decide +kernel), List.mem_of_getElem? (i := 892) (by decide +kernel), List.mem_of_getElem? (i := 893) (by decide +kernel)⟩
theorem lw_p43 : lw_okq (⟨"HandsReturnedModel", "isField", "(I)Z"⟩, 49) := ⟨⟨by decide +kernel, by decide +kernel⟩, List.mem_of_getElem? (i := 640) (by decide +kernel), List.mem_of_getElem? (i := 896) (by decide +kernel), List.mem_of_getElem? (i := 897) (by decide +kernel)⟩
theorem lw_p44 : lw_okq (⟨"HandsReturnedModel", "free", "(I)I"⟩, 49) := ⟨⟨by decide +kernel, by decide +kernel⟩, List.mem_of_getElem? (i := 640) (by decide +kernel), List.mem_of_getElem? (i := 900) (by decide +kernel), List.mem_of_getElem? (i := 901) (by decide +kernel)⟩
theorem lw_p45 : lw_okq (⟨"HandsReturnedModel", "lessens", "(III)V"⟩, 49) := ⟨⟨by decide +kernel, by decide +kernel⟩, List.mem_of_getElem? (i := 640) (by decide +kernel), List.mem_of_getElem? (i := 904) (by decide +kernel), List.mem_of_getElem? (i := 905) (by decide +kernel)⟩
theorem lw_p46 : lw_okq (⟨"HandsReturnedModel", "drops", "()V"⟩, 49) := ⟨⟨by decide +kernel, by decide +kernel⟩, List.mem_of_getElem? (i := 640) (by decide +kernel), List.mem_of_getElem? (i := 908) (by decide +kernel), List.mem_of_getElem? (i := 909) (by decide +kernel)⟩
theorem lw_p47 : lw_okq (⟨"HandsReturnedModel", "debtOf", "(III)I"⟩, 49) := ⟨⟨by decide +kernel, by decide +kernel⟩, List.mem_of_getElem? (i := 640) (by decide +kernel), List.mem_of_getElem? (i := 912) (by decide +kernel), List.mem_of_getElem? (i := 913) (by decide +kernel)⟩
def lw_privs_3 : List (MethodName × Nat) := [(⟨"HandsReturned$Plan", "take", "(ILHandsReturned$Field;)V"⟩, 12), (⟨"HandsReturned$Plan", "move", "(II)V"⟩, 12), (⟨"HandsReturned$Plan", "choose", "([I)I"⟩, 12), (⟨"HandsReturned$Plan", "chooseNext", "(I[I)V"⟩, 12), (⟨"HandsReturned$Plan", "dayDone", "(II)I"⟩, 12), (⟨"HandsReturnedModel", "isHouse", "(I)Z"⟩, 49), (⟨"HandsReturnedModel", "put", "(I)V"⟩, 49), (⟨"HandsReturnedModel", "next", "(I)V"⟩, 49), (⟨"HandsReturnedModel", "clause", "(I)V"⟩, 49), (⟨"HandsReturnedModel", "fails", "(I)V"⟩, 49), (⟨"HandsReturnedModel", "canWork", "(II)Z"⟩, 49), (⟨"HandsReturnedModel", "isField", "(I)Z"⟩, 49), (⟨"HandsReturnedModel", "free", "(I)I"⟩, 49), (⟨"HandsReturnedModel", "lessens", "(III)V"⟩, 49), (⟨"HandsReturnedModel", "drops", "()V"⟩, 49), (⟨"HandsReturnedModel", "debtOf", "(III)I"⟩, 49)]
theorem lw_r3 : ∀ q ∈ lw_privs_3, lw_okq q := List.forall_mem_cons.mpr ⟨lw_p32, List.forall_mem_cons.mpr ⟨lw_p33, List.forall_mem_cons.mpr ⟨lw_p34, List.forall_mem_cons.mpr ⟨lw_p35, List.forall_mem_cons.mpr ⟨lw_p36, List.forall_mem_cons.mpr ⟨lw_p37, List.forall_mem_cons.mpr ⟨lw_p38, List.forall_mem_cons.mpr ⟨lw_p39, List.forall_mem_cons.mpr ⟨lw_p40, List.forall_mem_cons.mpr ⟨lw_p41, List.forall_mem_cons.mpr ⟨lw_p42, List.forall_mem_cons.mpr ⟨lw_p43, List.forall_mem_cons.mpr ⟨lw_p44, List.forall_mem_cons.mpr ⟨lw_p45, List.forall_mem_cons.mpr ⟨lw_p46, List.forall_mem_cons.mpr ⟨lw_p47, fun _ h => absurd h List.not_mem_nil⟩⟩⟩⟩⟩⟩⟩⟩⟩⟩⟩⟩⟩⟩⟩⟩
theorem lw_p48 : lw_okq (⟨"HandsReturnedModel", "worked", "(II)I"⟩, 49) := ⟨⟨by decide +kernel, by decide +kernel⟩, List.mem_of_getElem? (i := 640) (by decide +kernel), List.mem_of_getElem? (i := 916) (by decide +kernel), List.mem_of_getElem? (i := 917) (by decide +kernel)⟩
theorem lw_p49 : lw_okq (⟨"HandsReturnedModel", "proceeds", "(II)I"⟩, 49) := ⟨⟨by decide +kernel, by decide +kernel⟩, List.mem_of_getElem? (i := 640) (by decide +kernel), List.mem_of_getElem? (i := 920) (by decide +kernel), List.mem_of_getElem? (i := 921) (by decide +kernel)⟩
theorem lw_p50 : lw_okq (⟨"HandsReturnedModel", "lossOf", "(II)I"⟩, 49) := ⟨⟨by decide +kernel, by decide +kernel⟩, List.mem_of_getElem? (i := 640) (by decide +kernel), List.mem_of_getElem? (i := 924) (by decide +kernel), List.mem_of_getElem? (i := 925) (by decide +kernel)⟩
theorem lw_p51 : lw_okq (⟨"HandsReturnedModel", "goes", "()V"⟩, 49) := ⟨⟨by decide +kernel, by decide +kernel⟩, List.mem_of_getElem? (i := 640) (by decide +kernel), List.mem_of_getElem? (i := 936) (by decide +kernel), List.mem_of_getElem? (i := 937) (by decide +kernel)⟩
theorem lw_p52 : lw_okq (⟨"HandsReturnedModel", "net", "(I)I"⟩, 49) := ⟨⟨by decide +kernel, by decide +kernel⟩, List.mem_of_getElem? (i := 640) (by decide +kernel), List.mem_of_getElem? (i := 945) (by decide +kernel), List.mem_of_getElem? (i := 946) (by decide +kernel)⟩
theorem lw_p53 : lw_okq (⟨"HandsReturnedModel", "owed", "(II)I"⟩, 49) := ⟨⟨by decide +kernel, by decide +kernel⟩, List.mem_of_getElem? (i := 640) (by decide +kernel), List.mem_of_getElem? (i := 957) (by decide +kernel), List.mem_of_getElem? (i := 958) (by decide +kernel)⟩
theorem lw_p54 : lw_okq (⟨"HandsReturnedModel", "pays", "()V"⟩, 49) := ⟨⟨by decide +kernel, by decide +kernel⟩, List.mem_of_getElem? (i := 640) (by decide +kernel), List.mem_of_getElem? (i := 969) (by decide +kernel), List.mem_of_getElem? (i := 970) (by decide +kernel)⟩
theorem lw_p55 : lw_okq (⟨"HandsReturnedModel", "parts", "(I)V"⟩, 49) := ⟨⟨by decide +kernel, by decide +kernel⟩, List.mem_of_getElem? (i := 640) (by decide +kernel), List.mem_of_getElem? (i := 973) (by decide +kernel), List.mem_of_getElem? (i := 974) (by decide +kernel)⟩
theorem lw_p56 : lw_okq (⟨"HandsReturnedModel", "sumOf", "(I)I"⟩, 49) := ⟨⟨by decide +kernel, by decide +kernel⟩, List.mem_of_getElem? (i := 640) (by decide +kernel), List.mem_of_getElem? (i := 980) (by decide +kernel), List.mem_of_getElem? (i := 981) (by decide +kernel)⟩
theorem lw_p57 : lw_okq (⟨"HandsReturnedModel", "evens", "(I)V"⟩, 49) := ⟨⟨by decide +kernel, by decide +kernel⟩, List.mem_of_getElem? (i := 640) (by decide +kernel), List.mem_of_getElem? (i := 984) (by decide +kernel), List.mem_of_getElem? (i := 985) (by decide +kernel)⟩
theorem lw_p58 : lw_okq (⟨"HandsReturnedModel", "first", "(IZ)I"⟩, 49) := ⟨⟨by decide +kernel, by decide +kernel⟩, List.mem_of_getElem? (i := 640) (by decide +kernel), List.mem_of_getElem? (i := 988) (by decide +kernel), List.mem_of_getElem? (i := 989) (by decide +kernel)⟩
theorem lw_p59 : lw_okq (⟨"HandsReturnedModel", "lost", "(I)I"⟩, 49) := ⟨⟨by decide +kernel, by decide +kernel⟩, List.mem_of_getElem? (i := 640) (by decide +kernel), List.mem_of_getElem? (i := 1005) (by decide +kernel), List.mem_of_getElem? (i := 1006) (by decide +kernel)⟩
theorem lw_p60 : lw_okq (⟨"HandsReturnedModel", "nextOrder", "()Z"⟩, 49) := ⟨⟨by decide +kernel, by decide +kernel⟩, List.mem_of_getElem? (i := 640) (by decide +kernel), List.mem_of_getElem? (i := 1009) (by decide +kernel), List.mem_of_getElem? (i := 1010) (by decide +kernel)⟩
theorem lw_p61 : lw_okq (⟨"HandsReturnedModel", "swaps", "(II)V"⟩, 49) := ⟨⟨by decide +kernel, by decide +kernel⟩, List.mem_of_getElem? (i := 640) (by decide +kernel), List.mem_of_getElem? (i := 1013) (by decide +kernel), List.mem_of_getElem? (i := 1014) (by decide +kernel)⟩
def lw_privs_4 : List (MethodName × Nat) := [(⟨"HandsReturnedModel", "worked", "(II)I"⟩, 49), (⟨"HandsReturnedModel", "proceeds", "(II)I"⟩, 49), (⟨"HandsReturnedModel", "lossOf", "(II)I"⟩, 49), (⟨"HandsReturnedModel", "goes", "()V"⟩, 49), (⟨"HandsReturnedModel", "net", "(I)I"⟩, 49), (⟨"HandsReturnedModel", "owed", "(II)I"⟩, 49), (⟨"HandsReturnedModel", "pays", "()V"⟩, 49), (⟨"HandsReturnedModel", "parts", "(I)V"⟩, 49), (⟨"HandsReturnedModel", "sumOf", "(I)I"⟩, 49), (⟨"HandsReturnedModel", "evens", "(I)V"⟩, 49), (⟨"HandsReturnedModel", "first", "(IZ)I"⟩, 49), (⟨"HandsReturnedModel", "lost", "(I)I"⟩, 49), (⟨"HandsReturnedModel", "nextOrder", "()Z"⟩, 49), (⟨"HandsReturnedModel", "swaps", "(II)V"⟩, 49)]
theorem lw_r4 : ∀ q ∈ lw_privs_4, lw_okq q := List.forall_mem_cons.mpr ⟨lw_p48, List.forall_mem_cons.mpr ⟨lw_p49, List.forall_mem_cons.mpr ⟨lw_p50, List.forall_mem_cons.mpr ⟨lw_p51, List.forall_mem_cons.mpr ⟨lw_p52, List.forall_mem_cons.mpr ⟨lw_p53, List.forall_mem_cons.mpr ⟨lw_p54, List.forall_mem_cons.mpr ⟨lw_p55, List.forall_mem_cons.mpr ⟨lw_p56, List.forall_mem_cons.mpr ⟨lw_p57, List.forall_mem_cons.mpr ⟨lw_p58, List.forall_mem_cons.mpr ⟨lw_p59, List.forall_mem_cons.mpr ⟨lw_p60, List.forall_mem_cons.mpr ⟨lw_p61, fun _ h => absurd h List.not_mem_nil⟩⟩⟩⟩⟩⟩⟩⟩⟩⟩⟩⟩⟩⟩
def lw_privs : List (MethodName × Nat) := lw_privs_1 ++ (lw_privs_2 ++ (lw_privs_3 ++ (lw_privs_4)))
def lw_tbl : List Cond := k2_sels lw_privs ++ tables_1
theorem lw_privs_ok : ∀ q ∈ lw_privs, lw_okq q := by
  show ∀ q ∈ lw_privs_1 ++ (lw_privs_2 ++ (lw_privs_3 ++ (lw_privs_4))), lw_okq q
  exact List.forall_mem_append.mpr ⟨lw_r1, List.forall_mem_append.mpr ⟨lw_r2, List.forall_mem_append.mpr ⟨lw_r3, lw_r4⟩⟩⟩
-- ===== end of PART A; then your names; then what follows =====
end
section
def RX0 : String := "HandsReturned$Custom"
def TX0 : u_T := fun k => match k with
  | 0 => ("HandsReturned$Custom", "told", "[I", true)
  | 1 => ("HandsReturned$Custom", "draft", "[I", true)
  | 2 => ("HandsReturned$Custom", "flaw", "I", false)
  | 3 => ("HandsReturned$Custom", "place", "I", false)
  | 4 => ("HandsReturned$Custom", "wanted", "I", false)
  | 5 => ("HandsReturned$Custom", "word", "I", false)
  | 6 => ("HandsReturned$Custom", "seen", "I", false)
  | _ => ("HandsReturned$Custom", "clauses", "I", false)
def tyX0 : Nat → FieldType := fun k => match k with
  | 0 => .array .int
  | 1 => .array .int
  | 2 => .int
  | 3 => .int
  | 4 => .int
  | 5 => .int
  | 6 => .int
  | _ => .int
abbrev wsX00 : List Cond := u_ws RX0 TX0 8
theorem nmX0 : ∀ a, a < 8 → ∀ b, b < 8 → a ≠ b → (TX0 a).2.1 ≠ (TX0 b).2.1 := by decide +kernel
theorem tyX0_ok : ∀ k, k < 8 → parseFieldDescriptor (TX0 k).2.2.1 = some (tyX0 k) := by decide +kernel
abbrev cX0_init : ByteArray := prog_2_method_1_code
def yX0_init : MethodName := ⟨RX0, "<init>", "()V"⟩
abbrev cX0_read : ByteArray := prog_2_method_2_code
def yX0_read : MethodName := ⟨RX0, "read", "(LHandsReturned$Tape;)I"⟩
abbrev cX0_note : ByteArray := prog_2_method_3_code
def yX0_note : MethodName := ⟨RX0, "note", "(II)V"⟩
abbrev cX0_sortOf : ByteArray := prog_2_method_4_code
def yX0_sortOf : MethodName := ⟨RX0, "sortOf", "(I)I"⟩
abbrev cX0_beginsToken : ByteArray := prog_2_method_5_code
def yX0_beginsToken : MethodName := ⟨RX0, "beginsToken", "(LHandsReturned$Tape;I)Z"⟩
abbrev cX0_takeToken : ByteArray := prog_2_method_6_code
def yX0_takeToken : MethodName := ⟨RX0, "takeToken", "(LHandsReturned$Tape;I)I"⟩
abbrev cX0_takeWord : ByteArray := prog_2_method_7_code
def yX0_takeWord : MethodName := ⟨RX0, "takeWord", "(LHandsReturned$Tape;I)I"⟩
abbrev cX0_takeNumber : ByteArray := prog_2_method_8_code
def yX0_takeNumber : MethodName := ⟨RX0, "takeNumber", "(LHandsReturned$Tape;I)I"⟩
abbrev cX0_wordAt : ByteArray := prog_2_method_9_code
def yX0_wordAt : MethodName := ⟨RX0, "wordAt", "(LHandsReturned$Tape;I)I"⟩
abbrev cX0_spelling : ByteArray := prog_2_method_10_code
def yX0_spelling : MethodName := ⟨RX0, "spelling", "(I)Ljava/lang/String;"⟩
abbrev cX0_standsAt : ByteArray := prog_2_method_11_code
def yX0_standsAt : MethodName := ⟨RX0, "standsAt", "(Ljava/lang/String;LHandsReturned$Tape;I)Z"⟩
abbrev cX0_numberAt : ByteArray := prog_2_method_12_code
def yX0_numberAt : MethodName := ⟨RX0, "numberAt", "(LHandsReturned$Tape;I)I"⟩
def RX1 : String := "HandsReturned$Debts"
def TX1 : u_T := fun k => match k with
  | 0 => ("HandsReturned$Debts", "owers", "[I", true)
  | 1 => ("HandsReturned$Debts", "claimers", "[I", true)
  | 2 => ("HandsReturned$Debts", "since", "[I", true)
  | 3 => ("HandsReturned$Debts", "units", "[I", true)
  | _ => ("HandsReturned$Debts", "count", "I", false)
def tyX1 : Nat → FieldType := fun k => match k with
  | 0 => .array .int
  | 1 => .array .int
  | 2 => .array .int
  | 3 => .array .int
  | _ => .int
abbrev wsX10 : List Cond := u_ws RX1 TX1 5
theorem nmX1 : ∀ a, a < 5 → ∀ b, b < 5 → a ≠ b → (TX1 a).2.1 ≠ (TX1 b).2.1 := by decide +kernel
theorem tyX1_ok : ∀ k, k < 5 → parseFieldDescriptor (TX1 k).2.2.1 = some (tyX1 k) := by decide +kernel
abbrev cX1_init : ByteArray := prog_3_method_1_code
def yX1_init : MethodName := ⟨RX1, "<init>", "()V"⟩
abbrev cX1_isOf : ByteArray := prog_3_method_2_code
def yX1_isOf : MethodName := ⟨RX1, "isOf", "(III)Z"⟩
abbrev cX1_unitsOwed : ByteArray := prog_3_method_3_code
def yX1_unitsOwed : MethodName := ⟨RX1, "unitsOwed", "(II)I"⟩
abbrev cX1_firstDay : ByteArray := prog_3_method_4_code
def yX1_firstDay : MethodName := ⟨RX1, "firstDay", "(II)I"⟩
abbrev cX1_net : ByteArray := prog_3_method_5_code
def yX1_net : MethodName := ⟨RX1, "net", "(I)I"⟩
abbrev cX1_lessen : ByteArray := prog_3_method_6_code
def yX1_lessen : MethodName := ⟨RX1, "lessen", "(III)I"⟩
abbrev cX1_put : ByteArray := prog_3_method_7_code
def yX1_put : MethodName := ⟨RX1, "put", "(IIII)V"⟩
abbrev cX1_dropEmpty : ByteArray := prog_3_method_8_code
def yX1_dropEmpty : MethodName := ⟨RX1, "dropEmpty", "()V"⟩
def RX2 : String := "HandsReturned$Evening"
def TX2 : u_T := fun k => match k with
  | 0 => ("HandsReturned$Evening", "nets", "[I", true)
  | 1 => ("HandsReturned$Evening", "freshNets", "[I", true)
  | 2 => ("HandsReturned$Evening", "unsettled", "[I", true)
  | 3 => ("HandsReturned$Evening", "netOfSet", "[I", true)
  | 4 => ("HandsReturned$Evening", "groupsOfSet", "[I", true)
  | 5 => ("HandsReturned$Evening", "payers", "[I", true)
  | 6 => ("HandsReturned$Evening", "payees", "[I", true)
  | 7 => ("HandsReturned$Evening", "units", "[I", true)
  | _ => ("HandsReturned$Evening", "count", "I", false)
def tyX2 : Nat → FieldType := fun k => match k with
  | 0 => .array .int
  | 1 => .array .int
  | 2 => .array .int
  | 3 => .array .int
  | 4 => .array .int
  | 5 => .array .int
  | 6 => .array .int
  | 7 => .array .int
  | _ => .int
abbrev wsX20 : List Cond := u_ws RX2 TX2 9
theorem nmX2 : ∀ a, a < 9 → ∀ b, b < 9 → a ≠ b → (TX2 a).2.1 ≠ (TX2 b).2.1 := by decide +kernel
theorem tyX2_ok : ∀ k, k < 9 → parseFieldDescriptor (TX2 k).2.2.1 = some (tyX2 k) := by decide +kernel
abbrev cX2_init : ByteArray := prog_4_method_1_code
def yX2_init : MethodName := ⟨RX2, "<init>", "()V"⟩
abbrev cX2_tellFor : ByteArray := prog_4_method_2_code
def yX2_tellFor : MethodName := ⟨RX2, "tellFor", "(LHandsReturned$Debts;)V"⟩
abbrev cX2_takeNets : ByteArray := prog_4_method_3_code
def yX2_takeNets : MethodName := ⟨RX2, "takeNets", "(LHandsReturned$Debts;)Z"⟩
abbrev cX2_tell : ByteArray := prog_4_method_4_code
def yX2_tell : MethodName := ⟨RX2, "tell", "()V"⟩
abbrev cX2_countGroups : ByteArray := prog_4_method_5_code
def yX2_countGroups : MethodName := ⟨RX2, "countGroups", "()V"⟩
abbrev cX2_leastGroup : ByteArray := prog_4_method_6_code
def yX2_leastGroup : MethodName := ⟨RX2, "leastGroup", "(I)I"⟩
abbrev cX2_payWithin : ByteArray := prog_4_method_7_code
def yX2_payWithin : MethodName := ⟨RX2, "payWithin", "(I)V"⟩
abbrev cX2_leastInGroup : ByteArray := prog_4_method_8_code
def yX2_leastInGroup : MethodName := ⟨RX2, "leastInGroup", "(II)I"⟩
def RX3 : String := "HandsReturned$Field"
def TX3 : u_T := fun k => match k with
  | 0 => ("HandsReturned$Field", "owner", "I", false)
  | 1 => ("HandsReturned$Field", "kind", "I", false)
  | 2 => ("HandsReturned$Field", "lacks", "I", false)
  | 3 => ("HandsReturned$Field", "ready", "I", false)
  | 4 => ("HandsReturned$Field", "value", "I", false)
  | 5 => ("HandsReturned$Field", "doneOn", "I", false)
  | _ => ("HandsReturned$Field", "proceeds", "I", false)
def tyX3 : Nat → FieldType := fun k => match k with
  | 0 => .int
  | 1 => .int
  | 2 => .int
  | 3 => .int
  | 4 => .int
  | 5 => .int
  | _ => .int
abbrev wsX30 : List Cond := u_ws RX3 TX3 7
theorem nmX3 : ∀ a, a < 7 → ∀ b, b < 7 → a ≠ b → (TX3 a).2.1 ≠ (TX3 b).2.1 := by decide +kernel
theorem tyX3_ok : ∀ k, k < 7 → parseFieldDescriptor (TX3 k).2.2.1 = some (tyX3 k) := by decide +kernel
abbrev cX3_init : ByteArray := prog_5_method_1_code
def yX3_init : MethodName := ⟨RX3, "<init>", "()V"⟩
abbrev cX3_takes : ByteArray := prog_5_method_2_code
def yX3_takes : MethodName := ⟨RX3, "takes", "(II)Z"⟩
def RX4 : String := "HandsReturned$House"
def TX4 : u_T := fun k => match k with
  | 0 => ("HandsReturned$House", "hands", "I", false)
  | 1 => ("HandsReturned$House", "widow", "Z", false)
  | 2 => ("HandsReturned$House", "daysIll", "I", false)
  | 3 => ("HandsReturned$House", "busy", "I", false)
  | 4 => ("HandsReturned$House", "foodDue", "I", false)
  | 5 => ("HandsReturned$House", "foodOwed", "I", false)
  | 6 => ("HandsReturned$House", "wages", "I", false)
  | 7 => ("HandsReturned$House", "lapsed", "I", false)
  | _ => ("HandsReturned$House", "proceeds", "I", false)
def tyX4 : Nat → FieldType := fun k => match k with
  | 0 => .int
  | 1 => .boolean
  | 2 => .int
  | 3 => .int
  | 4 => .int
  | 5 => .int
  | 6 => .int
  | 7 => .int
  | _ => .int
abbrev wsX40 : List Cond := u_ws RX4 TX4 9
theorem nmX4 : ∀ a, a < 9 → ∀ b, b < 9 → a ≠ b → (TX4 a).2.1 ≠ (TX4 b).2.1 := by decide +kernel
theorem tyX4_ok : ∀ k, k < 9 → parseFieldDescriptor (TX4 k).2.2.1 = some (tyX4 k) := by decide +kernel
abbrev cX4_init : ByteArray := prog_6_method_1_code
def yX4_init : MethodName := ⟨RX4, "<init>", "()V"⟩
abbrev cX4_freeHands : ByteArray := prog_6_method_2_code
def yX4_freeHands : MethodName := ⟨RX4, "freeHands", "()I"⟩
def RX5 : String := "HandsReturned$Plan"
def TX5 : u_T := fun k => match k with
  | 0 => ("HandsReturned$Plan", "numbers", "[I", true)
  | 1 => ("HandsReturned$Plan", "starts", "[I", true)
  | 2 => ("HandsReturned$Plan", "lacks", "[I", true)
  | 3 => ("HandsReturned$Plan", "readies", "[I", true)
  | 4 => ("HandsReturned$Plan", "values", "[I", true)
  | 5 => ("HandsReturned$Plan", "leastLost", "[I", true)
  | 6 => ("HandsReturned$Plan", "bestNext", "[I", true)
  | 7 => ("HandsReturned$Plan", "chosen", "[I", true)
  | 8 => ("HandsReturned$Plan", "chosenCount", "I", false)
  | 9 => ("HandsReturned$Plan", "count", "I", false)
  | 10 => ("HandsReturned$Plan", "today", "I", false)
  | _ => ("HandsReturned$Plan", "hands", "I", false)
def tyX5 : Nat → FieldType := fun k => match k with
  | 0 => .array .int
  | 1 => .array .int
  | 2 => .array .int
  | 3 => .array .int
  | 4 => .array .int
  | 5 => .array .int
  | 6 => .array .int
  | 7 => .array .int
  | 8 => .int
  | 9 => .int
  | 10 => .int
  | _ => .int
abbrev wsX50 : List Cond := u_ws RX5 TX5 12
theorem nmX5 : ∀ a, a < 12 → ∀ b, b < 12 → a ≠ b → (TX5 a).2.1 ≠ (TX5 b).2.1 := by decide +kernel
theorem tyX5_ok : ∀ k, k < 12 → parseFieldDescriptor (TX5 k).2.2.1 = some (tyX5 k) := by decide +kernel
abbrev cX5_init : ByteArray := prog_7_method_1_code
def yX5_init : MethodName := ⟨RX5, "<init>", "()V"⟩
abbrev cX5_begin : ByteArray := prog_7_method_2_code
def yX5_begin : MethodName := ⟨RX5, "begin", "(II)V"⟩
abbrev cX5_take : ByteArray := prog_7_method_3_code
def yX5_take : MethodName := ⟨RX5, "take", "(ILHandsReturned$Field;)V"⟩
abbrev cX5_move : ByteArray := prog_7_method_4_code
def yX5_move : MethodName := ⟨RX5, "move", "(II)V"⟩
abbrev cX5_choose : ByteArray := prog_7_method_5_code
def yX5_choose : MethodName := ⟨RX5, "choose", "([I)I"⟩
abbrev cX5_chooseNext : ByteArray := prog_7_method_6_code
def yX5_chooseNext : MethodName := ⟨RX5, "chooseNext", "(I[I)V"⟩
abbrev cX5_dayDone : ByteArray := prog_7_method_7_code
def yX5_dayDone : MethodName := ⟨RX5, "dayDone", "(II)I"⟩
def RX6 : String := "HandsReturned$Tape"
def TX6 : u_T := fun k => match k with
  | 0 => ("HandsReturned$Tape", "bytes", "[I", true)
  | _ => ("HandsReturned$Tape", "length", "I", false)
def tyX6 : Nat → FieldType := fun k => match k with
  | 0 => .array .int
  | _ => .int
abbrev wsX60 : List Cond := u_ws RX6 TX6 2
theorem nmX6 : ∀ a, a < 2 → ∀ b, b < 2 → a ≠ b → (TX6 a).2.1 ≠ (TX6 b).2.1 := by decide +kernel
theorem tyX6_ok : ∀ k, k < 2 → parseFieldDescriptor (TX6 k).2.2.1 = some (tyX6 k) := by decide +kernel
abbrev cX6_init : ByteArray := prog_8_method_1_code
def yX6_init : MethodName := ⟨RX6, "<init>", "()V"⟩
abbrev cX6_append : ByteArray := prog_8_method_2_code
def yX6_append : MethodName := ⟨RX6, "append", "(I)V"⟩
abbrev cX6_at : ByteArray := prog_8_method_3_code
def yX6_at : MethodName := ⟨RX6, "at", "(I)I"⟩
def RX7 : String := "HandsReturned"
def TX7 : u_T := fun k => match k with
  | 0 => ("HandsReturned", "houses", "[LHandsReturned$House;", true)
  | 1 => ("HandsReturned", "fields", "[LHandsReturned$Field;", true)
  | 2 => ("HandsReturned", "losses", "[I", true)
  | 3 => ("HandsReturned", "tape", "LHandsReturned$Tape;", true)
  | 4 => ("HandsReturned", "customs", "LHandsReturned$Custom;", true)
  | 5 => ("HandsReturned", "debts", "LHandsReturned$Debts;", true)
  | 6 => ("HandsReturned", "evening", "LHandsReturned$Evening;", true)
  | 7 => ("HandsReturned", "order", "LHandsReturned$Plan;", true)
  | 8 => ("HandsReturned", "houseCount", "I", false)
  | 9 => ("HandsReturned", "fieldCount", "I", false)
  | 10 => ("HandsReturned", "clock", "I", false)
  | _ => ("HandsReturned", "hired", "I", false)
def tyX7 : Nat → FieldType := fun k => match k with
  | 0 => .array (.object "HandsReturned$House")
  | 1 => .array (.object "HandsReturned$Field")
  | 2 => .array .int
  | 3 => .object "HandsReturned$Tape"
  | 4 => .object "HandsReturned$Custom"
  | 5 => .object "HandsReturned$Debts"
  | 6 => .object "HandsReturned$Evening"
  | 7 => .object "HandsReturned$Plan"
  | 8 => .int
  | 9 => .int
  | 10 => .int
  | _ => .int
abbrev wsX70 : List Cond := u_ws RX7 TX7 12
theorem nmX7 : ∀ a, a < 12 → ∀ b, b < 12 → a ≠ b → (TX7 a).2.1 ≠ (TX7 b).2.1 := by decide +kernel
theorem tyX7_ok : ∀ k, k < 12 → parseFieldDescriptor (TX7 k).2.2.1 = some (tyX7 k) := by decide +kernel
abbrev cX7_init : ByteArray := prog_1_method_1_code
def yX7_init : MethodName := ⟨RX7, "<init>", "()V"⟩
abbrev cX7_house : ByteArray := prog_1_method_2_code
def yX7_house : MethodName := ⟨RX7, "house", "(IZ)I"⟩
abbrev cX7_field : ByteArray := prog_1_method_3_code
def yX7_field : MethodName := ⟨RX7, "field", "(IIIII)I"⟩
abbrev cX7_loss : ByteArray := prog_1_method_4_code
def yX7_loss : MethodName := ⟨RX7, "loss", "(II)Z"⟩
abbrev cX7_feed : ByteArray := prog_1_method_5_code
def yX7_feed : MethodName := ⟨RX7, "feed", "(IIIII)I"⟩
abbrev cX7_end : ByteArray := prog_1_method_6_code
def yX7_end : MethodName := ⟨RX7, "end", "(I)I"⟩
abbrev cX7_custom : ByteArray := prog_1_method_7_code
def yX7_custom : MethodName := ⟨RX7, "custom", "()I"⟩
abbrev cX7_fault : ByteArray := prog_1_method_8_code
def yX7_fault : MethodName := ⟨RX7, "fault", "(I)I"⟩
abbrev cX7_says : ByteArray := prog_1_method_9_code
def yX7_says : MethodName := ⟨RX7, "says", "(I)I"⟩
abbrev cX7_ill : ByteArray := prog_1_method_10_code
def yX7_ill : MethodName := ⟨RX7, "ill", "(II)Z"⟩
abbrev cX7_work : ByteArray := prog_1_method_11_code
def yX7_work : MethodName := ⟨RX7, "work", "(III)I"⟩
abbrev cX7_hire : ByteArray := prog_1_method_12_code
def yX7_hire : MethodName := ⟨RX7, "hire", "(II)I"⟩
abbrev cX7_days : ByteArray := prog_1_method_13_code
def yX7_days : MethodName := ⟨RX7, "days", "(I)I"⟩
abbrev cX7_houseOf : ByteArray := prog_1_method_14_code
def yX7_houseOf : MethodName := ⟨RX7, "houseOf", "(II)I"⟩
abbrev cX7_fieldOf : ByteArray := prog_1_method_15_code
def yX7_fieldOf : MethodName := ⟨RX7, "fieldOf", "(II)I"⟩
abbrev cX7_owes : ByteArray := prog_1_method_16_code
def yX7_owes : MethodName := ⟨RX7, "owes", "(II)I"⟩
abbrev cX7_oldest : ByteArray := prog_1_method_17_code
def yX7_oldest : MethodName := ⟨RX7, "oldest", "(II)I"⟩
abbrev cX7_payments : ByteArray := prog_1_method_18_code
def yX7_payments : MethodName := ⟨RX7, "payments", "()I"⟩
abbrev cX7_payment : ByteArray := prog_1_method_19_code
def yX7_payment : MethodName := ⟨RX7, "payment", "(II)I"⟩
abbrev cX7_even : ByteArray := prog_1_method_20_code
def yX7_even : MethodName := ⟨RX7, "even", "()I"⟩
abbrev cX7_plan : ByteArray := prog_1_method_21_code
def yX7_plan : MethodName := ⟨RX7, "plan", "(I)I"⟩
abbrev cX7_planned : ByteArray := prog_1_method_22_code
def yX7_planned : MethodName := ⟨RX7, "planned", "(I)I"⟩
abbrev cX7_about : ByteArray := prog_1_method_23_code
def yX7_about : MethodName := ⟨RX7, "about", "(I)I"⟩
abbrev cX7_within : ByteArray := prog_1_method_24_code
def yX7_within : MethodName := ⟨RX7, "within", "(III)Z"⟩
abbrev cX7_proceedsOf : ByteArray := prog_1_method_25_code
def yX7_proceedsOf : MethodName := ⟨RX7, "proceedsOf", "(II[I)I"⟩
abbrev cX7_houseAt : ByteArray := prog_1_method_26_code
def yX7_houseAt : MethodName := ⟨RX7, "houseAt", "(I)LHandsReturned$House;"⟩
abbrev cX7_fieldAt : ByteArray := prog_1_method_27_code
def yX7_fieldAt : MethodName := ⟨RX7, "fieldAt", "(I)LHandsReturned$Field;"⟩
abbrev cX7_areTwoHouses : ByteArray := prog_1_method_28_code
def yX7_areTwoHouses : MethodName := ⟨RX7, "areTwoHouses", "(II)Z"⟩
abbrev cX7_oweForWork : ByteArray := prog_1_method_29_code
def yX7_oweForWork : MethodName := ⟨RX7, "oweForWork", "(ILHandsReturned$Field;I)V"⟩
abbrev cX7_workDone : ByteArray := prog_1_method_30_code
def yX7_workDone : MethodName := ⟨RX7, "workDone", "(LHandsReturned$Field;I)I"⟩
abbrev cX7_nextDay : ByteArray := prog_1_method_31_code
def yX7_nextDay : MethodName := ⟨RX7, "nextDay", "()V"⟩
abbrev cX7_lapseDebts : ByteArray := prog_1_method_32_code
def yX7_lapseDebts : MethodName := ⟨RX7, "lapseDebts", "()V"⟩
abbrev cX7_waitingFields : ByteArray := prog_1_method_33_code
def yX7_waitingFields : MethodName := ⟨RX7, "waitingFields", "()I"⟩
def RX8 : String := "HandsReturnedModel"
def TX8 : u_T := fun k => match k with
  | 0 => ("HandsReturnedModel", "tape", "[B", true)
  | 1 => ("HandsReturnedModel", "taped", "I", false)
  | 2 => ("HandsReturnedModel", "at", "I", false)
  | 3 => ("HandsReturnedModel", "token", "I", false)
  | 4 => ("HandsReturnedModel", "sort", "I", false)
  | 5 => ("HandsReturnedModel", "told", "I", false)
  | 6 => ("HandsReturnedModel", "wrong", "I", false)
  | 7 => ("HandsReturnedModel", "wrongAt", "I", false)
  | 8 => ("HandsReturnedModel", "fault", "I", false)
  | 9 => ("HandsReturnedModel", "faultAt", "I", false)
  | 10 => ("HandsReturnedModel", "isTold", "[Z", true)
  | 11 => ("HandsReturnedModel", "newCustom", "[I", true)
  | 12 => ("HandsReturnedModel", "custom", "[I", true)
  | 13 => ("HandsReturnedModel", "clock", "I", false)
  | 14 => ("HandsReturnedModel", "houses", "I", false)
  | 15 => ("HandsReturnedModel", "hands", "[I", true)
  | 16 => ("HandsReturnedModel", "isWidow", "[Z", true)
  | 17 => ("HandsReturnedModel", "ill", "[I", true)
  | 18 => ("HandsReturnedModel", "used", "[I", true)
  | 19 => ("HandsReturnedModel", "foodTo", "[I", true)
  | 20 => ("HandsReturnedModel", "foodOf", "[I", true)
  | 21 => ("HandsReturnedModel", "paid", "[I", true)
  | 22 => ("HandsReturnedModel", "lapsed", "[I", true)
  | 23 => ("HandsReturnedModel", "loss", "[I", true)
  | 24 => ("HandsReturnedModel", "fields", "I", false)
  | 25 => ("HandsReturnedModel", "owner", "[I", true)
  | 26 => ("HandsReturnedModel", "kind", "[I", true)
  | 27 => ("HandsReturnedModel", "need", "[I", true)
  | 28 => ("HandsReturnedModel", "ready", "[I", true)
  | 29 => ("HandsReturnedModel", "value", "[I", true)
  | 30 => ("HandsReturnedModel", "done", "[I", true)
  | 31 => ("HandsReturnedModel", "got", "[I", true)
  | 32 => ("HandsReturnedModel", "hired", "I", false)
  | 33 => ("HandsReturnedModel", "debts", "I", false)
  | 34 => ("HandsReturnedModel", "debtor", "[I", true)
  | 35 => ("HandsReturnedModel", "creditor", "[I", true)
  | 36 => ("HandsReturnedModel", "debtDay", "[I", true)
  | 37 => ("HandsReturnedModel", "units", "[I", true)
  | 38 => ("HandsReturnedModel", "nets", "[I", true)
  | 39 => ("HandsReturnedModel", "groups", "[I", true)
  | 40 => ("HandsReturnedModel", "payments", "I", false)
  | 41 => ("HandsReturnedModel", "payer", "[I", true)
  | 42 => ("HandsReturnedModel", "payee", "[I", true)
  | 43 => ("HandsReturnedModel", "sums", "[I", true)
  | 44 => ("HandsReturnedModel", "waiting", "I", false)
  | 45 => ("HandsReturnedModel", "order", "[I", true)
  | 46 => ("HandsReturnedModel", "lacks", "[I", true)
  | 47 => ("HandsReturnedModel", "planned", "I", false)
  | _ => ("HandsReturnedModel", "plan", "[I", true)
def tyX8 : Nat → FieldType := fun k => match k with
  | 0 => .array .byte
  | 1 => .int
  | 2 => .int
  | 3 => .int
  | 4 => .int
  | 5 => .int
  | 6 => .int
  | 7 => .int
  | 8 => .int
  | 9 => .int
  | 10 => .array .boolean
  | 11 => .array .int
  | 12 => .array .int
  | 13 => .int
  | 14 => .int
  | 15 => .array .int
  | 16 => .array .boolean
  | 17 => .array .int
  | 18 => .array .int
  | 19 => .array .int
  | 20 => .array .int
  | 21 => .array .int
  | 22 => .array .int
  | 23 => .array .int
  | 24 => .int
  | 25 => .array .int
  | 26 => .array .int
  | 27 => .array .int
  | 28 => .array .int
  | 29 => .array .int
  | 30 => .array .int
  | 31 => .array .int
  | 32 => .int
  | 33 => .int
  | 34 => .array .int
  | 35 => .array .int
  | 36 => .array .int
  | 37 => .array .int
  | 38 => .array .int
  | 39 => .array .int
  | 40 => .int
  | 41 => .array .int
  | 42 => .array .int
  | 43 => .array .int
  | 44 => .int
  | 45 => .array .int
  | 46 => .array .int
  | 47 => .int
  | _ => .array .int
abbrev wsX80 : List Cond := u_ws RX8 TX8 49
theorem nmX8 : ∀ a, a < 49 → ∀ b, b < 49 → a ≠ b → (TX8 a).2.1 ≠ (TX8 b).2.1 := by decide +kernel
theorem tyX8_ok : ∀ k, k < 49 → parseFieldDescriptor (TX8 k).2.2.1 = some (tyX8 k) := by decide +kernel
abbrev cX8_init : ByteArray := prog_10_method_1_code
def yX8_init : MethodName := ⟨RX8, "<init>", "()V"⟩
abbrev cX8_in : ByteArray := prog_10_method_2_code
def yX8_in : MethodName := ⟨RX8, "in", "(JJJ)Z"⟩
abbrev cX8_isHouse : ByteArray := prog_10_method_3_code
def yX8_isHouse : MethodName := ⟨RX8, "isHouse", "(I)Z"⟩
abbrev cX8_isField : ByteArray := prog_10_method_4_code
def yX8_isField : MethodName := ⟨RX8, "isField", "(I)Z"⟩
abbrev cX8_house : ByteArray := prog_10_method_5_code
def yX8_house : MethodName := ⟨RX8, "house", "(IZ)I"⟩
abbrev cX8_field : ByteArray := prog_10_method_6_code
def yX8_field : MethodName := ⟨RX8, "field", "(IIIII)I"⟩
abbrev cX8_loss : ByteArray := prog_10_method_7_code
def yX8_loss : MethodName := ⟨RX8, "loss", "(II)Z"⟩
abbrev cX8_put : ByteArray := prog_10_method_8_code
def yX8_put : MethodName := ⟨RX8, "put", "(I)V"⟩
abbrev cX8_feed : ByteArray := prog_10_method_9_code
def yX8_feed : MethodName := ⟨RX8, "feed", "(IIIII)I"⟩
abbrev cX8_end : ByteArray := prog_10_method_10_code
def yX8_end : MethodName := ⟨RX8, "end", "(I)I"⟩
abbrev cX8_isLetter : ByteArray := prog_10_method_11_code
def yX8_isLetter : MethodName := ⟨RX8, "isLetter", "(I)Z"⟩
abbrev cX8_wordOf : ByteArray := prog_10_method_12_code
def yX8_wordOf : MethodName := ⟨RX8, "wordOf", "(J)I"⟩
abbrev cX8_next : ByteArray := prog_10_method_13_code
def yX8_next : MethodName := ⟨RX8, "next", "(I)V"⟩
abbrev cX8_fails : ByteArray := prog_10_method_14_code
def yX8_fails : MethodName := ⟨RX8, "fails", "(I)V"⟩
abbrev cX8_lowest : ByteArray := prog_10_method_15_code
def yX8_lowest : MethodName := ⟨RX8, "lowest", "(I)I"⟩
abbrev cX8_highest : ByteArray := prog_10_method_16_code
def yX8_highest : MethodName := ⟨RX8, "highest", "(I)I"⟩
abbrev cX8_clause : ByteArray := prog_10_method_17_code
def yX8_clause : MethodName := ⟨RX8, "clause", "(I)V"⟩
abbrev cX8_custom : ByteArray := prog_10_method_18_code
def yX8_custom : MethodName := ⟨RX8, "custom", "()I"⟩
abbrev cX8_fault : ByteArray := prog_10_method_19_code
def yX8_fault : MethodName := ⟨RX8, "fault", "(I)I"⟩
abbrev cX8_says : ByteArray := prog_10_method_20_code
def yX8_says : MethodName := ⟨RX8, "says", "(I)I"⟩
abbrev cX8_ill : ByteArray := prog_10_method_21_code
def yX8_ill : MethodName := ⟨RX8, "ill", "(II)Z"⟩
abbrev cX8_free : ByteArray := prog_10_method_22_code
def yX8_free : MethodName := ⟨RX8, "free", "(I)I"⟩
abbrev cX8_canWork : ByteArray := prog_10_method_23_code
def yX8_canWork : MethodName := ⟨RX8, "canWork", "(II)Z"⟩
abbrev cX8_worked : ByteArray := prog_10_method_24_code
def yX8_worked : MethodName := ⟨RX8, "worked", "(II)I"⟩
abbrev cX8_debtOf : ByteArray := prog_10_method_25_code
def yX8_debtOf : MethodName := ⟨RX8, "debtOf", "(III)I"⟩
abbrev cX8_owed : ByteArray := prog_10_method_26_code
def yX8_owed : MethodName := ⟨RX8, "owed", "(II)I"⟩
abbrev cX8_work : ByteArray := prog_10_method_27_code
def yX8_work : MethodName := ⟨RX8, "work", "(III)I"⟩
abbrev cX8_lessens : ByteArray := prog_10_method_28_code
def yX8_lessens : MethodName := ⟨RX8, "lessens", "(III)V"⟩
abbrev cX8_drops : ByteArray := prog_10_method_29_code
def yX8_drops : MethodName := ⟨RX8, "drops", "()V"⟩
abbrev cX8_hire : ByteArray := prog_10_method_30_code
def yX8_hire : MethodName := ⟨RX8, "hire", "(II)I"⟩
abbrev cX8_goes : ByteArray := prog_10_method_31_code
def yX8_goes : MethodName := ⟨RX8, "goes", "()V"⟩
abbrev cX8_days : ByteArray := prog_10_method_32_code
def yX8_days : MethodName := ⟨RX8, "days", "(I)I"⟩
abbrev cX8_lossOf : ByteArray := prog_10_method_33_code
def yX8_lossOf : MethodName := ⟨RX8, "lossOf", "(II)I"⟩
abbrev cX8_proceeds : ByteArray := prog_10_method_34_code
def yX8_proceeds : MethodName := ⟨RX8, "proceeds", "(II)I"⟩
abbrev cX8_net : ByteArray := prog_10_method_35_code
def yX8_net : MethodName := ⟨RX8, "net", "(I)I"⟩
abbrev cX8_houseOf : ByteArray := prog_10_method_36_code
def yX8_houseOf : MethodName := ⟨RX8, "houseOf", "(II)I"⟩
abbrev cX8_fieldOf : ByteArray := prog_10_method_37_code
def yX8_fieldOf : MethodName := ⟨RX8, "fieldOf", "(II)I"⟩
abbrev cX8_owes : ByteArray := prog_10_method_38_code
def yX8_owes : MethodName := ⟨RX8, "owes", "(II)I"⟩
abbrev cX8_oldest : ByteArray := prog_10_method_39_code
def yX8_oldest : MethodName := ⟨RX8, "oldest", "(II)I"⟩
abbrev cX8_sumOf : ByteArray := prog_10_method_40_code
def yX8_sumOf : MethodName := ⟨RX8, "sumOf", "(I)I"⟩
abbrev cX8_least : ByteArray := prog_10_method_41_code
def yX8_least : MethodName := ⟨RX8, "least", "(I)I"⟩
abbrev cX8_parts : ByteArray := prog_10_method_42_code
def yX8_parts : MethodName := ⟨RX8, "parts", "(I)V"⟩
abbrev cX8_pays : ByteArray := prog_10_method_43_code
def yX8_pays : MethodName := ⟨RX8, "pays", "()V"⟩
abbrev cX8_first : ByteArray := prog_10_method_44_code
def yX8_first : MethodName := ⟨RX8, "first", "(IZ)I"⟩
abbrev cX8_evens : ByteArray := prog_10_method_45_code
def yX8_evens : MethodName := ⟨RX8, "evens", "(I)V"⟩
abbrev cX8_payments : ByteArray := prog_10_method_46_code
def yX8_payments : MethodName := ⟨RX8, "payments", "()I"⟩
abbrev cX8_payment : ByteArray := prog_10_method_47_code
def yX8_payment : MethodName := ⟨RX8, "payment", "(II)I"⟩
abbrev cX8_even : ByteArray := prog_10_method_48_code
def yX8_even : MethodName := ⟨RX8, "even", "()I"⟩
abbrev cX8_lost : ByteArray := prog_10_method_49_code
def yX8_lost : MethodName := ⟨RX8, "lost", "(I)I"⟩
abbrev cX8_nextOrder : ByteArray := prog_10_method_50_code
def yX8_nextOrder : MethodName := ⟨RX8, "nextOrder", "()Z"⟩
abbrev cX8_swaps : ByteArray := prog_10_method_51_code
def yX8_swaps : MethodName := ⟨RX8, "swaps", "(II)V"⟩
abbrev cX8_plan : ByteArray := prog_10_method_52_code
def yX8_plan : MethodName := ⟨RX8, "plan", "(I)I"⟩
abbrev cX8_planned : ByteArray := prog_10_method_53_code
def yX8_planned : MethodName := ⟨RX8, "planned", "(I)I"⟩
abbrev cX8_about : ByteArray := prog_10_method_54_code
def yX8_about : MethodName := ⟨RX8, "about", "(I)I"⟩
def RL : String := "HandsReturnedLaw"
abbrev cL_law : ByteArray := code
def yL_law : MethodName := ⟨RL, "law", "([I)Z"⟩
abbrev vwCl : List vw_C := [(RX0, TX0, 8), (RX1, TX1, 5), (RX2, TX2, 9), (RX3, TX3, 7), (RX4, TX4, 9), (RX5, TX5, 12), (RX6, TX6, 2), (RX7, TX7, 12), (RX8, TX8, 49)]
end
section
def zz_all : List Cond := lw_tbl.filter goodWord
theorem zz_tbl {w : Cond} (h : w ∈ lw_tbl) (hg : goodWord w = true) : w ∈ zz_all := List.mem_filter.mpr ⟨h, hg⟩
theorem zz_in_tbl {w : Cond} (h : w ∈ zz_all) : w ∈ lw_tbl := (List.mem_filter.mp h).1
theorem zz_t1 {w : Cond} (i : Nat) (h : tables_1_1[i]? = some w) : w ∈ lw_tbl := List.mem_append_right _ (show w ∈ tables_1 from List.mem_append_left _ (List.mem_of_getElem? h))
theorem zz_m1 {w : Cond} (i : Nat) (h : tables_1_1[i]? = some w) (hg : goodWord w = true) : w ∈ zz_all := zz_tbl (zz_t1 i h) hg
theorem zz_t2 {w : Cond} (i : Nat) (h : tables_1_2[i]? = some w) : w ∈ lw_tbl := List.mem_append_right _ (show w ∈ tables_1 from List.mem_append_right _ (List.mem_append_left _ (List.mem_of_getElem? h)))
theorem zz_m2 {w : Cond} (i : Nat) (h : tables_1_2[i]? = some w) (hg : goodWord w = true) : w ∈ zz_all := zz_tbl (zz_t2 i h) hg
theorem zz_t3 {w : Cond} (i : Nat) (h : tables_1_3[i]? = some w) : w ∈ lw_tbl := List.mem_append_right _ (show w ∈ tables_1 from List.mem_append_right _ (List.mem_append_right _ (List.mem_append_left _ (List.mem_of_getElem? h))))
theorem zz_m3 {w : Cond} (i : Nat) (h : tables_1_3[i]? = some w) (hg : goodWord w = true) : w ∈ zz_all := zz_tbl (zz_t3 i h) hg
theorem zz_t4 {w : Cond} (i : Nat) (h : tables_1_4[i]? = some w) : w ∈ lw_tbl := List.mem_append_right _ (show w ∈ tables_1 from List.mem_append_right _ (List.mem_append_right _ (List.mem_append_right _ (List.mem_append_left _ (List.mem_of_getElem? h)))))
theorem zz_m4 {w : Cond} (i : Nat) (h : tables_1_4[i]? = some w) (hg : goodWord w = true) : w ∈ zz_all := zz_tbl (zz_t4 i h) hg
theorem zz_t5 {w : Cond} (i : Nat) (h : tables_1_5[i]? = some w) : w ∈ lw_tbl := List.mem_append_right _ (show w ∈ tables_1 from List.mem_append_right _ (List.mem_append_right _ (List.mem_append_right _ (List.mem_append_right _ (List.mem_of_getElem? h)))))
theorem zz_m5 {w : Cond} (i : Nat) (h : tables_1_5[i]? = some w) (hg : goodWord w = true) : w ∈ zz_all := zz_tbl (zz_t5 i h) hg
theorem zz_ms {w : Cond} (i : Nat) (h : (k2_sels lw_privs)[i]? = some w) (hg : goodWord w = true) : w ∈ zz_all := zz_tbl (List.mem_append_left _ (List.mem_of_getElem? h)) hg
abbrev zz_w (y : MethodName) (b : ByteArray) (n : Nat) (r : Option FieldType) : List Cond := Cond.code y b n r :: zz_all
theorem zz_good {y : MethodName} {b : ByteArray} {n : Nat} {r : Option FieldType} (h : Cond.code y b n r ∈ zz_all) : GoodIn zz_all (zz_w y b n r) := by
  intro w hw
  have hm : w ∈ zz_all := by
    rcases List.mem_cons.mp hw with h2 | h2
    · rw [h2]; exact h
    · exact h2
  exact ⟨hm, good_of_word (List.mem_filter.mp hm).2⟩
theorem zz_lay0_0 : u_lay RX0 TX0 0 ∈ zz_all := zz_m1 136 rfl rfl
theorem zz_lay0_1 : u_lay RX0 TX0 1 ∈ zz_all := zz_m1 138 rfl rfl
theorem zz_lay0_2 : u_lay RX0 TX0 2 ∈ zz_all := zz_m1 140 rfl rfl
theorem zz_lay0_3 : u_lay RX0 TX0 3 ∈ zz_all := zz_m1 142 rfl rfl
theorem zz_lay0_4 : u_lay RX0 TX0 4 ∈ zz_all := zz_m1 144 rfl rfl
theorem zz_lay0_5 : u_lay RX0 TX0 5 ∈ zz_all := zz_m1 146 rfl rfl
theorem zz_lay0_6 : u_lay RX0 TX0 6 ∈ zz_all := zz_m1 148 rfl rfl
theorem zz_lay0_7 : u_lay RX0 TX0 7 ∈ zz_all := zz_m1 150 rfl rfl
theorem zz_inX0 : ∀ w ∈ u_ws RX0 TX0 8, w ∈ zz_all := by
  intro w h
  obtain ⟨k, hk, rfl⟩ := List.mem_map.mp h
  have hk := List.mem_range.mp hk
  match k, hk with
  | 0, _ => exact zz_lay0_0
  | 1, _ => exact zz_lay0_1
  | 2, _ => exact zz_lay0_2
  | 3, _ => exact zz_lay0_3
  | 4, _ => exact zz_lay0_4
  | 5, _ => exact zz_lay0_5
  | 6, _ => exact zz_lay0_6
  | 7, _ => exact zz_lay0_7
  | k + 8, hk => exact absurd hk (by omega)
theorem zz_lay1_0 : u_lay RX1 TX1 0 ∈ zz_all := zz_m1 172 rfl rfl
theorem zz_lay1_1 : u_lay RX1 TX1 1 ∈ zz_all := zz_m1 174 rfl rfl
theorem zz_lay1_2 : u_lay RX1 TX1 2 ∈ zz_all := zz_m1 176 rfl rfl
theorem zz_lay1_3 : u_lay RX1 TX1 3 ∈ zz_all := zz_m1 178 rfl rfl
theorem zz_lay1_4 : u_lay RX1 TX1 4 ∈ zz_all := zz_m1 180 rfl rfl
theorem zz_inX1 : ∀ w ∈ u_ws RX1 TX1 5, w ∈ zz_all := by
  intro w h
  obtain ⟨k, hk, rfl⟩ := List.mem_map.mp h
  have hk := List.mem_range.mp hk
  match k, hk with
  | 0, _ => exact zz_lay1_0
  | 1, _ => exact zz_lay1_1
  | 2, _ => exact zz_lay1_2
  | 3, _ => exact zz_lay1_3
  | 4, _ => exact zz_lay1_4
  | k + 5, hk => exact absurd hk (by omega)
theorem zz_lay2_0 : u_lay RX2 TX2 0 ∈ zz_all := zz_m1 202 rfl rfl
theorem zz_lay2_1 : u_lay RX2 TX2 1 ∈ zz_all := zz_m1 204 rfl rfl
theorem zz_lay2_2 : u_lay RX2 TX2 2 ∈ zz_all := zz_m1 206 rfl rfl
theorem zz_lay2_3 : u_lay RX2 TX2 3 ∈ zz_all := zz_m1 208 rfl rfl
theorem zz_lay2_4 : u_lay RX2 TX2 4 ∈ zz_all := zz_m1 210 rfl rfl
theorem zz_lay2_5 : u_lay RX2 TX2 5 ∈ zz_all := zz_m1 212 rfl rfl
theorem zz_lay2_6 : u_lay RX2 TX2 6 ∈ zz_all := zz_m1 214 rfl rfl
theorem zz_lay2_7 : u_lay RX2 TX2 7 ∈ zz_all := zz_m1 216 rfl rfl
theorem zz_lay2_8 : u_lay RX2 TX2 8 ∈ zz_all := zz_m1 218 rfl rfl
theorem zz_inX2 : ∀ w ∈ u_ws RX2 TX2 9, w ∈ zz_all := by
  intro w h
  obtain ⟨k, hk, rfl⟩ := List.mem_map.mp h
  have hk := List.mem_range.mp hk
  match k, hk with
  | 0, _ => exact zz_lay2_0
  | 1, _ => exact zz_lay2_1
  | 2, _ => exact zz_lay2_2
  | 3, _ => exact zz_lay2_3
  | 4, _ => exact zz_lay2_4
  | 5, _ => exact zz_lay2_5
  | 6, _ => exact zz_lay2_6
  | 7, _ => exact zz_lay2_7
  | 8, _ => exact zz_lay2_8
  | k + 9, hk => exact absurd hk (by omega)
theorem zz_lay3_0 : u_lay RX3 TX3 0 ∈ zz_all := zz_m1 83 rfl rfl
theorem zz_lay3_1 : u_lay RX3 TX3 1 ∈ zz_all := zz_m1 85 rfl rfl
theorem zz_lay3_2 : u_lay RX3 TX3 2 ∈ zz_all := zz_m1 87 rfl rfl
theorem zz_lay3_3 : u_lay RX3 TX3 3 ∈ zz_all := zz_m1 89 rfl rfl
theorem zz_lay3_4 : u_lay RX3 TX3 4 ∈ zz_all := zz_m1 91 rfl rfl
theorem zz_lay3_5 : u_lay RX3 TX3 5 ∈ zz_all := zz_m1 93 rfl rfl
theorem zz_lay3_6 : u_lay RX3 TX3 6 ∈ zz_all := zz_m1 95 rfl rfl
theorem zz_inX3 : ∀ w ∈ u_ws RX3 TX3 7, w ∈ zz_all := by
  intro w h
  obtain ⟨k, hk, rfl⟩ := List.mem_map.mp h
  have hk := List.mem_range.mp hk
  match k, hk with
  | 0, _ => exact zz_lay3_0
  | 1, _ => exact zz_lay3_1
  | 2, _ => exact zz_lay3_2
  | 3, _ => exact zz_lay3_3
  | 4, _ => exact zz_lay3_4
  | 5, _ => exact zz_lay3_5
  | 6, _ => exact zz_lay3_6
  | k + 7, hk => exact absurd hk (by omega)
theorem zz_lay4_0 : u_lay RX4 TX4 0 ∈ zz_all := zz_m1 43 rfl rfl
theorem zz_lay4_1 : u_lay RX4 TX4 1 ∈ zz_all := zz_m1 45 rfl rfl
theorem zz_lay4_2 : u_lay RX4 TX4 2 ∈ zz_all := zz_m1 47 rfl rfl
theorem zz_lay4_3 : u_lay RX4 TX4 3 ∈ zz_all := zz_m1 49 rfl rfl
theorem zz_lay4_4 : u_lay RX4 TX4 4 ∈ zz_all := zz_m1 51 rfl rfl
theorem zz_lay4_5 : u_lay RX4 TX4 5 ∈ zz_all := zz_m1 53 rfl rfl
theorem zz_lay4_6 : u_lay RX4 TX4 6 ∈ zz_all := zz_m1 55 rfl rfl
theorem zz_lay4_7 : u_lay RX4 TX4 7 ∈ zz_all := zz_m1 57 rfl rfl
theorem zz_lay4_8 : u_lay RX4 TX4 8 ∈ zz_all := zz_m1 59 rfl rfl
theorem zz_inX4 : ∀ w ∈ u_ws RX4 TX4 9, w ∈ zz_all := by
  intro w h
  obtain ⟨k, hk, rfl⟩ := List.mem_map.mp h
  have hk := List.mem_range.mp hk
  match k, hk with
  | 0, _ => exact zz_lay4_0
  | 1, _ => exact zz_lay4_1
  | 2, _ => exact zz_lay4_2
  | 3, _ => exact zz_lay4_3
  | 4, _ => exact zz_lay4_4
  | 5, _ => exact zz_lay4_5
  | 6, _ => exact zz_lay4_6
  | 7, _ => exact zz_lay4_7
  | 8, _ => exact zz_lay4_8
  | k + 9, hk => exact absurd hk (by omega)
theorem zz_lay5_0 : u_lay RX5 TX5 0 ∈ zz_all := zz_m2 1 rfl rfl
theorem zz_lay5_1 : u_lay RX5 TX5 1 ∈ zz_all := zz_m2 3 rfl rfl
theorem zz_lay5_2 : u_lay RX5 TX5 2 ∈ zz_all := zz_m2 5 rfl rfl
theorem zz_lay5_3 : u_lay RX5 TX5 3 ∈ zz_all := zz_m2 7 rfl rfl
theorem zz_lay5_4 : u_lay RX5 TX5 4 ∈ zz_all := zz_m2 9 rfl rfl
theorem zz_lay5_5 : u_lay RX5 TX5 5 ∈ zz_all := zz_m2 11 rfl rfl
theorem zz_lay5_6 : u_lay RX5 TX5 6 ∈ zz_all := zz_m2 13 rfl rfl
theorem zz_lay5_7 : u_lay RX5 TX5 7 ∈ zz_all := zz_m2 15 rfl rfl
theorem zz_lay5_8 : u_lay RX5 TX5 8 ∈ zz_all := zz_m2 17 rfl rfl
theorem zz_lay5_9 : u_lay RX5 TX5 9 ∈ zz_all := zz_m2 19 rfl rfl
theorem zz_lay5_10 : u_lay RX5 TX5 10 ∈ zz_all := zz_m2 21 rfl rfl
theorem zz_lay5_11 : u_lay RX5 TX5 11 ∈ zz_all := zz_m2 23 rfl rfl
theorem zz_inX5 : ∀ w ∈ u_ws RX5 TX5 12, w ∈ zz_all := by
  intro w h
  obtain ⟨k, hk, rfl⟩ := List.mem_map.mp h
  have hk := List.mem_range.mp hk
  match k, hk with
  | 0, _ => exact zz_lay5_0
  | 1, _ => exact zz_lay5_1
  | 2, _ => exact zz_lay5_2
  | 3, _ => exact zz_lay5_3
  | 4, _ => exact zz_lay5_4
  | 5, _ => exact zz_lay5_5
  | 6, _ => exact zz_lay5_6
  | 7, _ => exact zz_lay5_7
  | 8, _ => exact zz_lay5_8
  | 9, _ => exact zz_lay5_9
  | 10, _ => exact zz_lay5_10
  | 11, _ => exact zz_lay5_11
  | k + 12, hk => exact absurd hk (by omega)
theorem zz_lay6_0 : u_lay RX6 TX6 0 ∈ zz_all := zz_m1 108 rfl rfl
theorem zz_lay6_1 : u_lay RX6 TX6 1 ∈ zz_all := zz_m1 110 rfl rfl
theorem zz_inX6 : ∀ w ∈ u_ws RX6 TX6 2, w ∈ zz_all := by
  intro w h
  obtain ⟨k, hk, rfl⟩ := List.mem_map.mp h
  have hk := List.mem_range.mp hk
  match k, hk with
  | 0, _ => exact zz_lay6_0
  | 1, _ => exact zz_lay6_1
  | k + 2, hk => exact absurd hk (by omega)
theorem zz_lay7_0 : u_lay RX7 TX7 0 ∈ zz_all := zz_m2 38 rfl rfl
theorem zz_lay7_1 : u_lay RX7 TX7 1 ∈ zz_all := zz_m2 40 rfl rfl
theorem zz_lay7_2 : u_lay RX7 TX7 2 ∈ zz_all := zz_m2 42 rfl rfl
theorem zz_lay7_3 : u_lay RX7 TX7 3 ∈ zz_all := zz_m2 44 rfl rfl
theorem zz_lay7_4 : u_lay RX7 TX7 4 ∈ zz_all := zz_m2 46 rfl rfl
theorem zz_lay7_5 : u_lay RX7 TX7 5 ∈ zz_all := zz_m2 48 rfl rfl
theorem zz_lay7_6 : u_lay RX7 TX7 6 ∈ zz_all := zz_m2 50 rfl rfl
theorem zz_lay7_7 : u_lay RX7 TX7 7 ∈ zz_all := zz_m2 52 rfl rfl
theorem zz_lay7_8 : u_lay RX7 TX7 8 ∈ zz_all := zz_m2 54 rfl rfl
theorem zz_lay7_9 : u_lay RX7 TX7 9 ∈ zz_all := zz_m2 56 rfl rfl
theorem zz_lay7_10 : u_lay RX7 TX7 10 ∈ zz_all := zz_m2 58 rfl rfl
theorem zz_lay7_11 : u_lay RX7 TX7 11 ∈ zz_all := zz_m2 60 rfl rfl
theorem zz_inX7 : ∀ w ∈ u_ws RX7 TX7 12, w ∈ zz_all := by
  intro w h
  obtain ⟨k, hk, rfl⟩ := List.mem_map.mp h
  have hk := List.mem_range.mp hk
  match k, hk with
  | 0, _ => exact zz_lay7_0
  | 1, _ => exact zz_lay7_1
  | 2, _ => exact zz_lay7_2
  | 3, _ => exact zz_lay7_3
  | 4, _ => exact zz_lay7_4
  | 5, _ => exact zz_lay7_5
  | 6, _ => exact zz_lay7_6
  | 7, _ => exact zz_lay7_7
  | 8, _ => exact zz_lay7_8
  | 9, _ => exact zz_lay7_9
  | 10, _ => exact zz_lay7_10
  | 11, _ => exact zz_lay7_11
  | k + 12, hk => exact absurd hk (by omega)
theorem zz_lay8_0 : u_lay RX8 TX8 0 ∈ zz_all := zz_m3 214 rfl rfl
theorem zz_lay8_1 : u_lay RX8 TX8 1 ∈ zz_all := zz_m3 216 rfl rfl
theorem zz_lay8_2 : u_lay RX8 TX8 2 ∈ zz_all := zz_m3 218 rfl rfl
theorem zz_lay8_3 : u_lay RX8 TX8 3 ∈ zz_all := zz_m3 220 rfl rfl
theorem zz_lay8_4 : u_lay RX8 TX8 4 ∈ zz_all := zz_m3 222 rfl rfl
theorem zz_lay8_5 : u_lay RX8 TX8 5 ∈ zz_all := zz_m3 224 rfl rfl
theorem zz_lay8_6 : u_lay RX8 TX8 6 ∈ zz_all := zz_m3 226 rfl rfl
theorem zz_lay8_7 : u_lay RX8 TX8 7 ∈ zz_all := zz_m3 228 rfl rfl
theorem zz_lay8_8 : u_lay RX8 TX8 8 ∈ zz_all := zz_m3 230 rfl rfl
theorem zz_lay8_9 : u_lay RX8 TX8 9 ∈ zz_all := zz_m3 232 rfl rfl
theorem zz_lay8_10 : u_lay RX8 TX8 10 ∈ zz_all := zz_m3 234 rfl rfl
theorem zz_lay8_11 : u_lay RX8 TX8 11 ∈ zz_all := zz_m3 236 rfl rfl
theorem zz_lay8_12 : u_lay RX8 TX8 12 ∈ zz_all := zz_m3 238 rfl rfl
theorem zz_lay8_13 : u_lay RX8 TX8 13 ∈ zz_all := zz_m4 0 rfl rfl
theorem zz_lay8_14 : u_lay RX8 TX8 14 ∈ zz_all := zz_m4 2 rfl rfl
theorem zz_lay8_15 : u_lay RX8 TX8 15 ∈ zz_all := zz_m4 4 rfl rfl
theorem zz_lay8_16 : u_lay RX8 TX8 16 ∈ zz_all := zz_m4 6 rfl rfl
theorem zz_lay8_17 : u_lay RX8 TX8 17 ∈ zz_all := zz_m4 8 rfl rfl
theorem zz_lay8_18 : u_lay RX8 TX8 18 ∈ zz_all := zz_m4 10 rfl rfl
theorem zz_lay8_19 : u_lay RX8 TX8 19 ∈ zz_all := zz_m4 12 rfl rfl
theorem zz_lay8_20 : u_lay RX8 TX8 20 ∈ zz_all := zz_m4 14 rfl rfl
theorem zz_lay8_21 : u_lay RX8 TX8 21 ∈ zz_all := zz_m4 16 rfl rfl
theorem zz_lay8_22 : u_lay RX8 TX8 22 ∈ zz_all := zz_m4 18 rfl rfl
theorem zz_lay8_23 : u_lay RX8 TX8 23 ∈ zz_all := zz_m4 20 rfl rfl
theorem zz_lay8_24 : u_lay RX8 TX8 24 ∈ zz_all := zz_m4 22 rfl rfl
theorem zz_lay8_25 : u_lay RX8 TX8 25 ∈ zz_all := zz_m4 24 rfl rfl
theorem zz_lay8_26 : u_lay RX8 TX8 26 ∈ zz_all := zz_m4 26 rfl rfl
theorem zz_lay8_27 : u_lay RX8 TX8 27 ∈ zz_all := zz_m4 28 rfl rfl
theorem zz_lay8_28 : u_lay RX8 TX8 28 ∈ zz_all := zz_m4 30 rfl rfl
theorem zz_lay8_29 : u_lay RX8 TX8 29 ∈ zz_all := zz_m4 32 rfl rfl
theorem zz_lay8_30 : u_lay RX8 TX8 30 ∈ zz_all := zz_m4 34 rfl rfl
theorem zz_lay8_31 : u_lay RX8 TX8 31 ∈ zz_all := zz_m4 36 rfl rfl
theorem zz_lay8_32 : u_lay RX8 TX8 32 ∈ zz_all := zz_m4 38 rfl rfl
theorem zz_lay8_33 : u_lay RX8 TX8 33 ∈ zz_all := zz_m4 40 rfl rfl
theorem zz_lay8_34 : u_lay RX8 TX8 34 ∈ zz_all := zz_m4 42 rfl rfl
theorem zz_lay8_35 : u_lay RX8 TX8 35 ∈ zz_all := zz_m4 44 rfl rfl
theorem zz_lay8_36 : u_lay RX8 TX8 36 ∈ zz_all := zz_m4 46 rfl rfl
theorem zz_lay8_37 : u_lay RX8 TX8 37 ∈ zz_all := zz_m4 48 rfl rfl
theorem zz_lay8_38 : u_lay RX8 TX8 38 ∈ zz_all := zz_m4 50 rfl rfl
theorem zz_lay8_39 : u_lay RX8 TX8 39 ∈ zz_all := zz_m4 52 rfl rfl
theorem zz_lay8_40 : u_lay RX8 TX8 40 ∈ zz_all := zz_m4 54 rfl rfl
theorem zz_lay8_41 : u_lay RX8 TX8 41 ∈ zz_all := zz_m4 56 rfl rfl
theorem zz_lay8_42 : u_lay RX8 TX8 42 ∈ zz_all := zz_m4 58 rfl rfl
theorem zz_lay8_43 : u_lay RX8 TX8 43 ∈ zz_all := zz_m4 60 rfl rfl
theorem zz_lay8_44 : u_lay RX8 TX8 44 ∈ zz_all := zz_m4 62 rfl rfl
theorem zz_lay8_45 : u_lay RX8 TX8 45 ∈ zz_all := zz_m4 64 rfl rfl
theorem zz_lay8_46 : u_lay RX8 TX8 46 ∈ zz_all := zz_m4 66 rfl rfl
theorem zz_lay8_47 : u_lay RX8 TX8 47 ∈ zz_all := zz_m4 68 rfl rfl
theorem zz_lay8_48 : u_lay RX8 TX8 48 ∈ zz_all := zz_m4 70 rfl rfl
theorem zz_inX8 : ∀ w ∈ u_ws RX8 TX8 49, w ∈ zz_all := by
  intro w h
  obtain ⟨k, hk, rfl⟩ := List.mem_map.mp h
  have hk := List.mem_range.mp hk
  match k, hk with
  | 0, _ => exact zz_lay8_0
  | 1, _ => exact zz_lay8_1
  | 2, _ => exact zz_lay8_2
  | 3, _ => exact zz_lay8_3
  | 4, _ => exact zz_lay8_4
  | 5, _ => exact zz_lay8_5
  | 6, _ => exact zz_lay8_6
  | 7, _ => exact zz_lay8_7
  | 8, _ => exact zz_lay8_8
  | 9, _ => exact zz_lay8_9
  | 10, _ => exact zz_lay8_10
  | 11, _ => exact zz_lay8_11
  | 12, _ => exact zz_lay8_12
  | 13, _ => exact zz_lay8_13
  | 14, _ => exact zz_lay8_14
  | 15, _ => exact zz_lay8_15
  | 16, _ => exact zz_lay8_16
  | 17, _ => exact zz_lay8_17
  | 18, _ => exact zz_lay8_18
  | 19, _ => exact zz_lay8_19
  | 20, _ => exact zz_lay8_20
  | 21, _ => exact zz_lay8_21
  | 22, _ => exact zz_lay8_22
  | 23, _ => exact zz_lay8_23
  | 24, _ => exact zz_lay8_24
  | 25, _ => exact zz_lay8_25
  | 26, _ => exact zz_lay8_26
  | 27, _ => exact zz_lay8_27
  | 28, _ => exact zz_lay8_28
  | 29, _ => exact zz_lay8_29
  | 30, _ => exact zz_lay8_30
  | 31, _ => exact zz_lay8_31
  | 32, _ => exact zz_lay8_32
  | 33, _ => exact zz_lay8_33
  | 34, _ => exact zz_lay8_34
  | 35, _ => exact zz_lay8_35
  | 36, _ => exact zz_lay8_36
  | 37, _ => exact zz_lay8_37
  | 38, _ => exact zz_lay8_38
  | 39, _ => exact zz_lay8_39
  | 40, _ => exact zz_lay8_40
  | 41, _ => exact zz_lay8_41
  | 42, _ => exact zz_lay8_42
  | 43, _ => exact zz_lay8_43
  | 44, _ => exact zz_lay8_44
  | 45, _ => exact zz_lay8_45
  | 46, _ => exact zz_lay8_46
  | 47, _ => exact zz_lay8_47
  | 48, _ => exact zz_lay8_48
  | k + 49, hk => exact absurd hk (by omega)
def zz_nest : List Cond := [Cond.methodLinkNest RX7 15 yX4_init "HandsReturned", Cond.fieldLinkNest RX7 66 "HandsReturned$House" "hands" "I" "HandsReturned", Cond.fieldLinkNest RX7 69 "HandsReturned$House" "widow" "Z" "HandsReturned", Cond.fieldLinkNest RX7 119 "HandsReturned$House" "daysIll" "I" "HandsReturned", Cond.fieldLinkNest RX7 140 "HandsReturned$House" "busy" "I" "HandsReturned", Cond.fieldLinkNest RX7 165 "HandsReturned$House" "foodDue" "I" "HandsReturned", Cond.fieldLinkNest RX7 168 "HandsReturned$House" "foodOwed" "I" "HandsReturned", Cond.fieldLinkNest RX7 154 "HandsReturned$House" "wages" "I" "HandsReturned", Cond.fieldLinkNest RX7 171 "HandsReturned$House" "lapsed" "I" "HandsReturned", Cond.fieldLinkNest RX7 174 "HandsReturned$House" "proceeds" "I" "HandsReturned", Cond.methodLinkNest RX7 22 yX3_init "HandsReturned", Cond.fieldLinkNest RX7 84 "HandsReturned$Field" "owner" "I" "HandsReturned", Cond.fieldLinkNest RX7 87 "HandsReturned$Field" "kind" "I" "HandsReturned", Cond.fieldLinkNest RX7 90 "HandsReturned$Field" "lacks" "I" "HandsReturned", Cond.fieldLinkNest RX5 61 "HandsReturned$Field" "lacks" "I" "HandsReturned", Cond.fieldLinkNest RX5 52 "HandsReturned$Field" "ready" "I" "HandsReturned", Cond.fieldLinkNest RX7 93 "HandsReturned$Field" "ready" "I" "HandsReturned", Cond.fieldLinkNest RX7 96 "HandsReturned$Field" "value" "I" "HandsReturned", Cond.fieldLinkNest RX5 63 "HandsReturned$Field" "value" "I" "HandsReturned", Cond.fieldLinkNest RX7 177 "HandsReturned$Field" "doneOn" "I" "HandsReturned", Cond.fieldLinkNest RX7 180 "HandsReturned$Field" "proceeds" "I" "HandsReturned", Cond.methodLinkNest RX7 29 yX6_init "HandsReturned", Cond.fieldLinkNest RX0 46 "HandsReturned$Tape" "length" "I" "HandsReturned", Cond.fieldLinkNest RX7 99 "HandsReturned$Tape" "length" "I" "HandsReturned", Cond.methodLinkNest RX7 36 yX0_init "HandsReturned", Cond.fieldLinkNest RX0 25 "HandsReturned" "UNTOLD" "[I" "HandsReturned", Cond.fieldLinkNest RX7 116 "HandsReturned$Custom" "told" "[I" "HandsReturned", Cond.fieldLinkNest RX7 110 "HandsReturned$Custom" "flaw" "I" "HandsReturned", Cond.fieldLinkNest RX7 113 "HandsReturned$Custom" "place" "I" "HandsReturned", Cond.methodLinkNest RX7 43 yX1_init "HandsReturned", Cond.fieldLinkNest RX2 49 "HandsReturned$Debts" "owers" "[I" "HandsReturned", Cond.fieldLinkNest RX7 249 "HandsReturned$Debts" "owers" "[I" "HandsReturned", Cond.fieldLinkNest RX2 56 "HandsReturned$Debts" "claimers" "[I" "HandsReturned", Cond.fieldLinkNest RX7 252 "HandsReturned$Debts" "since" "[I" "HandsReturned", Cond.fieldLinkNest RX2 59 "HandsReturned$Debts" "units" "[I" "HandsReturned", Cond.fieldLinkNest RX7 255 "HandsReturned$Debts" "units" "[I" "HandsReturned", Cond.fieldLinkNest RX2 43 "HandsReturned$Debts" "count" "I" "HandsReturned", Cond.fieldLinkNest RX7 126 "HandsReturned$Debts" "count" "I" "HandsReturned", Cond.methodLinkNest RX7 50 yX2_init "HandsReturned", Cond.fieldLinkNest RX7 196 "HandsReturned$Evening" "payers" "[I" "HandsReturned", Cond.fieldLinkNest RX7 199 "HandsReturned$Evening" "payees" "[I" "HandsReturned", Cond.fieldLinkNest RX7 202 "HandsReturned$Evening" "units" "[I" "HandsReturned", Cond.fieldLinkNest RX7 195 "HandsReturned$Evening" "count" "I" "HandsReturned", Cond.methodLinkNest RX7 57 yX5_init "HandsReturned", Cond.fieldLinkNest RX7 223 "HandsReturned$Plan" "chosen" "[I" "HandsReturned", Cond.fieldLinkNest RX7 220 "HandsReturned$Plan" "chosenCount" "I" "HandsReturned", Cond.methodLinkNest RX7 102 yX6_append "HandsReturned", Cond.methodLinkNest RX7 106 yX0_read "HandsReturned", Cond.methodLinkNest RX0 63 yX6_at "HandsReturned", Cond.methodLinkNest RX0 82 yX7_within "HandsReturned", Cond.fieldLinkNest RX0 86 "HandsReturned" "LEAST_TOLD" "[I" "HandsReturned", Cond.fieldLinkNest RX0 89 "HandsReturned" "MOST_TOLD" "[I" "HandsReturned", Cond.methodLinkNest RX7 132 yX3_takes "HandsReturned", Cond.methodLinkNest RX7 136 yX4_freeHands "HandsReturned", Cond.methodLinkNest RX7 234 yX1_lessen "HandsReturned", Cond.methodLinkNest RX7 238 yX1_put "HandsReturned", Cond.methodLinkNest RX7 256 yX1_dropEmpty "HandsReturned", Cond.methodLinkNest RX7 161 yX1_net "HandsReturned", Cond.methodLinkNest RX7 184 yX1_unitsOwed "HandsReturned", Cond.methodLinkNest RX7 188 yX1_firstDay "HandsReturned", Cond.methodLinkNest RX7 191 yX2_tellFor "HandsReturned", Cond.methodLinkNest RX2 52 yX7_within "HandsReturned", Cond.methodLinkNest RX7 208 yX5_begin "HandsReturned", Cond.methodLinkNest RX7 212 yX5_take "HandsReturned", Cond.methodLinkNest RX7 216 yX5_choose "HandsReturned", Cond.methodLinkNest RX5 76 yX7_proceedsOf "HandsReturned"]
theorem zz_n0 : Cond.methodLinkNest RX7 15 yX4_init "HandsReturned" ∈ zz_nest := List.mem_of_getElem? (i := 0) rfl
theorem zz_nt0 : Cond.methodLinkNest RX7 15 yX4_init "HandsReturned" ∈ lw_tbl := zz_t1 27 rfl
theorem zz_n1 : Cond.fieldLinkNest RX7 66 "HandsReturned$House" "hands" "I" "HandsReturned" ∈ zz_nest := List.mem_of_getElem? (i := 1) rfl
theorem zz_nt1 : Cond.fieldLinkNest RX7 66 "HandsReturned$House" "hands" "I" "HandsReturned" ∈ lw_tbl := zz_t1 32 rfl
theorem zz_n2 : Cond.fieldLinkNest RX7 69 "HandsReturned$House" "widow" "Z" "HandsReturned" ∈ zz_nest := List.mem_of_getElem? (i := 2) rfl
theorem zz_nt2 : Cond.fieldLinkNest RX7 69 "HandsReturned$House" "widow" "Z" "HandsReturned" ∈ lw_tbl := zz_t1 33 rfl
theorem zz_n3 : Cond.fieldLinkNest RX7 119 "HandsReturned$House" "daysIll" "I" "HandsReturned" ∈ zz_nest := List.mem_of_getElem? (i := 3) rfl
theorem zz_nt3 : Cond.fieldLinkNest RX7 119 "HandsReturned$House" "daysIll" "I" "HandsReturned" ∈ lw_tbl := zz_t1 35 rfl
theorem zz_n4 : Cond.fieldLinkNest RX7 140 "HandsReturned$House" "busy" "I" "HandsReturned" ∈ zz_nest := List.mem_of_getElem? (i := 4) rfl
theorem zz_nt4 : Cond.fieldLinkNest RX7 140 "HandsReturned$House" "busy" "I" "HandsReturned" ∈ lw_tbl := zz_t1 37 rfl
theorem zz_n5 : Cond.fieldLinkNest RX7 165 "HandsReturned$House" "foodDue" "I" "HandsReturned" ∈ zz_nest := List.mem_of_getElem? (i := 5) rfl
theorem zz_nt5 : Cond.fieldLinkNest RX7 165 "HandsReturned$House" "foodDue" "I" "HandsReturned" ∈ lw_tbl := zz_t1 38 rfl
theorem zz_n6 : Cond.fieldLinkNest RX7 168 "HandsReturned$House" "foodOwed" "I" "HandsReturned" ∈ zz_nest := List.mem_of_getElem? (i := 6) rfl
theorem zz_nt6 : Cond.fieldLinkNest RX7 168 "HandsReturned$House" "foodOwed" "I" "HandsReturned" ∈ lw_tbl := zz_t1 39 rfl
theorem zz_n7 : Cond.fieldLinkNest RX7 154 "HandsReturned$House" "wages" "I" "HandsReturned" ∈ zz_nest := List.mem_of_getElem? (i := 7) rfl
theorem zz_nt7 : Cond.fieldLinkNest RX7 154 "HandsReturned$House" "wages" "I" "HandsReturned" ∈ lw_tbl := zz_t1 40 rfl
theorem zz_n8 : Cond.fieldLinkNest RX7 171 "HandsReturned$House" "lapsed" "I" "HandsReturned" ∈ zz_nest := List.mem_of_getElem? (i := 8) rfl
theorem zz_nt8 : Cond.fieldLinkNest RX7 171 "HandsReturned$House" "lapsed" "I" "HandsReturned" ∈ lw_tbl := zz_t1 41 rfl
theorem zz_n9 : Cond.fieldLinkNest RX7 174 "HandsReturned$House" "proceeds" "I" "HandsReturned" ∈ zz_nest := List.mem_of_getElem? (i := 9) rfl
theorem zz_nt9 : Cond.fieldLinkNest RX7 174 "HandsReturned$House" "proceeds" "I" "HandsReturned" ∈ lw_tbl := zz_t1 42 rfl
theorem zz_n10 : Cond.methodLinkNest RX7 22 yX3_init "HandsReturned" ∈ zz_nest := List.mem_of_getElem? (i := 10) rfl
theorem zz_nt10 : Cond.methodLinkNest RX7 22 yX3_init "HandsReturned" ∈ lw_tbl := zz_t1 65 rfl
theorem zz_n11 : Cond.fieldLinkNest RX7 84 "HandsReturned$Field" "owner" "I" "HandsReturned" ∈ zz_nest := List.mem_of_getElem? (i := 11) rfl
theorem zz_nt11 : Cond.fieldLinkNest RX7 84 "HandsReturned$Field" "owner" "I" "HandsReturned" ∈ lw_tbl := zz_t1 69 rfl
theorem zz_n12 : Cond.fieldLinkNest RX7 87 "HandsReturned$Field" "kind" "I" "HandsReturned" ∈ zz_nest := List.mem_of_getElem? (i := 12) rfl
theorem zz_nt12 : Cond.fieldLinkNest RX7 87 "HandsReturned$Field" "kind" "I" "HandsReturned" ∈ lw_tbl := zz_t1 70 rfl
theorem zz_n13 : Cond.fieldLinkNest RX7 90 "HandsReturned$Field" "lacks" "I" "HandsReturned" ∈ zz_nest := List.mem_of_getElem? (i := 13) rfl
theorem zz_nt13 : Cond.fieldLinkNest RX7 90 "HandsReturned$Field" "lacks" "I" "HandsReturned" ∈ lw_tbl := zz_t1 72 rfl
theorem zz_n14 : Cond.fieldLinkNest RX5 61 "HandsReturned$Field" "lacks" "I" "HandsReturned" ∈ zz_nest := List.mem_of_getElem? (i := 14) rfl
theorem zz_nt14 : Cond.fieldLinkNest RX5 61 "HandsReturned$Field" "lacks" "I" "HandsReturned" ∈ lw_tbl := zz_t1 73 rfl
theorem zz_n15 : Cond.fieldLinkNest RX5 52 "HandsReturned$Field" "ready" "I" "HandsReturned" ∈ zz_nest := List.mem_of_getElem? (i := 15) rfl
theorem zz_nt15 : Cond.fieldLinkNest RX5 52 "HandsReturned$Field" "ready" "I" "HandsReturned" ∈ lw_tbl := zz_t1 75 rfl
theorem zz_n16 : Cond.fieldLinkNest RX7 93 "HandsReturned$Field" "ready" "I" "HandsReturned" ∈ zz_nest := List.mem_of_getElem? (i := 16) rfl
theorem zz_nt16 : Cond.fieldLinkNest RX7 93 "HandsReturned$Field" "ready" "I" "HandsReturned" ∈ lw_tbl := zz_t1 76 rfl
theorem zz_n17 : Cond.fieldLinkNest RX7 96 "HandsReturned$Field" "value" "I" "HandsReturned" ∈ zz_nest := List.mem_of_getElem? (i := 17) rfl
theorem zz_nt17 : Cond.fieldLinkNest RX7 96 "HandsReturned$Field" "value" "I" "HandsReturned" ∈ lw_tbl := zz_t1 77 rfl
theorem zz_n18 : Cond.fieldLinkNest RX5 63 "HandsReturned$Field" "value" "I" "HandsReturned" ∈ zz_nest := List.mem_of_getElem? (i := 18) rfl
theorem zz_nt18 : Cond.fieldLinkNest RX5 63 "HandsReturned$Field" "value" "I" "HandsReturned" ∈ lw_tbl := zz_t1 78 rfl
theorem zz_n19 : Cond.fieldLinkNest RX7 177 "HandsReturned$Field" "doneOn" "I" "HandsReturned" ∈ zz_nest := List.mem_of_getElem? (i := 19) rfl
theorem zz_nt19 : Cond.fieldLinkNest RX7 177 "HandsReturned$Field" "doneOn" "I" "HandsReturned" ∈ lw_tbl := zz_t1 80 rfl
theorem zz_n20 : Cond.fieldLinkNest RX7 180 "HandsReturned$Field" "proceeds" "I" "HandsReturned" ∈ zz_nest := List.mem_of_getElem? (i := 20) rfl
theorem zz_nt20 : Cond.fieldLinkNest RX7 180 "HandsReturned$Field" "proceeds" "I" "HandsReturned" ∈ lw_tbl := zz_t1 82 rfl
theorem zz_n21 : Cond.methodLinkNest RX7 29 yX6_init "HandsReturned" ∈ zz_nest := List.mem_of_getElem? (i := 21) rfl
theorem zz_nt21 : Cond.methodLinkNest RX7 29 yX6_init "HandsReturned" ∈ lw_tbl := zz_t1 100 rfl
theorem zz_n22 : Cond.fieldLinkNest RX0 46 "HandsReturned$Tape" "length" "I" "HandsReturned" ∈ zz_nest := List.mem_of_getElem? (i := 22) rfl
theorem zz_nt22 : Cond.fieldLinkNest RX0 46 "HandsReturned$Tape" "length" "I" "HandsReturned" ∈ lw_tbl := zz_t1 106 rfl
theorem zz_n23 : Cond.fieldLinkNest RX7 99 "HandsReturned$Tape" "length" "I" "HandsReturned" ∈ zz_nest := List.mem_of_getElem? (i := 23) rfl
theorem zz_nt23 : Cond.fieldLinkNest RX7 99 "HandsReturned$Tape" "length" "I" "HandsReturned" ∈ lw_tbl := zz_t1 107 rfl
theorem zz_n24 : Cond.methodLinkNest RX7 36 yX0_init "HandsReturned" ∈ zz_nest := List.mem_of_getElem? (i := 24) rfl
theorem zz_nt24 : Cond.methodLinkNest RX7 36 yX0_init "HandsReturned" ∈ lw_tbl := zz_t1 116 rfl
theorem zz_n25 : Cond.fieldLinkNest RX0 25 "HandsReturned" "UNTOLD" "[I" "HandsReturned" ∈ zz_nest := List.mem_of_getElem? (i := 25) rfl
theorem zz_nt25 : Cond.fieldLinkNest RX0 25 "HandsReturned" "UNTOLD" "[I" "HandsReturned" ∈ lw_tbl := zz_t1 120 rfl
theorem zz_n26 : Cond.fieldLinkNest RX7 116 "HandsReturned$Custom" "told" "[I" "HandsReturned" ∈ zz_nest := List.mem_of_getElem? (i := 26) rfl
theorem zz_nt26 : Cond.fieldLinkNest RX7 116 "HandsReturned$Custom" "told" "[I" "HandsReturned" ∈ lw_tbl := zz_t1 126 rfl
theorem zz_n27 : Cond.fieldLinkNest RX7 110 "HandsReturned$Custom" "flaw" "I" "HandsReturned" ∈ zz_nest := List.mem_of_getElem? (i := 27) rfl
theorem zz_nt27 : Cond.fieldLinkNest RX7 110 "HandsReturned$Custom" "flaw" "I" "HandsReturned" ∈ lw_tbl := zz_t1 129 rfl
theorem zz_n28 : Cond.fieldLinkNest RX7 113 "HandsReturned$Custom" "place" "I" "HandsReturned" ∈ zz_nest := List.mem_of_getElem? (i := 28) rfl
theorem zz_nt28 : Cond.fieldLinkNest RX7 113 "HandsReturned$Custom" "place" "I" "HandsReturned" ∈ lw_tbl := zz_t1 131 rfl
theorem zz_n29 : Cond.methodLinkNest RX7 43 yX1_init "HandsReturned" ∈ zz_nest := List.mem_of_getElem? (i := 29) rfl
theorem zz_nt29 : Cond.methodLinkNest RX7 43 yX1_init "HandsReturned" ∈ lw_tbl := zz_t1 155 rfl
theorem zz_n30 : Cond.fieldLinkNest RX2 49 "HandsReturned$Debts" "owers" "[I" "HandsReturned" ∈ zz_nest := List.mem_of_getElem? (i := 30) rfl
theorem zz_nt30 : Cond.fieldLinkNest RX2 49 "HandsReturned$Debts" "owers" "[I" "HandsReturned" ∈ lw_tbl := zz_t1 160 rfl
theorem zz_n31 : Cond.fieldLinkNest RX7 249 "HandsReturned$Debts" "owers" "[I" "HandsReturned" ∈ zz_nest := List.mem_of_getElem? (i := 31) rfl
theorem zz_nt31 : Cond.fieldLinkNest RX7 249 "HandsReturned$Debts" "owers" "[I" "HandsReturned" ∈ lw_tbl := zz_t1 161 rfl
theorem zz_n32 : Cond.fieldLinkNest RX2 56 "HandsReturned$Debts" "claimers" "[I" "HandsReturned" ∈ zz_nest := List.mem_of_getElem? (i := 32) rfl
theorem zz_nt32 : Cond.fieldLinkNest RX2 56 "HandsReturned$Debts" "claimers" "[I" "HandsReturned" ∈ lw_tbl := zz_t1 163 rfl
theorem zz_n33 : Cond.fieldLinkNest RX7 252 "HandsReturned$Debts" "since" "[I" "HandsReturned" ∈ zz_nest := List.mem_of_getElem? (i := 33) rfl
theorem zz_nt33 : Cond.fieldLinkNest RX7 252 "HandsReturned$Debts" "since" "[I" "HandsReturned" ∈ lw_tbl := zz_t1 165 rfl
theorem zz_n34 : Cond.fieldLinkNest RX2 59 "HandsReturned$Debts" "units" "[I" "HandsReturned" ∈ zz_nest := List.mem_of_getElem? (i := 34) rfl
theorem zz_nt34 : Cond.fieldLinkNest RX2 59 "HandsReturned$Debts" "units" "[I" "HandsReturned" ∈ lw_tbl := zz_t1 167 rfl
theorem zz_n35 : Cond.fieldLinkNest RX7 255 "HandsReturned$Debts" "units" "[I" "HandsReturned" ∈ zz_nest := List.mem_of_getElem? (i := 35) rfl
theorem zz_nt35 : Cond.fieldLinkNest RX7 255 "HandsReturned$Debts" "units" "[I" "HandsReturned" ∈ lw_tbl := zz_t1 168 rfl
theorem zz_n36 : Cond.fieldLinkNest RX2 43 "HandsReturned$Debts" "count" "I" "HandsReturned" ∈ zz_nest := List.mem_of_getElem? (i := 36) rfl
theorem zz_nt36 : Cond.fieldLinkNest RX2 43 "HandsReturned$Debts" "count" "I" "HandsReturned" ∈ lw_tbl := zz_t1 170 rfl
theorem zz_n37 : Cond.fieldLinkNest RX7 126 "HandsReturned$Debts" "count" "I" "HandsReturned" ∈ zz_nest := List.mem_of_getElem? (i := 37) rfl
theorem zz_nt37 : Cond.fieldLinkNest RX7 126 "HandsReturned$Debts" "count" "I" "HandsReturned" ∈ lw_tbl := zz_t1 171 rfl
theorem zz_n38 : Cond.methodLinkNest RX7 50 yX2_init "HandsReturned" ∈ zz_nest := List.mem_of_getElem? (i := 38) rfl
theorem zz_nt38 : Cond.methodLinkNest RX7 50 yX2_init "HandsReturned" ∈ lw_tbl := zz_t1 185 rfl
theorem zz_n39 : Cond.fieldLinkNest RX7 196 "HandsReturned$Evening" "payers" "[I" "HandsReturned" ∈ zz_nest := List.mem_of_getElem? (i := 39) rfl
theorem zz_nt39 : Cond.fieldLinkNest RX7 196 "HandsReturned$Evening" "payers" "[I" "HandsReturned" ∈ lw_tbl := zz_t1 195 rfl
theorem zz_n40 : Cond.fieldLinkNest RX7 199 "HandsReturned$Evening" "payees" "[I" "HandsReturned" ∈ zz_nest := List.mem_of_getElem? (i := 40) rfl
theorem zz_nt40 : Cond.fieldLinkNest RX7 199 "HandsReturned$Evening" "payees" "[I" "HandsReturned" ∈ lw_tbl := zz_t1 197 rfl
theorem zz_n41 : Cond.fieldLinkNest RX7 202 "HandsReturned$Evening" "units" "[I" "HandsReturned" ∈ zz_nest := List.mem_of_getElem? (i := 41) rfl
theorem zz_nt41 : Cond.fieldLinkNest RX7 202 "HandsReturned$Evening" "units" "[I" "HandsReturned" ∈ lw_tbl := zz_t1 199 rfl
theorem zz_n42 : Cond.fieldLinkNest RX7 195 "HandsReturned$Evening" "count" "I" "HandsReturned" ∈ zz_nest := List.mem_of_getElem? (i := 42) rfl
theorem zz_nt42 : Cond.fieldLinkNest RX7 195 "HandsReturned$Evening" "count" "I" "HandsReturned" ∈ lw_tbl := zz_t1 201 rfl
theorem zz_n43 : Cond.methodLinkNest RX7 57 yX5_init "HandsReturned" ∈ zz_nest := List.mem_of_getElem? (i := 43) rfl
theorem zz_nt43 : Cond.methodLinkNest RX7 57 yX5_init "HandsReturned" ∈ lw_tbl := zz_t1 223 rfl
theorem zz_n44 : Cond.fieldLinkNest RX7 223 "HandsReturned$Plan" "chosen" "[I" "HandsReturned" ∈ zz_nest := List.mem_of_getElem? (i := 44) rfl
theorem zz_nt44 : Cond.fieldLinkNest RX7 223 "HandsReturned$Plan" "chosen" "[I" "HandsReturned" ∈ lw_tbl := zz_t1 235 rfl
theorem zz_n45 : Cond.fieldLinkNest RX7 220 "HandsReturned$Plan" "chosenCount" "I" "HandsReturned" ∈ zz_nest := List.mem_of_getElem? (i := 45) rfl
theorem zz_nt45 : Cond.fieldLinkNest RX7 220 "HandsReturned$Plan" "chosenCount" "I" "HandsReturned" ∈ lw_tbl := zz_t1 237 rfl
theorem zz_n46 : Cond.methodLinkNest RX7 102 yX6_append "HandsReturned" ∈ zz_nest := List.mem_of_getElem? (i := 46) rfl
theorem zz_nt46 : Cond.methodLinkNest RX7 102 yX6_append "HandsReturned" ∈ lw_tbl := zz_t2 86 rfl
theorem zz_n47 : Cond.methodLinkNest RX7 106 yX0_read "HandsReturned" ∈ zz_nest := List.mem_of_getElem? (i := 47) rfl
theorem zz_nt47 : Cond.methodLinkNest RX7 106 yX0_read "HandsReturned" ∈ lw_tbl := zz_t2 98 rfl
theorem zz_n48 : Cond.methodLinkNest RX0 63 yX6_at "HandsReturned" ∈ zz_nest := List.mem_of_getElem? (i := 48) rfl
theorem zz_nt48 : Cond.methodLinkNest RX0 63 yX6_at "HandsReturned" ∈ lw_tbl := zz_t2 105 rfl
theorem zz_n49 : Cond.methodLinkNest RX0 82 yX7_within "HandsReturned" ∈ zz_nest := List.mem_of_getElem? (i := 49) rfl
theorem zz_nt49 : Cond.methodLinkNest RX0 82 yX7_within "HandsReturned" ∈ lw_tbl := zz_t2 194 rfl
theorem zz_n50 : Cond.fieldLinkNest RX0 86 "HandsReturned" "LEAST_TOLD" "[I" "HandsReturned" ∈ zz_nest := List.mem_of_getElem? (i := 50) rfl
theorem zz_nt50 : Cond.fieldLinkNest RX0 86 "HandsReturned" "LEAST_TOLD" "[I" "HandsReturned" ∈ lw_tbl := zz_t2 195 rfl
theorem zz_n51 : Cond.fieldLinkNest RX0 89 "HandsReturned" "MOST_TOLD" "[I" "HandsReturned" ∈ zz_nest := List.mem_of_getElem? (i := 51) rfl
theorem zz_nt51 : Cond.fieldLinkNest RX0 89 "HandsReturned" "MOST_TOLD" "[I" "HandsReturned" ∈ lw_tbl := zz_t2 197 rfl
theorem zz_n52 : Cond.methodLinkNest RX7 132 yX3_takes "HandsReturned" ∈ zz_nest := List.mem_of_getElem? (i := 52) rfl
theorem zz_nt52 : Cond.methodLinkNest RX7 132 yX3_takes "HandsReturned" ∈ lw_tbl := zz_t2 224 rfl
theorem zz_n53 : Cond.methodLinkNest RX7 136 yX4_freeHands "HandsReturned" ∈ zz_nest := List.mem_of_getElem? (i := 53) rfl
theorem zz_nt53 : Cond.methodLinkNest RX7 136 yX4_freeHands "HandsReturned" ∈ lw_tbl := zz_t2 228 rfl
theorem zz_n54 : Cond.methodLinkNest RX7 234 yX1_lessen "HandsReturned" ∈ zz_nest := List.mem_of_getElem? (i := 54) rfl
theorem zz_nt54 : Cond.methodLinkNest RX7 234 yX1_lessen "HandsReturned" ∈ lw_tbl := zz_t2 236 rfl
theorem zz_n55 : Cond.methodLinkNest RX7 238 yX1_put "HandsReturned" ∈ zz_nest := List.mem_of_getElem? (i := 55) rfl
theorem zz_nt55 : Cond.methodLinkNest RX7 238 yX1_put "HandsReturned" ∈ lw_tbl := zz_t3 9 rfl
theorem zz_n56 : Cond.methodLinkNest RX7 256 yX1_dropEmpty "HandsReturned" ∈ zz_nest := List.mem_of_getElem? (i := 56) rfl
theorem zz_nt56 : Cond.methodLinkNest RX7 256 yX1_dropEmpty "HandsReturned" ∈ lw_tbl := zz_t3 40 rfl
theorem zz_n57 : Cond.methodLinkNest RX7 161 yX1_net "HandsReturned" ∈ zz_nest := List.mem_of_getElem? (i := 57) rfl
theorem zz_nt57 : Cond.methodLinkNest RX7 161 yX1_net "HandsReturned" ∈ lw_tbl := zz_t3 46 rfl
theorem zz_n58 : Cond.methodLinkNest RX7 184 yX1_unitsOwed "HandsReturned" ∈ zz_nest := List.mem_of_getElem? (i := 58) rfl
theorem zz_nt58 : Cond.methodLinkNest RX7 184 yX1_unitsOwed "HandsReturned" ∈ lw_tbl := zz_t3 62 rfl
theorem zz_n59 : Cond.methodLinkNest RX7 188 yX1_firstDay "HandsReturned" ∈ zz_nest := List.mem_of_getElem? (i := 59) rfl
theorem zz_nt59 : Cond.methodLinkNest RX7 188 yX1_firstDay "HandsReturned" ∈ lw_tbl := zz_t3 70 rfl
theorem zz_n60 : Cond.methodLinkNest RX7 191 yX2_tellFor "HandsReturned" ∈ zz_nest := List.mem_of_getElem? (i := 60) rfl
theorem zz_nt60 : Cond.methodLinkNest RX7 191 yX2_tellFor "HandsReturned" ∈ lw_tbl := zz_t3 78 rfl
theorem zz_n61 : Cond.methodLinkNest RX2 52 yX7_within "HandsReturned" ∈ zz_nest := List.mem_of_getElem? (i := 61) rfl
theorem zz_nt61 : Cond.methodLinkNest RX2 52 yX7_within "HandsReturned" ∈ lw_tbl := zz_t3 86 rfl
theorem zz_n62 : Cond.methodLinkNest RX7 208 yX5_begin "HandsReturned" ∈ zz_nest := List.mem_of_getElem? (i := 62) rfl
theorem zz_nt62 : Cond.methodLinkNest RX7 208 yX5_begin "HandsReturned" ∈ lw_tbl := zz_t3 125 rfl
theorem zz_n63 : Cond.methodLinkNest RX7 212 yX5_take "HandsReturned" ∈ zz_nest := List.mem_of_getElem? (i := 63) rfl
theorem zz_nt63 : Cond.methodLinkNest RX7 212 yX5_take "HandsReturned" ∈ lw_tbl := zz_t3 130 rfl
theorem zz_n64 : Cond.methodLinkNest RX7 216 yX5_choose "HandsReturned" ∈ zz_nest := List.mem_of_getElem? (i := 64) rfl
theorem zz_nt64 : Cond.methodLinkNest RX7 216 yX5_choose "HandsReturned" ∈ lw_tbl := zz_t3 138 rfl
theorem zz_n65 : Cond.methodLinkNest RX5 76 yX7_proceedsOf "HandsReturned" ∈ zz_nest := List.mem_of_getElem? (i := 65) rfl
theorem zz_nt65 : Cond.methodLinkNest RX5 76 yX7_proceedsOf "HandsReturned" ∈ lw_tbl := zz_t3 150 rfl
theorem zz_nest_in : ∀ w ∈ zz_nest, w ∈ lw_tbl := List.forall_mem_cons.mpr ⟨zz_nt0, List.forall_mem_cons.mpr ⟨zz_nt1, List.forall_mem_cons.mpr ⟨zz_nt2, List.forall_mem_cons.mpr ⟨zz_nt3, List.forall_mem_cons.mpr ⟨zz_nt4, List.forall_mem_cons.mpr ⟨zz_nt5, List.forall_mem_cons.mpr ⟨zz_nt6, List.forall_mem_cons.mpr ⟨zz_nt7, List.forall_mem_cons.mpr ⟨zz_nt8, List.forall_mem_cons.mpr ⟨zz_nt9, List.forall_mem_cons.mpr ⟨zz_nt10, List.forall_mem_cons.mpr ⟨zz_nt11, List.forall_mem_cons.mpr ⟨zz_nt12, List.forall_mem_cons.mpr ⟨zz_nt13, List.forall_mem_cons.mpr ⟨zz_nt14, List.forall_mem_cons.mpr ⟨zz_nt15, List.forall_mem_cons.mpr ⟨zz_nt16, List.forall_mem_cons.mpr ⟨zz_nt17, List.forall_mem_cons.mpr ⟨zz_nt18, List.forall_mem_cons.mpr ⟨zz_nt19, List.forall_mem_cons.mpr ⟨zz_nt20, List.forall_mem_cons.mpr ⟨zz_nt21, List.forall_mem_cons.mpr ⟨zz_nt22, List.forall_mem_cons.mpr ⟨zz_nt23, List.forall_mem_cons.mpr ⟨zz_nt24, List.forall_mem_cons.mpr ⟨zz_nt25, List.forall_mem_cons.mpr ⟨zz_nt26, List.forall_mem_cons.mpr ⟨zz_nt27, List.forall_mem_cons.mpr ⟨zz_nt28, List.forall_mem_cons.mpr ⟨zz_nt29, List.forall_mem_cons.mpr ⟨zz_nt30, List.forall_mem_cons.mpr ⟨zz_nt31, List.forall_mem_cons.mpr ⟨zz_nt32, List.forall_mem_cons.mpr ⟨zz_nt33, List.forall_mem_cons.mpr ⟨zz_nt34, List.forall_mem_cons.mpr ⟨zz_nt35, List.forall_mem_cons.mpr ⟨zz_nt36, List.forall_mem_cons.mpr ⟨zz_nt37, List.forall_mem_cons.mpr ⟨zz_nt38, List.forall_mem_cons.mpr ⟨zz_nt39, List.forall_mem_cons.mpr ⟨zz_nt40, List.forall_mem_cons.mpr ⟨zz_nt41, List.forall_mem_cons.mpr ⟨zz_nt42, List.forall_mem_cons.mpr ⟨zz_nt43, List.forall_mem_cons.mpr ⟨zz_nt44, List.forall_mem_cons.mpr ⟨zz_nt45, List.forall_mem_cons.mpr ⟨zz_nt46, List.forall_mem_cons.mpr ⟨zz_nt47, List.forall_mem_cons.mpr ⟨zz_nt48, List.forall_mem_cons.mpr ⟨zz_nt49, List.forall_mem_cons.mpr ⟨zz_nt50, List.forall_mem_cons.mpr ⟨zz_nt51, List.forall_mem_cons.mpr ⟨zz_nt52, List.forall_mem_cons.mpr ⟨zz_nt53, List.forall_mem_cons.mpr ⟨zz_nt54, List.forall_mem_cons.mpr ⟨zz_nt55, List.forall_mem_cons.mpr ⟨zz_nt56, List.forall_mem_cons.mpr ⟨zz_nt57, List.forall_mem_cons.mpr ⟨zz_nt58, List.forall_mem_cons.mpr ⟨zz_nt59, List.forall_mem_cons.mpr ⟨zz_nt60, List.forall_mem_cons.mpr ⟨zz_nt61, List.forall_mem_cons.mpr ⟨zz_nt62, List.forall_mem_cons.mpr ⟨zz_nt63, List.forall_mem_cons.mpr ⟨zz_nt64, List.forall_mem_cons.mpr ⟨zz_nt65, fun _ h => absurd h List.not_mem_nil⟩⟩⟩⟩⟩⟩⟩⟩⟩⟩⟩⟩⟩⟩⟩⟩⟩⟩⟩⟩⟩⟩⟩⟩⟩⟩⟩⟩⟩⟩⟩⟩⟩⟩⟩⟩⟩⟩⟩⟩⟩⟩⟩⟩⟩⟩⟩⟩⟩⟩⟩⟩⟩⟩⟩⟩⟩⟩⟩⟩⟩⟩⟩⟩⟩⟩
def zz_isN : Cond → Bool
  | .fieldLinkNest _ _ _ _ _ _ => true
  | .methodLinkNest _ _ _ _ => true
  | _ => false
theorem zz_nest_is : ∀ w ∈ zz_nest, zz_isN w = true := List.all_eq_true.mp (by rfl : zz_nest.all zz_isN = true)
theorem zz_isN_tab {w : Cond} (h : zz_isN w = true) : w.onTables = true := by
  cases w <;> first | rfl | exact absurd h (by simp [zz_isN])
theorem zz_isN_warm {w : Cond} {s U : State} (h : zz_isN w = true) (hW : s.WarmedH U.vm) (hZ : va_Nw w s) : va_Nw w U := by
  cases w <;> first | exact va_Nw.warmF hW hZ | exact va_Nw.warmM hW hZ | exact absurd h (by simp [zz_isN])
def zz_N (U : State) : Prop := (∀ w ∈ zz_nest, va_Nw w U) ∧ va_AO RX4 U ∧ va_AO RX3 U
theorem zz_N.use {U : State} {A : Array Value} {w : Cond} (h : zz_N U) (hm : w ∈ zz_nest) : w.before A U = true := va_Nw.use (zz_isN_tab (zz_nest_is w hm)) (h.1 w hm)
theorem zz_N.warm {s U : State} (hW : s.WarmedH U.vm) (h : zz_N s) : zz_N U := ⟨fun w hm => zz_isN_warm (zz_nest_is w hm) hW (h.1 w hm), h.2.1.moved hW.alike, h.2.2.moved hW.alike⟩
theorem zz_N.call {U : State} {g : JFrame} {mk : MethodId} {a : Array Value} (h : zz_N U) : zz_N (U.calling g mk a) := ⟨fun w hm => va_Nw.same (u := U) (zz_isN_tab (zz_nest_is w hm)) rfl (h.1 w hm), va_AO.moved (u := U) (Vm.Alike.refl U.vm) h.2.1, va_AO.moved (u := U) (Vm.Alike.refl U.vm) h.2.2⟩
def zz_B (D : va_G) (sz : Nat) (ws : va_W) (tys : List (ClassId × FieldType)) (U : State) : Prop := U.heap.size = sz ∧ va_P D vwCl ws U.heap ∧ va_K D vwCl tys U ∧ va_D (fun _ => True) ws ∧ zz_N U
theorem zz_blind {av : List Value} {D : va_G} {sz : Nat} {ws : va_W} {tys : List (ClassId × FieldType)} : FrameBlind (va_Pc av (zz_B D sz ws tys)) := by
  intro a U g mk q
  obtain ⟨q0, q1, qP, qK, qD, qN⟩ := q
  exact ⟨q0, q1, qP, va_K.moved (u := U) (U := U.calling g mk a) (Vm.Alike.refl U.vm) qK, qD, qN.call⟩
theorem zz_pre {s : State} {H : Heap} {D : va_G} {ws : va_W} {tys : List (ClassId × FieldType)} {av : List Value} {A : Nat → Prop} (hP : va_P D vwCl ws H) (hK : va_K D vwCl tys s) (hD : va_D A ws) (hN : zz_N s) : ∀ U : State, U.heap = H → s.WarmedH U.vm → va_Pc av (zz_B D H.size ws tys) av.toArray U :=
  fun U hU hW => ⟨rfl, by rw [hU], by rw [hU]; exact hP, va_K.moved hW.alike hK, hD.weaken (fun _ _ _ _ => trivial), hN.warm hW⟩
def zz_un : Nat → Int32 := fun k => if k < 3 then 1 else if k = 3 then 400 else 0
def zz_Un (b0 : Nat) (A : Nat → Prop) (U : State) : Prop := va_Z RX7 "UNTOLD" "[I" (.ref b0) A U U.heap ∧ va_X b0 7 zz_un U U.heap ∧ b0 < U.heap.size ∧ ¬ A b0
def zz_BU (D : va_G) (sz b0 : Nat) (ws : va_W) (tys : List (ClassId × FieldType)) (U : State) : Prop := zz_B D sz ws tys U ∧ zz_Un b0 (va_A ws sz) U
theorem zz_blindU {av : List Value} {D : va_G} {sz b0 : Nat} {ws : va_W} {tys : List (ClassId × FieldType)} : FrameBlind (va_Pc av (zz_BU D sz b0 ws tys)) := by
  intro a U g mk q
  obtain ⟨q0, ⟨q1, qP, qK, qD, qN⟩, z, x, lt, na⟩ := q
  exact ⟨q0, ⟨q1, qP, va_K.moved (u := U) (U := U.calling g mk a) (Vm.Alike.refl U.vm) qK, qD, qN.call⟩, va_Z.moved (u := U) (U := U.calling g mk a) (Vm.Alike.refl U.vm) z, va_X.moved (u := U) (U := U.calling g mk a) (Vm.Alike.refl U.vm) x, lt, na⟩
theorem zz_preU {s : State} {H : Heap} {D : va_G} {b0 : Nat} {ws : va_W} {tys : List (ClassId × FieldType)} {av : List Value} {A A0 : Nat → Prop} {locs : List Loc} (hP : va_P D vwCl ws H) (hK : va_K D vwCl tys s) (hD : va_D A0 ws) (hN : zz_N s) (hU0 : zz_Un b0 A s) (hS : va_S A s.heap H locs) (hF : ∀ q, va_A ws H.size q → A q) : ∀ U : State, U.heap = H → s.WarmedH U.vm → va_Pc av (zz_BU D H.size b0 ws tys) av.toArray U := by
  intro U hU hW
  obtain ⟨z, x, lt, na⟩ := hU0
  refine ⟨rfl, ⟨by rw [hU], by rw [hU]; exact hP, va_K.moved hW.alike hK, hD.weaken (fun _ _ _ _ => trivial), hN.warm hW⟩, ?_, ?_, ?_, fun h => na (hF _ h)⟩
  · rw [hU]; exact ((z.kept hS.2.1).moved hW.alike).narrow hF
  · rw [hU]; exact (x.kept (hS.2.1 b0 lt na)).moved hW.alike
  · rw [hU]; exact Nat.lt_of_lt_of_le lt hS.1
theorem zz_keep {D : va_G} {cl : List vw_C} {ws : va_W} {H H1 : Heap} (hP : va_P D cl ws H) (hk : ∀ q : Nat, q < H.size → ¬ va_A [] H.size q → H1[q]? = H[q]?) : va_P D cl ws H1 :=
  hP.kept (fun k q h => hk q.1 ((hP k q h).lt) (fun z => by
    rcases z with ⟨k2, e, h2⟩ | h2
    · simp at h2
    · exact absurd ((hP k q h).lt) (Nat.not_lt.mpr h2)))
theorem zz_D0 {A : Nat → Prop} : va_D A [] := ⟨fun i j p q h => by simp at h, fun k q h => by simp at h⟩
theorem zz_P0 {D : va_G} {cl : List vw_C} {H : Heap} : va_P D cl [] H := fun k q h => by simp at h
theorem zz_free0 {A : Nat → Prop} {H0 H : Heap} {locs : List Loc} (hS : va_S A H0 H locs) (hA : ∀ q, H0.size ≤ q → A q) : ∀ q, va_A [] H.size q → A q := va_free (ws := []) (wc := []) zz_D0 hS hA [] rfl
theorem zz_cA {D : va_G} {cl : List vw_C} {tys : List (ClassId × FieldType)} {U : State} {c1 c2 : ClassId} {ty : FieldType} (hK : va_K D cl tys U) (i j : Nat) (h1 : tys[i]? = some (c1, ty)) (h2 : tys[j]? = some (c2, ty)) (hty : ∀ C, ty ≠ .object C) : c2 = c1 := by
  have a := (hK.2 i _ h1).2
  have b := (hK.2 j _ h2).2
  cases ty with
  | object C => exact absurd rfl (hty C)
  | _ => exact Option.some.inj (b.symm.trans a)
section ZW
variable {p : Program} {l : Launch} {e : Env} {R : Room} {s : State} {m : MethodId} {args : Array Value} {below : List Frame} {meth : Method} {c : Code} {H : Heap} {locs : List Loc} {cells slots : Nat} {Q : State → Prop} {pc : Nat} {ls : Array Slot} {rest : List Value}
theorem zz_seti {x : Int32} (y : Int32) (h : x = y) (k : W p l e R s m args below meth c H locs cells slots Q (F0 m pc ls (.int y :: rest))) : W p l e R s m args below meth c H locs cells slots Q (F0 m pc ls (.int x :: rest)) := h ▸ k
theorem zz_setl {x : Int64} (y : Int64) (h : x = y) (k : W p l e R s m args below meth c H locs cells slots Q (F0 m pc ls (.long y :: rest))) : W p l e R s m args below meth c H locs cells slots Q (F0 m pc ls (.long x :: rest)) := h ▸ k
theorem zz_setv {x : Value} (y : Value) (h : x = y) (k : W p l e R s m args below meth c H locs cells slots Q (F0 m pc ls (y :: rest))) : W p l e R s m args below meth c H locs cells slots Q (F0 m pc ls (x :: rest)) := h ▸ k
end ZW
theorem zz_vin {i : Int32} {n : Nat} (h : (decide (0 ≤ i) && decide (i.toNatClampNeg < n)) = true) : vp_in i n := by
  simp only [Bool.and_eq_true, decide_eq_true_eq] at h
  intro q
  rcases q with q | q
  · exact absurd q (by have := h.1; simp only [Int32.le_iff_toInt_le, Int32.lt_iff_toInt_lt] at *; omega)
  · exact absurd h.2 (Nat.not_lt.mpr q)
def zz_in (v lo hi : Int32) : Int32 := if lo ≤ v ∧ v ≤ hi then 1 else 0
theorem zz_in0 {v lo hi : Int32} : zz_in v lo hi = 0 ↔ ¬ (lo ≤ v ∧ v ≤ hi) := by
  unfold zz_in; split <;> rename_i h
  · constructor
    · intro q; exact absurd q (by decide)
    · intro q; exact absurd h q
  · exact ⟨fun _ => h, fun _ => rfl⟩
theorem zz_in1 {v lo hi : Int32} (h1 : lo ≤ v) (h2 : v ≤ hi) : zz_in v lo hi = 1 := by unfold zz_in; exact if_pos ⟨h1, h2⟩
theorem zz_inN {v lo hi : Int32} (h : ¬ (lo ≤ v ∧ v ≤ hi)) : zz_in v lo hi = 0 := by unfold zz_in; exact if_neg h
theorem zz_empty (v : Int32) : zz_in v 0 (-1) = 0 := zz_inN (by
  intro h
  have h1 := h.1; have h2 := h.2
  rw [Int32.le_iff_toInt_le] at h1 h2
  have e0 : (0 : Int32).toInt = 0 := by decide
  have e1 : (-1 : Int32).toInt = -1 := by decide
  omega)
theorem zz_ne {x y : Int32} (h : ¬ x = y) : x.toInt ≠ y.toInt := fun q => h (Int32.toInt_inj.mp q)
theorem zz_wide_lt (a b : Int32) : a.toInt64 < b.toInt64 ↔ a < b := by rw [Int64.lt_iff_toInt_lt, Int32.lt_iff_toInt_lt, Int32.toInt_toInt64, Int32.toInt_toInt64]
theorem zz_wide_le (a b : Int32) : a.toInt64 ≤ b.toInt64 ↔ a ≤ b := by rw [Int64.le_iff_toInt_le, Int32.le_iff_toInt_le, Int32.toInt_toInt64, Int32.toInt_toInt64]
theorem zz_wide_eq (a b : Int32) : a.toInt64 = b.toInt64 ↔ a = b := by rw [← Int64.toInt_inj, ← Int32.toInt_inj, Int32.toInt_toInt64, Int32.toInt_toInt64]
theorem zz_cmp_neg (a b : Int32) : lg_cmp a.toInt64 b.toInt64 < 0 ↔ ¬ b ≤ a := by
  rw [← zz_wide_le, ← lg_cmp_ge]
  simp only [Int32.lt_iff_toInt_lt, Int32.le_iff_toInt_le]
  omega
theorem zz_cmp_pos (a b : Int32) : 0 < lg_cmp a.toInt64 b.toInt64 ↔ ¬ a ≤ b := by
  rw [← zz_wide_le]
  unfold lg_cmp
  simp only [gt_iff_lt]
  by_cases h : b.toInt64 < a.toInt64
  · rw [if_pos h]
    rw [Int64.lt_iff_toInt_lt] at h
    rw [Int64.le_iff_toInt_le]
    constructor
    · intro _; omega
    · intro _; decide
  · rw [if_neg h]
    rw [Int64.lt_iff_toInt_lt] at h
    rw [Int64.le_iff_toInt_le]
    by_cases h2 : a.toInt64 = b.toInt64
    · rw [if_pos h2]
      constructor
      · intro q; exact absurd q (by decide)
      · intro q; omega
    · rw [if_neg h2]
      constructor
      · intro q; exact absurd q (by decide)
      · intro q; omega
theorem zz_clamp {x : Int32} {n : Nat} (h : vp_in x n) : x.toNatClampNeg < n := Nat.not_le.mp fun q => h (Or.inr q)
theorem zz_sub20 {x : Int32} (h1 : 20 ≤ x.toInt) (h2 : x.toInt ≤ 29) : vp_in (x - 20) 10 := by
  rw [vp_in_iff, Int32.toInt_sub, show (20 : Int32).toInt = 20 from by decide]
  have e : (x.toInt - 20).bmod (2 ^ 32) = x.toInt - 20 := by
    rw [Int.bmod_eq_of_le] <;> omega
  rw [e]; omega
section ZL
variable {p : Program} {l : Launch} {e : Env} {R : Room} {s : State} {m : MethodId} {args : Array Value} {below : List Frame} {meth : Method} {c : Code} {cells slots : Nat} {Q : State → Prop} {pc nL : Nat} {D : va_G} {A : Nat → Prop} {H0 : Heap}
theorem zz_loop (ws : Nat → va_W) (lv : Nat → List (Nat × Value)) (N : Nat)
    (hstep : ∀ j : Nat, j < N → ∀ (H : Heap) (locs : List Loc) (ls : Array Slot), va_P D vwCl (ws j) H → va_D A (ws j) → va_S A H0 H locs → lv_has ls nL (lv j) → (∀ (H : Heap) (locs : List Loc) (ls : Array Slot), va_P D vwCl (ws (j + 1)) H → va_D A (ws (j + 1)) → va_S A H0 H locs → lv_has ls nL (lv (j + 1)) → W p l e R s m args below meth c H locs cells slots Q (F0 m pc ls [])) → W p l e R s m args below meth c H locs cells slots Q (F0 m pc ls []))
    (hexit : ∀ (H : Heap) (locs : List Loc) (ls : Array Slot), va_P D vwCl (ws N) H → va_D A (ws N) → va_S A H0 H locs → lv_has ls nL (lv N) → W p l e R s m args below meth c H locs cells slots Q (F0 m pc ls [])) :
    ∀ (k j : Nat), j + k = N → ∀ (H : Heap) (locs : List Loc) (ls : Array Slot), va_P D vwCl (ws j) H → va_D A (ws j) → va_S A H0 H locs → lv_has ls nL (lv j) → W p l e R s m args below meth c H locs cells slots Q (F0 m pc ls []) := by
  intro k
  induction k with
  | zero =>
    intro j hj H locs ls hP hD hS hl
    have e : j = N := by omega
    subst e
    exact hexit H locs ls hP hD hS hl
  | succ k ih =>
    intro j hj H locs ls hP hD hS hl
    exact hstep j (by omega) H locs ls hP hD hS hl (ih (j + 1) (by omega))
end ZL
theorem zz_nz {x : Int32} (h : x = 0 ∨ x = 1) : narrow .boolean (.int x) = .int x := by rcases h with rfl | rfl <;> rfl
theorem zz_fz {x : Int32} (h : x = 0 ∨ x = 1) : fits .boolean (.int x) = true := by rcases h with rfl | rfl <;> rfl
end
section
theorem tw_0 : Cond.fieldLink RX7 62 "HandsReturned" "houseCount" "I" ∈ zz_all := zz_m2 34 rfl rfl
theorem tw_1 : Cond.code yX7_within cX7_within 3 (some .boolean) ∈ zz_all := zz_m2 77 rfl rfl
theorem tw_2 : Cond.initialized RX7 ∈ zz_all := zz_m1 1 rfl rfl
theorem tw_3 : Cond.methodLink RX7 80 yX7_within ∈ zz_all := zz_m2 75 rfl rfl
theorem tw_4 : Cond.static yX7_within ∈ zz_all := zz_m2 76 rfl rfl
theorem tw_5 : Cond.fieldLink RX7 77 "HandsReturned" "fieldCount" "I" ∈ zz_all := zz_m2 35 rfl rfl
theorem tw_6 : Cond.fieldLink RX7 11 "HandsReturned" "houses" "[LHandsReturned$House;" ∈ zz_all := zz_m2 26 rfl rfl
theorem tw_7 : Cond.code yX7_houseAt cX7_houseAt 2 (some (.object "HandsReturned$House")) ∈ zz_all := zz_m2 74 rfl rfl
theorem tw_8 : Cond.methodLink RX7 73 yX7_houseAt ∈ zz_all := zz_m2 71 rfl rfl
theorem tw_9 : Cond.instanceMethod yX7_houseAt ∈ zz_all := zz_m2 73 rfl rfl
theorem tw_10 : Cond.selects RX7 yX7_houseAt yX7_houseAt ∈ zz_all := zz_ms 0 rfl rfl
theorem tw_11 : Cond.fieldLink RX7 23 "HandsReturned" "losses" "[I" ∈ zz_all := zz_m2 28 rfl rfl
theorem tw_12 : Cond.fieldLink RX6 15 "HandsReturned$Tape" "length" "I" ∈ zz_all := zz_m1 105 rfl rfl
theorem tw_13 : Cond.fieldLink RX6 9 "HandsReturned$Tape" "bytes" "[I" ∈ zz_all := zz_m1 104 rfl rfl
theorem tw_14 : Cond.fieldLink RX7 30 "HandsReturned" "tape" "LHandsReturned$Tape;" ∈ zz_all := zz_m2 29 rfl rfl
theorem tw_15 : Cond.code yX6_append cX6_append 3 none ∈ zz_all := zz_m2 89 rfl rfl
theorem tw_16 : Cond.initialized RX6 ∈ zz_all := zz_m1 4 rfl rfl
theorem tw_17 : Cond.instanceMethod yX6_append ∈ zz_all := zz_m2 88 rfl rfl
theorem tw_18 : Cond.selects RX6 yX6_append yX6_append ∈ zz_all := zz_ms 1 rfl rfl
theorem tw_19 : Cond.fieldLink RX0 15 "HandsReturned$Custom" "draft" "[I" ∈ zz_all := zz_m1 127 rfl rfl
theorem tw_20 : Cond.methodLink RX0 28 arraycopyName ∈ zz_all := zz_m1 122 rfl rfl
theorem tw_21 : Cond.native arraycopyName ∈ zz_all := zz_m1 124 rfl rfl
theorem tw_22 : Cond.static arraycopyName ∈ zz_all := zz_m1 123 rfl rfl
theorem tw_23 : Cond.initialized "java/lang/System" ∈ zz_all := zz_m1 6 rfl rfl
theorem tw_24 : Cond.fieldLink RX0 18 "HandsReturned$Custom" "flaw" "I" ∈ zz_all := zz_m1 128 rfl rfl
theorem tw_25 : Cond.fieldLink RX0 22 "HandsReturned$Custom" "place" "I" ∈ zz_all := zz_m1 130 rfl rfl
theorem tw_26 : Cond.fieldLink RX0 34 "HandsReturned$Custom" "wanted" "I" ∈ zz_all := zz_m1 132 rfl rfl
theorem tw_27 : Cond.fieldLink RX0 37 "HandsReturned$Custom" "word" "I" ∈ zz_all := zz_m1 133 rfl rfl
theorem tw_28 : Cond.fieldLink RX0 40 "HandsReturned$Custom" "seen" "I" ∈ zz_all := zz_m1 134 rfl rfl
theorem tw_29 : Cond.fieldLink RX0 43 "HandsReturned$Custom" "clauses" "I" ∈ zz_all := zz_m1 135 rfl rfl
theorem tw_30 : Cond.fieldLink RX0 9 "HandsReturned$Custom" "told" "[I" ∈ zz_all := zz_m1 125 rfl rfl
theorem tw_31 : Cond.fieldLink RX7 37 "HandsReturned" "customs" "LHandsReturned$Custom;" ∈ zz_all := zz_m2 30 rfl rfl
theorem tw_32 : Cond.code yX0_read cX0_read 3 (some .int) ∈ zz_all := zz_m2 101 rfl rfl
theorem tw_33 : Cond.initialized RX0 ∈ zz_all := zz_m1 5 rfl rfl
theorem tw_34 : Cond.instanceMethod yX0_read ∈ zz_all := zz_m2 100 rfl rfl
theorem tw_35 : Cond.selects RX0 yX0_read yX0_read ∈ zz_all := zz_ms 2 rfl rfl
theorem tw_36 : Cond.code yX7_fieldAt cX7_fieldAt 2 (some (.object "HandsReturned$Field")) ∈ zz_all := zz_m2 223 rfl rfl
theorem tw_37 : Cond.methodLink RX7 122 yX7_fieldAt ∈ zz_all := zz_m2 220 rfl rfl
theorem tw_38 : Cond.instanceMethod yX7_fieldAt ∈ zz_all := zz_m2 222 rfl rfl
theorem tw_39 : Cond.selects RX7 yX7_fieldAt yX7_fieldAt ∈ zz_all := zz_ms 8 rfl rfl
theorem tw_40 : Cond.constant RX7 160 (-1000000) ∈ zz_all := zz_m3 45 rfl rfl
theorem tw_41 : Cond.code yX7_areTwoHouses cX7_areTwoHouses 3 (some .boolean) ∈ zz_all := zz_m3 61 rfl rfl
theorem tw_42 : Cond.methodLink RX7 181 yX7_areTwoHouses ∈ zz_all := zz_m3 58 rfl rfl
theorem tw_43 : Cond.instanceMethod yX7_areTwoHouses ∈ zz_all := zz_m3 60 rfl rfl
theorem tw_44 : Cond.selects RX7 yX7_areTwoHouses yX7_areTwoHouses ∈ zz_all := zz_ms 20 rfl rfl
theorem tw_45 : Cond.fieldLink RX2 15 "HandsReturned$Evening" "freshNets" "[I" ∈ zz_all := zz_m1 190 rfl rfl
theorem tw_46 : Cond.fieldLink RX2 9 "HandsReturned$Evening" "nets" "[I" ∈ zz_all := zz_m1 189 rfl rfl
theorem tw_47 : Cond.code yX2_takeNets cX2_takeNets 4 (some .boolean) ∈ zz_all := zz_m3 85 rfl rfl
theorem tw_48 : Cond.initialized RX2 ∈ zz_all := zz_m1 8 rfl rfl
theorem tw_49 : Cond.methodLink RX2 36 yX2_takeNets ∈ zz_all := zz_m3 82 rfl rfl
theorem tw_50 : Cond.instanceMethod yX2_takeNets ∈ zz_all := zz_m3 84 rfl rfl
theorem tw_51 : Cond.selects RX2 yX2_takeNets yX2_takeNets ∈ zz_all := zz_ms 24 rfl rfl
theorem tw_52 : Cond.fieldLink RX7 51 "HandsReturned" "evening" "LHandsReturned$Evening;" ∈ zz_all := zz_m2 32 rfl rfl
theorem tw_53 : Cond.fieldLink RX7 44 "HandsReturned" "debts" "LHandsReturned$Debts;" ∈ zz_all := zz_m2 31 rfl rfl
theorem tw_54 : Cond.code yX2_tellFor cX2_tellFor 2 none ∈ zz_all := zz_m3 81 rfl rfl
theorem tw_55 : Cond.instanceMethod yX2_tellFor ∈ zz_all := zz_m3 80 rfl rfl
theorem tw_56 : Cond.selects RX2 yX2_tellFor yX2_tellFor ∈ zz_all := zz_ms 23 rfl rfl
theorem tw_57 : Cond.fieldLink RX5 36 "HandsReturned$Plan" "count" "I" ∈ zz_all := zz_m1 238 rfl rfl
theorem tw_58 : Cond.fieldLink RX5 40 "HandsReturned$Plan" "today" "I" ∈ zz_all := zz_m1 239 rfl rfl
theorem tw_59 : Cond.methodLink RX5 43 Lib.Math.max.name ∈ zz_all := zz_m3 129 rfl rfl
theorem tw_60 : Cond.static Lib.Math.max.name ∈ zz_all := zz_m3 22 rfl rfl
theorem tw_61 : Cond.initialized "java/lang/Math" ∈ zz_all := zz_m1 15 rfl rfl
theorem tw_62 : Cond.code Lib.Math.max.name Lib.Math.max.code 2 (some .int) ∈ zz_all := zz_m3 23 rfl rfl
theorem tw_63 : Cond.fieldLink RX5 49 "HandsReturned$Plan" "hands" "I" ∈ zz_all := zz_m2 0 rfl rfl
theorem tw_64 : Cond.fieldLink RX5 27 "HandsReturned$Plan" "leastLost" "[I" ∈ zz_all := zz_m1 232 rfl rfl
theorem tw_65 : Cond.fieldLink RX5 70 "HandsReturned$Plan" "chosenCount" "I" ∈ zz_all := zz_m1 236 rfl rfl
theorem tw_66 : Cond.code yX7_waitingFields cX7_waitingFields 3 (some .int) ∈ zz_all := zz_m3 124 rfl rfl
theorem tw_67 : Cond.methodLink RX7 205 yX7_waitingFields ∈ zz_all := zz_m3 121 rfl rfl
theorem tw_68 : Cond.instanceMethod yX7_waitingFields ∈ zz_all := zz_m3 123 rfl rfl
theorem tw_69 : Cond.selects RX7 yX7_waitingFields yX7_waitingFields ∈ zz_all := zz_ms 30 rfl rfl
theorem tw_70 : Cond.fieldLink RX7 58 "HandsReturned" "order" "LHandsReturned$Plan;" ∈ zz_all := zz_m2 33 rfl rfl
theorem tw_71 : Cond.fieldLink RX7 129 "HandsReturned" "clock" "I" ∈ zz_all := zz_m2 36 rfl rfl
theorem tw_72 : Cond.code yX5_begin cX5_begin 3 none ∈ zz_all := zz_m3 128 rfl rfl
theorem tw_73 : Cond.initialized RX5 ∈ zz_all := zz_m1 9 rfl rfl
theorem tw_74 : Cond.instanceMethod yX5_begin ∈ zz_all := zz_m3 127 rfl rfl
theorem tw_75 : Cond.selects RX5 yX5_begin yX5_begin ∈ zz_all := zz_ms 31 rfl rfl
theorem tw_76 : Cond.code yX5_choose cX5_choose 6 (some .int) ∈ zz_all := zz_m3 141 rfl rfl
theorem tw_77 : Cond.instanceMethod yX5_choose ∈ zz_all := zz_m3 140 rfl rfl
theorem tw_78 : Cond.selects RX5 yX5_choose yX5_choose ∈ zz_all := zz_ms 34 rfl rfl
theorem tw_79 : Cond.fieldLink RX7 151 "HandsReturned" "hired" "I" ∈ zz_all := zz_m2 37 rfl rfl
theorem dX7_within_0 : decode cX7_within 0 = .ok (.iload_n 0, 1) := by decide +kernel
theorem dX7_within_1 : decode cX7_within 1 = .ok (.iload_n 1, 1) := by decide +kernel
theorem dX7_within_2 : decode cX7_within 2 = .ok (.if_icmp .lt 12, 3) := by decide +kernel
theorem dX7_within_5 : decode cX7_within 5 = .ok (.iload_n 0, 1) := by decide +kernel
theorem dX7_within_6 : decode cX7_within 6 = .ok (.iload_n 2, 1) := by decide +kernel
theorem dX7_within_7 : decode cX7_within 7 = .ok (.if_icmp .gt 7, 3) := by decide +kernel
theorem dX7_within_10 : decode cX7_within 10 = .ok (.iconst 1, 1) := by decide +kernel
theorem dX7_within_11 : decode cX7_within 11 = .ok (.goto 4, 3) := by decide +kernel
theorem dX7_within_14 : decode cX7_within 14 = .ok (.iconst 0, 1) := by decide +kernel
theorem dX7_within_15 : decode cX7_within 15 = .ok (.ireturn, 1) := by decide +kernel
theorem dX8_in_0 : decode cX8_in 0 = .ok (.lload_n 0, 1) := by decide +kernel
theorem dX8_in_1 : decode cX8_in 1 = .ok (.lload_n 2, 1) := by decide +kernel
theorem dX8_in_2 : decode cX8_in 2 = .ok (.lcmp, 1) := by decide +kernel
theorem dX8_in_3 : decode cX8_in 3 = .ok (.ifCond .lt 14, 3) := by decide +kernel
theorem dX8_in_6 : decode cX8_in 6 = .ok (.lload_n 0, 1) := by decide +kernel
theorem dX8_in_7 : decode cX8_in 7 = .ok (.lload 4, 2) := by decide +kernel
theorem dX8_in_9 : decode cX8_in 9 = .ok (.lcmp, 1) := by decide +kernel
theorem dX8_in_10 : decode cX8_in 10 = .ok (.ifCond .gt 7, 3) := by decide +kernel
theorem dX8_in_13 : decode cX8_in 13 = .ok (.iconst 1, 1) := by decide +kernel
theorem dX8_in_14 : decode cX8_in 14 = .ok (.goto 4, 3) := by decide +kernel
theorem dX8_in_17 : decode cX8_in 17 = .ok (.iconst 0, 1) := by decide +kernel
theorem dX8_in_18 : decode cX8_in 18 = .ok (.ireturn, 1) := by decide +kernel
theorem dX7_houseAt_0 : decode cX7_houseAt 0 = .ok (.iload_n 1, 1) := by decide +kernel
theorem dX7_houseAt_1 : decode cX7_houseAt 1 = .ok (.iconst 0, 1) := by decide +kernel
theorem dX7_houseAt_2 : decode cX7_houseAt 2 = .ok (.aload_n 0, 1) := by decide +kernel
theorem dX7_houseAt_3 : decode cX7_houseAt 3 = .ok (.getfield 62, 3) := by decide +kernel
theorem dX7_houseAt_6 : decode cX7_houseAt 6 = .ok (.iconst 1, 1) := by decide +kernel
theorem dX7_houseAt_7 : decode cX7_houseAt 7 = .ok (.isub, 1) := by decide +kernel
theorem dX7_houseAt_8 : decode cX7_houseAt 8 = .ok (.invokestatic 80, 3) := by decide +kernel
theorem dX7_houseAt_11 : decode cX7_houseAt 11 = .ok (.ifCond .eq 12, 3) := by decide +kernel
theorem dX7_houseAt_23 : decode cX7_houseAt 23 = .ok (.aconst_null, 1) := by decide +kernel
theorem dX7_houseAt_24 : decode cX7_houseAt 24 = .ok (.areturn, 1) := by decide +kernel
theorem dX7_fieldAt_0 : decode cX7_fieldAt 0 = .ok (.iload_n 1, 1) := by decide +kernel
theorem dX7_fieldAt_1 : decode cX7_fieldAt 1 = .ok (.iconst 0, 1) := by decide +kernel
theorem dX7_fieldAt_2 : decode cX7_fieldAt 2 = .ok (.aload_n 0, 1) := by decide +kernel
theorem dX7_fieldAt_3 : decode cX7_fieldAt 3 = .ok (.getfield 77, 3) := by decide +kernel
theorem dX7_fieldAt_6 : decode cX7_fieldAt 6 = .ok (.iconst 1, 1) := by decide +kernel
theorem dX7_fieldAt_7 : decode cX7_fieldAt 7 = .ok (.isub, 1) := by decide +kernel
theorem dX7_fieldAt_8 : decode cX7_fieldAt 8 = .ok (.invokestatic 80, 3) := by decide +kernel
theorem dX7_fieldAt_11 : decode cX7_fieldAt 11 = .ok (.ifCond .eq 12, 3) := by decide +kernel
theorem dX7_fieldAt_23 : decode cX7_fieldAt 23 = .ok (.aconst_null, 1) := by decide +kernel
theorem dX7_fieldAt_24 : decode cX7_fieldAt 24 = .ok (.areturn, 1) := by decide +kernel
theorem dX7_house_0 : decode cX7_house 0 = .ok (.iload_n 1, 1) := by decide +kernel
theorem dX7_house_1 : decode cX7_house 1 = .ok (.iconst 1, 1) := by decide +kernel
theorem dX7_house_2 : decode cX7_house 2 = .ok (.if_icmp .lt 18, 3) := by decide +kernel
theorem dX7_house_5 : decode cX7_house 5 = .ok (.iload_n 1, 1) := by decide +kernel
theorem dX7_house_6 : decode cX7_house 6 = .ok (.bipush 9, 2) := by decide +kernel
theorem dX7_house_8 : decode cX7_house 8 = .ok (.if_icmp .gt 12, 3) := by decide +kernel
theorem dX7_house_11 : decode cX7_house 11 = .ok (.aload_n 0, 1) := by decide +kernel
theorem dX7_house_12 : decode cX7_house 12 = .ok (.getfield 62, 3) := by decide +kernel
theorem dX7_house_15 : decode cX7_house 15 = .ok (.bipush 8, 2) := by decide +kernel
theorem dX7_house_17 : decode cX7_house 17 = .ok (.if_icmp .lt 5, 3) := by decide +kernel
theorem dX7_house_20 : decode cX7_house 20 = .ok (.iconst (-1), 1) := by decide +kernel
theorem dX7_house_21 : decode cX7_house 21 = .ok (.ireturn, 1) := by decide +kernel
theorem dX7_house_22 : decode cX7_house 22 = .ok (.aload_n 0, 1) := by decide +kernel
theorem dX7_house_23 : decode cX7_house 23 = .ok (.getfield 11, 3) := by decide +kernel
theorem dX7_house_26 : decode cX7_house 26 = .ok (.aload_n 0, 1) := by decide +kernel
theorem dX7_house_27 : decode cX7_house 27 = .ok (.getfield 62, 3) := by decide +kernel
theorem dX7_house_30 : decode cX7_house 30 = .ok (.aaload, 1) := by decide +kernel
theorem dX7_house_31 : decode cX7_house 31 = .ok (.astore_n 3, 1) := by decide +kernel
theorem dX7_house_32 : decode cX7_house 32 = .ok (.aload_n 3, 1) := by decide +kernel
theorem dX7_house_33 : decode cX7_house 33 = .ok (.iload_n 1, 1) := by decide +kernel
theorem dX7_house_34 : decode cX7_house 34 = .ok (.putfield 66, 3) := by decide +kernel
theorem dX7_house_37 : decode cX7_house 37 = .ok (.aload_n 3, 1) := by decide +kernel
theorem dX7_house_38 : decode cX7_house 38 = .ok (.iload_n 2, 1) := by decide +kernel
theorem dX7_house_39 : decode cX7_house 39 = .ok (.putfield 69, 3) := by decide +kernel
theorem dX7_house_42 : decode cX7_house 42 = .ok (.aload_n 0, 1) := by decide +kernel
theorem dX7_house_43 : decode cX7_house 43 = .ok (.dup, 1) := by decide +kernel
theorem dX7_house_44 : decode cX7_house 44 = .ok (.getfield 62, 3) := by decide +kernel
theorem dX7_house_47 : decode cX7_house 47 = .ok (.iconst 1, 1) := by decide +kernel
theorem dX7_house_48 : decode cX7_house 48 = .ok (.iadd, 1) := by decide +kernel
theorem dX7_house_49 : decode cX7_house 49 = .ok (.putfield 62, 3) := by decide +kernel
theorem dX7_house_52 : decode cX7_house 52 = .ok (.aload_n 0, 1) := by decide +kernel
theorem dX7_house_53 : decode cX7_house 53 = .ok (.getfield 62, 3) := by decide +kernel
theorem dX7_house_56 : decode cX7_house 56 = .ok (.iconst 1, 1) := by decide +kernel
theorem dX7_house_57 : decode cX7_house 57 = .ok (.isub, 1) := by decide +kernel
theorem dX7_house_58 : decode cX7_house 58 = .ok (.ireturn, 1) := by decide +kernel
theorem dX7_field_0 : decode cX7_field 0 = .ok (.aload_n 0, 1) := by decide +kernel
theorem dX7_field_1 : decode cX7_field 1 = .ok (.iload_n 1, 1) := by decide +kernel
theorem dX7_field_2 : decode cX7_field 2 = .ok (.invokevirtual 73, 3) := by decide +kernel
theorem dX7_field_5 : decode cX7_field 5 = .ok (.ifnull 12, 3) := by decide +kernel
theorem dX7_field_17 : decode cX7_field 17 = .ok (.iconst (-1), 1) := by decide +kernel
theorem dX7_field_18 : decode cX7_field 18 = .ok (.ireturn, 1) := by decide +kernel
theorem dX7_loss_0 : decode cX7_loss 0 = .ok (.iload_n 1, 1) := by decide +kernel
theorem dX7_loss_1 : decode cX7_loss 1 = .ok (.iconst 0, 1) := by decide +kernel
theorem dX7_loss_2 : decode cX7_loss 2 = .ok (.bipush 9, 2) := by decide +kernel
theorem dX7_loss_4 : decode cX7_loss 4 = .ok (.invokestatic 80, 3) := by decide +kernel
theorem dX7_loss_7 : decode cX7_loss 7 = .ok (.ifCond .eq 13, 3) := by decide +kernel
theorem dX7_loss_10 : decode cX7_loss 10 = .ok (.iload_n 2, 1) := by decide +kernel
theorem dX7_loss_11 : decode cX7_loss 11 = .ok (.iconst 0, 1) := by decide +kernel
theorem dX7_loss_12 : decode cX7_loss 12 = .ok (.bipush 100, 2) := by decide +kernel
theorem dX7_loss_14 : decode cX7_loss 14 = .ok (.invokestatic 80, 3) := by decide +kernel
theorem dX7_loss_17 : decode cX7_loss 17 = .ok (.ifCond .ne 5, 3) := by decide +kernel
theorem dX7_loss_20 : decode cX7_loss 20 = .ok (.iconst 0, 1) := by decide +kernel
theorem dX7_loss_21 : decode cX7_loss 21 = .ok (.ireturn, 1) := by decide +kernel
theorem dX7_loss_22 : decode cX7_loss 22 = .ok (.aload_n 0, 1) := by decide +kernel
theorem dX7_loss_23 : decode cX7_loss 23 = .ok (.getfield 23, 3) := by decide +kernel
theorem dX7_loss_26 : decode cX7_loss 26 = .ok (.iload_n 1, 1) := by decide +kernel
theorem dX7_loss_27 : decode cX7_loss 27 = .ok (.iload_n 2, 1) := by decide +kernel
theorem dX7_loss_28 : decode cX7_loss 28 = .ok (.iastore, 1) := by decide +kernel
theorem dX7_loss_29 : decode cX7_loss 29 = .ok (.iconst 1, 1) := by decide +kernel
theorem dX7_loss_30 : decode cX7_loss 30 = .ok (.ireturn, 1) := by decide +kernel
theorem dX6_append_0 : decode cX6_append 0 = .ok (.bipush 24, 2) := by decide +kernel
theorem dX6_append_2 : decode cX6_append 2 = .ok (.istore_n 2, 1) := by decide +kernel
theorem dX6_append_3 : decode cX6_append 3 = .ok (.iload_n 2, 1) := by decide +kernel
theorem dX6_append_4 : decode cX6_append 4 = .ok (.ifCond .lt 45, 3) := by decide +kernel
theorem dX6_append_7 : decode cX6_append 7 = .ok (.aload_n 0, 1) := by decide +kernel
theorem dX6_append_8 : decode cX6_append 8 = .ok (.getfield 15, 3) := by decide +kernel
theorem dX6_append_11 : decode cX6_append 11 = .ok (.sipush 200, 3) := by decide +kernel
theorem dX6_append_14 : decode cX6_append 14 = .ok (.if_icmp .ge 35, 3) := by decide +kernel
theorem dX6_append_17 : decode cX6_append 17 = .ok (.aload_n 0, 1) := by decide +kernel
theorem dX6_append_18 : decode cX6_append 18 = .ok (.getfield 9, 3) := by decide +kernel
theorem dX6_append_21 : decode cX6_append 21 = .ok (.aload_n 0, 1) := by decide +kernel
theorem dX6_append_22 : decode cX6_append 22 = .ok (.getfield 15, 3) := by decide +kernel
theorem dX6_append_25 : decode cX6_append 25 = .ok (.iload_n 1, 1) := by decide +kernel
theorem dX6_append_26 : decode cX6_append 26 = .ok (.iload_n 2, 1) := by decide +kernel
theorem dX6_append_27 : decode cX6_append 27 = .ok (.iushr, 1) := by decide +kernel
theorem dX6_append_28 : decode cX6_append 28 = .ok (.sipush 255, 3) := by decide +kernel
theorem dX6_append_31 : decode cX6_append 31 = .ok (.iand, 1) := by decide +kernel
theorem dX6_append_32 : decode cX6_append 32 = .ok (.iastore, 1) := by decide +kernel
theorem dX6_append_33 : decode cX6_append 33 = .ok (.aload_n 0, 1) := by decide +kernel
theorem dX6_append_34 : decode cX6_append 34 = .ok (.dup, 1) := by decide +kernel
theorem dX6_append_35 : decode cX6_append 35 = .ok (.getfield 15, 3) := by decide +kernel
theorem dX6_append_38 : decode cX6_append 38 = .ok (.iconst 1, 1) := by decide +kernel
theorem dX6_append_39 : decode cX6_append 39 = .ok (.iadd, 1) := by decide +kernel
theorem dX6_append_40 : decode cX6_append 40 = .ok (.putfield 15, 3) := by decide +kernel
theorem dX6_append_43 : decode cX6_append 43 = .ok (.iinc 2 (-8), 3) := by decide +kernel
theorem dX6_append_46 : decode cX6_append 46 = .ok (.goto (-43), 3) := by decide +kernel
theorem dX6_append_49 : decode cX6_append 49 = .ok (.return_, 1) := by decide +kernel
theorem dX7_feed_0 : decode cX7_feed 0 = .ok (.aload_n 0, 1) := by decide +kernel
theorem dX7_feed_1 : decode cX7_feed 1 = .ok (.getfield 30, 3) := by decide +kernel
theorem dX7_feed_4 : decode cX7_feed 4 = .ok (.getfield 99, 3) := by decide +kernel
theorem dX7_feed_7 : decode cX7_feed 7 = .ok (.sipush 180, 3) := by decide +kernel
theorem dX7_feed_10 : decode cX7_feed 10 = .ok (.if_icmp .le 5, 3) := by decide +kernel
theorem dX7_feed_15 : decode cX7_feed 15 = .ok (.aload_n 0, 1) := by decide +kernel
theorem dX7_feed_16 : decode cX7_feed 16 = .ok (.getfield 30, 3) := by decide +kernel
theorem dX7_feed_19 : decode cX7_feed 19 = .ok (.iload_n 1, 1) := by decide +kernel
theorem dX7_feed_20 : decode cX7_feed 20 = .ok (.invokevirtual 102, 3) := by decide +kernel
theorem dX7_feed_23 : decode cX7_feed 23 = .ok (.aload_n 0, 1) := by decide +kernel
theorem dX7_feed_24 : decode cX7_feed 24 = .ok (.getfield 30, 3) := by decide +kernel
theorem dX7_feed_27 : decode cX7_feed 27 = .ok (.iload_n 2, 1) := by decide +kernel
theorem dX7_feed_28 : decode cX7_feed 28 = .ok (.invokevirtual 102, 3) := by decide +kernel
theorem dX7_feed_31 : decode cX7_feed 31 = .ok (.aload_n 0, 1) := by decide +kernel
theorem dX7_feed_32 : decode cX7_feed 32 = .ok (.getfield 30, 3) := by decide +kernel
theorem dX7_feed_35 : decode cX7_feed 35 = .ok (.iload_n 3, 1) := by decide +kernel
theorem dX7_feed_36 : decode cX7_feed 36 = .ok (.invokevirtual 102, 3) := by decide +kernel
theorem dX7_feed_39 : decode cX7_feed 39 = .ok (.aload_n 0, 1) := by decide +kernel
theorem dX7_feed_40 : decode cX7_feed 40 = .ok (.getfield 30, 3) := by decide +kernel
theorem dX7_feed_43 : decode cX7_feed 43 = .ok (.iload 4, 2) := by decide +kernel
theorem dX7_feed_45 : decode cX7_feed 45 = .ok (.invokevirtual 102, 3) := by decide +kernel
theorem dX7_feed_48 : decode cX7_feed 48 = .ok (.aload_n 0, 1) := by decide +kernel
theorem dX7_feed_49 : decode cX7_feed 49 = .ok (.getfield 30, 3) := by decide +kernel
theorem dX7_feed_52 : decode cX7_feed 52 = .ok (.iload 5, 2) := by decide +kernel
theorem dX7_feed_54 : decode cX7_feed 54 = .ok (.invokevirtual 102, 3) := by decide +kernel
theorem dX7_feed_57 : decode cX7_feed 57 = .ok (.aload_n 0, 1) := by decide +kernel
theorem dX7_feed_58 : decode cX7_feed 58 = .ok (.getfield 30, 3) := by decide +kernel
theorem dX7_feed_61 : decode cX7_feed 61 = .ok (.getfield 99, 3) := by decide +kernel
theorem dX7_feed_64 : decode cX7_feed 64 = .ok (.ireturn, 1) := by decide +kernel
theorem dX7_end_0 : decode cX7_end 0 = .ok (.iload_n 1, 1) := by decide +kernel
theorem dX7_end_1 : decode cX7_end 1 = .ok (.iconst 0, 1) := by decide +kernel
theorem dX7_end_2 : decode cX7_end 2 = .ok (.aload_n 0, 1) := by decide +kernel
theorem dX7_end_3 : decode cX7_end 3 = .ok (.getfield 30, 3) := by decide +kernel
theorem dX7_end_6 : decode cX7_end 6 = .ok (.getfield 99, 3) := by decide +kernel
theorem dX7_end_9 : decode cX7_end 9 = .ok (.invokestatic 80, 3) := by decide +kernel
theorem dX7_end_12 : decode cX7_end 12 = .ok (.ifCond .ne 5, 3) := by decide +kernel
theorem dX7_end_15 : decode cX7_end 15 = .ok (.iconst (-1), 1) := by decide +kernel
theorem dX7_end_16 : decode cX7_end 16 = .ok (.ireturn, 1) := by decide +kernel
theorem dX7_end_17 : decode cX7_end 17 = .ok (.aload_n 0, 1) := by decide +kernel
theorem dX7_end_18 : decode cX7_end 18 = .ok (.getfield 30, 3) := by decide +kernel
theorem dX7_end_21 : decode cX7_end 21 = .ok (.iload_n 1, 1) := by decide +kernel
theorem dX7_end_22 : decode cX7_end 22 = .ok (.putfield 99, 3) := by decide +kernel
theorem dX7_end_25 : decode cX7_end 25 = .ok (.iload_n 1, 1) := by decide +kernel
theorem dX7_end_26 : decode cX7_end 26 = .ok (.ireturn, 1) := by decide +kernel
theorem dX0_read_0 : decode cX0_read 0 = .ok (.getstatic 25, 3) := by decide +kernel
theorem dX0_read_3 : decode cX0_read 3 = .ok (.iconst 0, 1) := by decide +kernel
theorem dX0_read_4 : decode cX0_read 4 = .ok (.aload_n 0, 1) := by decide +kernel
theorem dX0_read_5 : decode cX0_read 5 = .ok (.getfield 15, 3) := by decide +kernel
theorem dX0_read_8 : decode cX0_read 8 = .ok (.iconst 0, 1) := by decide +kernel
theorem dX0_read_9 : decode cX0_read 9 = .ok (.bipush 7, 2) := by decide +kernel
theorem dX0_read_11 : decode cX0_read 11 = .ok (.invokestatic 28, 3) := by decide +kernel
theorem dX0_read_14 : decode cX0_read 14 = .ok (.aload_n 0, 1) := by decide +kernel
theorem dX0_read_15 : decode cX0_read 15 = .ok (.iconst 0, 1) := by decide +kernel
theorem dX0_read_16 : decode cX0_read 16 = .ok (.putfield 18, 3) := by decide +kernel
theorem dX0_read_19 : decode cX0_read 19 = .ok (.aload_n 0, 1) := by decide +kernel
theorem dX0_read_20 : decode cX0_read 20 = .ok (.iconst (-1), 1) := by decide +kernel
theorem dX0_read_21 : decode cX0_read 21 = .ok (.putfield 22, 3) := by decide +kernel
theorem dX0_read_24 : decode cX0_read 24 = .ok (.aload_n 0, 1) := by decide +kernel
theorem dX0_read_25 : decode cX0_read 25 = .ok (.iconst 1, 1) := by decide +kernel
theorem dX0_read_26 : decode cX0_read 26 = .ok (.putfield 34, 3) := by decide +kernel
theorem dX0_read_29 : decode cX0_read 29 = .ok (.aload_n 0, 1) := by decide +kernel
theorem dX0_read_30 : decode cX0_read 30 = .ok (.iconst (-1), 1) := by decide +kernel
theorem dX0_read_31 : decode cX0_read 31 = .ok (.putfield 37, 3) := by decide +kernel
theorem dX0_read_34 : decode cX0_read 34 = .ok (.aload_n 0, 1) := by decide +kernel
theorem dX0_read_35 : decode cX0_read 35 = .ok (.iconst 0, 1) := by decide +kernel
theorem dX0_read_36 : decode cX0_read 36 = .ok (.putfield 40, 3) := by decide +kernel
theorem dX0_read_39 : decode cX0_read 39 = .ok (.aload_n 0, 1) := by decide +kernel
theorem dX0_read_40 : decode cX0_read 40 = .ok (.iconst 0, 1) := by decide +kernel
theorem dX0_read_41 : decode cX0_read 41 = .ok (.putfield 43, 3) := by decide +kernel
theorem dX0_read_44 : decode cX0_read 44 = .ok (.iconst 0, 1) := by decide +kernel
theorem dX0_read_45 : decode cX0_read 45 = .ok (.istore_n 2, 1) := by decide +kernel
theorem dX0_read_46 : decode cX0_read 46 = .ok (.iload_n 2, 1) := by decide +kernel
theorem dX0_read_47 : decode cX0_read 47 = .ok (.aload_n 1, 1) := by decide +kernel
theorem dX0_read_48 : decode cX0_read 48 = .ok (.getfield 46, 3) := by decide +kernel
theorem dX0_read_51 : decode cX0_read 51 = .ok (.if_icmp .ge 35, 3) := by decide +kernel
theorem dX0_read_86 : decode cX0_read 86 = .ok (.aload_n 0, 1) := by decide +kernel
theorem dX0_read_87 : decode cX0_read 87 = .ok (.getfield 18, 3) := by decide +kernel
theorem dX0_read_90 : decode cX0_read 90 = .ok (.ifCond .ne 20, 3) := by decide +kernel
theorem dX0_read_93 : decode cX0_read 93 = .ok (.aload_n 0, 1) := by decide +kernel
theorem dX0_read_94 : decode cX0_read 94 = .ok (.getfield 34, 3) := by decide +kernel
theorem dX0_read_97 : decode cX0_read 97 = .ok (.iconst 1, 1) := by decide +kernel
theorem dX0_read_98 : decode cX0_read 98 = .ok (.if_icmp .eq 12, 3) := by decide +kernel
theorem dX0_read_110 : decode cX0_read 110 = .ok (.aload_n 0, 1) := by decide +kernel
theorem dX0_read_111 : decode cX0_read 111 = .ok (.getfield 18, 3) := by decide +kernel
theorem dX0_read_114 : decode cX0_read 114 = .ok (.ifCond .eq 5, 3) := by decide +kernel
theorem dX0_read_119 : decode cX0_read 119 = .ok (.aload_n 0, 1) := by decide +kernel
theorem dX0_read_120 : decode cX0_read 120 = .ok (.getfield 15, 3) := by decide +kernel
theorem dX0_read_123 : decode cX0_read 123 = .ok (.iconst 0, 1) := by decide +kernel
theorem dX0_read_124 : decode cX0_read 124 = .ok (.aload_n 0, 1) := by decide +kernel
theorem dX0_read_125 : decode cX0_read 125 = .ok (.getfield 9, 3) := by decide +kernel
theorem dX0_read_128 : decode cX0_read 128 = .ok (.iconst 0, 1) := by decide +kernel
theorem dX0_read_129 : decode cX0_read 129 = .ok (.bipush 7, 2) := by decide +kernel
theorem dX0_read_131 : decode cX0_read 131 = .ok (.invokestatic 28, 3) := by decide +kernel
theorem dX0_read_134 : decode cX0_read 134 = .ok (.aload_n 0, 1) := by decide +kernel
theorem dX0_read_135 : decode cX0_read 135 = .ok (.getfield 43, 3) := by decide +kernel
theorem dX0_read_138 : decode cX0_read 138 = .ok (.ireturn, 1) := by decide +kernel
theorem dX7_custom_0 : decode cX7_custom 0 = .ok (.aload_n 0, 1) := by decide +kernel
theorem dX7_custom_1 : decode cX7_custom 1 = .ok (.getfield 37, 3) := by decide +kernel
theorem dX7_custom_4 : decode cX7_custom 4 = .ok (.aload_n 0, 1) := by decide +kernel
theorem dX7_custom_5 : decode cX7_custom 5 = .ok (.getfield 30, 3) := by decide +kernel
theorem dX7_custom_8 : decode cX7_custom 8 = .ok (.invokevirtual 106, 3) := by decide +kernel
theorem dX7_custom_11 : decode cX7_custom 11 = .ok (.istore_n 1, 1) := by decide +kernel
theorem dX7_custom_12 : decode cX7_custom 12 = .ok (.aload_n 0, 1) := by decide +kernel
theorem dX7_custom_13 : decode cX7_custom 13 = .ok (.getfield 30, 3) := by decide +kernel
theorem dX7_custom_16 : decode cX7_custom 16 = .ok (.iconst 0, 1) := by decide +kernel
theorem dX7_custom_17 : decode cX7_custom 17 = .ok (.putfield 99, 3) := by decide +kernel
theorem dX7_custom_20 : decode cX7_custom 20 = .ok (.iload_n 1, 1) := by decide +kernel
theorem dX7_custom_21 : decode cX7_custom 21 = .ok (.ireturn, 1) := by decide +kernel
theorem dX7_fault_0 : decode cX7_fault 0 = .ok (.iload_n 1, 1) := by decide +kernel
theorem dX7_fault_1 : decode cX7_fault 1 = .ok (.lookupswitch 43 #[(0, 27), (1, 35)], 27) := by decide +kernel
theorem dX7_fault_28 : decode cX7_fault 28 = .ok (.aload_n 0, 1) := by decide +kernel
theorem dX7_fault_29 : decode cX7_fault 29 = .ok (.getfield 37, 3) := by decide +kernel
theorem dX7_fault_32 : decode cX7_fault 32 = .ok (.getfield 110, 3) := by decide +kernel
theorem dX7_fault_35 : decode cX7_fault 35 = .ok (.ireturn, 1) := by decide +kernel
theorem dX7_fault_36 : decode cX7_fault 36 = .ok (.aload_n 0, 1) := by decide +kernel
theorem dX7_fault_37 : decode cX7_fault 37 = .ok (.getfield 37, 3) := by decide +kernel
theorem dX7_fault_40 : decode cX7_fault 40 = .ok (.getfield 113, 3) := by decide +kernel
theorem dX7_fault_43 : decode cX7_fault 43 = .ok (.ireturn, 1) := by decide +kernel
theorem dX7_fault_44 : decode cX7_fault 44 = .ok (.iconst (-1), 1) := by decide +kernel
theorem dX7_fault_45 : decode cX7_fault 45 = .ok (.ireturn, 1) := by decide +kernel
theorem dX7_says_0 : decode cX7_says 0 = .ok (.iload_n 1, 1) := by decide +kernel
theorem dX7_says_1 : decode cX7_says 1 = .ok (.iconst 0, 1) := by decide +kernel
theorem dX7_says_2 : decode cX7_says 2 = .ok (.bipush 6, 2) := by decide +kernel
theorem dX7_says_4 : decode cX7_says 4 = .ok (.invokestatic 80, 3) := by decide +kernel
theorem dX7_says_7 : decode cX7_says 7 = .ok (.ifCond .eq 15, 3) := by decide +kernel
theorem dX7_says_10 : decode cX7_says 10 = .ok (.aload_n 0, 1) := by decide +kernel
theorem dX7_says_11 : decode cX7_says 11 = .ok (.getfield 37, 3) := by decide +kernel
theorem dX7_says_14 : decode cX7_says 14 = .ok (.getfield 116, 3) := by decide +kernel
theorem dX7_says_17 : decode cX7_says 17 = .ok (.iload_n 1, 1) := by decide +kernel
theorem dX7_says_18 : decode cX7_says 18 = .ok (.iaload, 1) := by decide +kernel
theorem dX7_says_19 : decode cX7_says 19 = .ok (.goto 4, 3) := by decide +kernel
theorem dX7_says_22 : decode cX7_says 22 = .ok (.iconst (-1), 1) := by decide +kernel
theorem dX7_says_23 : decode cX7_says 23 = .ok (.ireturn, 1) := by decide +kernel
theorem dX7_ill_0 : decode cX7_ill 0 = .ok (.aload_n 0, 1) := by decide +kernel
theorem dX7_ill_1 : decode cX7_ill 1 = .ok (.iload_n 1, 1) := by decide +kernel
theorem dX7_ill_2 : decode cX7_ill 2 = .ok (.invokevirtual 73, 3) := by decide +kernel
theorem dX7_ill_5 : decode cX7_ill 5 = .ok (.astore_n 3, 1) := by decide +kernel
theorem dX7_ill_6 : decode cX7_ill 6 = .ok (.aload_n 3, 1) := by decide +kernel
theorem dX7_ill_7 : decode cX7_ill 7 = .ok (.ifnull 14, 3) := by decide +kernel
theorem dX7_ill_21 : decode cX7_ill 21 = .ok (.iconst 0, 1) := by decide +kernel
theorem dX7_ill_22 : decode cX7_ill 22 = .ok (.ireturn, 1) := by decide +kernel
theorem dX7_work_0 : decode cX7_work 0 = .ok (.aload_n 0, 1) := by decide +kernel
theorem dX7_work_1 : decode cX7_work 1 = .ok (.iload_n 1, 1) := by decide +kernel
theorem dX7_work_2 : decode cX7_work 2 = .ok (.invokevirtual 73, 3) := by decide +kernel
theorem dX7_work_5 : decode cX7_work 5 = .ok (.astore 4, 2) := by decide +kernel
theorem dX7_work_7 : decode cX7_work 7 = .ok (.aload_n 0, 1) := by decide +kernel
theorem dX7_work_8 : decode cX7_work 8 = .ok (.iload_n 2, 1) := by decide +kernel
theorem dX7_work_9 : decode cX7_work 9 = .ok (.invokevirtual 122, 3) := by decide +kernel
theorem dX7_work_12 : decode cX7_work 12 = .ok (.astore 5, 2) := by decide +kernel
theorem dX7_work_14 : decode cX7_work 14 = .ok (.aload 4, 2) := by decide +kernel
theorem dX7_work_16 : decode cX7_work 16 = .ok (.ifnull 21, 3) := by decide +kernel
theorem dX7_work_37 : decode cX7_work 37 = .ok (.iconst (-1), 1) := by decide +kernel
theorem dX7_work_38 : decode cX7_work 38 = .ok (.ireturn, 1) := by decide +kernel
theorem dX7_hire_0 : decode cX7_hire 0 = .ok (.aload_n 0, 1) := by decide +kernel
theorem dX7_hire_1 : decode cX7_hire 1 = .ok (.iload_n 1, 1) := by decide +kernel
theorem dX7_hire_2 : decode cX7_hire 2 = .ok (.invokevirtual 122, 3) := by decide +kernel
theorem dX7_hire_5 : decode cX7_hire 5 = .ok (.astore_n 3, 1) := by decide +kernel
theorem dX7_hire_6 : decode cX7_hire 6 = .ok (.aload_n 3, 1) := by decide +kernel
theorem dX7_hire_7 : decode cX7_hire 7 = .ok (.ifnull 26, 3) := by decide +kernel
theorem dX7_hire_33 : decode cX7_hire 33 = .ok (.iconst (-1), 1) := by decide +kernel
theorem dX7_hire_34 : decode cX7_hire 34 = .ok (.ireturn, 1) := by decide +kernel
theorem dX7_houseOf_0 : decode cX7_houseOf 0 = .ok (.aload_n 0, 1) := by decide +kernel
theorem dX7_houseOf_1 : decode cX7_houseOf 1 = .ok (.iload_n 1, 1) := by decide +kernel
theorem dX7_houseOf_2 : decode cX7_houseOf 2 = .ok (.invokevirtual 73, 3) := by decide +kernel
theorem dX7_houseOf_5 : decode cX7_houseOf 5 = .ok (.astore_n 3, 1) := by decide +kernel
theorem dX7_houseOf_6 : decode cX7_houseOf 6 = .ok (.aload_n 3, 1) := by decide +kernel
theorem dX7_houseOf_7 : decode cX7_houseOf 7 = .ok (.ifnonnull 6, 3) := by decide +kernel
theorem dX7_houseOf_10 : decode cX7_houseOf 10 = .ok (.ldc 160, 2) := by decide +kernel
theorem dX7_houseOf_12 : decode cX7_houseOf 12 = .ok (.ireturn, 1) := by decide +kernel
theorem dX7_fieldOf_0 : decode cX7_fieldOf 0 = .ok (.aload_n 0, 1) := by decide +kernel
theorem dX7_fieldOf_1 : decode cX7_fieldOf 1 = .ok (.iload_n 1, 1) := by decide +kernel
theorem dX7_fieldOf_2 : decode cX7_fieldOf 2 = .ok (.invokevirtual 122, 3) := by decide +kernel
theorem dX7_fieldOf_5 : decode cX7_fieldOf 5 = .ok (.astore_n 3, 1) := by decide +kernel
theorem dX7_fieldOf_6 : decode cX7_fieldOf 6 = .ok (.aload_n 3, 1) := by decide +kernel
theorem dX7_fieldOf_7 : decode cX7_fieldOf 7 = .ok (.ifnonnull 5, 3) := by decide +kernel
theorem dX7_fieldOf_10 : decode cX7_fieldOf 10 = .ok (.iconst (-1), 1) := by decide +kernel
theorem dX7_fieldOf_11 : decode cX7_fieldOf 11 = .ok (.ireturn, 1) := by decide +kernel
theorem dX7_areTwoHouses_0 : decode cX7_areTwoHouses 0 = .ok (.iload_n 1, 1) := by decide +kernel
theorem dX7_areTwoHouses_1 : decode cX7_areTwoHouses 1 = .ok (.iload_n 2, 1) := by decide +kernel
theorem dX7_areTwoHouses_2 : decode cX7_areTwoHouses 2 = .ok (.if_icmp .eq 23, 3) := by decide +kernel
theorem dX7_areTwoHouses_5 : decode cX7_areTwoHouses 5 = .ok (.aload_n 0, 1) := by decide +kernel
theorem dX7_areTwoHouses_6 : decode cX7_areTwoHouses 6 = .ok (.iload_n 1, 1) := by decide +kernel
theorem dX7_areTwoHouses_7 : decode cX7_areTwoHouses 7 = .ok (.invokevirtual 73, 3) := by decide +kernel
theorem dX7_areTwoHouses_10 : decode cX7_areTwoHouses 10 = .ok (.ifnull 15, 3) := by decide +kernel
theorem dX7_areTwoHouses_25 : decode cX7_areTwoHouses 25 = .ok (.iconst 0, 1) := by decide +kernel
theorem dX7_areTwoHouses_26 : decode cX7_areTwoHouses 26 = .ok (.ireturn, 1) := by decide +kernel
theorem dX7_owes_0 : decode cX7_owes 0 = .ok (.aload_n 0, 1) := by decide +kernel
theorem dX7_owes_1 : decode cX7_owes 1 = .ok (.iload_n 1, 1) := by decide +kernel
theorem dX7_owes_2 : decode cX7_owes 2 = .ok (.iload_n 2, 1) := by decide +kernel
theorem dX7_owes_3 : decode cX7_owes 3 = .ok (.invokevirtual 181, 3) := by decide +kernel
theorem dX7_owes_6 : decode cX7_owes 6 = .ok (.ifCond .eq 15, 3) := by decide +kernel
theorem dX7_owes_21 : decode cX7_owes 21 = .ok (.iconst (-1), 1) := by decide +kernel
theorem dX7_owes_22 : decode cX7_owes 22 = .ok (.ireturn, 1) := by decide +kernel
theorem dX7_oldest_0 : decode cX7_oldest 0 = .ok (.aload_n 0, 1) := by decide +kernel
theorem dX7_oldest_1 : decode cX7_oldest 1 = .ok (.iload_n 1, 1) := by decide +kernel
theorem dX7_oldest_2 : decode cX7_oldest 2 = .ok (.iload_n 2, 1) := by decide +kernel
theorem dX7_oldest_3 : decode cX7_oldest 3 = .ok (.invokevirtual 181, 3) := by decide +kernel
theorem dX7_oldest_6 : decode cX7_oldest 6 = .ok (.ifCond .eq 15, 3) := by decide +kernel
theorem dX7_oldest_21 : decode cX7_oldest 21 = .ok (.iconst (-1), 1) := by decide +kernel
theorem dX7_oldest_22 : decode cX7_oldest 22 = .ok (.ireturn, 1) := by decide +kernel
theorem dX2_takeNets_0 : decode cX2_takeNets 0 = .ok (.iconst 0, 1) := by decide +kernel
theorem dX2_takeNets_1 : decode cX2_takeNets 1 = .ok (.istore_n 2, 1) := by decide +kernel
theorem dX2_takeNets_2 : decode cX2_takeNets 2 = .ok (.iconst 0, 1) := by decide +kernel
theorem dX2_takeNets_3 : decode cX2_takeNets 3 = .ok (.istore_n 3, 1) := by decide +kernel
theorem dX2_takeNets_4 : decode cX2_takeNets 4 = .ok (.iload_n 3, 1) := by decide +kernel
theorem dX2_takeNets_5 : decode cX2_takeNets 5 = .ok (.bipush 8, 2) := by decide +kernel
theorem dX2_takeNets_7 : decode cX2_takeNets 7 = .ok (.if_icmp .ge 16, 3) := by decide +kernel
theorem dX2_takeNets_10 : decode cX2_takeNets 10 = .ok (.aload_n 0, 1) := by decide +kernel
theorem dX2_takeNets_11 : decode cX2_takeNets 11 = .ok (.getfield 15, 3) := by decide +kernel
theorem dX2_takeNets_14 : decode cX2_takeNets 14 = .ok (.iload_n 3, 1) := by decide +kernel
theorem dX2_takeNets_15 : decode cX2_takeNets 15 = .ok (.iconst 0, 1) := by decide +kernel
theorem dX2_takeNets_16 : decode cX2_takeNets 16 = .ok (.iastore, 1) := by decide +kernel
theorem dX2_takeNets_17 : decode cX2_takeNets 17 = .ok (.iinc 3 1, 3) := by decide +kernel
theorem dX2_takeNets_20 : decode cX2_takeNets 20 = .ok (.goto (-16), 3) := by decide +kernel
theorem dX2_takeNets_23 : decode cX2_takeNets 23 = .ok (.iconst 0, 1) := by decide +kernel
theorem dX2_takeNets_24 : decode cX2_takeNets 24 = .ok (.istore_n 3, 1) := by decide +kernel
theorem dX2_takeNets_25 : decode cX2_takeNets 25 = .ok (.iload_n 3, 1) := by decide +kernel
theorem dX2_takeNets_26 : decode cX2_takeNets 26 = .ok (.aload_n 1, 1) := by decide +kernel
theorem dX2_takeNets_27 : decode cX2_takeNets 27 = .ok (.getfield 43, 3) := by decide +kernel
theorem dX2_takeNets_30 : decode cX2_takeNets 30 = .ok (.if_icmp .ge 79, 3) := by decide +kernel
theorem dX2_takeNets_109 : decode cX2_takeNets 109 = .ok (.iconst 0, 1) := by decide +kernel
theorem dX2_takeNets_110 : decode cX2_takeNets 110 = .ok (.istore_n 3, 1) := by decide +kernel
theorem dX2_takeNets_111 : decode cX2_takeNets 111 = .ok (.iload_n 3, 1) := by decide +kernel
theorem dX2_takeNets_112 : decode cX2_takeNets 112 = .ok (.bipush 8, 2) := by decide +kernel
theorem dX2_takeNets_114 : decode cX2_takeNets 114 = .ok (.if_icmp .ge 38, 3) := by decide +kernel
theorem dX2_takeNets_117 : decode cX2_takeNets 117 = .ok (.aload_n 0, 1) := by decide +kernel
theorem dX2_takeNets_118 : decode cX2_takeNets 118 = .ok (.getfield 9, 3) := by decide +kernel
theorem dX2_takeNets_121 : decode cX2_takeNets 121 = .ok (.iload_n 3, 1) := by decide +kernel
theorem dX2_takeNets_122 : decode cX2_takeNets 122 = .ok (.iaload, 1) := by decide +kernel
theorem dX2_takeNets_123 : decode cX2_takeNets 123 = .ok (.aload_n 0, 1) := by decide +kernel
theorem dX2_takeNets_124 : decode cX2_takeNets 124 = .ok (.getfield 15, 3) := by decide +kernel
theorem dX2_takeNets_127 : decode cX2_takeNets 127 = .ok (.iload_n 3, 1) := by decide +kernel
theorem dX2_takeNets_128 : decode cX2_takeNets 128 = .ok (.iaload, 1) := by decide +kernel
theorem dX2_takeNets_129 : decode cX2_takeNets 129 = .ok (.if_icmp .eq 17, 3) := by decide +kernel
theorem dX2_takeNets_146 : decode cX2_takeNets 146 = .ok (.iinc 3 1, 3) := by decide +kernel
theorem dX2_takeNets_149 : decode cX2_takeNets 149 = .ok (.goto (-38), 3) := by decide +kernel
theorem dX2_takeNets_152 : decode cX2_takeNets 152 = .ok (.iload_n 2, 1) := by decide +kernel
theorem dX2_takeNets_153 : decode cX2_takeNets 153 = .ok (.ireturn, 1) := by decide +kernel
theorem dX2_tellFor_0 : decode cX2_tellFor 0 = .ok (.aload_n 0, 1) := by decide +kernel
theorem dX2_tellFor_1 : decode cX2_tellFor 1 = .ok (.aload_n 1, 1) := by decide +kernel
theorem dX2_tellFor_2 : decode cX2_tellFor 2 = .ok (.invokevirtual 36, 3) := by decide +kernel
theorem dX2_tellFor_5 : decode cX2_tellFor 5 = .ok (.ifCond .eq 7, 3) := by decide +kernel
theorem dX2_tellFor_12 : decode cX2_tellFor 12 = .ok (.return_, 1) := by decide +kernel
theorem dX7_payments_0 : decode cX7_payments 0 = .ok (.aload_n 0, 1) := by decide +kernel
theorem dX7_payments_1 : decode cX7_payments 1 = .ok (.getfield 51, 3) := by decide +kernel
theorem dX7_payments_4 : decode cX7_payments 4 = .ok (.aload_n 0, 1) := by decide +kernel
theorem dX7_payments_5 : decode cX7_payments 5 = .ok (.getfield 44, 3) := by decide +kernel
theorem dX7_payments_8 : decode cX7_payments 8 = .ok (.invokevirtual 191, 3) := by decide +kernel
theorem dX7_payments_11 : decode cX7_payments 11 = .ok (.aload_n 0, 1) := by decide +kernel
theorem dX7_payments_12 : decode cX7_payments 12 = .ok (.getfield 51, 3) := by decide +kernel
theorem dX7_payments_15 : decode cX7_payments 15 = .ok (.getfield 195, 3) := by decide +kernel
theorem dX7_payments_18 : decode cX7_payments 18 = .ok (.ireturn, 1) := by decide +kernel
theorem dX7_payment_0 : decode cX7_payment 0 = .ok (.aload_n 0, 1) := by decide +kernel
theorem dX7_payment_1 : decode cX7_payment 1 = .ok (.getfield 51, 3) := by decide +kernel
theorem dX7_payment_4 : decode cX7_payment 4 = .ok (.aload_n 0, 1) := by decide +kernel
theorem dX7_payment_5 : decode cX7_payment 5 = .ok (.getfield 44, 3) := by decide +kernel
theorem dX7_payment_8 : decode cX7_payment 8 = .ok (.invokevirtual 191, 3) := by decide +kernel
theorem dX7_payment_11 : decode cX7_payment 11 = .ok (.iload_n 1, 1) := by decide +kernel
theorem dX7_payment_12 : decode cX7_payment 12 = .ok (.iconst 0, 1) := by decide +kernel
theorem dX7_payment_13 : decode cX7_payment 13 = .ok (.aload_n 0, 1) := by decide +kernel
theorem dX7_payment_14 : decode cX7_payment 14 = .ok (.getfield 51, 3) := by decide +kernel
theorem dX7_payment_17 : decode cX7_payment 17 = .ok (.getfield 195, 3) := by decide +kernel
theorem dX7_payment_20 : decode cX7_payment 20 = .ok (.iconst 1, 1) := by decide +kernel
theorem dX7_payment_21 : decode cX7_payment 21 = .ok (.isub, 1) := by decide +kernel
theorem dX7_payment_22 : decode cX7_payment 22 = .ok (.invokestatic 80, 3) := by decide +kernel
theorem dX7_payment_25 : decode cX7_payment 25 = .ok (.ifCond .ne 5, 3) := by decide +kernel
theorem dX7_payment_28 : decode cX7_payment 28 = .ok (.iconst (-1), 1) := by decide +kernel
theorem dX7_payment_29 : decode cX7_payment 29 = .ok (.ireturn, 1) := by decide +kernel
theorem dX7_even_0 : decode cX7_even 0 = .ok (.aload_n 0, 1) := by decide +kernel
theorem dX7_even_1 : decode cX7_even 1 = .ok (.getfield 44, 3) := by decide +kernel
theorem dX7_even_4 : decode cX7_even 4 = .ok (.getfield 126, 3) := by decide +kernel
theorem dX7_even_7 : decode cX7_even 7 = .ok (.istore_n 1, 1) := by decide +kernel
theorem dX7_even_8 : decode cX7_even 8 = .ok (.aload_n 0, 1) := by decide +kernel
theorem dX7_even_9 : decode cX7_even 9 = .ok (.getfield 44, 3) := by decide +kernel
theorem dX7_even_12 : decode cX7_even 12 = .ok (.iconst 0, 1) := by decide +kernel
theorem dX7_even_13 : decode cX7_even 13 = .ok (.putfield 126, 3) := by decide +kernel
theorem dX7_even_16 : decode cX7_even 16 = .ok (.iload_n 1, 1) := by decide +kernel
theorem dX7_even_17 : decode cX7_even 17 = .ok (.ireturn, 1) := by decide +kernel
theorem dX7_waitingFields_0 : decode cX7_waitingFields 0 = .ok (.iconst 0, 1) := by decide +kernel
theorem dX7_waitingFields_1 : decode cX7_waitingFields 1 = .ok (.istore_n 1, 1) := by decide +kernel
theorem dX7_waitingFields_2 : decode cX7_waitingFields 2 = .ok (.iconst 0, 1) := by decide +kernel
theorem dX7_waitingFields_3 : decode cX7_waitingFields 3 = .ok (.istore_n 2, 1) := by decide +kernel
theorem dX7_waitingFields_4 : decode cX7_waitingFields 4 = .ok (.iload_n 2, 1) := by decide +kernel
theorem dX7_waitingFields_5 : decode cX7_waitingFields 5 = .ok (.aload_n 0, 1) := by decide +kernel
theorem dX7_waitingFields_6 : decode cX7_waitingFields 6 = .ok (.getfield 77, 3) := by decide +kernel
theorem dX7_waitingFields_9 : decode cX7_waitingFields 9 = .ok (.if_icmp .ge 24, 3) := by decide +kernel
theorem dX7_waitingFields_33 : decode cX7_waitingFields 33 = .ok (.iload_n 1, 1) := by decide +kernel
theorem dX7_waitingFields_34 : decode cX7_waitingFields 34 = .ok (.ireturn, 1) := by decide +kernel
theorem dX5_begin_0 : decode cX5_begin 0 = .ok (.aload_n 0, 1) := by decide +kernel
theorem dX5_begin_1 : decode cX5_begin 1 = .ok (.iconst 0, 1) := by decide +kernel
theorem dX5_begin_2 : decode cX5_begin 2 = .ok (.putfield 36, 3) := by decide +kernel
theorem dX5_begin_5 : decode cX5_begin 5 = .ok (.aload_n 0, 1) := by decide +kernel
theorem dX5_begin_6 : decode cX5_begin 6 = .ok (.iload_n 1, 1) := by decide +kernel
theorem dX5_begin_7 : decode cX5_begin 7 = .ok (.putfield 40, 3) := by decide +kernel
theorem dX5_begin_10 : decode cX5_begin 10 = .ok (.aload_n 0, 1) := by decide +kernel
theorem dX5_begin_11 : decode cX5_begin 11 = .ok (.iconst 1, 1) := by decide +kernel
theorem dX5_begin_12 : decode cX5_begin 12 = .ok (.iload_n 2, 1) := by decide +kernel
theorem dX5_begin_13 : decode cX5_begin 13 = .ok (.invokestatic 43, 3) := by decide +kernel
theorem dX5_begin_16 : decode cX5_begin 16 = .ok (.putfield 49, 3) := by decide +kernel
theorem dX5_begin_19 : decode cX5_begin 19 = .ok (.return_, 1) := by decide +kernel
theorem dX5_choose_0 : decode cX5_choose 0 = .ok (.iconst 1, 1) := by decide +kernel
theorem dX5_choose_1 : decode cX5_choose 1 = .ok (.aload_n 0, 1) := by decide +kernel
theorem dX5_choose_2 : decode cX5_choose 2 = .ok (.getfield 36, 3) := by decide +kernel
theorem dX5_choose_5 : decode cX5_choose 5 = .ok (.ishl, 1) := by decide +kernel
theorem dX5_choose_6 : decode cX5_choose 6 = .ok (.iconst 1, 1) := by decide +kernel
theorem dX5_choose_7 : decode cX5_choose 7 = .ok (.isub, 1) := by decide +kernel
theorem dX5_choose_8 : decode cX5_choose 8 = .ok (.istore_n 2, 1) := by decide +kernel
theorem dX5_choose_9 : decode cX5_choose 9 = .ok (.aload_n 0, 1) := by decide +kernel
theorem dX5_choose_10 : decode cX5_choose 10 = .ok (.getfield 27, 3) := by decide +kernel
theorem dX5_choose_13 : decode cX5_choose 13 = .ok (.iload_n 2, 1) := by decide +kernel
theorem dX5_choose_14 : decode cX5_choose 14 = .ok (.iconst 0, 1) := by decide +kernel
theorem dX5_choose_15 : decode cX5_choose 15 = .ok (.iastore, 1) := by decide +kernel
theorem dX5_choose_16 : decode cX5_choose 16 = .ok (.iload_n 2, 1) := by decide +kernel
theorem dX5_choose_17 : decode cX5_choose 17 = .ok (.iconst 1, 1) := by decide +kernel
theorem dX5_choose_18 : decode cX5_choose 18 = .ok (.isub, 1) := by decide +kernel
theorem dX5_choose_19 : decode cX5_choose 19 = .ok (.istore_n 3, 1) := by decide +kernel
theorem dX5_choose_20 : decode cX5_choose 20 = .ok (.iload_n 3, 1) := by decide +kernel
theorem dX5_choose_21 : decode cX5_choose 21 = .ok (.ifCond .lt 15, 3) := by decide +kernel
theorem dX5_choose_36 : decode cX5_choose 36 = .ok (.aload_n 0, 1) := by decide +kernel
theorem dX5_choose_37 : decode cX5_choose 37 = .ok (.aload_n 0, 1) := by decide +kernel
theorem dX5_choose_38 : decode cX5_choose 38 = .ok (.getfield 36, 3) := by decide +kernel
theorem dX5_choose_41 : decode cX5_choose 41 = .ok (.putfield 70, 3) := by decide +kernel
theorem dX5_choose_44 : decode cX5_choose 44 = .ok (.iconst 0, 1) := by decide +kernel
theorem dX5_choose_45 : decode cX5_choose 45 = .ok (.istore_n 3, 1) := by decide +kernel
theorem dX5_choose_46 : decode cX5_choose 46 = .ok (.iconst 0, 1) := by decide +kernel
theorem dX5_choose_47 : decode cX5_choose 47 = .ok (.istore 4, 2) := by decide +kernel
theorem dX5_choose_49 : decode cX5_choose 49 = .ok (.iload 4, 2) := by decide +kernel
theorem dX5_choose_51 : decode cX5_choose 51 = .ok (.aload_n 0, 1) := by decide +kernel
theorem dX5_choose_52 : decode cX5_choose 52 = .ok (.getfield 36, 3) := by decide +kernel
theorem dX5_choose_55 : decode cX5_choose 55 = .ok (.if_icmp .ge 38, 3) := by decide +kernel
theorem dX5_choose_93 : decode cX5_choose 93 = .ok (.aload_n 0, 1) := by decide +kernel
theorem dX5_choose_94 : decode cX5_choose 94 = .ok (.getfield 27, 3) := by decide +kernel
theorem dX5_choose_97 : decode cX5_choose 97 = .ok (.iconst 0, 1) := by decide +kernel
theorem dX5_choose_98 : decode cX5_choose 98 = .ok (.iaload, 1) := by decide +kernel
theorem dX5_choose_99 : decode cX5_choose 99 = .ok (.ireturn, 1) := by decide +kernel
theorem dX7_plan_0 : decode cX7_plan 0 = .ok (.iload_n 1, 1) := by decide +kernel
theorem dX7_plan_1 : decode cX7_plan 1 = .ok (.iconst 1, 1) := by decide +kernel
theorem dX7_plan_2 : decode cX7_plan 2 = .ok (.bipush 99, 2) := by decide +kernel
theorem dX7_plan_4 : decode cX7_plan 4 = .ok (.invokestatic 80, 3) := by decide +kernel
theorem dX7_plan_7 : decode cX7_plan 7 = .ok (.ifCond .eq 12, 3) := by decide +kernel
theorem dX7_plan_10 : decode cX7_plan 10 = .ok (.aload_n 0, 1) := by decide +kernel
theorem dX7_plan_11 : decode cX7_plan 11 = .ok (.invokevirtual 205, 3) := by decide +kernel
theorem dX7_plan_14 : decode cX7_plan 14 = .ok (.bipush 7, 2) := by decide +kernel
theorem dX7_plan_16 : decode cX7_plan 16 = .ok (.if_icmp .le 5, 3) := by decide +kernel
theorem dX7_plan_19 : decode cX7_plan 19 = .ok (.iconst (-1), 1) := by decide +kernel
theorem dX7_plan_20 : decode cX7_plan 20 = .ok (.ireturn, 1) := by decide +kernel
theorem dX7_plan_21 : decode cX7_plan 21 = .ok (.aload_n 0, 1) := by decide +kernel
theorem dX7_plan_22 : decode cX7_plan 22 = .ok (.getfield 58, 3) := by decide +kernel
theorem dX7_plan_25 : decode cX7_plan 25 = .ok (.aload_n 0, 1) := by decide +kernel
theorem dX7_plan_26 : decode cX7_plan 26 = .ok (.getfield 129, 3) := by decide +kernel
theorem dX7_plan_29 : decode cX7_plan 29 = .ok (.iload_n 1, 1) := by decide +kernel
theorem dX7_plan_30 : decode cX7_plan 30 = .ok (.invokevirtual 208, 3) := by decide +kernel
theorem dX7_plan_33 : decode cX7_plan 33 = .ok (.iconst 0, 1) := by decide +kernel
theorem dX7_plan_34 : decode cX7_plan 34 = .ok (.istore_n 2, 1) := by decide +kernel
theorem dX7_plan_35 : decode cX7_plan 35 = .ok (.iload_n 2, 1) := by decide +kernel
theorem dX7_plan_36 : decode cX7_plan 36 = .ok (.aload_n 0, 1) := by decide +kernel
theorem dX7_plan_37 : decode cX7_plan 37 = .ok (.getfield 77, 3) := by decide +kernel
theorem dX7_plan_40 : decode cX7_plan 40 = .ok (.if_icmp .ge 35, 3) := by decide +kernel
theorem dX7_plan_75 : decode cX7_plan 75 = .ok (.aload_n 0, 1) := by decide +kernel
theorem dX7_plan_76 : decode cX7_plan 76 = .ok (.getfield 58, 3) := by decide +kernel
theorem dX7_plan_79 : decode cX7_plan 79 = .ok (.aload_n 0, 1) := by decide +kernel
theorem dX7_plan_80 : decode cX7_plan 80 = .ok (.getfield 23, 3) := by decide +kernel
theorem dX7_plan_83 : decode cX7_plan 83 = .ok (.invokevirtual 216, 3) := by decide +kernel
theorem dX7_plan_86 : decode cX7_plan 86 = .ok (.ireturn, 1) := by decide +kernel
theorem dX7_planned_0 : decode cX7_planned 0 = .ok (.iload_n 1, 1) := by decide +kernel
theorem dX7_planned_1 : decode cX7_planned 1 = .ok (.iconst 0, 1) := by decide +kernel
theorem dX7_planned_2 : decode cX7_planned 2 = .ok (.aload_n 0, 1) := by decide +kernel
theorem dX7_planned_3 : decode cX7_planned 3 = .ok (.getfield 58, 3) := by decide +kernel
theorem dX7_planned_6 : decode cX7_planned 6 = .ok (.getfield 220, 3) := by decide +kernel
theorem dX7_planned_9 : decode cX7_planned 9 = .ok (.iconst 1, 1) := by decide +kernel
theorem dX7_planned_10 : decode cX7_planned 10 = .ok (.isub, 1) := by decide +kernel
theorem dX7_planned_11 : decode cX7_planned 11 = .ok (.invokestatic 80, 3) := by decide +kernel
theorem dX7_planned_14 : decode cX7_planned 14 = .ok (.ifCond .eq 15, 3) := by decide +kernel
theorem dX7_planned_29 : decode cX7_planned 29 = .ok (.iconst (-1), 1) := by decide +kernel
theorem dX7_planned_30 : decode cX7_planned 30 = .ok (.ireturn, 1) := by decide +kernel
theorem dX7_about_0 : decode cX7_about 0 = .ok (.iload_n 1, 1) := by decide +kernel
theorem dX7_about_1 : decode cX7_about 1 = .ok (.tableswitch 75 0 5 #[39, 44, 49, 54, 62, 67], 39) := by decide +kernel
theorem dX7_about_40 : decode cX7_about 40 = .ok (.aload_n 0, 1) := by decide +kernel
theorem dX7_about_41 : decode cX7_about 41 = .ok (.getfield 62, 3) := by decide +kernel
theorem dX7_about_44 : decode cX7_about 44 = .ok (.ireturn, 1) := by decide +kernel
theorem dX7_about_45 : decode cX7_about 45 = .ok (.aload_n 0, 1) := by decide +kernel
theorem dX7_about_46 : decode cX7_about 46 = .ok (.getfield 77, 3) := by decide +kernel
theorem dX7_about_49 : decode cX7_about 49 = .ok (.ireturn, 1) := by decide +kernel
theorem dX7_about_50 : decode cX7_about 50 = .ok (.aload_n 0, 1) := by decide +kernel
theorem dX7_about_51 : decode cX7_about 51 = .ok (.getfield 129, 3) := by decide +kernel
theorem dX7_about_54 : decode cX7_about 54 = .ok (.ireturn, 1) := by decide +kernel
theorem dX7_about_55 : decode cX7_about 55 = .ok (.aload_n 0, 1) := by decide +kernel
theorem dX7_about_56 : decode cX7_about 56 = .ok (.getfield 44, 3) := by decide +kernel
theorem dX7_about_59 : decode cX7_about 59 = .ok (.getfield 126, 3) := by decide +kernel
theorem dX7_about_62 : decode cX7_about 62 = .ok (.ireturn, 1) := by decide +kernel
theorem dX7_about_63 : decode cX7_about 63 = .ok (.aload_n 0, 1) := by decide +kernel
theorem dX7_about_64 : decode cX7_about 64 = .ok (.getfield 151, 3) := by decide +kernel
theorem dX7_about_67 : decode cX7_about 67 = .ok (.ireturn, 1) := by decide +kernel
theorem dX7_about_68 : decode cX7_about 68 = .ok (.aload_n 0, 1) := by decide +kernel
theorem dX7_about_69 : decode cX7_about 69 = .ok (.getfield 30, 3) := by decide +kernel
theorem dX7_about_72 : decode cX7_about 72 = .ok (.getfield 99, 3) := by decide +kernel
theorem dX7_about_75 : decode cX7_about 75 = .ok (.ireturn, 1) := by decide +kernel
theorem dX7_about_76 : decode cX7_about 76 = .ok (.iload_n 1, 1) := by decide +kernel
theorem dX7_about_77 : decode cX7_about 77 = .ok (.bipush 20, 2) := by decide +kernel
theorem dX7_about_79 : decode cX7_about 79 = .ok (.bipush 29, 2) := by decide +kernel
theorem dX7_about_81 : decode cX7_about 81 = .ok (.invokestatic 80, 3) := by decide +kernel
theorem dX7_about_84 : decode cX7_about 84 = .ok (.ifCond .eq 15, 3) := by decide +kernel
theorem dX7_about_87 : decode cX7_about 87 = .ok (.aload_n 0, 1) := by decide +kernel
theorem dX7_about_88 : decode cX7_about 88 = .ok (.getfield 23, 3) := by decide +kernel
theorem dX7_about_91 : decode cX7_about 91 = .ok (.iload_n 1, 1) := by decide +kernel
theorem dX7_about_92 : decode cX7_about 92 = .ok (.bipush 20, 2) := by decide +kernel
theorem dX7_about_94 : decode cX7_about 94 = .ok (.isub, 1) := by decide +kernel
theorem dX7_about_95 : decode cX7_about 95 = .ok (.iaload, 1) := by decide +kernel
theorem dX7_about_96 : decode cX7_about 96 = .ok (.goto 4, 3) := by decide +kernel
theorem dX7_about_99 : decode cX7_about 99 = .ok (.iconst (-1), 1) := by decide +kernel
theorem dX7_about_100 : decode cX7_about 100 = .ok (.ireturn, 1) := by decide +kernel
end
section
set_option maxHeartbeats 4000000 in
set_option maxRecDepth 100000 in
theorem k_within (l : Launch) (dC : Nat → ClassId) (dI : Nat → Nat → Nat) (p0 : Int32) (p1 : Int32) (p2 : Int32) (sz : Nat) : Met l yX7_within (zz_w yX7_within cX7_within 3 (some .boolean)) ({ frames := 0, cells := 0, slots := 0, locals := 0 }) (va_Pc [.int p0, .int p1, .int p2] (zz_B (dC, dI) sz [] [])) (va_Qi (fun (r : Int32) (_ : Unit) => r = zz_in p0 p1 p2) (fun _ _ => True) (va_A [] sz)) 0 0 (va_A [] sz) := by
  refine Met.ofW (cc := cX7_within) (maxL := 3) (ret := (some .boolean)) (by decide) rfl ?_
  intro p e s m args below meth c s₁ B hml hv
  obtain ⟨rfl, hsz, hP, hK, hD0, hN⟩ := hv
  have hx := B.exec
  have hb := B.bytes
  have hr := B.returns
  have hts := atoms_spec (ws := zz_w yX7_within cX7_within 3 (some .boolean)) B.pre
  have hw : ∀ w ∈ zz_all, w.before _ s = true := fun w h => hts w (List.mem_cons_of_mem _ h)
  have hown : s.vm.findClass RX7 = some m.cls := findClass_of_methodNamed B.named
  have hlocks := B.notSynchronized
  subst hsz
  have hD := hD0
  generalize hAe : va_A [] s.heap.size = A
  have hA : ∀ q : Nat, s.heap.size ≤ q → A q := fun q h => by rw [← hAe]; exact Or.inr h
  have hS : va_S A s.heap s.heap [] := va_S.rf
  have hP : va_P (dC, dI) vwCl [] s.heap := hP
  have hl := lv_entry ([.int p0, .int p1, .int p2]) (n := 3) (Nat.le_of_ble_eq_true rfl)
  rw [lg_entry_eq]
  generalize (lg_sl ([.int p0, .int p1, .int p2]) ++ List.replicate (3 - (lg_sl ([.int p0, .int p1, .int p2])).length) Slot.unset).toArray = ls at hl ⊢
  have hl : lv_has ls 3 [(0, .int p0), (1, .int p1), (2, .int p2)] := hl
  refine lv_iload_n hx hb dX7_within_0 rfl (lv_at hl 0 rfl) ?_
  refine lv_iload_n hx hb dX7_within_1 rfl (lv_at hl 1 rfl) ?_
  refine lv_icmp_lt (tgt := 14) hx hb dX7_within_2 (by decide) (fun c_1 => ?_) (fun c_1 => ?_)
  · refine lv_iconst (v := 0) hx hb dX7_within_14 (by decide) ?_
    exact W.zret (v := 0) hx hb hr (rfl) (fun t ht hW => ⟨⟨0, (), rfl, (by have zc_1 := c_1; rw [Int32.lt_iff_toInt_lt] at zc_1; first | exact (zz_in1 (Int32.le_iff_toInt_le.mpr (by omega)) (Int32.le_iff_toInt_le.mpr (by omega))).symm | exact (zz_inN (by rw [Int32.le_iff_toInt_le, Int32.le_iff_toInt_le]; omega)).symm), trivial⟩, hS.F ht⟩) hS.2.2 dX7_within_15
  · refine lv_iload_n hx hb dX7_within_5 rfl (lv_at hl 0 rfl) ?_
    refine lv_iload_n hx hb dX7_within_6 rfl (lv_at hl 2 rfl) ?_
    refine lv_icmp_gt (tgt := 14) hx hb dX7_within_7 (by decide) (fun c_2 => ?_) (fun c_2 => ?_)
    · refine lv_iconst (v := 0) hx hb dX7_within_14 (by decide) ?_
      exact W.zret (v := 0) hx hb hr (rfl) (fun t ht hW => ⟨⟨0, (), rfl, (by have zc_1 := c_1; rw [Int32.lt_iff_toInt_lt] at zc_1; have zc_2 := c_2; rw [Int32.lt_iff_toInt_lt] at zc_2; first | exact (zz_in1 (Int32.le_iff_toInt_le.mpr (by omega)) (Int32.le_iff_toInt_le.mpr (by omega))).symm | exact (zz_inN (by rw [Int32.le_iff_toInt_le, Int32.le_iff_toInt_le]; omega)).symm), trivial⟩, hS.F ht⟩) hS.2.2 dX7_within_15
    · refine lv_iconst (v := 1) hx hb dX7_within_10 (by decide) ?_
      refine lv_goto (tgt := 15) hx hb dX7_within_11 (by decide) ?_
      exact W.zret (v := 1) hx hb hr (rfl) (fun t ht hW => ⟨⟨1, (), rfl, (by have zc_1 := c_1; rw [Int32.lt_iff_toInt_lt] at zc_1; have zc_2 := c_2; rw [Int32.lt_iff_toInt_lt] at zc_2; first | exact (zz_in1 (Int32.le_iff_toInt_le.mpr (by omega)) (Int32.le_iff_toInt_le.mpr (by omega))).symm | exact (zz_inN (by rw [Int32.le_iff_toInt_le, Int32.le_iff_toInt_le]; omega)).symm), trivial⟩, hS.F ht⟩) hS.2.2 dX7_within_15

set_option maxHeartbeats 4000000 in
set_option maxRecDepth 100000 in
theorem k_in (l : Launch) (dC : Nat → ClassId) (dI : Nat → Nat → Nat) (p0 : Int32) (p1 : Int32) (p2 : Int32) (sz : Nat) : Met l yX8_in (zz_w yX8_in cX8_in 6 (some .boolean)) ({ frames := 0, cells := 0, slots := 0, locals := 0 }) (va_Pc [.long (Int32.toInt64 p0), .long (Int32.toInt64 p1), .long (Int32.toInt64 p2)] (zz_B (dC, dI) sz [] [])) (va_Qi (fun (r : Int32) (_ : Unit) => r = zz_in p0 p1 p2) (fun _ _ => True) (va_A [] sz)) 0 0 (va_A [] sz) := by
  refine Met.ofW (cc := cX8_in) (maxL := 6) (ret := (some .boolean)) (by decide) rfl ?_
  intro p e s m args below meth c s₁ B hml hv
  obtain ⟨rfl, hsz, hP, hK, hD0, hN⟩ := hv
  have hx := B.exec
  have hb := B.bytes
  have hr := B.returns
  have hts := atoms_spec (ws := zz_w yX8_in cX8_in 6 (some .boolean)) B.pre
  have hw : ∀ w ∈ zz_all, w.before _ s = true := fun w h => hts w (List.mem_cons_of_mem _ h)
  have hown : s.vm.findClass RX8 = some m.cls := findClass_of_methodNamed B.named
  have hlocks := B.notSynchronized
  subst hsz
  have hD := hD0
  generalize hAe : va_A [] s.heap.size = A
  have hA : ∀ q : Nat, s.heap.size ≤ q → A q := fun q h => by rw [← hAe]; exact Or.inr h
  have hS : va_S A s.heap s.heap [] := va_S.rf
  have hP : va_P (dC, dI) vwCl [] s.heap := hP
  have hl := lv_entry ([.long (Int32.toInt64 p0), .long (Int32.toInt64 p1), .long (Int32.toInt64 p2)]) (n := 6) (Nat.le_of_ble_eq_true rfl)
  rw [lg_entry_eq]
  generalize (lg_sl ([.long (Int32.toInt64 p0), .long (Int32.toInt64 p1), .long (Int32.toInt64 p2)]) ++ List.replicate (6 - (lg_sl ([.long (Int32.toInt64 p0), .long (Int32.toInt64 p1), .long (Int32.toInt64 p2)])).length) Slot.unset).toArray = ls at hl ⊢
  have hl : lv_has ls 6 [(0, .long (Int32.toInt64 p0)), (2, .long (Int32.toInt64 p1)), (4, .long (Int32.toInt64 p2))] := hl
  refine lv_lload_n hx hb dX8_in_0 rfl (lv_at hl 0 rfl) ?_
  refine lv_lload_n hx hb dX8_in_1 rfl (lv_at hl 1 rfl) ?_
  refine W.lcmp hx hb dX8_in_2 ?_
  refine lv_if_lt (tgt := 17) hx hb dX8_in_3 (by decide) (fun c_1 => ?_) (fun c_1 => ?_)
  · refine lv_iconst (v := 0) hx hb dX8_in_17 (by decide) ?_
    exact W.zret (v := 0) hx hb hr (rfl) (fun t ht hW => ⟨⟨0, (), rfl, (by have zc_1 := c_1; rw [zz_cmp_neg, Int32.le_iff_toInt_le] at zc_1; first | exact (zz_in1 (Int32.le_iff_toInt_le.mpr (by omega)) (Int32.le_iff_toInt_le.mpr (by omega))).symm | exact (zz_inN (by rw [Int32.le_iff_toInt_le, Int32.le_iff_toInt_le]; omega)).symm), trivial⟩, hS.F ht⟩) hS.2.2 dX8_in_18
  · refine lv_lload_n hx hb dX8_in_6 rfl (lv_at hl 0 rfl) ?_
    refine lv_lload hx hb dX8_in_7 (lv_at hl 2 rfl) ?_
    refine W.lcmp hx hb dX8_in_9 ?_
    refine lv_if_gt (tgt := 17) hx hb dX8_in_10 (by decide) (fun c_2 => ?_) (fun c_2 => ?_)
    · refine lv_iconst (v := 0) hx hb dX8_in_17 (by decide) ?_
      exact W.zret (v := 0) hx hb hr (rfl) (fun t ht hW => ⟨⟨0, (), rfl, (by have zc_1 := c_1; rw [zz_cmp_neg, Int32.le_iff_toInt_le] at zc_1; have zc_2 := c_2; rw [zz_cmp_pos, Int32.le_iff_toInt_le] at zc_2; first | exact (zz_in1 (Int32.le_iff_toInt_le.mpr (by omega)) (Int32.le_iff_toInt_le.mpr (by omega))).symm | exact (zz_inN (by rw [Int32.le_iff_toInt_le, Int32.le_iff_toInt_le]; omega)).symm), trivial⟩, hS.F ht⟩) hS.2.2 dX8_in_18
    · refine lv_iconst (v := 1) hx hb dX8_in_13 (by decide) ?_
      refine lv_goto (tgt := 18) hx hb dX8_in_14 (by decide) ?_
      exact W.zret (v := 1) hx hb hr (rfl) (fun t ht hW => ⟨⟨1, (), rfl, (by have zc_1 := c_1; rw [zz_cmp_neg, Int32.le_iff_toInt_le] at zc_1; have zc_2 := c_2; rw [zz_cmp_pos, Int32.le_iff_toInt_le] at zc_2; first | exact (zz_in1 (Int32.le_iff_toInt_le.mpr (by omega)) (Int32.le_iff_toInt_le.mpr (by omega))).symm | exact (zz_inN (by rw [Int32.le_iff_toInt_le, Int32.le_iff_toInt_le]; omega)).symm), trivial⟩, hS.F ht⟩) hS.2.2 dX8_in_18

set_option maxHeartbeats 4000000 in
set_option maxRecDepth 100000 in
theorem k_houseAt (l : Launch) (dC : Nat → ClassId) (dI : Nat → Nat → Nat) (a : Nat → Nat) (p0 : Int32) (sz : Nat) : Met l yX7_houseAt (zz_w yX7_houseAt cX7_houseAt 2 (some (.object "HandsReturned$House"))) ({ frames := 1, cells := 0, slots := 0, locals := 22 }) (va_Pc [.ref (a 0), .int p0] (zz_B (dC, dI) sz [(a 0, .inr (7, [.ref (a 1), .ref (a 10), .ref (a 23), .ref (a 24), .ref (a 26), .ref (a 29), .ref (a 34), .ref (a 43), .int 0, .int 0, .int 0, .int 0]))] [])) (va_Qq (fun (r : Option Nat) (_ : Unit) => r = none) (fun _ _ => True) (va_A [] sz)) 0 0 (va_A [] sz) := by
  refine Met.ofW (cc := cX7_houseAt) (maxL := 2) (ret := (some (.object "HandsReturned$House"))) (by decide) rfl ?_
  intro p e s m args below meth c s₁ B hml hv
  obtain ⟨rfl, hsz, hP, hK, hD0, hN⟩ := hv
  have hx := B.exec
  have hb := B.bytes
  have hr := B.returns
  have hts := atoms_spec (ws := zz_w yX7_houseAt cX7_houseAt 2 (some (.object "HandsReturned$House"))) B.pre
  have hw : ∀ w ∈ zz_all, w.before _ s = true := fun w h => hts w (List.mem_cons_of_mem _ h)
  have hown : s.vm.findClass RX7 = some m.cls := findClass_of_methodNamed B.named
  have hlocks := B.notSynchronized
  subst hsz
  have hD := hD0
  generalize hAe : va_A [] s.heap.size = A
  have hA : ∀ q : Nat, s.heap.size ≤ q → A q := fun q h => by rw [← hAe]; exact Or.inr h
  have hS : va_S A s.heap s.heap [] := va_S.rf
  have hP : va_P (dC, dI) vwCl [(a 0, .inr (7, [.ref (a 1), .ref (a 10), .ref (a 23), .ref (a 24), .ref (a 26), .ref (a 29), .ref (a 34), .ref (a 43), .int 0, .int 0, .int 0, .int 0]))] s.heap := hP
  have hl := lv_entry ([.ref (a 0), .int p0]) (n := 2) (Nat.le_of_ble_eq_true rfl)
  rw [lg_entry_eq]
  generalize (lg_sl ([.ref (a 0), .int p0]) ++ List.replicate (2 - (lg_sl ([.ref (a 0), .int p0])).length) Slot.unset).toArray = ls at hl ⊢
  have hl : lv_has ls 2 [(0, .ref (a 0)), (1, .int p0)] := hl
  refine lv_iload_n hx hb dX7_houseAt_0 rfl (lv_at hl 1 rfl) ?_
  refine lv_iconst (v := 0) hx hb dX7_houseAt_1 (by decide) ?_
  refine lv_aload_n hx hb dX7_houseAt_2 rfl (lv_at hl 0 rfl) ?_
  refine va_get (D := (dC, dI)) (ci := 7) (v := .int 0) (C := RX7) (T := TX7) (N := 12) hx hb hw zz_inX7 hown hK hP 0 rfl rfl 8 (by decide) (hw _ tw_0) (fun _ h9 => h9) rfl dX7_houseAt_3 ?_
  refine lv_iconst (v := 1) hx hb dX7_houseAt_6 (by decide) ?_
  refine lv_isub hx hb dX7_houseAt_7 ?_
  refine zz_seti (-1) (by decide) ?_
  have hPc := hP.sub (ws' := []) [] rfl
  have hDc := hD.sub (ws' := []) [] (by decide) rfl
  have hKc := hK.sub (tys' := []) [] rfl
  have hFc := zz_free0 hS hA
  refine va_calli (va_runS (As := [.int p0, .int 0, .int (-1)]) (rest := []) ⟨hx, hb, hml, hown, hw⟩ (k_within l dC dI p0 0 (-1) s.heap.size) ⟨callB_of 3 hw (zz_good tw_1) rfl rfl rfl (hw _ tw_2) (hw _ tw_3) (by decide +kernel) ⟨Nat.le_of_ble_eq_true rfl, Nat.le_of_ble_eq_true rfl⟩, (hw _ tw_4)⟩ ⟨zz_blind, zz_pre hPc hKc hDc hN⟩ rfl rfl hl.1 rfl (lv_room (Nat.le_of_ble_eq_true rfl)) dX7_houseAt_8 ⟨Nat.le_of_ble_eq_true rfl, Nat.le_of_ble_eq_true rfl⟩) hS (fun q _ h => hFc q h) hFc (fun r_1 u_1 t H1 locs ht hvm e_1 hB hz1 hk1 hS => ?_)
  try dsimp only at e_1
  have hP := zz_keep hP hk1
  clear hk1 hB ht hvm
  generalize H1 = H at hP hS ⊢
  have hP : va_P (dC, dI) vwCl [(a 0, .inr (7, [.ref (a 1), .ref (a 10), .ref (a 23), .ref (a 24), .ref (a 26), .ref (a 29), .ref (a 34), .ref (a 43), .int 0, .int 0, .int 0, .int 0]))] H := hP
  have hD : va_D (fun _ => True) [(a 0, .inr (7, [.ref (a 1), .ref (a 10), .ref (a 23), .ref (a 24), .ref (a 26), .ref (a 29), .ref (a 34), .ref (a 43), .int 0, .int 0, .int 0, .int 0]))] := hD
  refine zz_seti 0 (e_1.trans (zz_empty _)) ?_
  refine lv_if_eq (tgt := 23) hx hb dX7_houseAt_11 (by decide) (fun _ => ?_) (fun c_9 => absurd c_9 (by decide))
  refine lv_null hx hb dX7_houseAt_23 ?_
  exact W.aret (v := .null) hx hb hr (Or.inl ⟨_, rfl⟩) (Or.inl rfl) (fun t ht hW => ⟨⟨none, (), rfl, rfl, trivial⟩, hS.F ht⟩) hS.2.2 dX7_houseAt_24

set_option maxHeartbeats 4000000 in
set_option maxRecDepth 100000 in
theorem k_fieldAt (l : Launch) (dC : Nat → ClassId) (dI : Nat → Nat → Nat) (a : Nat → Nat) (p0 : Int32) (sz : Nat) : Met l yX7_fieldAt (zz_w yX7_fieldAt cX7_fieldAt 2 (some (.object "HandsReturned$Field"))) ({ frames := 1, cells := 0, slots := 0, locals := 22 }) (va_Pc [.ref (a 0), .int p0] (zz_B (dC, dI) sz [(a 0, .inr (7, [.ref (a 1), .ref (a 10), .ref (a 23), .ref (a 24), .ref (a 26), .ref (a 29), .ref (a 34), .ref (a 43), .int 0, .int 0, .int 0, .int 0]))] [])) (va_Qq (fun (r : Option Nat) (_ : Unit) => r = none) (fun _ _ => True) (va_A [] sz)) 0 0 (va_A [] sz) := by
  refine Met.ofW (cc := cX7_fieldAt) (maxL := 2) (ret := (some (.object "HandsReturned$Field"))) (by decide) rfl ?_
  intro p e s m args below meth c s₁ B hml hv
  obtain ⟨rfl, hsz, hP, hK, hD0, hN⟩ := hv
  have hx := B.exec
  have hb := B.bytes
  have hr := B.returns
  have hts := atoms_spec (ws := zz_w yX7_fieldAt cX7_fieldAt 2 (some (.object "HandsReturned$Field"))) B.pre
  have hw : ∀ w ∈ zz_all, w.before _ s = true := fun w h => hts w (List.mem_cons_of_mem _ h)
  have hown : s.vm.findClass RX7 = some m.cls := findClass_of_methodNamed B.named
  have hlocks := B.notSynchronized
  subst hsz
  have hD := hD0
  generalize hAe : va_A [] s.heap.size = A
  have hA : ∀ q : Nat, s.heap.size ≤ q → A q := fun q h => by rw [← hAe]; exact Or.inr h
  have hS : va_S A s.heap s.heap [] := va_S.rf
  have hP : va_P (dC, dI) vwCl [(a 0, .inr (7, [.ref (a 1), .ref (a 10), .ref (a 23), .ref (a 24), .ref (a 26), .ref (a 29), .ref (a 34), .ref (a 43), .int 0, .int 0, .int 0, .int 0]))] s.heap := hP
  have hl := lv_entry ([.ref (a 0), .int p0]) (n := 2) (Nat.le_of_ble_eq_true rfl)
  rw [lg_entry_eq]
  generalize (lg_sl ([.ref (a 0), .int p0]) ++ List.replicate (2 - (lg_sl ([.ref (a 0), .int p0])).length) Slot.unset).toArray = ls at hl ⊢
  have hl : lv_has ls 2 [(0, .ref (a 0)), (1, .int p0)] := hl
  refine lv_iload_n hx hb dX7_fieldAt_0 rfl (lv_at hl 1 rfl) ?_
  refine lv_iconst (v := 0) hx hb dX7_fieldAt_1 (by decide) ?_
  refine lv_aload_n hx hb dX7_fieldAt_2 rfl (lv_at hl 0 rfl) ?_
  refine va_get (D := (dC, dI)) (ci := 7) (v := .int 0) (C := RX7) (T := TX7) (N := 12) hx hb hw zz_inX7 hown hK hP 0 rfl rfl 9 (by decide) (hw _ tw_5) (fun _ h9 => h9) rfl dX7_fieldAt_3 ?_
  refine lv_iconst (v := 1) hx hb dX7_fieldAt_6 (by decide) ?_
  refine lv_isub hx hb dX7_fieldAt_7 ?_
  refine zz_seti (-1) (by decide) ?_
  have hPc := hP.sub (ws' := []) [] rfl
  have hDc := hD.sub (ws' := []) [] (by decide) rfl
  have hKc := hK.sub (tys' := []) [] rfl
  have hFc := zz_free0 hS hA
  refine va_calli (va_runS (As := [.int p0, .int 0, .int (-1)]) (rest := []) ⟨hx, hb, hml, hown, hw⟩ (k_within l dC dI p0 0 (-1) s.heap.size) ⟨callB_of 3 hw (zz_good tw_1) rfl rfl rfl (hw _ tw_2) (hw _ tw_3) (by decide +kernel) ⟨Nat.le_of_ble_eq_true rfl, Nat.le_of_ble_eq_true rfl⟩, (hw _ tw_4)⟩ ⟨zz_blind, zz_pre hPc hKc hDc hN⟩ rfl rfl hl.1 rfl (lv_room (Nat.le_of_ble_eq_true rfl)) dX7_fieldAt_8 ⟨Nat.le_of_ble_eq_true rfl, Nat.le_of_ble_eq_true rfl⟩) hS (fun q _ h => hFc q h) hFc (fun r_1 u_1 t H1 locs ht hvm e_1 hB hz1 hk1 hS => ?_)
  try dsimp only at e_1
  have hP := zz_keep hP hk1
  clear hk1 hB ht hvm
  generalize H1 = H at hP hS ⊢
  have hP : va_P (dC, dI) vwCl [(a 0, .inr (7, [.ref (a 1), .ref (a 10), .ref (a 23), .ref (a 24), .ref (a 26), .ref (a 29), .ref (a 34), .ref (a 43), .int 0, .int 0, .int 0, .int 0]))] H := hP
  have hD : va_D (fun _ => True) [(a 0, .inr (7, [.ref (a 1), .ref (a 10), .ref (a 23), .ref (a 24), .ref (a 26), .ref (a 29), .ref (a 34), .ref (a 43), .int 0, .int 0, .int 0, .int 0]))] := hD
  refine zz_seti 0 (e_1.trans (zz_empty _)) ?_
  refine lv_if_eq (tgt := 23) hx hb dX7_fieldAt_11 (by decide) (fun _ => ?_) (fun c_9 => absurd c_9 (by decide))
  refine lv_null hx hb dX7_fieldAt_23 ?_
  exact W.aret (v := .null) hx hb hr (Or.inl ⟨_, rfl⟩) (Or.inl rfl) (fun t ht hW => ⟨⟨none, (), rfl, rfl, trivial⟩, hS.F ht⟩) hS.2.2 dX7_fieldAt_24

def an_house (n : Int32) : Int32 := if 1 ≤ n.toInt ∧ n.toInt ≤ 9 then 0 else -1

def an_loss (k v : Int32) : Int32 := if (0 ≤ k.toInt ∧ k.toInt ≤ 9) ∧ (0 ≤ v.toInt ∧ v.toInt ≤ 100) then 1 else 0

def an_end (n : Int32) : Int32 := if 0 ≤ n.toInt ∧ n.toInt ≤ 0 then n else -1

def an_says (n : Int32) : Int32 := if 0 ≤ n.toInt ∧ n.toInt ≤ 6 then zz_un n.toNatClampNeg else -1

def an_days (n : Int32) : Int32 := if 1 ≤ n.toInt ∧ n.toInt ≤ 100 then n else -1

def an_plan (n : Int32) : Int32 := if 1 ≤ n.toInt ∧ n.toInt ≤ 99 then 0 else -1

def an_about (n : Int32) : Int32 := if (0 ≤ n.toInt ∧ n.toInt ≤ 5) ∨ (20 ≤ n.toInt ∧ n.toInt ≤ 29) then 0 else -1

set_option maxHeartbeats 4000000 in
set_option maxRecDepth 100000 in
theorem k_house (l : Launch) (dC : Nat → ClassId) (dI : Nat → Nat → Nat) (a : Nat → Nat) (cH : ClassId) (fH : Nat → Option Nat) (p0 : Int32) (p1 : Int32) (sz : Nat) (hf : fH 0 = some (a 2)) (hp1 : p1 = 0 ∨ p1 = 1) : Met l yX7_house (zz_w yX7_house cX7_house 4 (some .int)) ({ frames := 0, cells := 0, slots := 0, locals := 0 }) (va_Pc [.ref (a 0), .int p0, .int p1] (zz_B (dC, dI) sz [(a 0, .inr (7, [.ref (a 1), .ref (a 10), .ref (a 23), .ref (a 24), .ref (a 26), .ref (a 29), .ref (a 34), .ref (a 43), .int 0, .int 0, .int 0, .int 0])), (a 1, .inl (cH, 8, .inr (.inr (.inr (.inr fH))))), (a 2, .inr (4, [.int 0, .int 0, .int 0, .int 0, .int 0, .int 0, .int 0, .int 0, .int 0]))] [(cH, .object RX4)])) (va_Qi (fun (r : Int32) (_ : Unit) => r = an_house p0) (fun _ _ => True) (va_A [(a 0, .inr (7, [.ref (a 1), .ref (a 10), .ref (a 23), .ref (a 24), .ref (a 26), .ref (a 29), .ref (a 34), .ref (a 43), .int 0, .int 0, .int 0, .int 0])), (a 1, .inl (cH, 8, .inr (.inr (.inr (.inr fH))))), (a 2, .inr (4, [.int 0, .int 0, .int 0, .int 0, .int 0, .int 0, .int 0, .int 0, .int 0]))] sz)) 0 0 (va_A [(a 0, .inr (7, [.ref (a 1), .ref (a 10), .ref (a 23), .ref (a 24), .ref (a 26), .ref (a 29), .ref (a 34), .ref (a 43), .int 0, .int 0, .int 0, .int 0])), (a 1, .inl (cH, 8, .inr (.inr (.inr (.inr fH))))), (a 2, .inr (4, [.int 0, .int 0, .int 0, .int 0, .int 0, .int 0, .int 0, .int 0, .int 0]))] sz) := by
  refine Met.ofW (cc := cX7_house) (maxL := 4) (ret := (some .int)) (by decide) rfl ?_
  intro p e s m args below meth c s₁ B hml hv
  obtain ⟨rfl, hsz, hP, hK, hD0, hN⟩ := hv
  have hx := B.exec
  have hb := B.bytes
  have hr := B.returns
  have hts := atoms_spec (ws := zz_w yX7_house cX7_house 4 (some .int)) B.pre
  have hw : ∀ w ∈ zz_all, w.before _ s = true := fun w h => hts w (List.mem_cons_of_mem _ h)
  have hown : s.vm.findClass RX7 = some m.cls := findClass_of_methodNamed B.named
  have hlocks := B.notSynchronized
  subst hsz
  have hD := hD0.self (sz := s.heap.size)
  generalize hAe : va_A [(a 0, .inr (7, [.ref (a 1), .ref (a 10), .ref (a 23), .ref (a 24), .ref (a 26), .ref (a 29), .ref (a 34), .ref (a 43), .int 0, .int 0, .int 0, .int 0])), (a 1, .inl (cH, 8, .inr (.inr (.inr (.inr fH))))), (a 2, .inr (4, [.int 0, .int 0, .int 0, .int 0, .int 0, .int 0, .int 0, .int 0, .int 0]))] s.heap.size = A at hD ⊢
  have hA : ∀ q : Nat, s.heap.size ≤ q → A q := fun q h => by rw [← hAe]; exact Or.inr h
  have hS : va_S A s.heap s.heap [] := va_S.rf
  have hP : va_P (dC, dI) vwCl [(a 0, .inr (7, [.ref (a 1), .ref (a 10), .ref (a 23), .ref (a 24), .ref (a 26), .ref (a 29), .ref (a 34), .ref (a 43), .int 0, .int 0, .int 0, .int 0])), (a 1, .inl (cH, 8, .inr (.inr (.inr (.inr fH))))), (a 2, .inr (4, [.int 0, .int 0, .int 0, .int 0, .int 0, .int 0, .int 0, .int 0, .int 0]))] s.heap := hP
  have hl := lv_entry ([.ref (a 0), .int p0, .int p1]) (n := 4) (Nat.le_of_ble_eq_true rfl)
  rw [lg_entry_eq]
  generalize (lg_sl ([.ref (a 0), .int p0, .int p1]) ++ List.replicate (4 - (lg_sl ([.ref (a 0), .int p0, .int p1])).length) Slot.unset).toArray = ls at hl ⊢
  have hl : lv_has ls 4 [(0, .ref (a 0)), (1, .int p0), (2, .int p1)] := hl
  refine lv_iload_n hx hb dX7_house_0 rfl (lv_at hl 1 rfl) ?_
  refine lv_iconst (v := 1) hx hb dX7_house_1 (by decide) ?_
  refine lv_icmp_lt (tgt := 20) hx hb dX7_house_2 (by decide) (fun c_1 => ?_) (fun c_1 => ?_)
  · refine lv_iconst (v := (-1)) hx hb dX7_house_20 (by decide) ?_
    exact W.iret (v := (-1)) hx hb hr (fun t ht hW => ⟨⟨(-1), (), rfl, (by have zc_1 := c_1; rw [Int32.lt_iff_toInt_lt] at zc_1; try rw [show (1 : Int32).toInt = 1 from by decide] at zc_1; unfold an_house; first | exact (if_pos (by omega)).symm | exact (if_neg (by omega)).symm), trivial⟩, hS.F ht⟩) hS.2.2 dX7_house_21
  · refine lv_iload_n hx hb dX7_house_5 rfl (lv_at hl 1 rfl) ?_
    refine lv_bipush (v := 9) hx hb dX7_house_6 (by decide) ?_
    refine lv_icmp_gt (tgt := 20) hx hb dX7_house_8 (by decide) (fun c_2 => ?_) (fun c_2 => ?_)
    · refine lv_iconst (v := (-1)) hx hb dX7_house_20 (by decide) ?_
      exact W.iret (v := (-1)) hx hb hr (fun t ht hW => ⟨⟨(-1), (), rfl, (by have zc_1 := c_1; rw [Int32.lt_iff_toInt_lt] at zc_1; try rw [show (1 : Int32).toInt = 1 from by decide] at zc_1; have zc_2 := c_2; rw [Int32.lt_iff_toInt_lt] at zc_2; try rw [show (9 : Int32).toInt = 9 from by decide] at zc_2; unfold an_house; first | exact (if_pos (by omega)).symm | exact (if_neg (by omega)).symm), trivial⟩, hS.F ht⟩) hS.2.2 dX7_house_21
    · refine lv_aload_n hx hb dX7_house_11 rfl (lv_at hl 0 rfl) ?_
      refine va_get (D := (dC, dI)) (ci := 7) (v := .int 0) (C := RX7) (T := TX7) (N := 12) hx hb hw zz_inX7 hown hK hP 0 rfl rfl 8 (by decide) (hw _ tw_0) (fun _ h9 => h9) rfl dX7_house_12 ?_
      refine lv_bipush (v := 8) hx hb dX7_house_15 (by decide) ?_
      refine lv_icmp_lt (tgt := 22) hx hb dX7_house_17 (by decide) (fun _ => ?_) (fun c_9 => absurd c_9 (by decide))
      refine lv_aload_n hx hb dX7_house_22 rfl (lv_at hl 0 rfl) ?_
      refine va_get (D := (dC, dI)) (ci := 7) (v := .ref (a 1)) (C := RX7) (T := TX7) (N := 12) hx hb hw zz_inX7 hown hK hP 0 rfl rfl 0 (by decide) (hw _ tw_6) (fun _ h9 => h9) rfl dX7_house_23 ?_
      refine lv_aload_n hx hb dX7_house_26 rfl (lv_at hl 0 rfl) ?_
      refine va_get (D := (dC, dI)) (ci := 7) (v := .int 0) (C := RX7) (T := TX7) (N := 12) hx hb hw zz_inX7 hown hK hP 0 rfl rfl 8 (by decide) (hw _ tw_0) (fun _ h9 => h9) rfl dX7_house_27 ?_
      refine va_aldq hx hb hK hP 1 0 rfl rfl (zz_vin (by decide)) dX7_house_30 ?_
      refine zz_setv (.ref (a 2)) (congrArg va_rf hf) ?_
      refine lv_astore_n (lv' := [(3, .ref (a 2)), (0, .ref (a 0)), (1, .int p0), (2, .int p1)]) hx hb dX7_house_31 rfl hl (by decide) rfl (fun ls hl => ?_)
      refine lv_aload_n hx hb dX7_house_32 rfl (lv_at hl 0 rfl) ?_
      refine lv_iload_n hx hb dX7_house_33 rfl (lv_at hl 2 rfl) ?_
      refine va_putN (D := (dC, dI)) (ci := 4) (v := .int p0) (ty := .int) (C := RX4) (T := TX4) (N := 9) hx hb hw zz_inX4 tyX4 tyX4_ok nmX4 hown hK hP hD hS 2 rfl rfl 0 (by decide) (hN.use zz_n1) (fun _ h9 => h9) rfl (by decide +kernel) rfl rfl (Nat.le_of_ble_eq_true rfl) dX7_house_34 (fun H locs hP hD hS => ?_)
      have hP : va_P (dC, dI) vwCl [(a 0, .inr (7, [.ref (a 1), .ref (a 10), .ref (a 23), .ref (a 24), .ref (a 26), .ref (a 29), .ref (a 34), .ref (a 43), .int 0, .int 0, .int 0, .int 0])), (a 1, .inl (cH, 8, .inr (.inr (.inr (.inr fH))))), (a 2, .inr (4, [.int p0, .int 0, .int 0, .int 0, .int 0, .int 0, .int 0, .int 0, .int 0]))] H := hP
      have hD : va_D A [(a 0, .inr (7, [.ref (a 1), .ref (a 10), .ref (a 23), .ref (a 24), .ref (a 26), .ref (a 29), .ref (a 34), .ref (a 43), .int 0, .int 0, .int 0, .int 0])), (a 1, .inl (cH, 8, .inr (.inr (.inr (.inr fH))))), (a 2, .inr (4, [.int p0, .int 0, .int 0, .int 0, .int 0, .int 0, .int 0, .int 0, .int 0]))] := hD
      refine lv_aload_n hx hb dX7_house_37 rfl (lv_at hl 0 rfl) ?_
      refine lv_iload_n hx hb dX7_house_38 rfl (lv_at hl 3 rfl) ?_
      refine va_putN (D := (dC, dI)) (ci := 4) (v := .int p1) (ty := .boolean) (C := RX4) (T := TX4) (N := 9) hx hb hw zz_inX4 tyX4 tyX4_ok nmX4 hown hK hP hD hS 2 rfl rfl 1 (by decide) (hN.use zz_n2) (fun _ h9 => h9) rfl (by decide +kernel) (zz_nz hp1) (zz_fz hp1) (Nat.le_of_ble_eq_true rfl) dX7_house_39 (fun H locs hP hD hS => ?_)
      have hP : va_P (dC, dI) vwCl [(a 0, .inr (7, [.ref (a 1), .ref (a 10), .ref (a 23), .ref (a 24), .ref (a 26), .ref (a 29), .ref (a 34), .ref (a 43), .int 0, .int 0, .int 0, .int 0])), (a 1, .inl (cH, 8, .inr (.inr (.inr (.inr fH))))), (a 2, .inr (4, [.int p0, .int p1, .int 0, .int 0, .int 0, .int 0, .int 0, .int 0, .int 0]))] H := hP
      have hD : va_D A [(a 0, .inr (7, [.ref (a 1), .ref (a 10), .ref (a 23), .ref (a 24), .ref (a 26), .ref (a 29), .ref (a 34), .ref (a 43), .int 0, .int 0, .int 0, .int 0])), (a 1, .inl (cH, 8, .inr (.inr (.inr (.inr fH))))), (a 2, .inr (4, [.int p0, .int p1, .int 0, .int 0, .int 0, .int 0, .int 0, .int 0, .int 0]))] := hD
      refine lv_aload_n hx hb dX7_house_42 rfl (lv_at hl 1 rfl) ?_
      refine lv_dup hx hb dX7_house_43 rfl ?_
      refine va_get (D := (dC, dI)) (ci := 7) (v := .int 0) (C := RX7) (T := TX7) (N := 12) hx hb hw zz_inX7 hown hK hP 0 rfl rfl 8 (by decide) (hw _ tw_0) (fun _ h9 => h9) rfl dX7_house_44 ?_
      refine lv_iconst (v := 1) hx hb dX7_house_47 (by decide) ?_
      refine lv_iadd hx hb dX7_house_48 ?_
      refine zz_seti 1 (by decide) ?_
      refine va_put (D := (dC, dI)) (ci := 7) (v := .int 1) (ty := .int) (C := RX7) (T := TX7) (N := 12) hx hb hw zz_inX7 tyX7 tyX7_ok nmX7 hown hK hP hD hS 0 rfl rfl 8 (by decide) (hw _ tw_0) (fun _ h9 => h9) rfl (by decide +kernel) rfl rfl (Nat.le_of_ble_eq_true rfl) dX7_house_49 (fun H locs hP hD hS => ?_)
      have hP : va_P (dC, dI) vwCl [(a 0, .inr (7, [.ref (a 1), .ref (a 10), .ref (a 23), .ref (a 24), .ref (a 26), .ref (a 29), .ref (a 34), .ref (a 43), .int 1, .int 0, .int 0, .int 0])), (a 1, .inl (cH, 8, .inr (.inr (.inr (.inr fH))))), (a 2, .inr (4, [.int p0, .int p1, .int 0, .int 0, .int 0, .int 0, .int 0, .int 0, .int 0]))] H := hP
      have hD : va_D A [(a 0, .inr (7, [.ref (a 1), .ref (a 10), .ref (a 23), .ref (a 24), .ref (a 26), .ref (a 29), .ref (a 34), .ref (a 43), .int 1, .int 0, .int 0, .int 0])), (a 1, .inl (cH, 8, .inr (.inr (.inr (.inr fH))))), (a 2, .inr (4, [.int p0, .int p1, .int 0, .int 0, .int 0, .int 0, .int 0, .int 0, .int 0]))] := hD
      refine lv_aload_n hx hb dX7_house_52 rfl (lv_at hl 1 rfl) ?_
      refine va_get (D := (dC, dI)) (ci := 7) (v := .int 1) (C := RX7) (T := TX7) (N := 12) hx hb hw zz_inX7 hown hK hP 0 rfl rfl 8 (by decide) (hw _ tw_0) (fun _ h9 => h9) rfl dX7_house_53 ?_
      refine lv_iconst (v := 1) hx hb dX7_house_56 (by decide) ?_
      refine lv_isub hx hb dX7_house_57 ?_
      refine zz_seti 0 (by decide) ?_
      exact W.iret (v := 0) hx hb hr (fun t ht hW => ⟨⟨0, (), rfl, (by have zc_1 := c_1; rw [Int32.lt_iff_toInt_lt] at zc_1; try rw [show (1 : Int32).toInt = 1 from by decide] at zc_1; have zc_2 := c_2; rw [Int32.lt_iff_toInt_lt] at zc_2; try rw [show (9 : Int32).toInt = 9 from by decide] at zc_2; unfold an_house; first | exact (if_pos (by omega)).symm | exact (if_neg (by omega)).symm), trivial⟩, hS.F ht⟩) hS.2.2 dX7_house_58

set_option maxHeartbeats 4000000 in
set_option maxRecDepth 100000 in
theorem k_field (l : Launch) (dC : Nat → ClassId) (dI : Nat → Nat → Nat) (a : Nat → Nat) (p0 : Int32) (p1 : Int32) (p2 : Int32) (p3 : Int32) (p4 : Int32) (sz : Nat) : Met l yX7_field (zz_w yX7_field cX7_field 7 (some .int)) ({ frames := 2, cells := 0, slots := 0, locals := 43 }) (va_Pc [.ref (a 0), .int p0, .int p1, .int p2, .int p3, .int p4] (zz_B (dC, dI) sz [(a 0, .inr (7, [.ref (a 1), .ref (a 10), .ref (a 23), .ref (a 24), .ref (a 26), .ref (a 29), .ref (a 34), .ref (a 43), .int 0, .int 0, .int 0, .int 0]))] [])) (va_Qi (fun (r : Int32) (_ : Unit) => r = -1) (fun _ _ => True) (va_A [] sz)) 0 0 (va_A [] sz) := by
  refine Met.ofW (cc := cX7_field) (maxL := 7) (ret := (some .int)) (by decide) rfl ?_
  intro p e s m args below meth c s₁ B hml hv
  obtain ⟨rfl, hsz, hP, hK, hD0, hN⟩ := hv
  have hx := B.exec
  have hb := B.bytes
  have hr := B.returns
  have hts := atoms_spec (ws := zz_w yX7_field cX7_field 7 (some .int)) B.pre
  have hw : ∀ w ∈ zz_all, w.before _ s = true := fun w h => hts w (List.mem_cons_of_mem _ h)
  have hown : s.vm.findClass RX7 = some m.cls := findClass_of_methodNamed B.named
  have hlocks := B.notSynchronized
  subst hsz
  have hD := hD0
  generalize hAe : va_A [] s.heap.size = A
  have hA : ∀ q : Nat, s.heap.size ≤ q → A q := fun q h => by rw [← hAe]; exact Or.inr h
  have hS : va_S A s.heap s.heap [] := va_S.rf
  have hP : va_P (dC, dI) vwCl [(a 0, .inr (7, [.ref (a 1), .ref (a 10), .ref (a 23), .ref (a 24), .ref (a 26), .ref (a 29), .ref (a 34), .ref (a 43), .int 0, .int 0, .int 0, .int 0]))] s.heap := hP
  have hl := lv_entry ([.ref (a 0), .int p0, .int p1, .int p2, .int p3, .int p4]) (n := 7) (Nat.le_of_ble_eq_true rfl)
  rw [lg_entry_eq]
  generalize (lg_sl ([.ref (a 0), .int p0, .int p1, .int p2, .int p3, .int p4]) ++ List.replicate (7 - (lg_sl ([.ref (a 0), .int p0, .int p1, .int p2, .int p3, .int p4])).length) Slot.unset).toArray = ls at hl ⊢
  have hl : lv_has ls 7 [(0, .ref (a 0)), (1, .int p0), (2, .int p1), (3, .int p2), (4, .int p3), (5, .int p4)] := hl
  refine lv_aload_n hx hb dX7_field_0 rfl (lv_at hl 0 rfl) ?_
  refine lv_iload_n hx hb dX7_field_1 rfl (lv_at hl 1 rfl) ?_
  have hPc := hP.sub (ws' := [(a 0, .inr (7, [.ref (a 1), .ref (a 10), .ref (a 23), .ref (a 24), .ref (a 26), .ref (a 29), .ref (a 34), .ref (a 43), .int 0, .int 0, .int 0, .int 0]))]) [0] rfl
  have hDc := hD.sub (ws' := [(a 0, .inr (7, [.ref (a 1), .ref (a 10), .ref (a 23), .ref (a 24), .ref (a 26), .ref (a 29), .ref (a 34), .ref (a 43), .int 0, .int 0, .int 0, .int 0]))]) [0] (by decide) rfl
  have hKc := hK.sub (tys' := []) [] rfl
  have hFc := zz_free0 hS hA
  refine va_callq (va_runV (As := [.int p0]) (rest := []) ⟨hx, hb, hml, hown, hw⟩ (k_houseAt l dC dI a p0 s.heap.size) ⟨callB_of 1 hw (zz_good tw_7) rfl rfl rfl (hw _ tw_2) (hw _ tw_8) (by decide +kernel) ⟨Nat.le_of_ble_eq_true rfl, Nat.le_of_ble_eq_true rfl⟩, (hw _ tw_9), (hw _ tw_10)⟩ ⟨zz_blind, va_recv hKc hPc (ci := 7) (q0 := 0) rfl rfl, zz_pre hPc hKc hDc hN⟩ rfl rfl hl.1 rfl (lv_room (Nat.le_of_ble_eq_true rfl)) dX7_field_2 ⟨Nat.le_of_ble_eq_true rfl, Nat.le_of_ble_eq_true rfl⟩) hS (fun q _ h => hFc q h) hFc (fun r_1 u_1 t H1 locs ht hvm e_1 hB hz1 hk1 hS => ?_)
  try dsimp only at e_1
  have hP := zz_keep hP hk1
  clear hk1 hB ht hvm
  generalize H1 = H at hP hS ⊢
  have hP : va_P (dC, dI) vwCl [(a 0, .inr (7, [.ref (a 1), .ref (a 10), .ref (a 23), .ref (a 24), .ref (a 26), .ref (a 29), .ref (a 34), .ref (a 43), .int 0, .int 0, .int 0, .int 0]))] H := hP
  have hD : va_D (fun _ => True) [(a 0, .inr (7, [.ref (a 1), .ref (a 10), .ref (a 23), .ref (a 24), .ref (a 26), .ref (a 29), .ref (a 34), .ref (a 43), .int 0, .int 0, .int 0, .int 0]))] := hD
  refine zz_setv (.null) (congrArg va_rf e_1) ?_
  refine lv_ifnullN (tgt := 17) hx hb dX7_field_5 (by decide) ?_
  refine lv_iconst (v := (-1)) hx hb dX7_field_17 (by decide) ?_
  exact W.iret (v := (-1)) hx hb hr (fun t ht hW => ⟨⟨(-1), (), rfl, rfl, trivial⟩, hS.F ht⟩) hS.2.2 dX7_field_18

set_option maxHeartbeats 4000000 in
set_option maxRecDepth 100000 in
theorem k_loss (l : Launch) (dC : Nat → ClassId) (dI : Nat → Nat → Nat) (a : Nat → Nat) (cI : ClassId) (p0 : Int32) (p1 : Int32) (sz : Nat) : Met l yX7_loss (zz_w yX7_loss cX7_loss 3 (some .boolean)) ({ frames := 1, cells := 0, slots := 0, locals := 22 }) (va_Pc [.ref (a 0), .int p0, .int p1] (zz_B (dC, dI) sz [(a 0, .inr (7, [.ref (a 1), .ref (a 10), .ref (a 23), .ref (a 24), .ref (a 26), .ref (a 29), .ref (a 34), .ref (a 43), .int 0, .int 0, .int 0, .int 0])), (a 23, .inl (cI, 10, .inl (fun _ => (0 : Int32))))] [(cI, .int)])) (va_Qi (fun (r : Int32) (_ : Unit) => r = an_loss p0 p1) (fun _ _ => True) (va_A [(a 0, .inr (7, [.ref (a 1), .ref (a 10), .ref (a 23), .ref (a 24), .ref (a 26), .ref (a 29), .ref (a 34), .ref (a 43), .int 0, .int 0, .int 0, .int 0])), (a 23, .inl (cI, 10, .inl (fun _ => (0 : Int32))))] sz)) 0 0 (va_A [(a 0, .inr (7, [.ref (a 1), .ref (a 10), .ref (a 23), .ref (a 24), .ref (a 26), .ref (a 29), .ref (a 34), .ref (a 43), .int 0, .int 0, .int 0, .int 0])), (a 23, .inl (cI, 10, .inl (fun _ => (0 : Int32))))] sz) := by
  refine Met.ofW (cc := cX7_loss) (maxL := 3) (ret := (some .boolean)) (by decide) rfl ?_
  intro p e s m args below meth c s₁ B hml hv
  obtain ⟨rfl, hsz, hP, hK, hD0, hN⟩ := hv
  have hx := B.exec
  have hb := B.bytes
  have hr := B.returns
  have hts := atoms_spec (ws := zz_w yX7_loss cX7_loss 3 (some .boolean)) B.pre
  have hw : ∀ w ∈ zz_all, w.before _ s = true := fun w h => hts w (List.mem_cons_of_mem _ h)
  have hown : s.vm.findClass RX7 = some m.cls := findClass_of_methodNamed B.named
  have hlocks := B.notSynchronized
  subst hsz
  have hD := hD0.self (sz := s.heap.size)
  generalize hAe : va_A [(a 0, .inr (7, [.ref (a 1), .ref (a 10), .ref (a 23), .ref (a 24), .ref (a 26), .ref (a 29), .ref (a 34), .ref (a 43), .int 0, .int 0, .int 0, .int 0])), (a 23, .inl (cI, 10, .inl (fun _ => (0 : Int32))))] s.heap.size = A at hD ⊢
  have hA : ∀ q : Nat, s.heap.size ≤ q → A q := fun q h => by rw [← hAe]; exact Or.inr h
  have hS : va_S A s.heap s.heap [] := va_S.rf
  have hP : va_P (dC, dI) vwCl [(a 0, .inr (7, [.ref (a 1), .ref (a 10), .ref (a 23), .ref (a 24), .ref (a 26), .ref (a 29), .ref (a 34), .ref (a 43), .int 0, .int 0, .int 0, .int 0])), (a 23, .inl (cI, 10, .inl (fun _ => (0 : Int32))))] s.heap := hP
  have hl := lv_entry ([.ref (a 0), .int p0, .int p1]) (n := 3) (Nat.le_of_ble_eq_true rfl)
  rw [lg_entry_eq]
  generalize (lg_sl ([.ref (a 0), .int p0, .int p1]) ++ List.replicate (3 - (lg_sl ([.ref (a 0), .int p0, .int p1])).length) Slot.unset).toArray = ls at hl ⊢
  have hl : lv_has ls 3 [(0, .ref (a 0)), (1, .int p0), (2, .int p1)] := hl
  refine lv_iload_n hx hb dX7_loss_0 rfl (lv_at hl 1 rfl) ?_
  refine lv_iconst (v := 0) hx hb dX7_loss_1 (by decide) ?_
  refine lv_bipush (v := 9) hx hb dX7_loss_2 (by decide) ?_
  have hPc := hP.sub (ws' := []) [] rfl
  have hDc := hD.sub (ws' := []) [] (by decide) rfl
  have hKc := hK.sub (tys' := []) [] rfl
  have hFc := zz_free0 hS hA
  refine va_calli (va_runS (As := [.int p0, .int 0, .int 9]) (rest := []) ⟨hx, hb, hml, hown, hw⟩ (k_within l dC dI p0 0 9 s.heap.size) ⟨callB_of 3 hw (zz_good tw_1) rfl rfl rfl (hw _ tw_2) (hw _ tw_3) (by decide +kernel) ⟨Nat.le_of_ble_eq_true rfl, Nat.le_of_ble_eq_true rfl⟩, (hw _ tw_4)⟩ ⟨zz_blind, zz_pre hPc hKc hDc hN⟩ rfl rfl hl.1 rfl (lv_room (Nat.le_of_ble_eq_true rfl)) dX7_loss_4 ⟨Nat.le_of_ble_eq_true rfl, Nat.le_of_ble_eq_true rfl⟩) hS (fun q _ h => hFc q h) hFc (fun r_1 u_1 t H1 locs ht hvm e_1 hB hz1 hk1 hS => ?_)
  try dsimp only at e_1
  have hP := zz_keep hP hk1
  clear hk1 hB ht hvm
  generalize H1 = H at hP hS ⊢
  have hP : va_P (dC, dI) vwCl [(a 0, .inr (7, [.ref (a 1), .ref (a 10), .ref (a 23), .ref (a 24), .ref (a 26), .ref (a 29), .ref (a 34), .ref (a 43), .int 0, .int 0, .int 0, .int 0])), (a 23, .inl (cI, 10, .inl (fun _ => (0 : Int32))))] H := hP
  have hD : va_D A [(a 0, .inr (7, [.ref (a 1), .ref (a 10), .ref (a 23), .ref (a 24), .ref (a 26), .ref (a 29), .ref (a 34), .ref (a 43), .int 0, .int 0, .int 0, .int 0])), (a 23, .inl (cI, 10, .inl (fun _ => (0 : Int32))))] := hD
  refine lv_if_eq (tgt := 20) hx hb dX7_loss_7 (by decide) (fun c_2 => ?_) (fun c_2 => ?_)
  · refine lv_iconst (v := 0) hx hb dX7_loss_20 (by decide) ?_
    exact W.zret (v := 0) hx hb hr (rfl) (fun t ht hW => ⟨⟨0, (), rfl, (by have zc_2 := c_2; rw [e_1, zz_in0, Int32.le_iff_toInt_le, Int32.le_iff_toInt_le] at zc_2; try rw [show (0 : Int32).toInt = 0 from by decide] at zc_2; try rw [show (9 : Int32).toInt = 9 from by decide] at zc_2; unfold an_loss; first | exact (if_pos (by omega)).symm | exact (if_neg (by omega)).symm), trivial⟩, hS.F ht⟩) hS.2.2 dX7_loss_21
  · refine lv_iload_n hx hb dX7_loss_10 rfl (lv_at hl 2 rfl) ?_
    refine lv_iconst (v := 0) hx hb dX7_loss_11 (by decide) ?_
    refine lv_bipush (v := 100) hx hb dX7_loss_12 (by decide) ?_
    have hPc := hP.sub (ws' := []) [] rfl
    have hDc := hD.sub (ws' := []) [] (by decide) rfl
    have hKc := hK.sub (tys' := []) [] rfl
    have hFc := zz_free0 hS hA
    refine va_calli (va_runS (As := [.int p1, .int 0, .int 100]) (rest := []) ⟨hx, hb, hml, hown, hw⟩ (k_within l dC dI p1 0 100 H.size) ⟨callB_of 3 hw (zz_good tw_1) rfl rfl rfl (hw _ tw_2) (hw _ tw_3) (by decide +kernel) ⟨Nat.le_of_ble_eq_true rfl, Nat.le_of_ble_eq_true rfl⟩, (hw _ tw_4)⟩ ⟨zz_blind, zz_pre hPc hKc hDc hN⟩ rfl rfl hl.1 rfl (lv_room (Nat.le_of_ble_eq_true rfl)) dX7_loss_14 ⟨Nat.le_of_ble_eq_true rfl, Nat.le_of_ble_eq_true rfl⟩) hS (fun q _ h => hFc q h) hFc (fun r_3 u_3 t H1 locs ht hvm e_3 hB hz1 hk1 hS => ?_)
    try dsimp only at e_3
    have hP := zz_keep hP hk1
    clear hk1 hB ht hvm
    generalize H1 = H at hP hS ⊢
    have hP : va_P (dC, dI) vwCl [(a 0, .inr (7, [.ref (a 1), .ref (a 10), .ref (a 23), .ref (a 24), .ref (a 26), .ref (a 29), .ref (a 34), .ref (a 43), .int 0, .int 0, .int 0, .int 0])), (a 23, .inl (cI, 10, .inl (fun _ => (0 : Int32))))] H := hP
    have hD : va_D A [(a 0, .inr (7, [.ref (a 1), .ref (a 10), .ref (a 23), .ref (a 24), .ref (a 26), .ref (a 29), .ref (a 34), .ref (a 43), .int 0, .int 0, .int 0, .int 0])), (a 23, .inl (cI, 10, .inl (fun _ => (0 : Int32))))] := hD
    refine lv_if_ne (tgt := 22) hx hb dX7_loss_17 (by decide) (fun c_4 => ?_) (fun c_4 => ?_)
    · refine lv_aload_n hx hb dX7_loss_22 rfl (lv_at hl 0 rfl) ?_
      refine va_get (D := (dC, dI)) (ci := 7) (v := .ref (a 23)) (C := RX7) (T := TX7) (N := 12) hx hb hw zz_inX7 hown hK hP 0 rfl rfl 2 (by decide) (hw _ tw_11) (fun _ h9 => h9) rfl dX7_loss_23 ?_
      refine lv_iload_n hx hb dX7_loss_26 rfl (lv_at hl 1 rfl) ?_
      refine lv_iload_n hx hb dX7_loss_27 rfl (lv_at hl 2 rfl) ?_
      refine va_iast hx hb hK hP hD hS 1 0 rfl rfl (vp_in_iff.mpr (by have zc_2 := c_2; rw [e_1, zz_in0, Int32.le_iff_toInt_le, Int32.le_iff_toInt_le] at zc_2; try rw [show (0 : Int32).toInt = 0 from by decide] at zc_2; try rw [show (9 : Int32).toInt = 9 from by decide] at zc_2; have zc_4 := c_4; rw [e_3, zz_in0, Int32.le_iff_toInt_le, Int32.le_iff_toInt_le] at zc_4; try rw [show (0 : Int32).toInt = 0 from by decide] at zc_4; try rw [show (100 : Int32).toInt = 100 from by decide] at zc_4; constructor <;> omega)) dX7_loss_28 (fun H locs hP hD hS => ?_)
      have hP : va_P (dC, dI) vwCl [(a 0, .inr (7, [.ref (a 1), .ref (a 10), .ref (a 23), .ref (a 24), .ref (a 26), .ref (a 29), .ref (a 34), .ref (a 43), .int 0, .int 0, .int 0, .int 0])), (a 23, .inl (cI, 10, .inl (upd (fun _ => (0 : Int32)) (Int32.toNatClampNeg p0) p1)))] H := hP
      have hD : va_D A [(a 0, .inr (7, [.ref (a 1), .ref (a 10), .ref (a 23), .ref (a 24), .ref (a 26), .ref (a 29), .ref (a 34), .ref (a 43), .int 0, .int 0, .int 0, .int 0])), (a 23, .inl (cI, 10, .inl (upd (fun _ => (0 : Int32)) (Int32.toNatClampNeg p0) p1)))] := hD
      refine lv_iconst (v := 1) hx hb dX7_loss_29 (by decide) ?_
      exact W.zret (v := 1) hx hb hr (rfl) (fun t ht hW => ⟨⟨1, (), rfl, (by have zc_2 := c_2; rw [e_1, zz_in0, Int32.le_iff_toInt_le, Int32.le_iff_toInt_le] at zc_2; try rw [show (0 : Int32).toInt = 0 from by decide] at zc_2; try rw [show (9 : Int32).toInt = 9 from by decide] at zc_2; have zc_4 := c_4; rw [e_3, zz_in0, Int32.le_iff_toInt_le, Int32.le_iff_toInt_le] at zc_4; try rw [show (0 : Int32).toInt = 0 from by decide] at zc_4; try rw [show (100 : Int32).toInt = 100 from by decide] at zc_4; unfold an_loss; first | exact (if_pos (by omega)).symm | exact (if_neg (by omega)).symm), trivial⟩, hS.F ht⟩) hS.2.2 dX7_loss_30
    · refine lv_iconst (v := 0) hx hb dX7_loss_20 (by decide) ?_
      exact W.zret (v := 0) hx hb hr (rfl) (fun t ht hW => ⟨⟨0, (), rfl, (by have zc_2 := c_2; rw [e_1, zz_in0, Int32.le_iff_toInt_le, Int32.le_iff_toInt_le] at zc_2; try rw [show (0 : Int32).toInt = 0 from by decide] at zc_2; try rw [show (9 : Int32).toInt = 9 from by decide] at zc_2; have zc_4 := c_4; rw [e_3, zz_in0, Int32.le_iff_toInt_le, Int32.le_iff_toInt_le] at zc_4; try rw [show (0 : Int32).toInt = 0 from by decide] at zc_4; try rw [show (100 : Int32).toInt = 100 from by decide] at zc_4; unfold an_loss; first | exact (if_pos (by omega)).symm | exact (if_neg (by omega)).symm), trivial⟩, hS.F ht⟩) hS.2.2 dX7_loss_21

set_option maxHeartbeats 4000000 in
set_option maxRecDepth 100000 in
theorem k_append0 (l : Launch) (dC : Nat → ClassId) (dI : Nat → Nat → Nat) (a : Nat → Nat) (cI : ClassId) (f : Nat → Int32) (p0 : Int32) (sz : Nat) : Met l yX6_append (zz_w yX6_append cX6_append 3 none) ({ frames := 0, cells := 0, slots := 0, locals := 0 }) (va_Pc [.ref (a 24), .int p0] (zz_B (dC, dI) sz [(a 24, .inr (6, [.ref (a 25), .int 0])), (a 25, .inl (cI, 200, .inl f))] [(cI, .int)])) (va_Qv (fun (_ : Nat → Int32) => True) (fun (u0 : Nat → Int32) (t : State) => va_P (dC, dI) vwCl [(a 24, .inr (6, [.ref (a 25), .int 4])), (a 25, .inl (cI, 200, .inl u0))] t.heap ∧ va_K (dC, dI) vwCl [(cI, .int)] t ∧ va_D (va_A [(a 24, .inr (6, [.ref (a 25), .int 0])), (a 25, .inl (cI, 200, .inl f))] sz) [(a 24, .inr (6, [.ref (a 25), .int 4])), (a 25, .inl (cI, 200, .inl u0))]) (va_A [(a 24, .inr (6, [.ref (a 25), .int 0])), (a 25, .inl (cI, 200, .inl f))] sz)) 0 0 (va_A [(a 24, .inr (6, [.ref (a 25), .int 0])), (a 25, .inl (cI, 200, .inl f))] sz) := by
  refine Met.ofW (cc := cX6_append) (maxL := 3) (ret := none) (by decide) rfl ?_
  intro p e s m args below meth c s₁ B hml hv
  obtain ⟨rfl, hsz, hP, hK, hD0, hN⟩ := hv
  have hx := B.exec
  have hb := B.bytes
  have hr := B.returns
  have hts := atoms_spec (ws := zz_w yX6_append cX6_append 3 none) B.pre
  have hw : ∀ w ∈ zz_all, w.before _ s = true := fun w h => hts w (List.mem_cons_of_mem _ h)
  have hown : s.vm.findClass RX6 = some m.cls := findClass_of_methodNamed B.named
  have hlocks := B.notSynchronized
  subst hsz
  have hD := hD0.self (sz := s.heap.size)
  generalize hAe : va_A [(a 24, .inr (6, [.ref (a 25), .int 0])), (a 25, .inl (cI, 200, .inl f))] s.heap.size = A at hD ⊢
  have hA : ∀ q : Nat, s.heap.size ≤ q → A q := fun q h => by rw [← hAe]; exact Or.inr h
  have hS : va_S A s.heap s.heap [] := va_S.rf
  have hP : va_P (dC, dI) vwCl [(a 24, .inr (6, [.ref (a 25), .int 0])), (a 25, .inl (cI, 200, .inl f))] s.heap := hP
  have hl := lv_entry ([.ref (a 24), .int p0]) (n := 3) (Nat.le_of_ble_eq_true rfl)
  rw [lg_entry_eq]
  generalize (lg_sl ([.ref (a 24), .int p0]) ++ List.replicate (3 - (lg_sl ([.ref (a 24), .int p0])).length) Slot.unset).toArray = ls at hl ⊢
  have hl : lv_has ls 3 [(0, .ref (a 24)), (1, .int p0)] := hl
  refine lv_bipush (v := 24) hx hb dX6_append_0 (by decide) ?_
  refine lv_istore_n (lv' := [(2, .int 24), (0, .ref (a 24)), (1, .int p0)]) hx hb dX6_append_2 rfl hl (by decide) rfl (fun ls hl => ?_)
  refine lv_iload_n hx hb dX6_append_3 rfl (lv_at hl 0 rfl) ?_
  refine lv_if_lt (tgt := 49) hx hb dX6_append_4 (by decide) (fun c_9 => absurd c_9 (by decide)) (fun _ => ?_)
  refine lv_aload_n hx hb dX6_append_7 rfl (lv_at hl 1 rfl) ?_
  refine va_get (D := (dC, dI)) (ci := 6) (v := .int 0) (C := RX6) (T := TX6) (N := 2) hx hb hw zz_inX6 hown hK hP 0 rfl rfl 1 (by decide) (hw _ tw_12) (fun _ h9 => h9) rfl dX6_append_8 ?_
  refine lv_sipush (v := 200) hx hb dX6_append_11 (by decide) ?_
  refine lv_icmp_ge (tgt := 49) hx hb dX6_append_14 (by decide) (fun c_9 => absurd c_9 (by decide)) (fun _ => ?_)
  refine lv_aload_n hx hb dX6_append_17 rfl (lv_at hl 1 rfl) ?_
  refine va_get (D := (dC, dI)) (ci := 6) (v := .ref (a 25)) (C := RX6) (T := TX6) (N := 2) hx hb hw zz_inX6 hown hK hP 0 rfl rfl 0 (by decide) (hw _ tw_13) (fun _ h9 => h9) rfl dX6_append_18 ?_
  refine lv_aload_n hx hb dX6_append_21 rfl (lv_at hl 1 rfl) ?_
  refine va_get (D := (dC, dI)) (ci := 6) (v := .int 0) (C := RX6) (T := TX6) (N := 2) hx hb hw zz_inX6 hown hK hP 0 rfl rfl 1 (by decide) (hw _ tw_12) (fun _ h9 => h9) rfl dX6_append_22 ?_
  refine lv_iload_n hx hb dX6_append_25 rfl (lv_at hl 2 rfl) ?_
  refine lv_iload_n hx hb dX6_append_26 rfl (lv_at hl 0 rfl) ?_
  refine lv_iushr (v := (Int32.toUInt32 p0 >>> (Int32.toUInt32 24 &&& Int32.toUInt32 31)).toInt32) hx hb dX6_append_27 rfl ?_
  refine lv_sipush (v := 255) hx hb dX6_append_28 (by decide) ?_
  refine lv_iand hx hb dX6_append_31 ?_
  refine va_iast hx hb hK hP hD hS 1 0 rfl rfl (zz_vin (by decide)) dX6_append_32 (fun H locs hP hD hS => ?_)
  have hP : va_P (dC, dI) vwCl [(a 24, .inr (6, [.ref (a 25), .int 0])), (a 25, .inl (cI, 200, .inl (upd f (Int32.toNatClampNeg 0) (((Int32.toUInt32 p0 >>> (Int32.toUInt32 24 &&& Int32.toUInt32 31)).toInt32) &&& 255))))] H := hP
  have hD : va_D A [(a 24, .inr (6, [.ref (a 25), .int 0])), (a 25, .inl (cI, 200, .inl (upd f (Int32.toNatClampNeg 0) (((Int32.toUInt32 p0 >>> (Int32.toUInt32 24 &&& Int32.toUInt32 31)).toInt32) &&& 255))))] := hD
  refine lv_aload_n hx hb dX6_append_33 rfl (lv_at hl 1 rfl) ?_
  refine lv_dup hx hb dX6_append_34 rfl ?_
  refine va_get (D := (dC, dI)) (ci := 6) (v := .int 0) (C := RX6) (T := TX6) (N := 2) hx hb hw zz_inX6 hown hK hP 0 rfl rfl 1 (by decide) (hw _ tw_12) (fun _ h9 => h9) rfl dX6_append_35 ?_
  refine lv_iconst (v := 1) hx hb dX6_append_38 (by decide) ?_
  refine lv_iadd hx hb dX6_append_39 ?_
  refine zz_seti 1 (by decide) ?_
  refine va_put (D := (dC, dI)) (ci := 6) (v := .int 1) (ty := .int) (C := RX6) (T := TX6) (N := 2) hx hb hw zz_inX6 tyX6 tyX6_ok nmX6 hown hK hP hD hS 0 rfl rfl 1 (by decide) (hw _ tw_12) (fun _ h9 => h9) rfl (by decide +kernel) rfl rfl (Nat.le_of_ble_eq_true rfl) dX6_append_40 (fun H locs hP hD hS => ?_)
  have hP : va_P (dC, dI) vwCl [(a 24, .inr (6, [.ref (a 25), .int 1])), (a 25, .inl (cI, 200, .inl (upd f (Int32.toNatClampNeg 0) (((Int32.toUInt32 p0 >>> (Int32.toUInt32 24 &&& Int32.toUInt32 31)).toInt32) &&& 255))))] H := hP
  have hD : va_D A [(a 24, .inr (6, [.ref (a 25), .int 1])), (a 25, .inl (cI, 200, .inl (upd f (Int32.toNatClampNeg 0) (((Int32.toUInt32 p0 >>> (Int32.toUInt32 24 &&& Int32.toUInt32 31)).toInt32) &&& 255))))] := hD
  refine lv_iinc (v := 16) (lv' := [(2, .int 16), (0, .ref (a 24)), (1, .int p0)]) hx hb dX6_append_43 hl (k := 0) rfl (by decide) (by decide) rfl (fun ls hl => ?_)
  refine lv_goto (tgt := 3) hx hb dX6_append_46 (by decide) ?_
  refine lv_iload_n hx hb dX6_append_3 rfl (lv_at hl 0 rfl) ?_
  refine lv_if_lt (tgt := 49) hx hb dX6_append_4 (by decide) (fun c_9 => absurd c_9 (by decide)) (fun _ => ?_)
  refine lv_aload_n hx hb dX6_append_7 rfl (lv_at hl 1 rfl) ?_
  refine va_get (D := (dC, dI)) (ci := 6) (v := .int 1) (C := RX6) (T := TX6) (N := 2) hx hb hw zz_inX6 hown hK hP 0 rfl rfl 1 (by decide) (hw _ tw_12) (fun _ h9 => h9) rfl dX6_append_8 ?_
  refine lv_sipush (v := 200) hx hb dX6_append_11 (by decide) ?_
  refine lv_icmp_ge (tgt := 49) hx hb dX6_append_14 (by decide) (fun c_9 => absurd c_9 (by decide)) (fun _ => ?_)
  refine lv_aload_n hx hb dX6_append_17 rfl (lv_at hl 1 rfl) ?_
  refine va_get (D := (dC, dI)) (ci := 6) (v := .ref (a 25)) (C := RX6) (T := TX6) (N := 2) hx hb hw zz_inX6 hown hK hP 0 rfl rfl 0 (by decide) (hw _ tw_13) (fun _ h9 => h9) rfl dX6_append_18 ?_
  refine lv_aload_n hx hb dX6_append_21 rfl (lv_at hl 1 rfl) ?_
  refine va_get (D := (dC, dI)) (ci := 6) (v := .int 1) (C := RX6) (T := TX6) (N := 2) hx hb hw zz_inX6 hown hK hP 0 rfl rfl 1 (by decide) (hw _ tw_12) (fun _ h9 => h9) rfl dX6_append_22 ?_
  refine lv_iload_n hx hb dX6_append_25 rfl (lv_at hl 2 rfl) ?_
  refine lv_iload_n hx hb dX6_append_26 rfl (lv_at hl 0 rfl) ?_
  refine lv_iushr (v := (Int32.toUInt32 p0 >>> (Int32.toUInt32 16 &&& Int32.toUInt32 31)).toInt32) hx hb dX6_append_27 rfl ?_
  refine lv_sipush (v := 255) hx hb dX6_append_28 (by decide) ?_
  refine lv_iand hx hb dX6_append_31 ?_
  refine va_iast hx hb hK hP hD hS 1 0 rfl rfl (zz_vin (by decide)) dX6_append_32 (fun H locs hP hD hS => ?_)
  have hP : va_P (dC, dI) vwCl [(a 24, .inr (6, [.ref (a 25), .int 1])), (a 25, .inl (cI, 200, .inl (upd (upd f (Int32.toNatClampNeg 0) (((Int32.toUInt32 p0 >>> (Int32.toUInt32 24 &&& Int32.toUInt32 31)).toInt32) &&& 255)) (Int32.toNatClampNeg 1) (((Int32.toUInt32 p0 >>> (Int32.toUInt32 16 &&& Int32.toUInt32 31)).toInt32) &&& 255))))] H := hP
  have hD : va_D A [(a 24, .inr (6, [.ref (a 25), .int 1])), (a 25, .inl (cI, 200, .inl (upd (upd f (Int32.toNatClampNeg 0) (((Int32.toUInt32 p0 >>> (Int32.toUInt32 24 &&& Int32.toUInt32 31)).toInt32) &&& 255)) (Int32.toNatClampNeg 1) (((Int32.toUInt32 p0 >>> (Int32.toUInt32 16 &&& Int32.toUInt32 31)).toInt32) &&& 255))))] := hD
  refine lv_aload_n hx hb dX6_append_33 rfl (lv_at hl 1 rfl) ?_
  refine lv_dup hx hb dX6_append_34 rfl ?_
  refine va_get (D := (dC, dI)) (ci := 6) (v := .int 1) (C := RX6) (T := TX6) (N := 2) hx hb hw zz_inX6 hown hK hP 0 rfl rfl 1 (by decide) (hw _ tw_12) (fun _ h9 => h9) rfl dX6_append_35 ?_
  refine lv_iconst (v := 1) hx hb dX6_append_38 (by decide) ?_
  refine lv_iadd hx hb dX6_append_39 ?_
  refine zz_seti 2 (by decide) ?_
  refine va_put (D := (dC, dI)) (ci := 6) (v := .int 2) (ty := .int) (C := RX6) (T := TX6) (N := 2) hx hb hw zz_inX6 tyX6 tyX6_ok nmX6 hown hK hP hD hS 0 rfl rfl 1 (by decide) (hw _ tw_12) (fun _ h9 => h9) rfl (by decide +kernel) rfl rfl (Nat.le_of_ble_eq_true rfl) dX6_append_40 (fun H locs hP hD hS => ?_)
  have hP : va_P (dC, dI) vwCl [(a 24, .inr (6, [.ref (a 25), .int 2])), (a 25, .inl (cI, 200, .inl (upd (upd f (Int32.toNatClampNeg 0) (((Int32.toUInt32 p0 >>> (Int32.toUInt32 24 &&& Int32.toUInt32 31)).toInt32) &&& 255)) (Int32.toNatClampNeg 1) (((Int32.toUInt32 p0 >>> (Int32.toUInt32 16 &&& Int32.toUInt32 31)).toInt32) &&& 255))))] H := hP
  have hD : va_D A [(a 24, .inr (6, [.ref (a 25), .int 2])), (a 25, .inl (cI, 200, .inl (upd (upd f (Int32.toNatClampNeg 0) (((Int32.toUInt32 p0 >>> (Int32.toUInt32 24 &&& Int32.toUInt32 31)).toInt32) &&& 255)) (Int32.toNatClampNeg 1) (((Int32.toUInt32 p0 >>> (Int32.toUInt32 16 &&& Int32.toUInt32 31)).toInt32) &&& 255))))] := hD
  refine lv_iinc (v := 8) (lv' := [(2, .int 8), (0, .ref (a 24)), (1, .int p0)]) hx hb dX6_append_43 hl (k := 0) rfl (by decide) (by decide) rfl (fun ls hl => ?_)
  refine lv_goto (tgt := 3) hx hb dX6_append_46 (by decide) ?_
  refine lv_iload_n hx hb dX6_append_3 rfl (lv_at hl 0 rfl) ?_
  refine lv_if_lt (tgt := 49) hx hb dX6_append_4 (by decide) (fun c_9 => absurd c_9 (by decide)) (fun _ => ?_)
  refine lv_aload_n hx hb dX6_append_7 rfl (lv_at hl 1 rfl) ?_
  refine va_get (D := (dC, dI)) (ci := 6) (v := .int 2) (C := RX6) (T := TX6) (N := 2) hx hb hw zz_inX6 hown hK hP 0 rfl rfl 1 (by decide) (hw _ tw_12) (fun _ h9 => h9) rfl dX6_append_8 ?_
  refine lv_sipush (v := 200) hx hb dX6_append_11 (by decide) ?_
  refine lv_icmp_ge (tgt := 49) hx hb dX6_append_14 (by decide) (fun c_9 => absurd c_9 (by decide)) (fun _ => ?_)
  refine lv_aload_n hx hb dX6_append_17 rfl (lv_at hl 1 rfl) ?_
  refine va_get (D := (dC, dI)) (ci := 6) (v := .ref (a 25)) (C := RX6) (T := TX6) (N := 2) hx hb hw zz_inX6 hown hK hP 0 rfl rfl 0 (by decide) (hw _ tw_13) (fun _ h9 => h9) rfl dX6_append_18 ?_
  refine lv_aload_n hx hb dX6_append_21 rfl (lv_at hl 1 rfl) ?_
  refine va_get (D := (dC, dI)) (ci := 6) (v := .int 2) (C := RX6) (T := TX6) (N := 2) hx hb hw zz_inX6 hown hK hP 0 rfl rfl 1 (by decide) (hw _ tw_12) (fun _ h9 => h9) rfl dX6_append_22 ?_
  refine lv_iload_n hx hb dX6_append_25 rfl (lv_at hl 2 rfl) ?_
  refine lv_iload_n hx hb dX6_append_26 rfl (lv_at hl 0 rfl) ?_
  refine lv_iushr (v := (Int32.toUInt32 p0 >>> (Int32.toUInt32 8 &&& Int32.toUInt32 31)).toInt32) hx hb dX6_append_27 rfl ?_
  refine lv_sipush (v := 255) hx hb dX6_append_28 (by decide) ?_
  refine lv_iand hx hb dX6_append_31 ?_
  refine va_iast hx hb hK hP hD hS 1 0 rfl rfl (zz_vin (by decide)) dX6_append_32 (fun H locs hP hD hS => ?_)
  have hP : va_P (dC, dI) vwCl [(a 24, .inr (6, [.ref (a 25), .int 2])), (a 25, .inl (cI, 200, .inl (upd (upd (upd f (Int32.toNatClampNeg 0) (((Int32.toUInt32 p0 >>> (Int32.toUInt32 24 &&& Int32.toUInt32 31)).toInt32) &&& 255)) (Int32.toNatClampNeg 1) (((Int32.toUInt32 p0 >>> (Int32.toUInt32 16 &&& Int32.toUInt32 31)).toInt32) &&& 255)) (Int32.toNatClampNeg 2) (((Int32.toUInt32 p0 >>> (Int32.toUInt32 8 &&& Int32.toUInt32 31)).toInt32) &&& 255))))] H := hP
  have hD : va_D A [(a 24, .inr (6, [.ref (a 25), .int 2])), (a 25, .inl (cI, 200, .inl (upd (upd (upd f (Int32.toNatClampNeg 0) (((Int32.toUInt32 p0 >>> (Int32.toUInt32 24 &&& Int32.toUInt32 31)).toInt32) &&& 255)) (Int32.toNatClampNeg 1) (((Int32.toUInt32 p0 >>> (Int32.toUInt32 16 &&& Int32.toUInt32 31)).toInt32) &&& 255)) (Int32.toNatClampNeg 2) (((Int32.toUInt32 p0 >>> (Int32.toUInt32 8 &&& Int32.toUInt32 31)).toInt32) &&& 255))))] := hD
  refine lv_aload_n hx hb dX6_append_33 rfl (lv_at hl 1 rfl) ?_
  refine lv_dup hx hb dX6_append_34 rfl ?_
  refine va_get (D := (dC, dI)) (ci := 6) (v := .int 2) (C := RX6) (T := TX6) (N := 2) hx hb hw zz_inX6 hown hK hP 0 rfl rfl 1 (by decide) (hw _ tw_12) (fun _ h9 => h9) rfl dX6_append_35 ?_
  refine lv_iconst (v := 1) hx hb dX6_append_38 (by decide) ?_
  refine lv_iadd hx hb dX6_append_39 ?_
  refine zz_seti 3 (by decide) ?_
  refine va_put (D := (dC, dI)) (ci := 6) (v := .int 3) (ty := .int) (C := RX6) (T := TX6) (N := 2) hx hb hw zz_inX6 tyX6 tyX6_ok nmX6 hown hK hP hD hS 0 rfl rfl 1 (by decide) (hw _ tw_12) (fun _ h9 => h9) rfl (by decide +kernel) rfl rfl (Nat.le_of_ble_eq_true rfl) dX6_append_40 (fun H locs hP hD hS => ?_)
  have hP : va_P (dC, dI) vwCl [(a 24, .inr (6, [.ref (a 25), .int 3])), (a 25, .inl (cI, 200, .inl (upd (upd (upd f (Int32.toNatClampNeg 0) (((Int32.toUInt32 p0 >>> (Int32.toUInt32 24 &&& Int32.toUInt32 31)).toInt32) &&& 255)) (Int32.toNatClampNeg 1) (((Int32.toUInt32 p0 >>> (Int32.toUInt32 16 &&& Int32.toUInt32 31)).toInt32) &&& 255)) (Int32.toNatClampNeg 2) (((Int32.toUInt32 p0 >>> (Int32.toUInt32 8 &&& Int32.toUInt32 31)).toInt32) &&& 255))))] H := hP
  have hD : va_D A [(a 24, .inr (6, [.ref (a 25), .int 3])), (a 25, .inl (cI, 200, .inl (upd (upd (upd f (Int32.toNatClampNeg 0) (((Int32.toUInt32 p0 >>> (Int32.toUInt32 24 &&& Int32.toUInt32 31)).toInt32) &&& 255)) (Int32.toNatClampNeg 1) (((Int32.toUInt32 p0 >>> (Int32.toUInt32 16 &&& Int32.toUInt32 31)).toInt32) &&& 255)) (Int32.toNatClampNeg 2) (((Int32.toUInt32 p0 >>> (Int32.toUInt32 8 &&& Int32.toUInt32 31)).toInt32) &&& 255))))] := hD
  refine lv_iinc (v := 0) (lv' := [(2, .int 0), (0, .ref (a 24)), (1, .int p0)]) hx hb dX6_append_43 hl (k := 0) rfl (by decide) (by decide) rfl (fun ls hl => ?_)
  refine lv_goto (tgt := 3) hx hb dX6_append_46 (by decide) ?_
  refine lv_iload_n hx hb dX6_append_3 rfl (lv_at hl 0 rfl) ?_
  refine lv_if_lt (tgt := 49) hx hb dX6_append_4 (by decide) (fun c_9 => absurd c_9 (by decide)) (fun _ => ?_)
  refine lv_aload_n hx hb dX6_append_7 rfl (lv_at hl 1 rfl) ?_
  refine va_get (D := (dC, dI)) (ci := 6) (v := .int 3) (C := RX6) (T := TX6) (N := 2) hx hb hw zz_inX6 hown hK hP 0 rfl rfl 1 (by decide) (hw _ tw_12) (fun _ h9 => h9) rfl dX6_append_8 ?_
  refine lv_sipush (v := 200) hx hb dX6_append_11 (by decide) ?_
  refine lv_icmp_ge (tgt := 49) hx hb dX6_append_14 (by decide) (fun c_9 => absurd c_9 (by decide)) (fun _ => ?_)
  refine lv_aload_n hx hb dX6_append_17 rfl (lv_at hl 1 rfl) ?_
  refine va_get (D := (dC, dI)) (ci := 6) (v := .ref (a 25)) (C := RX6) (T := TX6) (N := 2) hx hb hw zz_inX6 hown hK hP 0 rfl rfl 0 (by decide) (hw _ tw_13) (fun _ h9 => h9) rfl dX6_append_18 ?_
  refine lv_aload_n hx hb dX6_append_21 rfl (lv_at hl 1 rfl) ?_
  refine va_get (D := (dC, dI)) (ci := 6) (v := .int 3) (C := RX6) (T := TX6) (N := 2) hx hb hw zz_inX6 hown hK hP 0 rfl rfl 1 (by decide) (hw _ tw_12) (fun _ h9 => h9) rfl dX6_append_22 ?_
  refine lv_iload_n hx hb dX6_append_25 rfl (lv_at hl 2 rfl) ?_
  refine lv_iload_n hx hb dX6_append_26 rfl (lv_at hl 0 rfl) ?_
  refine lv_iushr (v := (Int32.toUInt32 p0 >>> (Int32.toUInt32 0 &&& Int32.toUInt32 31)).toInt32) hx hb dX6_append_27 rfl ?_
  refine lv_sipush (v := 255) hx hb dX6_append_28 (by decide) ?_
  refine lv_iand hx hb dX6_append_31 ?_
  refine va_iast hx hb hK hP hD hS 1 0 rfl rfl (zz_vin (by decide)) dX6_append_32 (fun H locs hP hD hS => ?_)
  have hP : va_P (dC, dI) vwCl [(a 24, .inr (6, [.ref (a 25), .int 3])), (a 25, .inl (cI, 200, .inl (upd (upd (upd (upd f (Int32.toNatClampNeg 0) (((Int32.toUInt32 p0 >>> (Int32.toUInt32 24 &&& Int32.toUInt32 31)).toInt32) &&& 255)) (Int32.toNatClampNeg 1) (((Int32.toUInt32 p0 >>> (Int32.toUInt32 16 &&& Int32.toUInt32 31)).toInt32) &&& 255)) (Int32.toNatClampNeg 2) (((Int32.toUInt32 p0 >>> (Int32.toUInt32 8 &&& Int32.toUInt32 31)).toInt32) &&& 255)) (Int32.toNatClampNeg 3) (((Int32.toUInt32 p0 >>> (Int32.toUInt32 0 &&& Int32.toUInt32 31)).toInt32) &&& 255))))] H := hP
  have hD : va_D A [(a 24, .inr (6, [.ref (a 25), .int 3])), (a 25, .inl (cI, 200, .inl (upd (upd (upd (upd f (Int32.toNatClampNeg 0) (((Int32.toUInt32 p0 >>> (Int32.toUInt32 24 &&& Int32.toUInt32 31)).toInt32) &&& 255)) (Int32.toNatClampNeg 1) (((Int32.toUInt32 p0 >>> (Int32.toUInt32 16 &&& Int32.toUInt32 31)).toInt32) &&& 255)) (Int32.toNatClampNeg 2) (((Int32.toUInt32 p0 >>> (Int32.toUInt32 8 &&& Int32.toUInt32 31)).toInt32) &&& 255)) (Int32.toNatClampNeg 3) (((Int32.toUInt32 p0 >>> (Int32.toUInt32 0 &&& Int32.toUInt32 31)).toInt32) &&& 255))))] := hD
  refine lv_aload_n hx hb dX6_append_33 rfl (lv_at hl 1 rfl) ?_
  refine lv_dup hx hb dX6_append_34 rfl ?_
  refine va_get (D := (dC, dI)) (ci := 6) (v := .int 3) (C := RX6) (T := TX6) (N := 2) hx hb hw zz_inX6 hown hK hP 0 rfl rfl 1 (by decide) (hw _ tw_12) (fun _ h9 => h9) rfl dX6_append_35 ?_
  refine lv_iconst (v := 1) hx hb dX6_append_38 (by decide) ?_
  refine lv_iadd hx hb dX6_append_39 ?_
  refine zz_seti 4 (by decide) ?_
  refine va_put (D := (dC, dI)) (ci := 6) (v := .int 4) (ty := .int) (C := RX6) (T := TX6) (N := 2) hx hb hw zz_inX6 tyX6 tyX6_ok nmX6 hown hK hP hD hS 0 rfl rfl 1 (by decide) (hw _ tw_12) (fun _ h9 => h9) rfl (by decide +kernel) rfl rfl (Nat.le_of_ble_eq_true rfl) dX6_append_40 (fun H locs hP hD hS => ?_)
  have hP : va_P (dC, dI) vwCl [(a 24, .inr (6, [.ref (a 25), .int 4])), (a 25, .inl (cI, 200, .inl (upd (upd (upd (upd f (Int32.toNatClampNeg 0) (((Int32.toUInt32 p0 >>> (Int32.toUInt32 24 &&& Int32.toUInt32 31)).toInt32) &&& 255)) (Int32.toNatClampNeg 1) (((Int32.toUInt32 p0 >>> (Int32.toUInt32 16 &&& Int32.toUInt32 31)).toInt32) &&& 255)) (Int32.toNatClampNeg 2) (((Int32.toUInt32 p0 >>> (Int32.toUInt32 8 &&& Int32.toUInt32 31)).toInt32) &&& 255)) (Int32.toNatClampNeg 3) (((Int32.toUInt32 p0 >>> (Int32.toUInt32 0 &&& Int32.toUInt32 31)).toInt32) &&& 255))))] H := hP
  have hD : va_D A [(a 24, .inr (6, [.ref (a 25), .int 4])), (a 25, .inl (cI, 200, .inl (upd (upd (upd (upd f (Int32.toNatClampNeg 0) (((Int32.toUInt32 p0 >>> (Int32.toUInt32 24 &&& Int32.toUInt32 31)).toInt32) &&& 255)) (Int32.toNatClampNeg 1) (((Int32.toUInt32 p0 >>> (Int32.toUInt32 16 &&& Int32.toUInt32 31)).toInt32) &&& 255)) (Int32.toNatClampNeg 2) (((Int32.toUInt32 p0 >>> (Int32.toUInt32 8 &&& Int32.toUInt32 31)).toInt32) &&& 255)) (Int32.toNatClampNeg 3) (((Int32.toUInt32 p0 >>> (Int32.toUInt32 0 &&& Int32.toUInt32 31)).toInt32) &&& 255))))] := hD
  refine lv_iinc (v := (-8)) (lv' := [(2, .int (-8)), (0, .ref (a 24)), (1, .int p0)]) hx hb dX6_append_43 hl (k := 0) rfl (by decide) (by decide) rfl (fun ls hl => ?_)
  refine lv_goto (tgt := 3) hx hb dX6_append_46 (by decide) ?_
  refine lv_iload_n hx hb dX6_append_3 rfl (lv_at hl 0 rfl) ?_
  refine lv_if_lt (tgt := 49) hx hb dX6_append_4 (by decide) (fun _ => ?_) (fun c_9 => absurd c_9 (by decide))
  have hP9 := hP.sub (ws' := [(a 24, .inr (6, [.ref (a 25), .int 4])), (a 25, .inl (cI, 200, .inl (upd (upd (upd (upd f (Int32.toNatClampNeg 0) (((Int32.toUInt32 p0 >>> (Int32.toUInt32 24 &&& Int32.toUInt32 31)).toInt32) &&& 255)) (Int32.toNatClampNeg 1) (((Int32.toUInt32 p0 >>> (Int32.toUInt32 16 &&& Int32.toUInt32 31)).toInt32) &&& 255)) (Int32.toNatClampNeg 2) (((Int32.toUInt32 p0 >>> (Int32.toUInt32 8 &&& Int32.toUInt32 31)).toInt32) &&& 255)) (Int32.toNatClampNeg 3) (((Int32.toUInt32 p0 >>> (Int32.toUInt32 0 &&& Int32.toUInt32 31)).toInt32) &&& 255))))]) [0, 1] rfl
  have hD9 := hD.sub (ws' := [(a 24, .inr (6, [.ref (a 25), .int 4])), (a 25, .inl (cI, 200, .inl (upd (upd (upd (upd f (Int32.toNatClampNeg 0) (((Int32.toUInt32 p0 >>> (Int32.toUInt32 24 &&& Int32.toUInt32 31)).toInt32) &&& 255)) (Int32.toNatClampNeg 1) (((Int32.toUInt32 p0 >>> (Int32.toUInt32 16 &&& Int32.toUInt32 31)).toInt32) &&& 255)) (Int32.toNatClampNeg 2) (((Int32.toUInt32 p0 >>> (Int32.toUInt32 8 &&& Int32.toUInt32 31)).toInt32) &&& 255)) (Int32.toNatClampNeg 3) (((Int32.toUInt32 p0 >>> (Int32.toUInt32 0 &&& Int32.toUInt32 31)).toInt32) &&& 255))))]) [0, 1] (by decide) rfl
  have hK9 := hK.sub (tys' := [(cI, .int)]) [0] rfl
  exact W.vret hx hb hr (fun t ht hW => ⟨⟨((upd (upd (upd (upd f (Int32.toNatClampNeg 0) (((Int32.toUInt32 p0 >>> (Int32.toUInt32 24 &&& Int32.toUInt32 31)).toInt32) &&& 255)) (Int32.toNatClampNeg 1) (((Int32.toUInt32 p0 >>> (Int32.toUInt32 16 &&& Int32.toUInt32 31)).toInt32) &&& 255)) (Int32.toNatClampNeg 2) (((Int32.toUInt32 p0 >>> (Int32.toUInt32 8 &&& Int32.toUInt32 31)).toInt32) &&& 255)) (Int32.toNatClampNeg 3) (((Int32.toUInt32 p0 >>> (Int32.toUInt32 0 &&& Int32.toUInt32 31)).toInt32) &&& 255))), rfl, trivial, by rw [ht]; exact hP9, va_K.moved hW.alike hK9, hD9⟩, hS.F ht⟩) hS.2.2 dX6_append_49

set_option maxHeartbeats 4000000 in
set_option maxRecDepth 100000 in
theorem k_append4 (l : Launch) (dC : Nat → ClassId) (dI : Nat → Nat → Nat) (a : Nat → Nat) (cI : ClassId) (f : Nat → Int32) (p0 : Int32) (sz : Nat) : Met l yX6_append (zz_w yX6_append cX6_append 3 none) ({ frames := 0, cells := 0, slots := 0, locals := 0 }) (va_Pc [.ref (a 24), .int p0] (zz_B (dC, dI) sz [(a 24, .inr (6, [.ref (a 25), .int 4])), (a 25, .inl (cI, 200, .inl f))] [(cI, .int)])) (va_Qv (fun (_ : Nat → Int32) => True) (fun (u0 : Nat → Int32) (t : State) => va_P (dC, dI) vwCl [(a 24, .inr (6, [.ref (a 25), .int 8])), (a 25, .inl (cI, 200, .inl u0))] t.heap ∧ va_K (dC, dI) vwCl [(cI, .int)] t ∧ va_D (va_A [(a 24, .inr (6, [.ref (a 25), .int 4])), (a 25, .inl (cI, 200, .inl f))] sz) [(a 24, .inr (6, [.ref (a 25), .int 8])), (a 25, .inl (cI, 200, .inl u0))]) (va_A [(a 24, .inr (6, [.ref (a 25), .int 4])), (a 25, .inl (cI, 200, .inl f))] sz)) 0 0 (va_A [(a 24, .inr (6, [.ref (a 25), .int 4])), (a 25, .inl (cI, 200, .inl f))] sz) := by
  refine Met.ofW (cc := cX6_append) (maxL := 3) (ret := none) (by decide) rfl ?_
  intro p e s m args below meth c s₁ B hml hv
  obtain ⟨rfl, hsz, hP, hK, hD0, hN⟩ := hv
  have hx := B.exec
  have hb := B.bytes
  have hr := B.returns
  have hts := atoms_spec (ws := zz_w yX6_append cX6_append 3 none) B.pre
  have hw : ∀ w ∈ zz_all, w.before _ s = true := fun w h => hts w (List.mem_cons_of_mem _ h)
  have hown : s.vm.findClass RX6 = some m.cls := findClass_of_methodNamed B.named
  have hlocks := B.notSynchronized
  subst hsz
  have hD := hD0.self (sz := s.heap.size)
  generalize hAe : va_A [(a 24, .inr (6, [.ref (a 25), .int 4])), (a 25, .inl (cI, 200, .inl f))] s.heap.size = A at hD ⊢
  have hA : ∀ q : Nat, s.heap.size ≤ q → A q := fun q h => by rw [← hAe]; exact Or.inr h
  have hS : va_S A s.heap s.heap [] := va_S.rf
  have hP : va_P (dC, dI) vwCl [(a 24, .inr (6, [.ref (a 25), .int 4])), (a 25, .inl (cI, 200, .inl f))] s.heap := hP
  have hl := lv_entry ([.ref (a 24), .int p0]) (n := 3) (Nat.le_of_ble_eq_true rfl)
  rw [lg_entry_eq]
  generalize (lg_sl ([.ref (a 24), .int p0]) ++ List.replicate (3 - (lg_sl ([.ref (a 24), .int p0])).length) Slot.unset).toArray = ls at hl ⊢
  have hl : lv_has ls 3 [(0, .ref (a 24)), (1, .int p0)] := hl
  refine lv_bipush (v := 24) hx hb dX6_append_0 (by decide) ?_
  refine lv_istore_n (lv' := [(2, .int 24), (0, .ref (a 24)), (1, .int p0)]) hx hb dX6_append_2 rfl hl (by decide) rfl (fun ls hl => ?_)
  refine lv_iload_n hx hb dX6_append_3 rfl (lv_at hl 0 rfl) ?_
  refine lv_if_lt (tgt := 49) hx hb dX6_append_4 (by decide) (fun c_9 => absurd c_9 (by decide)) (fun _ => ?_)
  refine lv_aload_n hx hb dX6_append_7 rfl (lv_at hl 1 rfl) ?_
  refine va_get (D := (dC, dI)) (ci := 6) (v := .int 4) (C := RX6) (T := TX6) (N := 2) hx hb hw zz_inX6 hown hK hP 0 rfl rfl 1 (by decide) (hw _ tw_12) (fun _ h9 => h9) rfl dX6_append_8 ?_
  refine lv_sipush (v := 200) hx hb dX6_append_11 (by decide) ?_
  refine lv_icmp_ge (tgt := 49) hx hb dX6_append_14 (by decide) (fun c_9 => absurd c_9 (by decide)) (fun _ => ?_)
  refine lv_aload_n hx hb dX6_append_17 rfl (lv_at hl 1 rfl) ?_
  refine va_get (D := (dC, dI)) (ci := 6) (v := .ref (a 25)) (C := RX6) (T := TX6) (N := 2) hx hb hw zz_inX6 hown hK hP 0 rfl rfl 0 (by decide) (hw _ tw_13) (fun _ h9 => h9) rfl dX6_append_18 ?_
  refine lv_aload_n hx hb dX6_append_21 rfl (lv_at hl 1 rfl) ?_
  refine va_get (D := (dC, dI)) (ci := 6) (v := .int 4) (C := RX6) (T := TX6) (N := 2) hx hb hw zz_inX6 hown hK hP 0 rfl rfl 1 (by decide) (hw _ tw_12) (fun _ h9 => h9) rfl dX6_append_22 ?_
  refine lv_iload_n hx hb dX6_append_25 rfl (lv_at hl 2 rfl) ?_
  refine lv_iload_n hx hb dX6_append_26 rfl (lv_at hl 0 rfl) ?_
  refine lv_iushr (v := (Int32.toUInt32 p0 >>> (Int32.toUInt32 24 &&& Int32.toUInt32 31)).toInt32) hx hb dX6_append_27 rfl ?_
  refine lv_sipush (v := 255) hx hb dX6_append_28 (by decide) ?_
  refine lv_iand hx hb dX6_append_31 ?_
  refine va_iast hx hb hK hP hD hS 1 0 rfl rfl (zz_vin (by decide)) dX6_append_32 (fun H locs hP hD hS => ?_)
  have hP : va_P (dC, dI) vwCl [(a 24, .inr (6, [.ref (a 25), .int 4])), (a 25, .inl (cI, 200, .inl (upd f (Int32.toNatClampNeg 4) (((Int32.toUInt32 p0 >>> (Int32.toUInt32 24 &&& Int32.toUInt32 31)).toInt32) &&& 255))))] H := hP
  have hD : va_D A [(a 24, .inr (6, [.ref (a 25), .int 4])), (a 25, .inl (cI, 200, .inl (upd f (Int32.toNatClampNeg 4) (((Int32.toUInt32 p0 >>> (Int32.toUInt32 24 &&& Int32.toUInt32 31)).toInt32) &&& 255))))] := hD
  refine lv_aload_n hx hb dX6_append_33 rfl (lv_at hl 1 rfl) ?_
  refine lv_dup hx hb dX6_append_34 rfl ?_
  refine va_get (D := (dC, dI)) (ci := 6) (v := .int 4) (C := RX6) (T := TX6) (N := 2) hx hb hw zz_inX6 hown hK hP 0 rfl rfl 1 (by decide) (hw _ tw_12) (fun _ h9 => h9) rfl dX6_append_35 ?_
  refine lv_iconst (v := 1) hx hb dX6_append_38 (by decide) ?_
  refine lv_iadd hx hb dX6_append_39 ?_
  refine zz_seti 5 (by decide) ?_
  refine va_put (D := (dC, dI)) (ci := 6) (v := .int 5) (ty := .int) (C := RX6) (T := TX6) (N := 2) hx hb hw zz_inX6 tyX6 tyX6_ok nmX6 hown hK hP hD hS 0 rfl rfl 1 (by decide) (hw _ tw_12) (fun _ h9 => h9) rfl (by decide +kernel) rfl rfl (Nat.le_of_ble_eq_true rfl) dX6_append_40 (fun H locs hP hD hS => ?_)
  have hP : va_P (dC, dI) vwCl [(a 24, .inr (6, [.ref (a 25), .int 5])), (a 25, .inl (cI, 200, .inl (upd f (Int32.toNatClampNeg 4) (((Int32.toUInt32 p0 >>> (Int32.toUInt32 24 &&& Int32.toUInt32 31)).toInt32) &&& 255))))] H := hP
  have hD : va_D A [(a 24, .inr (6, [.ref (a 25), .int 5])), (a 25, .inl (cI, 200, .inl (upd f (Int32.toNatClampNeg 4) (((Int32.toUInt32 p0 >>> (Int32.toUInt32 24 &&& Int32.toUInt32 31)).toInt32) &&& 255))))] := hD
  refine lv_iinc (v := 16) (lv' := [(2, .int 16), (0, .ref (a 24)), (1, .int p0)]) hx hb dX6_append_43 hl (k := 0) rfl (by decide) (by decide) rfl (fun ls hl => ?_)
  refine lv_goto (tgt := 3) hx hb dX6_append_46 (by decide) ?_
  refine lv_iload_n hx hb dX6_append_3 rfl (lv_at hl 0 rfl) ?_
  refine lv_if_lt (tgt := 49) hx hb dX6_append_4 (by decide) (fun c_9 => absurd c_9 (by decide)) (fun _ => ?_)
  refine lv_aload_n hx hb dX6_append_7 rfl (lv_at hl 1 rfl) ?_
  refine va_get (D := (dC, dI)) (ci := 6) (v := .int 5) (C := RX6) (T := TX6) (N := 2) hx hb hw zz_inX6 hown hK hP 0 rfl rfl 1 (by decide) (hw _ tw_12) (fun _ h9 => h9) rfl dX6_append_8 ?_
  refine lv_sipush (v := 200) hx hb dX6_append_11 (by decide) ?_
  refine lv_icmp_ge (tgt := 49) hx hb dX6_append_14 (by decide) (fun c_9 => absurd c_9 (by decide)) (fun _ => ?_)
  refine lv_aload_n hx hb dX6_append_17 rfl (lv_at hl 1 rfl) ?_
  refine va_get (D := (dC, dI)) (ci := 6) (v := .ref (a 25)) (C := RX6) (T := TX6) (N := 2) hx hb hw zz_inX6 hown hK hP 0 rfl rfl 0 (by decide) (hw _ tw_13) (fun _ h9 => h9) rfl dX6_append_18 ?_
  refine lv_aload_n hx hb dX6_append_21 rfl (lv_at hl 1 rfl) ?_
  refine va_get (D := (dC, dI)) (ci := 6) (v := .int 5) (C := RX6) (T := TX6) (N := 2) hx hb hw zz_inX6 hown hK hP 0 rfl rfl 1 (by decide) (hw _ tw_12) (fun _ h9 => h9) rfl dX6_append_22 ?_
  refine lv_iload_n hx hb dX6_append_25 rfl (lv_at hl 2 rfl) ?_
  refine lv_iload_n hx hb dX6_append_26 rfl (lv_at hl 0 rfl) ?_
  refine lv_iushr (v := (Int32.toUInt32 p0 >>> (Int32.toUInt32 16 &&& Int32.toUInt32 31)).toInt32) hx hb dX6_append_27 rfl ?_
  refine lv_sipush (v := 255) hx hb dX6_append_28 (by decide) ?_
  refine lv_iand hx hb dX6_append_31 ?_
  refine va_iast hx hb hK hP hD hS 1 0 rfl rfl (zz_vin (by decide)) dX6_append_32 (fun H locs hP hD hS => ?_)
  have hP : va_P (dC, dI) vwCl [(a 24, .inr (6, [.ref (a 25), .int 5])), (a 25, .inl (cI, 200, .inl (upd (upd f (Int32.toNatClampNeg 4) (((Int32.toUInt32 p0 >>> (Int32.toUInt32 24 &&& Int32.toUInt32 31)).toInt32) &&& 255)) (Int32.toNatClampNeg 5) (((Int32.toUInt32 p0 >>> (Int32.toUInt32 16 &&& Int32.toUInt32 31)).toInt32) &&& 255))))] H := hP
  have hD : va_D A [(a 24, .inr (6, [.ref (a 25), .int 5])), (a 25, .inl (cI, 200, .inl (upd (upd f (Int32.toNatClampNeg 4) (((Int32.toUInt32 p0 >>> (Int32.toUInt32 24 &&& Int32.toUInt32 31)).toInt32) &&& 255)) (Int32.toNatClampNeg 5) (((Int32.toUInt32 p0 >>> (Int32.toUInt32 16 &&& Int32.toUInt32 31)).toInt32) &&& 255))))] := hD
  refine lv_aload_n hx hb dX6_append_33 rfl (lv_at hl 1 rfl) ?_
  refine lv_dup hx hb dX6_append_34 rfl ?_
  refine va_get (D := (dC, dI)) (ci := 6) (v := .int 5) (C := RX6) (T := TX6) (N := 2) hx hb hw zz_inX6 hown hK hP 0 rfl rfl 1 (by decide) (hw _ tw_12) (fun _ h9 => h9) rfl dX6_append_35 ?_
  refine lv_iconst (v := 1) hx hb dX6_append_38 (by decide) ?_
  refine lv_iadd hx hb dX6_append_39 ?_
  refine zz_seti 6 (by decide) ?_
  refine va_put (D := (dC, dI)) (ci := 6) (v := .int 6) (ty := .int) (C := RX6) (T := TX6) (N := 2) hx hb hw zz_inX6 tyX6 tyX6_ok nmX6 hown hK hP hD hS 0 rfl rfl 1 (by decide) (hw _ tw_12) (fun _ h9 => h9) rfl (by decide +kernel) rfl rfl (Nat.le_of_ble_eq_true rfl) dX6_append_40 (fun H locs hP hD hS => ?_)
  have hP : va_P (dC, dI) vwCl [(a 24, .inr (6, [.ref (a 25), .int 6])), (a 25, .inl (cI, 200, .inl (upd (upd f (Int32.toNatClampNeg 4) (((Int32.toUInt32 p0 >>> (Int32.toUInt32 24 &&& Int32.toUInt32 31)).toInt32) &&& 255)) (Int32.toNatClampNeg 5) (((Int32.toUInt32 p0 >>> (Int32.toUInt32 16 &&& Int32.toUInt32 31)).toInt32) &&& 255))))] H := hP
  have hD : va_D A [(a 24, .inr (6, [.ref (a 25), .int 6])), (a 25, .inl (cI, 200, .inl (upd (upd f (Int32.toNatClampNeg 4) (((Int32.toUInt32 p0 >>> (Int32.toUInt32 24 &&& Int32.toUInt32 31)).toInt32) &&& 255)) (Int32.toNatClampNeg 5) (((Int32.toUInt32 p0 >>> (Int32.toUInt32 16 &&& Int32.toUInt32 31)).toInt32) &&& 255))))] := hD
  refine lv_iinc (v := 8) (lv' := [(2, .int 8), (0, .ref (a 24)), (1, .int p0)]) hx hb dX6_append_43 hl (k := 0) rfl (by decide) (by decide) rfl (fun ls hl => ?_)
  refine lv_goto (tgt := 3) hx hb dX6_append_46 (by decide) ?_
  refine lv_iload_n hx hb dX6_append_3 rfl (lv_at hl 0 rfl) ?_
  refine lv_if_lt (tgt := 49) hx hb dX6_append_4 (by decide) (fun c_9 => absurd c_9 (by decide)) (fun _ => ?_)
  refine lv_aload_n hx hb dX6_append_7 rfl (lv_at hl 1 rfl) ?_
  refine va_get (D := (dC, dI)) (ci := 6) (v := .int 6) (C := RX6) (T := TX6) (N := 2) hx hb hw zz_inX6 hown hK hP 0 rfl rfl 1 (by decide) (hw _ tw_12) (fun _ h9 => h9) rfl dX6_append_8 ?_
  refine lv_sipush (v := 200) hx hb dX6_append_11 (by decide) ?_
  refine lv_icmp_ge (tgt := 49) hx hb dX6_append_14 (by decide) (fun c_9 => absurd c_9 (by decide)) (fun _ => ?_)
  refine lv_aload_n hx hb dX6_append_17 rfl (lv_at hl 1 rfl) ?_
  refine va_get (D := (dC, dI)) (ci := 6) (v := .ref (a 25)) (C := RX6) (T := TX6) (N := 2) hx hb hw zz_inX6 hown hK hP 0 rfl rfl 0 (by decide) (hw _ tw_13) (fun _ h9 => h9) rfl dX6_append_18 ?_
  refine lv_aload_n hx hb dX6_append_21 rfl (lv_at hl 1 rfl) ?_
  refine va_get (D := (dC, dI)) (ci := 6) (v := .int 6) (C := RX6) (T := TX6) (N := 2) hx hb hw zz_inX6 hown hK hP 0 rfl rfl 1 (by decide) (hw _ tw_12) (fun _ h9 => h9) rfl dX6_append_22 ?_
  refine lv_iload_n hx hb dX6_append_25 rfl (lv_at hl 2 rfl) ?_
  refine lv_iload_n hx hb dX6_append_26 rfl (lv_at hl 0 rfl) ?_
  refine lv_iushr (v := (Int32.toUInt32 p0 >>> (Int32.toUInt32 8 &&& Int32.toUInt32 31)).toInt32) hx hb dX6_append_27 rfl ?_
  refine lv_sipush (v := 255) hx hb dX6_append_28 (by decide) ?_
  refine lv_iand hx hb dX6_append_31 ?_
  refine va_iast hx hb hK hP hD hS 1 0 rfl rfl (zz_vin (by decide)) dX6_append_32 (fun H locs hP hD hS => ?_)
  have hP : va_P (dC, dI) vwCl [(a 24, .inr (6, [.ref (a 25), .int 6])), (a 25, .inl (cI, 200, .inl (upd (upd (upd f (Int32.toNatClampNeg 4) (((Int32.toUInt32 p0 >>> (Int32.toUInt32 24 &&& Int32.toUInt32 31)).toInt32) &&& 255)) (Int32.toNatClampNeg 5) (((Int32.toUInt32 p0 >>> (Int32.toUInt32 16 &&& Int32.toUInt32 31)).toInt32) &&& 255)) (Int32.toNatClampNeg 6) (((Int32.toUInt32 p0 >>> (Int32.toUInt32 8 &&& Int32.toUInt32 31)).toInt32) &&& 255))))] H := hP
  have hD : va_D A [(a 24, .inr (6, [.ref (a 25), .int 6])), (a 25, .inl (cI, 200, .inl (upd (upd (upd f (Int32.toNatClampNeg 4) (((Int32.toUInt32 p0 >>> (Int32.toUInt32 24 &&& Int32.toUInt32 31)).toInt32) &&& 255)) (Int32.toNatClampNeg 5) (((Int32.toUInt32 p0 >>> (Int32.toUInt32 16 &&& Int32.toUInt32 31)).toInt32) &&& 255)) (Int32.toNatClampNeg 6) (((Int32.toUInt32 p0 >>> (Int32.toUInt32 8 &&& Int32.toUInt32 31)).toInt32) &&& 255))))] := hD
  refine lv_aload_n hx hb dX6_append_33 rfl (lv_at hl 1 rfl) ?_
  refine lv_dup hx hb dX6_append_34 rfl ?_
  refine va_get (D := (dC, dI)) (ci := 6) (v := .int 6) (C := RX6) (T := TX6) (N := 2) hx hb hw zz_inX6 hown hK hP 0 rfl rfl 1 (by decide) (hw _ tw_12) (fun _ h9 => h9) rfl dX6_append_35 ?_
  refine lv_iconst (v := 1) hx hb dX6_append_38 (by decide) ?_
  refine lv_iadd hx hb dX6_append_39 ?_
  refine zz_seti 7 (by decide) ?_
  refine va_put (D := (dC, dI)) (ci := 6) (v := .int 7) (ty := .int) (C := RX6) (T := TX6) (N := 2) hx hb hw zz_inX6 tyX6 tyX6_ok nmX6 hown hK hP hD hS 0 rfl rfl 1 (by decide) (hw _ tw_12) (fun _ h9 => h9) rfl (by decide +kernel) rfl rfl (Nat.le_of_ble_eq_true rfl) dX6_append_40 (fun H locs hP hD hS => ?_)
  have hP : va_P (dC, dI) vwCl [(a 24, .inr (6, [.ref (a 25), .int 7])), (a 25, .inl (cI, 200, .inl (upd (upd (upd f (Int32.toNatClampNeg 4) (((Int32.toUInt32 p0 >>> (Int32.toUInt32 24 &&& Int32.toUInt32 31)).toInt32) &&& 255)) (Int32.toNatClampNeg 5) (((Int32.toUInt32 p0 >>> (Int32.toUInt32 16 &&& Int32.toUInt32 31)).toInt32) &&& 255)) (Int32.toNatClampNeg 6) (((Int32.toUInt32 p0 >>> (Int32.toUInt32 8 &&& Int32.toUInt32 31)).toInt32) &&& 255))))] H := hP
  have hD : va_D A [(a 24, .inr (6, [.ref (a 25), .int 7])), (a 25, .inl (cI, 200, .inl (upd (upd (upd f (Int32.toNatClampNeg 4) (((Int32.toUInt32 p0 >>> (Int32.toUInt32 24 &&& Int32.toUInt32 31)).toInt32) &&& 255)) (Int32.toNatClampNeg 5) (((Int32.toUInt32 p0 >>> (Int32.toUInt32 16 &&& Int32.toUInt32 31)).toInt32) &&& 255)) (Int32.toNatClampNeg 6) (((Int32.toUInt32 p0 >>> (Int32.toUInt32 8 &&& Int32.toUInt32 31)).toInt32) &&& 255))))] := hD
  refine lv_iinc (v := 0) (lv' := [(2, .int 0), (0, .ref (a 24)), (1, .int p0)]) hx hb dX6_append_43 hl (k := 0) rfl (by decide) (by decide) rfl (fun ls hl => ?_)
  refine lv_goto (tgt := 3) hx hb dX6_append_46 (by decide) ?_
  refine lv_iload_n hx hb dX6_append_3 rfl (lv_at hl 0 rfl) ?_
  refine lv_if_lt (tgt := 49) hx hb dX6_append_4 (by decide) (fun c_9 => absurd c_9 (by decide)) (fun _ => ?_)
  refine lv_aload_n hx hb dX6_append_7 rfl (lv_at hl 1 rfl) ?_
  refine va_get (D := (dC, dI)) (ci := 6) (v := .int 7) (C := RX6) (T := TX6) (N := 2) hx hb hw zz_inX6 hown hK hP 0 rfl rfl 1 (by decide) (hw _ tw_12) (fun _ h9 => h9) rfl dX6_append_8 ?_
  refine lv_sipush (v := 200) hx hb dX6_append_11 (by decide) ?_
  refine lv_icmp_ge (tgt := 49) hx hb dX6_append_14 (by decide) (fun c_9 => absurd c_9 (by decide)) (fun _ => ?_)
  refine lv_aload_n hx hb dX6_append_17 rfl (lv_at hl 1 rfl) ?_
  refine va_get (D := (dC, dI)) (ci := 6) (v := .ref (a 25)) (C := RX6) (T := TX6) (N := 2) hx hb hw zz_inX6 hown hK hP 0 rfl rfl 0 (by decide) (hw _ tw_13) (fun _ h9 => h9) rfl dX6_append_18 ?_
  refine lv_aload_n hx hb dX6_append_21 rfl (lv_at hl 1 rfl) ?_
  refine va_get (D := (dC, dI)) (ci := 6) (v := .int 7) (C := RX6) (T := TX6) (N := 2) hx hb hw zz_inX6 hown hK hP 0 rfl rfl 1 (by decide) (hw _ tw_12) (fun _ h9 => h9) rfl dX6_append_22 ?_
  refine lv_iload_n hx hb dX6_append_25 rfl (lv_at hl 2 rfl) ?_
  refine lv_iload_n hx hb dX6_append_26 rfl (lv_at hl 0 rfl) ?_
  refine lv_iushr (v := (Int32.toUInt32 p0 >>> (Int32.toUInt32 0 &&& Int32.toUInt32 31)).toInt32) hx hb dX6_append_27 rfl ?_
  refine lv_sipush (v := 255) hx hb dX6_append_28 (by decide) ?_
  refine lv_iand hx hb dX6_append_31 ?_
  refine va_iast hx hb hK hP hD hS 1 0 rfl rfl (zz_vin (by decide)) dX6_append_32 (fun H locs hP hD hS => ?_)
  have hP : va_P (dC, dI) vwCl [(a 24, .inr (6, [.ref (a 25), .int 7])), (a 25, .inl (cI, 200, .inl (upd (upd (upd (upd f (Int32.toNatClampNeg 4) (((Int32.toUInt32 p0 >>> (Int32.toUInt32 24 &&& Int32.toUInt32 31)).toInt32) &&& 255)) (Int32.toNatClampNeg 5) (((Int32.toUInt32 p0 >>> (Int32.toUInt32 16 &&& Int32.toUInt32 31)).toInt32) &&& 255)) (Int32.toNatClampNeg 6) (((Int32.toUInt32 p0 >>> (Int32.toUInt32 8 &&& Int32.toUInt32 31)).toInt32) &&& 255)) (Int32.toNatClampNeg 7) (((Int32.toUInt32 p0 >>> (Int32.toUInt32 0 &&& Int32.toUInt32 31)).toInt32) &&& 255))))] H := hP
  have hD : va_D A [(a 24, .inr (6, [.ref (a 25), .int 7])), (a 25, .inl (cI, 200, .inl (upd (upd (upd (upd f (Int32.toNatClampNeg 4) (((Int32.toUInt32 p0 >>> (Int32.toUInt32 24 &&& Int32.toUInt32 31)).toInt32) &&& 255)) (Int32.toNatClampNeg 5) (((Int32.toUInt32 p0 >>> (Int32.toUInt32 16 &&& Int32.toUInt32 31)).toInt32) &&& 255)) (Int32.toNatClampNeg 6) (((Int32.toUInt32 p0 >>> (Int32.toUInt32 8 &&& Int32.toUInt32 31)).toInt32) &&& 255)) (Int32.toNatClampNeg 7) (((Int32.toUInt32 p0 >>> (Int32.toUInt32 0 &&& Int32.toUInt32 31)).toInt32) &&& 255))))] := hD
  refine lv_aload_n hx hb dX6_append_33 rfl (lv_at hl 1 rfl) ?_
  refine lv_dup hx hb dX6_append_34 rfl ?_
  refine va_get (D := (dC, dI)) (ci := 6) (v := .int 7) (C := RX6) (T := TX6) (N := 2) hx hb hw zz_inX6 hown hK hP 0 rfl rfl 1 (by decide) (hw _ tw_12) (fun _ h9 => h9) rfl dX6_append_35 ?_
  refine lv_iconst (v := 1) hx hb dX6_append_38 (by decide) ?_
  refine lv_iadd hx hb dX6_append_39 ?_
  refine zz_seti 8 (by decide) ?_
  refine va_put (D := (dC, dI)) (ci := 6) (v := .int 8) (ty := .int) (C := RX6) (T := TX6) (N := 2) hx hb hw zz_inX6 tyX6 tyX6_ok nmX6 hown hK hP hD hS 0 rfl rfl 1 (by decide) (hw _ tw_12) (fun _ h9 => h9) rfl (by decide +kernel) rfl rfl (Nat.le_of_ble_eq_true rfl) dX6_append_40 (fun H locs hP hD hS => ?_)
  have hP : va_P (dC, dI) vwCl [(a 24, .inr (6, [.ref (a 25), .int 8])), (a 25, .inl (cI, 200, .inl (upd (upd (upd (upd f (Int32.toNatClampNeg 4) (((Int32.toUInt32 p0 >>> (Int32.toUInt32 24 &&& Int32.toUInt32 31)).toInt32) &&& 255)) (Int32.toNatClampNeg 5) (((Int32.toUInt32 p0 >>> (Int32.toUInt32 16 &&& Int32.toUInt32 31)).toInt32) &&& 255)) (Int32.toNatClampNeg 6) (((Int32.toUInt32 p0 >>> (Int32.toUInt32 8 &&& Int32.toUInt32 31)).toInt32) &&& 255)) (Int32.toNatClampNeg 7) (((Int32.toUInt32 p0 >>> (Int32.toUInt32 0 &&& Int32.toUInt32 31)).toInt32) &&& 255))))] H := hP
  have hD : va_D A [(a 24, .inr (6, [.ref (a 25), .int 8])), (a 25, .inl (cI, 200, .inl (upd (upd (upd (upd f (Int32.toNatClampNeg 4) (((Int32.toUInt32 p0 >>> (Int32.toUInt32 24 &&& Int32.toUInt32 31)).toInt32) &&& 255)) (Int32.toNatClampNeg 5) (((Int32.toUInt32 p0 >>> (Int32.toUInt32 16 &&& Int32.toUInt32 31)).toInt32) &&& 255)) (Int32.toNatClampNeg 6) (((Int32.toUInt32 p0 >>> (Int32.toUInt32 8 &&& Int32.toUInt32 31)).toInt32) &&& 255)) (Int32.toNatClampNeg 7) (((Int32.toUInt32 p0 >>> (Int32.toUInt32 0 &&& Int32.toUInt32 31)).toInt32) &&& 255))))] := hD
  refine lv_iinc (v := (-8)) (lv' := [(2, .int (-8)), (0, .ref (a 24)), (1, .int p0)]) hx hb dX6_append_43 hl (k := 0) rfl (by decide) (by decide) rfl (fun ls hl => ?_)
  refine lv_goto (tgt := 3) hx hb dX6_append_46 (by decide) ?_
  refine lv_iload_n hx hb dX6_append_3 rfl (lv_at hl 0 rfl) ?_
  refine lv_if_lt (tgt := 49) hx hb dX6_append_4 (by decide) (fun _ => ?_) (fun c_9 => absurd c_9 (by decide))
  have hP9 := hP.sub (ws' := [(a 24, .inr (6, [.ref (a 25), .int 8])), (a 25, .inl (cI, 200, .inl (upd (upd (upd (upd f (Int32.toNatClampNeg 4) (((Int32.toUInt32 p0 >>> (Int32.toUInt32 24 &&& Int32.toUInt32 31)).toInt32) &&& 255)) (Int32.toNatClampNeg 5) (((Int32.toUInt32 p0 >>> (Int32.toUInt32 16 &&& Int32.toUInt32 31)).toInt32) &&& 255)) (Int32.toNatClampNeg 6) (((Int32.toUInt32 p0 >>> (Int32.toUInt32 8 &&& Int32.toUInt32 31)).toInt32) &&& 255)) (Int32.toNatClampNeg 7) (((Int32.toUInt32 p0 >>> (Int32.toUInt32 0 &&& Int32.toUInt32 31)).toInt32) &&& 255))))]) [0, 1] rfl
  have hD9 := hD.sub (ws' := [(a 24, .inr (6, [.ref (a 25), .int 8])), (a 25, .inl (cI, 200, .inl (upd (upd (upd (upd f (Int32.toNatClampNeg 4) (((Int32.toUInt32 p0 >>> (Int32.toUInt32 24 &&& Int32.toUInt32 31)).toInt32) &&& 255)) (Int32.toNatClampNeg 5) (((Int32.toUInt32 p0 >>> (Int32.toUInt32 16 &&& Int32.toUInt32 31)).toInt32) &&& 255)) (Int32.toNatClampNeg 6) (((Int32.toUInt32 p0 >>> (Int32.toUInt32 8 &&& Int32.toUInt32 31)).toInt32) &&& 255)) (Int32.toNatClampNeg 7) (((Int32.toUInt32 p0 >>> (Int32.toUInt32 0 &&& Int32.toUInt32 31)).toInt32) &&& 255))))]) [0, 1] (by decide) rfl
  have hK9 := hK.sub (tys' := [(cI, .int)]) [0] rfl
  exact W.vret hx hb hr (fun t ht hW => ⟨⟨((upd (upd (upd (upd f (Int32.toNatClampNeg 4) (((Int32.toUInt32 p0 >>> (Int32.toUInt32 24 &&& Int32.toUInt32 31)).toInt32) &&& 255)) (Int32.toNatClampNeg 5) (((Int32.toUInt32 p0 >>> (Int32.toUInt32 16 &&& Int32.toUInt32 31)).toInt32) &&& 255)) (Int32.toNatClampNeg 6) (((Int32.toUInt32 p0 >>> (Int32.toUInt32 8 &&& Int32.toUInt32 31)).toInt32) &&& 255)) (Int32.toNatClampNeg 7) (((Int32.toUInt32 p0 >>> (Int32.toUInt32 0 &&& Int32.toUInt32 31)).toInt32) &&& 255))), rfl, trivial, by rw [ht]; exact hP9, va_K.moved hW.alike hK9, hD9⟩, hS.F ht⟩) hS.2.2 dX6_append_49

set_option maxHeartbeats 4000000 in
set_option maxRecDepth 100000 in
theorem k_append8 (l : Launch) (dC : Nat → ClassId) (dI : Nat → Nat → Nat) (a : Nat → Nat) (cI : ClassId) (f : Nat → Int32) (p0 : Int32) (sz : Nat) : Met l yX6_append (zz_w yX6_append cX6_append 3 none) ({ frames := 0, cells := 0, slots := 0, locals := 0 }) (va_Pc [.ref (a 24), .int p0] (zz_B (dC, dI) sz [(a 24, .inr (6, [.ref (a 25), .int 8])), (a 25, .inl (cI, 200, .inl f))] [(cI, .int)])) (va_Qv (fun (_ : Nat → Int32) => True) (fun (u0 : Nat → Int32) (t : State) => va_P (dC, dI) vwCl [(a 24, .inr (6, [.ref (a 25), .int 12])), (a 25, .inl (cI, 200, .inl u0))] t.heap ∧ va_K (dC, dI) vwCl [(cI, .int)] t ∧ va_D (va_A [(a 24, .inr (6, [.ref (a 25), .int 8])), (a 25, .inl (cI, 200, .inl f))] sz) [(a 24, .inr (6, [.ref (a 25), .int 12])), (a 25, .inl (cI, 200, .inl u0))]) (va_A [(a 24, .inr (6, [.ref (a 25), .int 8])), (a 25, .inl (cI, 200, .inl f))] sz)) 0 0 (va_A [(a 24, .inr (6, [.ref (a 25), .int 8])), (a 25, .inl (cI, 200, .inl f))] sz) := by
  refine Met.ofW (cc := cX6_append) (maxL := 3) (ret := none) (by decide) rfl ?_
  intro p e s m args below meth c s₁ B hml hv
  obtain ⟨rfl, hsz, hP, hK, hD0, hN⟩ := hv
  have hx := B.exec
  have hb := B.bytes
  have hr := B.returns
  have hts := atoms_spec (ws := zz_w yX6_append cX6_append 3 none) B.pre
  have hw : ∀ w ∈ zz_all, w.before _ s = true := fun w h => hts w (List.mem_cons_of_mem _ h)
  have hown : s.vm.findClass RX6 = some m.cls := findClass_of_methodNamed B.named
  have hlocks := B.notSynchronized
  subst hsz
  have hD := hD0.self (sz := s.heap.size)
  generalize hAe : va_A [(a 24, .inr (6, [.ref (a 25), .int 8])), (a 25, .inl (cI, 200, .inl f))] s.heap.size = A at hD ⊢
  have hA : ∀ q : Nat, s.heap.size ≤ q → A q := fun q h => by rw [← hAe]; exact Or.inr h
  have hS : va_S A s.heap s.heap [] := va_S.rf
  have hP : va_P (dC, dI) vwCl [(a 24, .inr (6, [.ref (a 25), .int 8])), (a 25, .inl (cI, 200, .inl f))] s.heap := hP
  have hl := lv_entry ([.ref (a 24), .int p0]) (n := 3) (Nat.le_of_ble_eq_true rfl)
  rw [lg_entry_eq]
  generalize (lg_sl ([.ref (a 24), .int p0]) ++ List.replicate (3 - (lg_sl ([.ref (a 24), .int p0])).length) Slot.unset).toArray = ls at hl ⊢
  have hl : lv_has ls 3 [(0, .ref (a 24)), (1, .int p0)] := hl
  refine lv_bipush (v := 24) hx hb dX6_append_0 (by decide) ?_
  refine lv_istore_n (lv' := [(2, .int 24), (0, .ref (a 24)), (1, .int p0)]) hx hb dX6_append_2 rfl hl (by decide) rfl (fun ls hl => ?_)
  refine lv_iload_n hx hb dX6_append_3 rfl (lv_at hl 0 rfl) ?_
  refine lv_if_lt (tgt := 49) hx hb dX6_append_4 (by decide) (fun c_9 => absurd c_9 (by decide)) (fun _ => ?_)
  refine lv_aload_n hx hb dX6_append_7 rfl (lv_at hl 1 rfl) ?_
  refine va_get (D := (dC, dI)) (ci := 6) (v := .int 8) (C := RX6) (T := TX6) (N := 2) hx hb hw zz_inX6 hown hK hP 0 rfl rfl 1 (by decide) (hw _ tw_12) (fun _ h9 => h9) rfl dX6_append_8 ?_
  refine lv_sipush (v := 200) hx hb dX6_append_11 (by decide) ?_
  refine lv_icmp_ge (tgt := 49) hx hb dX6_append_14 (by decide) (fun c_9 => absurd c_9 (by decide)) (fun _ => ?_)
  refine lv_aload_n hx hb dX6_append_17 rfl (lv_at hl 1 rfl) ?_
  refine va_get (D := (dC, dI)) (ci := 6) (v := .ref (a 25)) (C := RX6) (T := TX6) (N := 2) hx hb hw zz_inX6 hown hK hP 0 rfl rfl 0 (by decide) (hw _ tw_13) (fun _ h9 => h9) rfl dX6_append_18 ?_
  refine lv_aload_n hx hb dX6_append_21 rfl (lv_at hl 1 rfl) ?_
  refine va_get (D := (dC, dI)) (ci := 6) (v := .int 8) (C := RX6) (T := TX6) (N := 2) hx hb hw zz_inX6 hown hK hP 0 rfl rfl 1 (by decide) (hw _ tw_12) (fun _ h9 => h9) rfl dX6_append_22 ?_
  refine lv_iload_n hx hb dX6_append_25 rfl (lv_at hl 2 rfl) ?_
  refine lv_iload_n hx hb dX6_append_26 rfl (lv_at hl 0 rfl) ?_
  refine lv_iushr (v := (Int32.toUInt32 p0 >>> (Int32.toUInt32 24 &&& Int32.toUInt32 31)).toInt32) hx hb dX6_append_27 rfl ?_
  refine lv_sipush (v := 255) hx hb dX6_append_28 (by decide) ?_
  refine lv_iand hx hb dX6_append_31 ?_
  refine va_iast hx hb hK hP hD hS 1 0 rfl rfl (zz_vin (by decide)) dX6_append_32 (fun H locs hP hD hS => ?_)
  have hP : va_P (dC, dI) vwCl [(a 24, .inr (6, [.ref (a 25), .int 8])), (a 25, .inl (cI, 200, .inl (upd f (Int32.toNatClampNeg 8) (((Int32.toUInt32 p0 >>> (Int32.toUInt32 24 &&& Int32.toUInt32 31)).toInt32) &&& 255))))] H := hP
  have hD : va_D A [(a 24, .inr (6, [.ref (a 25), .int 8])), (a 25, .inl (cI, 200, .inl (upd f (Int32.toNatClampNeg 8) (((Int32.toUInt32 p0 >>> (Int32.toUInt32 24 &&& Int32.toUInt32 31)).toInt32) &&& 255))))] := hD
  refine lv_aload_n hx hb dX6_append_33 rfl (lv_at hl 1 rfl) ?_
  refine lv_dup hx hb dX6_append_34 rfl ?_
  refine va_get (D := (dC, dI)) (ci := 6) (v := .int 8) (C := RX6) (T := TX6) (N := 2) hx hb hw zz_inX6 hown hK hP 0 rfl rfl 1 (by decide) (hw _ tw_12) (fun _ h9 => h9) rfl dX6_append_35 ?_
  refine lv_iconst (v := 1) hx hb dX6_append_38 (by decide) ?_
  refine lv_iadd hx hb dX6_append_39 ?_
  refine zz_seti 9 (by decide) ?_
  refine va_put (D := (dC, dI)) (ci := 6) (v := .int 9) (ty := .int) (C := RX6) (T := TX6) (N := 2) hx hb hw zz_inX6 tyX6 tyX6_ok nmX6 hown hK hP hD hS 0 rfl rfl 1 (by decide) (hw _ tw_12) (fun _ h9 => h9) rfl (by decide +kernel) rfl rfl (Nat.le_of_ble_eq_true rfl) dX6_append_40 (fun H locs hP hD hS => ?_)
  have hP : va_P (dC, dI) vwCl [(a 24, .inr (6, [.ref (a 25), .int 9])), (a 25, .inl (cI, 200, .inl (upd f (Int32.toNatClampNeg 8) (((Int32.toUInt32 p0 >>> (Int32.toUInt32 24 &&& Int32.toUInt32 31)).toInt32) &&& 255))))] H := hP
  have hD : va_D A [(a 24, .inr (6, [.ref (a 25), .int 9])), (a 25, .inl (cI, 200, .inl (upd f (Int32.toNatClampNeg 8) (((Int32.toUInt32 p0 >>> (Int32.toUInt32 24 &&& Int32.toUInt32 31)).toInt32) &&& 255))))] := hD
  refine lv_iinc (v := 16) (lv' := [(2, .int 16), (0, .ref (a 24)), (1, .int p0)]) hx hb dX6_append_43 hl (k := 0) rfl (by decide) (by decide) rfl (fun ls hl => ?_)
  refine lv_goto (tgt := 3) hx hb dX6_append_46 (by decide) ?_
  refine lv_iload_n hx hb dX6_append_3 rfl (lv_at hl 0 rfl) ?_
  refine lv_if_lt (tgt := 49) hx hb dX6_append_4 (by decide) (fun c_9 => absurd c_9 (by decide)) (fun _ => ?_)
  refine lv_aload_n hx hb dX6_append_7 rfl (lv_at hl 1 rfl) ?_
  refine va_get (D := (dC, dI)) (ci := 6) (v := .int 9) (C := RX6) (T := TX6) (N := 2) hx hb hw zz_inX6 hown hK hP 0 rfl rfl 1 (by decide) (hw _ tw_12) (fun _ h9 => h9) rfl dX6_append_8 ?_
  refine lv_sipush (v := 200) hx hb dX6_append_11 (by decide) ?_
  refine lv_icmp_ge (tgt := 49) hx hb dX6_append_14 (by decide) (fun c_9 => absurd c_9 (by decide)) (fun _ => ?_)
  refine lv_aload_n hx hb dX6_append_17 rfl (lv_at hl 1 rfl) ?_
  refine va_get (D := (dC, dI)) (ci := 6) (v := .ref (a 25)) (C := RX6) (T := TX6) (N := 2) hx hb hw zz_inX6 hown hK hP 0 rfl rfl 0 (by decide) (hw _ tw_13) (fun _ h9 => h9) rfl dX6_append_18 ?_
  refine lv_aload_n hx hb dX6_append_21 rfl (lv_at hl 1 rfl) ?_
  refine va_get (D := (dC, dI)) (ci := 6) (v := .int 9) (C := RX6) (T := TX6) (N := 2) hx hb hw zz_inX6 hown hK hP 0 rfl rfl 1 (by decide) (hw _ tw_12) (fun _ h9 => h9) rfl dX6_append_22 ?_
  refine lv_iload_n hx hb dX6_append_25 rfl (lv_at hl 2 rfl) ?_
  refine lv_iload_n hx hb dX6_append_26 rfl (lv_at hl 0 rfl) ?_
  refine lv_iushr (v := (Int32.toUInt32 p0 >>> (Int32.toUInt32 16 &&& Int32.toUInt32 31)).toInt32) hx hb dX6_append_27 rfl ?_
  refine lv_sipush (v := 255) hx hb dX6_append_28 (by decide) ?_
  refine lv_iand hx hb dX6_append_31 ?_
  refine va_iast hx hb hK hP hD hS 1 0 rfl rfl (zz_vin (by decide)) dX6_append_32 (fun H locs hP hD hS => ?_)
  have hP : va_P (dC, dI) vwCl [(a 24, .inr (6, [.ref (a 25), .int 9])), (a 25, .inl (cI, 200, .inl (upd (upd f (Int32.toNatClampNeg 8) (((Int32.toUInt32 p0 >>> (Int32.toUInt32 24 &&& Int32.toUInt32 31)).toInt32) &&& 255)) (Int32.toNatClampNeg 9) (((Int32.toUInt32 p0 >>> (Int32.toUInt32 16 &&& Int32.toUInt32 31)).toInt32) &&& 255))))] H := hP
  have hD : va_D A [(a 24, .inr (6, [.ref (a 25), .int 9])), (a 25, .inl (cI, 200, .inl (upd (upd f (Int32.toNatClampNeg 8) (((Int32.toUInt32 p0 >>> (Int32.toUInt32 24 &&& Int32.toUInt32 31)).toInt32) &&& 255)) (Int32.toNatClampNeg 9) (((Int32.toUInt32 p0 >>> (Int32.toUInt32 16 &&& Int32.toUInt32 31)).toInt32) &&& 255))))] := hD
  refine lv_aload_n hx hb dX6_append_33 rfl (lv_at hl 1 rfl) ?_
  refine lv_dup hx hb dX6_append_34 rfl ?_
  refine va_get (D := (dC, dI)) (ci := 6) (v := .int 9) (C := RX6) (T := TX6) (N := 2) hx hb hw zz_inX6 hown hK hP 0 rfl rfl 1 (by decide) (hw _ tw_12) (fun _ h9 => h9) rfl dX6_append_35 ?_
  refine lv_iconst (v := 1) hx hb dX6_append_38 (by decide) ?_
  refine lv_iadd hx hb dX6_append_39 ?_
  refine zz_seti 10 (by decide) ?_
  refine va_put (D := (dC, dI)) (ci := 6) (v := .int 10) (ty := .int) (C := RX6) (T := TX6) (N := 2) hx hb hw zz_inX6 tyX6 tyX6_ok nmX6 hown hK hP hD hS 0 rfl rfl 1 (by decide) (hw _ tw_12) (fun _ h9 => h9) rfl (by decide +kernel) rfl rfl (Nat.le_of_ble_eq_true rfl) dX6_append_40 (fun H locs hP hD hS => ?_)
  have hP : va_P (dC, dI) vwCl [(a 24, .inr (6, [.ref (a 25), .int 10])), (a 25, .inl (cI, 200, .inl (upd (upd f (Int32.toNatClampNeg 8) (((Int32.toUInt32 p0 >>> (Int32.toUInt32 24 &&& Int32.toUInt32 31)).toInt32) &&& 255)) (Int32.toNatClampNeg 9) (((Int32.toUInt32 p0 >>> (Int32.toUInt32 16 &&& Int32.toUInt32 31)).toInt32) &&& 255))))] H := hP
  have hD : va_D A [(a 24, .inr (6, [.ref (a 25), .int 10])), (a 25, .inl (cI, 200, .inl (upd (upd f (Int32.toNatClampNeg 8) (((Int32.toUInt32 p0 >>> (Int32.toUInt32 24 &&& Int32.toUInt32 31)).toInt32) &&& 255)) (Int32.toNatClampNeg 9) (((Int32.toUInt32 p0 >>> (Int32.toUInt32 16 &&& Int32.toUInt32 31)).toInt32) &&& 255))))] := hD
  refine lv_iinc (v := 8) (lv' := [(2, .int 8), (0, .ref (a 24)), (1, .int p0)]) hx hb dX6_append_43 hl (k := 0) rfl (by decide) (by decide) rfl (fun ls hl => ?_)
  refine lv_goto (tgt := 3) hx hb dX6_append_46 (by decide) ?_
  refine lv_iload_n hx hb dX6_append_3 rfl (lv_at hl 0 rfl) ?_
  refine lv_if_lt (tgt := 49) hx hb dX6_append_4 (by decide) (fun c_9 => absurd c_9 (by decide)) (fun _ => ?_)
  refine lv_aload_n hx hb dX6_append_7 rfl (lv_at hl 1 rfl) ?_
  refine va_get (D := (dC, dI)) (ci := 6) (v := .int 10) (C := RX6) (T := TX6) (N := 2) hx hb hw zz_inX6 hown hK hP 0 rfl rfl 1 (by decide) (hw _ tw_12) (fun _ h9 => h9) rfl dX6_append_8 ?_
  refine lv_sipush (v := 200) hx hb dX6_append_11 (by decide) ?_
  refine lv_icmp_ge (tgt := 49) hx hb dX6_append_14 (by decide) (fun c_9 => absurd c_9 (by decide)) (fun _ => ?_)
  refine lv_aload_n hx hb dX6_append_17 rfl (lv_at hl 1 rfl) ?_
  refine va_get (D := (dC, dI)) (ci := 6) (v := .ref (a 25)) (C := RX6) (T := TX6) (N := 2) hx hb hw zz_inX6 hown hK hP 0 rfl rfl 0 (by decide) (hw _ tw_13) (fun _ h9 => h9) rfl dX6_append_18 ?_
  refine lv_aload_n hx hb dX6_append_21 rfl (lv_at hl 1 rfl) ?_
  refine va_get (D := (dC, dI)) (ci := 6) (v := .int 10) (C := RX6) (T := TX6) (N := 2) hx hb hw zz_inX6 hown hK hP 0 rfl rfl 1 (by decide) (hw _ tw_12) (fun _ h9 => h9) rfl dX6_append_22 ?_
  refine lv_iload_n hx hb dX6_append_25 rfl (lv_at hl 2 rfl) ?_
  refine lv_iload_n hx hb dX6_append_26 rfl (lv_at hl 0 rfl) ?_
  refine lv_iushr (v := (Int32.toUInt32 p0 >>> (Int32.toUInt32 8 &&& Int32.toUInt32 31)).toInt32) hx hb dX6_append_27 rfl ?_
  refine lv_sipush (v := 255) hx hb dX6_append_28 (by decide) ?_
  refine lv_iand hx hb dX6_append_31 ?_
  refine va_iast hx hb hK hP hD hS 1 0 rfl rfl (zz_vin (by decide)) dX6_append_32 (fun H locs hP hD hS => ?_)
  have hP : va_P (dC, dI) vwCl [(a 24, .inr (6, [.ref (a 25), .int 10])), (a 25, .inl (cI, 200, .inl (upd (upd (upd f (Int32.toNatClampNeg 8) (((Int32.toUInt32 p0 >>> (Int32.toUInt32 24 &&& Int32.toUInt32 31)).toInt32) &&& 255)) (Int32.toNatClampNeg 9) (((Int32.toUInt32 p0 >>> (Int32.toUInt32 16 &&& Int32.toUInt32 31)).toInt32) &&& 255)) (Int32.toNatClampNeg 10) (((Int32.toUInt32 p0 >>> (Int32.toUInt32 8 &&& Int32.toUInt32 31)).toInt32) &&& 255))))] H := hP
  have hD : va_D A [(a 24, .inr (6, [.ref (a 25), .int 10])), (a 25, .inl (cI, 200, .inl (upd (upd (upd f (Int32.toNatClampNeg 8) (((Int32.toUInt32 p0 >>> (Int32.toUInt32 24 &&& Int32.toUInt32 31)).toInt32) &&& 255)) (Int32.toNatClampNeg 9) (((Int32.toUInt32 p0 >>> (Int32.toUInt32 16 &&& Int32.toUInt32 31)).toInt32) &&& 255)) (Int32.toNatClampNeg 10) (((Int32.toUInt32 p0 >>> (Int32.toUInt32 8 &&& Int32.toUInt32 31)).toInt32) &&& 255))))] := hD
  refine lv_aload_n hx hb dX6_append_33 rfl (lv_at hl 1 rfl) ?_
  refine lv_dup hx hb dX6_append_34 rfl ?_
  refine va_get (D := (dC, dI)) (ci := 6) (v := .int 10) (C := RX6) (T := TX6) (N := 2) hx hb hw zz_inX6 hown hK hP 0 rfl rfl 1 (by decide) (hw _ tw_12) (fun _ h9 => h9) rfl dX6_append_35 ?_
  refine lv_iconst (v := 1) hx hb dX6_append_38 (by decide) ?_
  refine lv_iadd hx hb dX6_append_39 ?_
  refine zz_seti 11 (by decide) ?_
  refine va_put (D := (dC, dI)) (ci := 6) (v := .int 11) (ty := .int) (C := RX6) (T := TX6) (N := 2) hx hb hw zz_inX6 tyX6 tyX6_ok nmX6 hown hK hP hD hS 0 rfl rfl 1 (by decide) (hw _ tw_12) (fun _ h9 => h9) rfl (by decide +kernel) rfl rfl (Nat.le_of_ble_eq_true rfl) dX6_append_40 (fun H locs hP hD hS => ?_)
  have hP : va_P (dC, dI) vwCl [(a 24, .inr (6, [.ref (a 25), .int 11])), (a 25, .inl (cI, 200, .inl (upd (upd (upd f (Int32.toNatClampNeg 8) (((Int32.toUInt32 p0 >>> (Int32.toUInt32 24 &&& Int32.toUInt32 31)).toInt32) &&& 255)) (Int32.toNatClampNeg 9) (((Int32.toUInt32 p0 >>> (Int32.toUInt32 16 &&& Int32.toUInt32 31)).toInt32) &&& 255)) (Int32.toNatClampNeg 10) (((Int32.toUInt32 p0 >>> (Int32.toUInt32 8 &&& Int32.toUInt32 31)).toInt32) &&& 255))))] H := hP
  have hD : va_D A [(a 24, .inr (6, [.ref (a 25), .int 11])), (a 25, .inl (cI, 200, .inl (upd (upd (upd f (Int32.toNatClampNeg 8) (((Int32.toUInt32 p0 >>> (Int32.toUInt32 24 &&& Int32.toUInt32 31)).toInt32) &&& 255)) (Int32.toNatClampNeg 9) (((Int32.toUInt32 p0 >>> (Int32.toUInt32 16 &&& Int32.toUInt32 31)).toInt32) &&& 255)) (Int32.toNatClampNeg 10) (((Int32.toUInt32 p0 >>> (Int32.toUInt32 8 &&& Int32.toUInt32 31)).toInt32) &&& 255))))] := hD
  refine lv_iinc (v := 0) (lv' := [(2, .int 0), (0, .ref (a 24)), (1, .int p0)]) hx hb dX6_append_43 hl (k := 0) rfl (by decide) (by decide) rfl (fun ls hl => ?_)
  refine lv_goto (tgt := 3) hx hb dX6_append_46 (by decide) ?_
  refine lv_iload_n hx hb dX6_append_3 rfl (lv_at hl 0 rfl) ?_
  refine lv_if_lt (tgt := 49) hx hb dX6_append_4 (by decide) (fun c_9 => absurd c_9 (by decide)) (fun _ => ?_)
  refine lv_aload_n hx hb dX6_append_7 rfl (lv_at hl 1 rfl) ?_
  refine va_get (D := (dC, dI)) (ci := 6) (v := .int 11) (C := RX6) (T := TX6) (N := 2) hx hb hw zz_inX6 hown hK hP 0 rfl rfl 1 (by decide) (hw _ tw_12) (fun _ h9 => h9) rfl dX6_append_8 ?_
  refine lv_sipush (v := 200) hx hb dX6_append_11 (by decide) ?_
  refine lv_icmp_ge (tgt := 49) hx hb dX6_append_14 (by decide) (fun c_9 => absurd c_9 (by decide)) (fun _ => ?_)
  refine lv_aload_n hx hb dX6_append_17 rfl (lv_at hl 1 rfl) ?_
  refine va_get (D := (dC, dI)) (ci := 6) (v := .ref (a 25)) (C := RX6) (T := TX6) (N := 2) hx hb hw zz_inX6 hown hK hP 0 rfl rfl 0 (by decide) (hw _ tw_13) (fun _ h9 => h9) rfl dX6_append_18 ?_
  refine lv_aload_n hx hb dX6_append_21 rfl (lv_at hl 1 rfl) ?_
  refine va_get (D := (dC, dI)) (ci := 6) (v := .int 11) (C := RX6) (T := TX6) (N := 2) hx hb hw zz_inX6 hown hK hP 0 rfl rfl 1 (by decide) (hw _ tw_12) (fun _ h9 => h9) rfl dX6_append_22 ?_
  refine lv_iload_n hx hb dX6_append_25 rfl (lv_at hl 2 rfl) ?_
  refine lv_iload_n hx hb dX6_append_26 rfl (lv_at hl 0 rfl) ?_
  refine lv_iushr (v := (Int32.toUInt32 p0 >>> (Int32.toUInt32 0 &&& Int32.toUInt32 31)).toInt32) hx hb dX6_append_27 rfl ?_
  refine lv_sipush (v := 255) hx hb dX6_append_28 (by decide) ?_
  refine lv_iand hx hb dX6_append_31 ?_
  refine va_iast hx hb hK hP hD hS 1 0 rfl rfl (zz_vin (by decide)) dX6_append_32 (fun H locs hP hD hS => ?_)
  have hP : va_P (dC, dI) vwCl [(a 24, .inr (6, [.ref (a 25), .int 11])), (a 25, .inl (cI, 200, .inl (upd (upd (upd (upd f (Int32.toNatClampNeg 8) (((Int32.toUInt32 p0 >>> (Int32.toUInt32 24 &&& Int32.toUInt32 31)).toInt32) &&& 255)) (Int32.toNatClampNeg 9) (((Int32.toUInt32 p0 >>> (Int32.toUInt32 16 &&& Int32.toUInt32 31)).toInt32) &&& 255)) (Int32.toNatClampNeg 10) (((Int32.toUInt32 p0 >>> (Int32.toUInt32 8 &&& Int32.toUInt32 31)).toInt32) &&& 255)) (Int32.toNatClampNeg 11) (((Int32.toUInt32 p0 >>> (Int32.toUInt32 0 &&& Int32.toUInt32 31)).toInt32) &&& 255))))] H := hP
  have hD : va_D A [(a 24, .inr (6, [.ref (a 25), .int 11])), (a 25, .inl (cI, 200, .inl (upd (upd (upd (upd f (Int32.toNatClampNeg 8) (((Int32.toUInt32 p0 >>> (Int32.toUInt32 24 &&& Int32.toUInt32 31)).toInt32) &&& 255)) (Int32.toNatClampNeg 9) (((Int32.toUInt32 p0 >>> (Int32.toUInt32 16 &&& Int32.toUInt32 31)).toInt32) &&& 255)) (Int32.toNatClampNeg 10) (((Int32.toUInt32 p0 >>> (Int32.toUInt32 8 &&& Int32.toUInt32 31)).toInt32) &&& 255)) (Int32.toNatClampNeg 11) (((Int32.toUInt32 p0 >>> (Int32.toUInt32 0 &&& Int32.toUInt32 31)).toInt32) &&& 255))))] := hD
  refine lv_aload_n hx hb dX6_append_33 rfl (lv_at hl 1 rfl) ?_
  refine lv_dup hx hb dX6_append_34 rfl ?_
  refine va_get (D := (dC, dI)) (ci := 6) (v := .int 11) (C := RX6) (T := TX6) (N := 2) hx hb hw zz_inX6 hown hK hP 0 rfl rfl 1 (by decide) (hw _ tw_12) (fun _ h9 => h9) rfl dX6_append_35 ?_
  refine lv_iconst (v := 1) hx hb dX6_append_38 (by decide) ?_
  refine lv_iadd hx hb dX6_append_39 ?_
  refine zz_seti 12 (by decide) ?_
  refine va_put (D := (dC, dI)) (ci := 6) (v := .int 12) (ty := .int) (C := RX6) (T := TX6) (N := 2) hx hb hw zz_inX6 tyX6 tyX6_ok nmX6 hown hK hP hD hS 0 rfl rfl 1 (by decide) (hw _ tw_12) (fun _ h9 => h9) rfl (by decide +kernel) rfl rfl (Nat.le_of_ble_eq_true rfl) dX6_append_40 (fun H locs hP hD hS => ?_)
  have hP : va_P (dC, dI) vwCl [(a 24, .inr (6, [.ref (a 25), .int 12])), (a 25, .inl (cI, 200, .inl (upd (upd (upd (upd f (Int32.toNatClampNeg 8) (((Int32.toUInt32 p0 >>> (Int32.toUInt32 24 &&& Int32.toUInt32 31)).toInt32) &&& 255)) (Int32.toNatClampNeg 9) (((Int32.toUInt32 p0 >>> (Int32.toUInt32 16 &&& Int32.toUInt32 31)).toInt32) &&& 255)) (Int32.toNatClampNeg 10) (((Int32.toUInt32 p0 >>> (Int32.toUInt32 8 &&& Int32.toUInt32 31)).toInt32) &&& 255)) (Int32.toNatClampNeg 11) (((Int32.toUInt32 p0 >>> (Int32.toUInt32 0 &&& Int32.toUInt32 31)).toInt32) &&& 255))))] H := hP
  have hD : va_D A [(a 24, .inr (6, [.ref (a 25), .int 12])), (a 25, .inl (cI, 200, .inl (upd (upd (upd (upd f (Int32.toNatClampNeg 8) (((Int32.toUInt32 p0 >>> (Int32.toUInt32 24 &&& Int32.toUInt32 31)).toInt32) &&& 255)) (Int32.toNatClampNeg 9) (((Int32.toUInt32 p0 >>> (Int32.toUInt32 16 &&& Int32.toUInt32 31)).toInt32) &&& 255)) (Int32.toNatClampNeg 10) (((Int32.toUInt32 p0 >>> (Int32.toUInt32 8 &&& Int32.toUInt32 31)).toInt32) &&& 255)) (Int32.toNatClampNeg 11) (((Int32.toUInt32 p0 >>> (Int32.toUInt32 0 &&& Int32.toUInt32 31)).toInt32) &&& 255))))] := hD
  refine lv_iinc (v := (-8)) (lv' := [(2, .int (-8)), (0, .ref (a 24)), (1, .int p0)]) hx hb dX6_append_43 hl (k := 0) rfl (by decide) (by decide) rfl (fun ls hl => ?_)
  refine lv_goto (tgt := 3) hx hb dX6_append_46 (by decide) ?_
  refine lv_iload_n hx hb dX6_append_3 rfl (lv_at hl 0 rfl) ?_
  refine lv_if_lt (tgt := 49) hx hb dX6_append_4 (by decide) (fun _ => ?_) (fun c_9 => absurd c_9 (by decide))
  have hP9 := hP.sub (ws' := [(a 24, .inr (6, [.ref (a 25), .int 12])), (a 25, .inl (cI, 200, .inl (upd (upd (upd (upd f (Int32.toNatClampNeg 8) (((Int32.toUInt32 p0 >>> (Int32.toUInt32 24 &&& Int32.toUInt32 31)).toInt32) &&& 255)) (Int32.toNatClampNeg 9) (((Int32.toUInt32 p0 >>> (Int32.toUInt32 16 &&& Int32.toUInt32 31)).toInt32) &&& 255)) (Int32.toNatClampNeg 10) (((Int32.toUInt32 p0 >>> (Int32.toUInt32 8 &&& Int32.toUInt32 31)).toInt32) &&& 255)) (Int32.toNatClampNeg 11) (((Int32.toUInt32 p0 >>> (Int32.toUInt32 0 &&& Int32.toUInt32 31)).toInt32) &&& 255))))]) [0, 1] rfl
  have hD9 := hD.sub (ws' := [(a 24, .inr (6, [.ref (a 25), .int 12])), (a 25, .inl (cI, 200, .inl (upd (upd (upd (upd f (Int32.toNatClampNeg 8) (((Int32.toUInt32 p0 >>> (Int32.toUInt32 24 &&& Int32.toUInt32 31)).toInt32) &&& 255)) (Int32.toNatClampNeg 9) (((Int32.toUInt32 p0 >>> (Int32.toUInt32 16 &&& Int32.toUInt32 31)).toInt32) &&& 255)) (Int32.toNatClampNeg 10) (((Int32.toUInt32 p0 >>> (Int32.toUInt32 8 &&& Int32.toUInt32 31)).toInt32) &&& 255)) (Int32.toNatClampNeg 11) (((Int32.toUInt32 p0 >>> (Int32.toUInt32 0 &&& Int32.toUInt32 31)).toInt32) &&& 255))))]) [0, 1] (by decide) rfl
  have hK9 := hK.sub (tys' := [(cI, .int)]) [0] rfl
  exact W.vret hx hb hr (fun t ht hW => ⟨⟨((upd (upd (upd (upd f (Int32.toNatClampNeg 8) (((Int32.toUInt32 p0 >>> (Int32.toUInt32 24 &&& Int32.toUInt32 31)).toInt32) &&& 255)) (Int32.toNatClampNeg 9) (((Int32.toUInt32 p0 >>> (Int32.toUInt32 16 &&& Int32.toUInt32 31)).toInt32) &&& 255)) (Int32.toNatClampNeg 10) (((Int32.toUInt32 p0 >>> (Int32.toUInt32 8 &&& Int32.toUInt32 31)).toInt32) &&& 255)) (Int32.toNatClampNeg 11) (((Int32.toUInt32 p0 >>> (Int32.toUInt32 0 &&& Int32.toUInt32 31)).toInt32) &&& 255))), rfl, trivial, by rw [ht]; exact hP9, va_K.moved hW.alike hK9, hD9⟩, hS.F ht⟩) hS.2.2 dX6_append_49

set_option maxHeartbeats 4000000 in
set_option maxRecDepth 100000 in
theorem k_append12 (l : Launch) (dC : Nat → ClassId) (dI : Nat → Nat → Nat) (a : Nat → Nat) (cI : ClassId) (f : Nat → Int32) (p0 : Int32) (sz : Nat) : Met l yX6_append (zz_w yX6_append cX6_append 3 none) ({ frames := 0, cells := 0, slots := 0, locals := 0 }) (va_Pc [.ref (a 24), .int p0] (zz_B (dC, dI) sz [(a 24, .inr (6, [.ref (a 25), .int 12])), (a 25, .inl (cI, 200, .inl f))] [(cI, .int)])) (va_Qv (fun (_ : Nat → Int32) => True) (fun (u0 : Nat → Int32) (t : State) => va_P (dC, dI) vwCl [(a 24, .inr (6, [.ref (a 25), .int 16])), (a 25, .inl (cI, 200, .inl u0))] t.heap ∧ va_K (dC, dI) vwCl [(cI, .int)] t ∧ va_D (va_A [(a 24, .inr (6, [.ref (a 25), .int 12])), (a 25, .inl (cI, 200, .inl f))] sz) [(a 24, .inr (6, [.ref (a 25), .int 16])), (a 25, .inl (cI, 200, .inl u0))]) (va_A [(a 24, .inr (6, [.ref (a 25), .int 12])), (a 25, .inl (cI, 200, .inl f))] sz)) 0 0 (va_A [(a 24, .inr (6, [.ref (a 25), .int 12])), (a 25, .inl (cI, 200, .inl f))] sz) := by
  refine Met.ofW (cc := cX6_append) (maxL := 3) (ret := none) (by decide) rfl ?_
  intro p e s m args below meth c s₁ B hml hv
  obtain ⟨rfl, hsz, hP, hK, hD0, hN⟩ := hv
  have hx := B.exec
  have hb := B.bytes
  have hr := B.returns
  have hts := atoms_spec (ws := zz_w yX6_append cX6_append 3 none) B.pre
  have hw : ∀ w ∈ zz_all, w.before _ s = true := fun w h => hts w (List.mem_cons_of_mem _ h)
  have hown : s.vm.findClass RX6 = some m.cls := findClass_of_methodNamed B.named
  have hlocks := B.notSynchronized
  subst hsz
  have hD := hD0.self (sz := s.heap.size)
  generalize hAe : va_A [(a 24, .inr (6, [.ref (a 25), .int 12])), (a 25, .inl (cI, 200, .inl f))] s.heap.size = A at hD ⊢
  have hA : ∀ q : Nat, s.heap.size ≤ q → A q := fun q h => by rw [← hAe]; exact Or.inr h
  have hS : va_S A s.heap s.heap [] := va_S.rf
  have hP : va_P (dC, dI) vwCl [(a 24, .inr (6, [.ref (a 25), .int 12])), (a 25, .inl (cI, 200, .inl f))] s.heap := hP
  have hl := lv_entry ([.ref (a 24), .int p0]) (n := 3) (Nat.le_of_ble_eq_true rfl)
  rw [lg_entry_eq]
  generalize (lg_sl ([.ref (a 24), .int p0]) ++ List.replicate (3 - (lg_sl ([.ref (a 24), .int p0])).length) Slot.unset).toArray = ls at hl ⊢
  have hl : lv_has ls 3 [(0, .ref (a 24)), (1, .int p0)] := hl
  refine lv_bipush (v := 24) hx hb dX6_append_0 (by decide) ?_
  refine lv_istore_n (lv' := [(2, .int 24), (0, .ref (a 24)), (1, .int p0)]) hx hb dX6_append_2 rfl hl (by decide) rfl (fun ls hl => ?_)
  refine lv_iload_n hx hb dX6_append_3 rfl (lv_at hl 0 rfl) ?_
  refine lv_if_lt (tgt := 49) hx hb dX6_append_4 (by decide) (fun c_9 => absurd c_9 (by decide)) (fun _ => ?_)
  refine lv_aload_n hx hb dX6_append_7 rfl (lv_at hl 1 rfl) ?_
  refine va_get (D := (dC, dI)) (ci := 6) (v := .int 12) (C := RX6) (T := TX6) (N := 2) hx hb hw zz_inX6 hown hK hP 0 rfl rfl 1 (by decide) (hw _ tw_12) (fun _ h9 => h9) rfl dX6_append_8 ?_
  refine lv_sipush (v := 200) hx hb dX6_append_11 (by decide) ?_
  refine lv_icmp_ge (tgt := 49) hx hb dX6_append_14 (by decide) (fun c_9 => absurd c_9 (by decide)) (fun _ => ?_)
  refine lv_aload_n hx hb dX6_append_17 rfl (lv_at hl 1 rfl) ?_
  refine va_get (D := (dC, dI)) (ci := 6) (v := .ref (a 25)) (C := RX6) (T := TX6) (N := 2) hx hb hw zz_inX6 hown hK hP 0 rfl rfl 0 (by decide) (hw _ tw_13) (fun _ h9 => h9) rfl dX6_append_18 ?_
  refine lv_aload_n hx hb dX6_append_21 rfl (lv_at hl 1 rfl) ?_
  refine va_get (D := (dC, dI)) (ci := 6) (v := .int 12) (C := RX6) (T := TX6) (N := 2) hx hb hw zz_inX6 hown hK hP 0 rfl rfl 1 (by decide) (hw _ tw_12) (fun _ h9 => h9) rfl dX6_append_22 ?_
  refine lv_iload_n hx hb dX6_append_25 rfl (lv_at hl 2 rfl) ?_
  refine lv_iload_n hx hb dX6_append_26 rfl (lv_at hl 0 rfl) ?_
  refine lv_iushr (v := (Int32.toUInt32 p0 >>> (Int32.toUInt32 24 &&& Int32.toUInt32 31)).toInt32) hx hb dX6_append_27 rfl ?_
  refine lv_sipush (v := 255) hx hb dX6_append_28 (by decide) ?_
  refine lv_iand hx hb dX6_append_31 ?_
  refine va_iast hx hb hK hP hD hS 1 0 rfl rfl (zz_vin (by decide)) dX6_append_32 (fun H locs hP hD hS => ?_)
  have hP : va_P (dC, dI) vwCl [(a 24, .inr (6, [.ref (a 25), .int 12])), (a 25, .inl (cI, 200, .inl (upd f (Int32.toNatClampNeg 12) (((Int32.toUInt32 p0 >>> (Int32.toUInt32 24 &&& Int32.toUInt32 31)).toInt32) &&& 255))))] H := hP
  have hD : va_D A [(a 24, .inr (6, [.ref (a 25), .int 12])), (a 25, .inl (cI, 200, .inl (upd f (Int32.toNatClampNeg 12) (((Int32.toUInt32 p0 >>> (Int32.toUInt32 24 &&& Int32.toUInt32 31)).toInt32) &&& 255))))] := hD
  refine lv_aload_n hx hb dX6_append_33 rfl (lv_at hl 1 rfl) ?_
  refine lv_dup hx hb dX6_append_34 rfl ?_
  refine va_get (D := (dC, dI)) (ci := 6) (v := .int 12) (C := RX6) (T := TX6) (N := 2) hx hb hw zz_inX6 hown hK hP 0 rfl rfl 1 (by decide) (hw _ tw_12) (fun _ h9 => h9) rfl dX6_append_35 ?_
  refine lv_iconst (v := 1) hx hb dX6_append_38 (by decide) ?_
  refine lv_iadd hx hb dX6_append_39 ?_
  refine zz_seti 13 (by decide) ?_
  refine va_put (D := (dC, dI)) (ci := 6) (v := .int 13) (ty := .int) (C := RX6) (T := TX6) (N := 2) hx hb hw zz_inX6 tyX6 tyX6_ok nmX6 hown hK hP hD hS 0 rfl rfl 1 (by decide) (hw _ tw_12) (fun _ h9 => h9) rfl (by decide +kernel) rfl rfl (Nat.le_of_ble_eq_true rfl) dX6_append_40 (fun H locs hP hD hS => ?_)
  have hP : va_P (dC, dI) vwCl [(a 24, .inr (6, [.ref (a 25), .int 13])), (a 25, .inl (cI, 200, .inl (upd f (Int32.toNatClampNeg 12) (((Int32.toUInt32 p0 >>> (Int32.toUInt32 24 &&& Int32.toUInt32 31)).toInt32) &&& 255))))] H := hP
  have hD : va_D A [(a 24, .inr (6, [.ref (a 25), .int 13])), (a 25, .inl (cI, 200, .inl (upd f (Int32.toNatClampNeg 12) (((Int32.toUInt32 p0 >>> (Int32.toUInt32 24 &&& Int32.toUInt32 31)).toInt32) &&& 255))))] := hD
  refine lv_iinc (v := 16) (lv' := [(2, .int 16), (0, .ref (a 24)), (1, .int p0)]) hx hb dX6_append_43 hl (k := 0) rfl (by decide) (by decide) rfl (fun ls hl => ?_)
  refine lv_goto (tgt := 3) hx hb dX6_append_46 (by decide) ?_
  refine lv_iload_n hx hb dX6_append_3 rfl (lv_at hl 0 rfl) ?_
  refine lv_if_lt (tgt := 49) hx hb dX6_append_4 (by decide) (fun c_9 => absurd c_9 (by decide)) (fun _ => ?_)
  refine lv_aload_n hx hb dX6_append_7 rfl (lv_at hl 1 rfl) ?_
  refine va_get (D := (dC, dI)) (ci := 6) (v := .int 13) (C := RX6) (T := TX6) (N := 2) hx hb hw zz_inX6 hown hK hP 0 rfl rfl 1 (by decide) (hw _ tw_12) (fun _ h9 => h9) rfl dX6_append_8 ?_
  refine lv_sipush (v := 200) hx hb dX6_append_11 (by decide) ?_
  refine lv_icmp_ge (tgt := 49) hx hb dX6_append_14 (by decide) (fun c_9 => absurd c_9 (by decide)) (fun _ => ?_)
  refine lv_aload_n hx hb dX6_append_17 rfl (lv_at hl 1 rfl) ?_
  refine va_get (D := (dC, dI)) (ci := 6) (v := .ref (a 25)) (C := RX6) (T := TX6) (N := 2) hx hb hw zz_inX6 hown hK hP 0 rfl rfl 0 (by decide) (hw _ tw_13) (fun _ h9 => h9) rfl dX6_append_18 ?_
  refine lv_aload_n hx hb dX6_append_21 rfl (lv_at hl 1 rfl) ?_
  refine va_get (D := (dC, dI)) (ci := 6) (v := .int 13) (C := RX6) (T := TX6) (N := 2) hx hb hw zz_inX6 hown hK hP 0 rfl rfl 1 (by decide) (hw _ tw_12) (fun _ h9 => h9) rfl dX6_append_22 ?_
  refine lv_iload_n hx hb dX6_append_25 rfl (lv_at hl 2 rfl) ?_
  refine lv_iload_n hx hb dX6_append_26 rfl (lv_at hl 0 rfl) ?_
  refine lv_iushr (v := (Int32.toUInt32 p0 >>> (Int32.toUInt32 16 &&& Int32.toUInt32 31)).toInt32) hx hb dX6_append_27 rfl ?_
  refine lv_sipush (v := 255) hx hb dX6_append_28 (by decide) ?_
  refine lv_iand hx hb dX6_append_31 ?_
  refine va_iast hx hb hK hP hD hS 1 0 rfl rfl (zz_vin (by decide)) dX6_append_32 (fun H locs hP hD hS => ?_)
  have hP : va_P (dC, dI) vwCl [(a 24, .inr (6, [.ref (a 25), .int 13])), (a 25, .inl (cI, 200, .inl (upd (upd f (Int32.toNatClampNeg 12) (((Int32.toUInt32 p0 >>> (Int32.toUInt32 24 &&& Int32.toUInt32 31)).toInt32) &&& 255)) (Int32.toNatClampNeg 13) (((Int32.toUInt32 p0 >>> (Int32.toUInt32 16 &&& Int32.toUInt32 31)).toInt32) &&& 255))))] H := hP
  have hD : va_D A [(a 24, .inr (6, [.ref (a 25), .int 13])), (a 25, .inl (cI, 200, .inl (upd (upd f (Int32.toNatClampNeg 12) (((Int32.toUInt32 p0 >>> (Int32.toUInt32 24 &&& Int32.toUInt32 31)).toInt32) &&& 255)) (Int32.toNatClampNeg 13) (((Int32.toUInt32 p0 >>> (Int32.toUInt32 16 &&& Int32.toUInt32 31)).toInt32) &&& 255))))] := hD
  refine lv_aload_n hx hb dX6_append_33 rfl (lv_at hl 1 rfl) ?_
  refine lv_dup hx hb dX6_append_34 rfl ?_
  refine va_get (D := (dC, dI)) (ci := 6) (v := .int 13) (C := RX6) (T := TX6) (N := 2) hx hb hw zz_inX6 hown hK hP 0 rfl rfl 1 (by decide) (hw _ tw_12) (fun _ h9 => h9) rfl dX6_append_35 ?_
  refine lv_iconst (v := 1) hx hb dX6_append_38 (by decide) ?_
  refine lv_iadd hx hb dX6_append_39 ?_
  refine zz_seti 14 (by decide) ?_
  refine va_put (D := (dC, dI)) (ci := 6) (v := .int 14) (ty := .int) (C := RX6) (T := TX6) (N := 2) hx hb hw zz_inX6 tyX6 tyX6_ok nmX6 hown hK hP hD hS 0 rfl rfl 1 (by decide) (hw _ tw_12) (fun _ h9 => h9) rfl (by decide +kernel) rfl rfl (Nat.le_of_ble_eq_true rfl) dX6_append_40 (fun H locs hP hD hS => ?_)
  have hP : va_P (dC, dI) vwCl [(a 24, .inr (6, [.ref (a 25), .int 14])), (a 25, .inl (cI, 200, .inl (upd (upd f (Int32.toNatClampNeg 12) (((Int32.toUInt32 p0 >>> (Int32.toUInt32 24 &&& Int32.toUInt32 31)).toInt32) &&& 255)) (Int32.toNatClampNeg 13) (((Int32.toUInt32 p0 >>> (Int32.toUInt32 16 &&& Int32.toUInt32 31)).toInt32) &&& 255))))] H := hP
  have hD : va_D A [(a 24, .inr (6, [.ref (a 25), .int 14])), (a 25, .inl (cI, 200, .inl (upd (upd f (Int32.toNatClampNeg 12) (((Int32.toUInt32 p0 >>> (Int32.toUInt32 24 &&& Int32.toUInt32 31)).toInt32) &&& 255)) (Int32.toNatClampNeg 13) (((Int32.toUInt32 p0 >>> (Int32.toUInt32 16 &&& Int32.toUInt32 31)).toInt32) &&& 255))))] := hD
  refine lv_iinc (v := 8) (lv' := [(2, .int 8), (0, .ref (a 24)), (1, .int p0)]) hx hb dX6_append_43 hl (k := 0) rfl (by decide) (by decide) rfl (fun ls hl => ?_)
  refine lv_goto (tgt := 3) hx hb dX6_append_46 (by decide) ?_
  refine lv_iload_n hx hb dX6_append_3 rfl (lv_at hl 0 rfl) ?_
  refine lv_if_lt (tgt := 49) hx hb dX6_append_4 (by decide) (fun c_9 => absurd c_9 (by decide)) (fun _ => ?_)
  refine lv_aload_n hx hb dX6_append_7 rfl (lv_at hl 1 rfl) ?_
  refine va_get (D := (dC, dI)) (ci := 6) (v := .int 14) (C := RX6) (T := TX6) (N := 2) hx hb hw zz_inX6 hown hK hP 0 rfl rfl 1 (by decide) (hw _ tw_12) (fun _ h9 => h9) rfl dX6_append_8 ?_
  refine lv_sipush (v := 200) hx hb dX6_append_11 (by decide) ?_
  refine lv_icmp_ge (tgt := 49) hx hb dX6_append_14 (by decide) (fun c_9 => absurd c_9 (by decide)) (fun _ => ?_)
  refine lv_aload_n hx hb dX6_append_17 rfl (lv_at hl 1 rfl) ?_
  refine va_get (D := (dC, dI)) (ci := 6) (v := .ref (a 25)) (C := RX6) (T := TX6) (N := 2) hx hb hw zz_inX6 hown hK hP 0 rfl rfl 0 (by decide) (hw _ tw_13) (fun _ h9 => h9) rfl dX6_append_18 ?_
  refine lv_aload_n hx hb dX6_append_21 rfl (lv_at hl 1 rfl) ?_
  refine va_get (D := (dC, dI)) (ci := 6) (v := .int 14) (C := RX6) (T := TX6) (N := 2) hx hb hw zz_inX6 hown hK hP 0 rfl rfl 1 (by decide) (hw _ tw_12) (fun _ h9 => h9) rfl dX6_append_22 ?_
  refine lv_iload_n hx hb dX6_append_25 rfl (lv_at hl 2 rfl) ?_
  refine lv_iload_n hx hb dX6_append_26 rfl (lv_at hl 0 rfl) ?_
  refine lv_iushr (v := (Int32.toUInt32 p0 >>> (Int32.toUInt32 8 &&& Int32.toUInt32 31)).toInt32) hx hb dX6_append_27 rfl ?_
  refine lv_sipush (v := 255) hx hb dX6_append_28 (by decide) ?_
  refine lv_iand hx hb dX6_append_31 ?_
  refine va_iast hx hb hK hP hD hS 1 0 rfl rfl (zz_vin (by decide)) dX6_append_32 (fun H locs hP hD hS => ?_)
  have hP : va_P (dC, dI) vwCl [(a 24, .inr (6, [.ref (a 25), .int 14])), (a 25, .inl (cI, 200, .inl (upd (upd (upd f (Int32.toNatClampNeg 12) (((Int32.toUInt32 p0 >>> (Int32.toUInt32 24 &&& Int32.toUInt32 31)).toInt32) &&& 255)) (Int32.toNatClampNeg 13) (((Int32.toUInt32 p0 >>> (Int32.toUInt32 16 &&& Int32.toUInt32 31)).toInt32) &&& 255)) (Int32.toNatClampNeg 14) (((Int32.toUInt32 p0 >>> (Int32.toUInt32 8 &&& Int32.toUInt32 31)).toInt32) &&& 255))))] H := hP
  have hD : va_D A [(a 24, .inr (6, [.ref (a 25), .int 14])), (a 25, .inl (cI, 200, .inl (upd (upd (upd f (Int32.toNatClampNeg 12) (((Int32.toUInt32 p0 >>> (Int32.toUInt32 24 &&& Int32.toUInt32 31)).toInt32) &&& 255)) (Int32.toNatClampNeg 13) (((Int32.toUInt32 p0 >>> (Int32.toUInt32 16 &&& Int32.toUInt32 31)).toInt32) &&& 255)) (Int32.toNatClampNeg 14) (((Int32.toUInt32 p0 >>> (Int32.toUInt32 8 &&& Int32.toUInt32 31)).toInt32) &&& 255))))] := hD
  refine lv_aload_n hx hb dX6_append_33 rfl (lv_at hl 1 rfl) ?_
  refine lv_dup hx hb dX6_append_34 rfl ?_
  refine va_get (D := (dC, dI)) (ci := 6) (v := .int 14) (C := RX6) (T := TX6) (N := 2) hx hb hw zz_inX6 hown hK hP 0 rfl rfl 1 (by decide) (hw _ tw_12) (fun _ h9 => h9) rfl dX6_append_35 ?_
  refine lv_iconst (v := 1) hx hb dX6_append_38 (by decide) ?_
  refine lv_iadd hx hb dX6_append_39 ?_
  refine zz_seti 15 (by decide) ?_
  refine va_put (D := (dC, dI)) (ci := 6) (v := .int 15) (ty := .int) (C := RX6) (T := TX6) (N := 2) hx hb hw zz_inX6 tyX6 tyX6_ok nmX6 hown hK hP hD hS 0 rfl rfl 1 (by decide) (hw _ tw_12) (fun _ h9 => h9) rfl (by decide +kernel) rfl rfl (Nat.le_of_ble_eq_true rfl) dX6_append_40 (fun H locs hP hD hS => ?_)
  have hP : va_P (dC, dI) vwCl [(a 24, .inr (6, [.ref (a 25), .int 15])), (a 25, .inl (cI, 200, .inl (upd (upd (upd f (Int32.toNatClampNeg 12) (((Int32.toUInt32 p0 >>> (Int32.toUInt32 24 &&& Int32.toUInt32 31)).toInt32) &&& 255)) (Int32.toNatClampNeg 13) (((Int32.toUInt32 p0 >>> (Int32.toUInt32 16 &&& Int32.toUInt32 31)).toInt32) &&& 255)) (Int32.toNatClampNeg 14) (((Int32.toUInt32 p0 >>> (Int32.toUInt32 8 &&& Int32.toUInt32 31)).toInt32) &&& 255))))] H := hP
  have hD : va_D A [(a 24, .inr (6, [.ref (a 25), .int 15])), (a 25, .inl (cI, 200, .inl (upd (upd (upd f (Int32.toNatClampNeg 12) (((Int32.toUInt32 p0 >>> (Int32.toUInt32 24 &&& Int32.toUInt32 31)).toInt32) &&& 255)) (Int32.toNatClampNeg 13) (((Int32.toUInt32 p0 >>> (Int32.toUInt32 16 &&& Int32.toUInt32 31)).toInt32) &&& 255)) (Int32.toNatClampNeg 14) (((Int32.toUInt32 p0 >>> (Int32.toUInt32 8 &&& Int32.toUInt32 31)).toInt32) &&& 255))))] := hD
  refine lv_iinc (v := 0) (lv' := [(2, .int 0), (0, .ref (a 24)), (1, .int p0)]) hx hb dX6_append_43 hl (k := 0) rfl (by decide) (by decide) rfl (fun ls hl => ?_)
  refine lv_goto (tgt := 3) hx hb dX6_append_46 (by decide) ?_
  refine lv_iload_n hx hb dX6_append_3 rfl (lv_at hl 0 rfl) ?_
  refine lv_if_lt (tgt := 49) hx hb dX6_append_4 (by decide) (fun c_9 => absurd c_9 (by decide)) (fun _ => ?_)
  refine lv_aload_n hx hb dX6_append_7 rfl (lv_at hl 1 rfl) ?_
  refine va_get (D := (dC, dI)) (ci := 6) (v := .int 15) (C := RX6) (T := TX6) (N := 2) hx hb hw zz_inX6 hown hK hP 0 rfl rfl 1 (by decide) (hw _ tw_12) (fun _ h9 => h9) rfl dX6_append_8 ?_
  refine lv_sipush (v := 200) hx hb dX6_append_11 (by decide) ?_
  refine lv_icmp_ge (tgt := 49) hx hb dX6_append_14 (by decide) (fun c_9 => absurd c_9 (by decide)) (fun _ => ?_)
  refine lv_aload_n hx hb dX6_append_17 rfl (lv_at hl 1 rfl) ?_
  refine va_get (D := (dC, dI)) (ci := 6) (v := .ref (a 25)) (C := RX6) (T := TX6) (N := 2) hx hb hw zz_inX6 hown hK hP 0 rfl rfl 0 (by decide) (hw _ tw_13) (fun _ h9 => h9) rfl dX6_append_18 ?_
  refine lv_aload_n hx hb dX6_append_21 rfl (lv_at hl 1 rfl) ?_
  refine va_get (D := (dC, dI)) (ci := 6) (v := .int 15) (C := RX6) (T := TX6) (N := 2) hx hb hw zz_inX6 hown hK hP 0 rfl rfl 1 (by decide) (hw _ tw_12) (fun _ h9 => h9) rfl dX6_append_22 ?_
  refine lv_iload_n hx hb dX6_append_25 rfl (lv_at hl 2 rfl) ?_
  refine lv_iload_n hx hb dX6_append_26 rfl (lv_at hl 0 rfl) ?_
  refine lv_iushr (v := (Int32.toUInt32 p0 >>> (Int32.toUInt32 0 &&& Int32.toUInt32 31)).toInt32) hx hb dX6_append_27 rfl ?_
  refine lv_sipush (v := 255) hx hb dX6_append_28 (by decide) ?_
  refine lv_iand hx hb dX6_append_31 ?_
  refine va_iast hx hb hK hP hD hS 1 0 rfl rfl (zz_vin (by decide)) dX6_append_32 (fun H locs hP hD hS => ?_)
  have hP : va_P (dC, dI) vwCl [(a 24, .inr (6, [.ref (a 25), .int 15])), (a 25, .inl (cI, 200, .inl (upd (upd (upd (upd f (Int32.toNatClampNeg 12) (((Int32.toUInt32 p0 >>> (Int32.toUInt32 24 &&& Int32.toUInt32 31)).toInt32) &&& 255)) (Int32.toNatClampNeg 13) (((Int32.toUInt32 p0 >>> (Int32.toUInt32 16 &&& Int32.toUInt32 31)).toInt32) &&& 255)) (Int32.toNatClampNeg 14) (((Int32.toUInt32 p0 >>> (Int32.toUInt32 8 &&& Int32.toUInt32 31)).toInt32) &&& 255)) (Int32.toNatClampNeg 15) (((Int32.toUInt32 p0 >>> (Int32.toUInt32 0 &&& Int32.toUInt32 31)).toInt32) &&& 255))))] H := hP
  have hD : va_D A [(a 24, .inr (6, [.ref (a 25), .int 15])), (a 25, .inl (cI, 200, .inl (upd (upd (upd (upd f (Int32.toNatClampNeg 12) (((Int32.toUInt32 p0 >>> (Int32.toUInt32 24 &&& Int32.toUInt32 31)).toInt32) &&& 255)) (Int32.toNatClampNeg 13) (((Int32.toUInt32 p0 >>> (Int32.toUInt32 16 &&& Int32.toUInt32 31)).toInt32) &&& 255)) (Int32.toNatClampNeg 14) (((Int32.toUInt32 p0 >>> (Int32.toUInt32 8 &&& Int32.toUInt32 31)).toInt32) &&& 255)) (Int32.toNatClampNeg 15) (((Int32.toUInt32 p0 >>> (Int32.toUInt32 0 &&& Int32.toUInt32 31)).toInt32) &&& 255))))] := hD
  refine lv_aload_n hx hb dX6_append_33 rfl (lv_at hl 1 rfl) ?_
  refine lv_dup hx hb dX6_append_34 rfl ?_
  refine va_get (D := (dC, dI)) (ci := 6) (v := .int 15) (C := RX6) (T := TX6) (N := 2) hx hb hw zz_inX6 hown hK hP 0 rfl rfl 1 (by decide) (hw _ tw_12) (fun _ h9 => h9) rfl dX6_append_35 ?_
  refine lv_iconst (v := 1) hx hb dX6_append_38 (by decide) ?_
  refine lv_iadd hx hb dX6_append_39 ?_
  refine zz_seti 16 (by decide) ?_
  refine va_put (D := (dC, dI)) (ci := 6) (v := .int 16) (ty := .int) (C := RX6) (T := TX6) (N := 2) hx hb hw zz_inX6 tyX6 tyX6_ok nmX6 hown hK hP hD hS 0 rfl rfl 1 (by decide) (hw _ tw_12) (fun _ h9 => h9) rfl (by decide +kernel) rfl rfl (Nat.le_of_ble_eq_true rfl) dX6_append_40 (fun H locs hP hD hS => ?_)
  have hP : va_P (dC, dI) vwCl [(a 24, .inr (6, [.ref (a 25), .int 16])), (a 25, .inl (cI, 200, .inl (upd (upd (upd (upd f (Int32.toNatClampNeg 12) (((Int32.toUInt32 p0 >>> (Int32.toUInt32 24 &&& Int32.toUInt32 31)).toInt32) &&& 255)) (Int32.toNatClampNeg 13) (((Int32.toUInt32 p0 >>> (Int32.toUInt32 16 &&& Int32.toUInt32 31)).toInt32) &&& 255)) (Int32.toNatClampNeg 14) (((Int32.toUInt32 p0 >>> (Int32.toUInt32 8 &&& Int32.toUInt32 31)).toInt32) &&& 255)) (Int32.toNatClampNeg 15) (((Int32.toUInt32 p0 >>> (Int32.toUInt32 0 &&& Int32.toUInt32 31)).toInt32) &&& 255))))] H := hP
  have hD : va_D A [(a 24, .inr (6, [.ref (a 25), .int 16])), (a 25, .inl (cI, 200, .inl (upd (upd (upd (upd f (Int32.toNatClampNeg 12) (((Int32.toUInt32 p0 >>> (Int32.toUInt32 24 &&& Int32.toUInt32 31)).toInt32) &&& 255)) (Int32.toNatClampNeg 13) (((Int32.toUInt32 p0 >>> (Int32.toUInt32 16 &&& Int32.toUInt32 31)).toInt32) &&& 255)) (Int32.toNatClampNeg 14) (((Int32.toUInt32 p0 >>> (Int32.toUInt32 8 &&& Int32.toUInt32 31)).toInt32) &&& 255)) (Int32.toNatClampNeg 15) (((Int32.toUInt32 p0 >>> (Int32.toUInt32 0 &&& Int32.toUInt32 31)).toInt32) &&& 255))))] := hD
  refine lv_iinc (v := (-8)) (lv' := [(2, .int (-8)), (0, .ref (a 24)), (1, .int p0)]) hx hb dX6_append_43 hl (k := 0) rfl (by decide) (by decide) rfl (fun ls hl => ?_)
  refine lv_goto (tgt := 3) hx hb dX6_append_46 (by decide) ?_
  refine lv_iload_n hx hb dX6_append_3 rfl (lv_at hl 0 rfl) ?_
  refine lv_if_lt (tgt := 49) hx hb dX6_append_4 (by decide) (fun _ => ?_) (fun c_9 => absurd c_9 (by decide))
  have hP9 := hP.sub (ws' := [(a 24, .inr (6, [.ref (a 25), .int 16])), (a 25, .inl (cI, 200, .inl (upd (upd (upd (upd f (Int32.toNatClampNeg 12) (((Int32.toUInt32 p0 >>> (Int32.toUInt32 24 &&& Int32.toUInt32 31)).toInt32) &&& 255)) (Int32.toNatClampNeg 13) (((Int32.toUInt32 p0 >>> (Int32.toUInt32 16 &&& Int32.toUInt32 31)).toInt32) &&& 255)) (Int32.toNatClampNeg 14) (((Int32.toUInt32 p0 >>> (Int32.toUInt32 8 &&& Int32.toUInt32 31)).toInt32) &&& 255)) (Int32.toNatClampNeg 15) (((Int32.toUInt32 p0 >>> (Int32.toUInt32 0 &&& Int32.toUInt32 31)).toInt32) &&& 255))))]) [0, 1] rfl
  have hD9 := hD.sub (ws' := [(a 24, .inr (6, [.ref (a 25), .int 16])), (a 25, .inl (cI, 200, .inl (upd (upd (upd (upd f (Int32.toNatClampNeg 12) (((Int32.toUInt32 p0 >>> (Int32.toUInt32 24 &&& Int32.toUInt32 31)).toInt32) &&& 255)) (Int32.toNatClampNeg 13) (((Int32.toUInt32 p0 >>> (Int32.toUInt32 16 &&& Int32.toUInt32 31)).toInt32) &&& 255)) (Int32.toNatClampNeg 14) (((Int32.toUInt32 p0 >>> (Int32.toUInt32 8 &&& Int32.toUInt32 31)).toInt32) &&& 255)) (Int32.toNatClampNeg 15) (((Int32.toUInt32 p0 >>> (Int32.toUInt32 0 &&& Int32.toUInt32 31)).toInt32) &&& 255))))]) [0, 1] (by decide) rfl
  have hK9 := hK.sub (tys' := [(cI, .int)]) [0] rfl
  exact W.vret hx hb hr (fun t ht hW => ⟨⟨((upd (upd (upd (upd f (Int32.toNatClampNeg 12) (((Int32.toUInt32 p0 >>> (Int32.toUInt32 24 &&& Int32.toUInt32 31)).toInt32) &&& 255)) (Int32.toNatClampNeg 13) (((Int32.toUInt32 p0 >>> (Int32.toUInt32 16 &&& Int32.toUInt32 31)).toInt32) &&& 255)) (Int32.toNatClampNeg 14) (((Int32.toUInt32 p0 >>> (Int32.toUInt32 8 &&& Int32.toUInt32 31)).toInt32) &&& 255)) (Int32.toNatClampNeg 15) (((Int32.toUInt32 p0 >>> (Int32.toUInt32 0 &&& Int32.toUInt32 31)).toInt32) &&& 255))), rfl, trivial, by rw [ht]; exact hP9, va_K.moved hW.alike hK9, hD9⟩, hS.F ht⟩) hS.2.2 dX6_append_49

set_option maxHeartbeats 4000000 in
set_option maxRecDepth 100000 in
theorem k_append16 (l : Launch) (dC : Nat → ClassId) (dI : Nat → Nat → Nat) (a : Nat → Nat) (cI : ClassId) (f : Nat → Int32) (p0 : Int32) (sz : Nat) : Met l yX6_append (zz_w yX6_append cX6_append 3 none) ({ frames := 0, cells := 0, slots := 0, locals := 0 }) (va_Pc [.ref (a 24), .int p0] (zz_B (dC, dI) sz [(a 24, .inr (6, [.ref (a 25), .int 16])), (a 25, .inl (cI, 200, .inl f))] [(cI, .int)])) (va_Qv (fun (_ : Nat → Int32) => True) (fun (u0 : Nat → Int32) (t : State) => va_P (dC, dI) vwCl [(a 24, .inr (6, [.ref (a 25), .int 20])), (a 25, .inl (cI, 200, .inl u0))] t.heap ∧ va_K (dC, dI) vwCl [(cI, .int)] t ∧ va_D (va_A [(a 24, .inr (6, [.ref (a 25), .int 16])), (a 25, .inl (cI, 200, .inl f))] sz) [(a 24, .inr (6, [.ref (a 25), .int 20])), (a 25, .inl (cI, 200, .inl u0))]) (va_A [(a 24, .inr (6, [.ref (a 25), .int 16])), (a 25, .inl (cI, 200, .inl f))] sz)) 0 0 (va_A [(a 24, .inr (6, [.ref (a 25), .int 16])), (a 25, .inl (cI, 200, .inl f))] sz) := by
  refine Met.ofW (cc := cX6_append) (maxL := 3) (ret := none) (by decide) rfl ?_
  intro p e s m args below meth c s₁ B hml hv
  obtain ⟨rfl, hsz, hP, hK, hD0, hN⟩ := hv
  have hx := B.exec
  have hb := B.bytes
  have hr := B.returns
  have hts := atoms_spec (ws := zz_w yX6_append cX6_append 3 none) B.pre
  have hw : ∀ w ∈ zz_all, w.before _ s = true := fun w h => hts w (List.mem_cons_of_mem _ h)
  have hown : s.vm.findClass RX6 = some m.cls := findClass_of_methodNamed B.named
  have hlocks := B.notSynchronized
  subst hsz
  have hD := hD0.self (sz := s.heap.size)
  generalize hAe : va_A [(a 24, .inr (6, [.ref (a 25), .int 16])), (a 25, .inl (cI, 200, .inl f))] s.heap.size = A at hD ⊢
  have hA : ∀ q : Nat, s.heap.size ≤ q → A q := fun q h => by rw [← hAe]; exact Or.inr h
  have hS : va_S A s.heap s.heap [] := va_S.rf
  have hP : va_P (dC, dI) vwCl [(a 24, .inr (6, [.ref (a 25), .int 16])), (a 25, .inl (cI, 200, .inl f))] s.heap := hP
  have hl := lv_entry ([.ref (a 24), .int p0]) (n := 3) (Nat.le_of_ble_eq_true rfl)
  rw [lg_entry_eq]
  generalize (lg_sl ([.ref (a 24), .int p0]) ++ List.replicate (3 - (lg_sl ([.ref (a 24), .int p0])).length) Slot.unset).toArray = ls at hl ⊢
  have hl : lv_has ls 3 [(0, .ref (a 24)), (1, .int p0)] := hl
  refine lv_bipush (v := 24) hx hb dX6_append_0 (by decide) ?_
  refine lv_istore_n (lv' := [(2, .int 24), (0, .ref (a 24)), (1, .int p0)]) hx hb dX6_append_2 rfl hl (by decide) rfl (fun ls hl => ?_)
  refine lv_iload_n hx hb dX6_append_3 rfl (lv_at hl 0 rfl) ?_
  refine lv_if_lt (tgt := 49) hx hb dX6_append_4 (by decide) (fun c_9 => absurd c_9 (by decide)) (fun _ => ?_)
  refine lv_aload_n hx hb dX6_append_7 rfl (lv_at hl 1 rfl) ?_
  refine va_get (D := (dC, dI)) (ci := 6) (v := .int 16) (C := RX6) (T := TX6) (N := 2) hx hb hw zz_inX6 hown hK hP 0 rfl rfl 1 (by decide) (hw _ tw_12) (fun _ h9 => h9) rfl dX6_append_8 ?_
  refine lv_sipush (v := 200) hx hb dX6_append_11 (by decide) ?_
  refine lv_icmp_ge (tgt := 49) hx hb dX6_append_14 (by decide) (fun c_9 => absurd c_9 (by decide)) (fun _ => ?_)
  refine lv_aload_n hx hb dX6_append_17 rfl (lv_at hl 1 rfl) ?_
  refine va_get (D := (dC, dI)) (ci := 6) (v := .ref (a 25)) (C := RX6) (T := TX6) (N := 2) hx hb hw zz_inX6 hown hK hP 0 rfl rfl 0 (by decide) (hw _ tw_13) (fun _ h9 => h9) rfl dX6_append_18 ?_
  refine lv_aload_n hx hb dX6_append_21 rfl (lv_at hl 1 rfl) ?_
  refine va_get (D := (dC, dI)) (ci := 6) (v := .int 16) (C := RX6) (T := TX6) (N := 2) hx hb hw zz_inX6 hown hK hP 0 rfl rfl 1 (by decide) (hw _ tw_12) (fun _ h9 => h9) rfl dX6_append_22 ?_
  refine lv_iload_n hx hb dX6_append_25 rfl (lv_at hl 2 rfl) ?_
  refine lv_iload_n hx hb dX6_append_26 rfl (lv_at hl 0 rfl) ?_
  refine lv_iushr (v := (Int32.toUInt32 p0 >>> (Int32.toUInt32 24 &&& Int32.toUInt32 31)).toInt32) hx hb dX6_append_27 rfl ?_
  refine lv_sipush (v := 255) hx hb dX6_append_28 (by decide) ?_
  refine lv_iand hx hb dX6_append_31 ?_
  refine va_iast hx hb hK hP hD hS 1 0 rfl rfl (zz_vin (by decide)) dX6_append_32 (fun H locs hP hD hS => ?_)
  have hP : va_P (dC, dI) vwCl [(a 24, .inr (6, [.ref (a 25), .int 16])), (a 25, .inl (cI, 200, .inl (upd f (Int32.toNatClampNeg 16) (((Int32.toUInt32 p0 >>> (Int32.toUInt32 24 &&& Int32.toUInt32 31)).toInt32) &&& 255))))] H := hP
  have hD : va_D A [(a 24, .inr (6, [.ref (a 25), .int 16])), (a 25, .inl (cI, 200, .inl (upd f (Int32.toNatClampNeg 16) (((Int32.toUInt32 p0 >>> (Int32.toUInt32 24 &&& Int32.toUInt32 31)).toInt32) &&& 255))))] := hD
  refine lv_aload_n hx hb dX6_append_33 rfl (lv_at hl 1 rfl) ?_
  refine lv_dup hx hb dX6_append_34 rfl ?_
  refine va_get (D := (dC, dI)) (ci := 6) (v := .int 16) (C := RX6) (T := TX6) (N := 2) hx hb hw zz_inX6 hown hK hP 0 rfl rfl 1 (by decide) (hw _ tw_12) (fun _ h9 => h9) rfl dX6_append_35 ?_
  refine lv_iconst (v := 1) hx hb dX6_append_38 (by decide) ?_
  refine lv_iadd hx hb dX6_append_39 ?_
  refine zz_seti 17 (by decide) ?_
  refine va_put (D := (dC, dI)) (ci := 6) (v := .int 17) (ty := .int) (C := RX6) (T := TX6) (N := 2) hx hb hw zz_inX6 tyX6 tyX6_ok nmX6 hown hK hP hD hS 0 rfl rfl 1 (by decide) (hw _ tw_12) (fun _ h9 => h9) rfl (by decide +kernel) rfl rfl (Nat.le_of_ble_eq_true rfl) dX6_append_40 (fun H locs hP hD hS => ?_)
  have hP : va_P (dC, dI) vwCl [(a 24, .inr (6, [.ref (a 25), .int 17])), (a 25, .inl (cI, 200, .inl (upd f (Int32.toNatClampNeg 16) (((Int32.toUInt32 p0 >>> (Int32.toUInt32 24 &&& Int32.toUInt32 31)).toInt32) &&& 255))))] H := hP
  have hD : va_D A [(a 24, .inr (6, [.ref (a 25), .int 17])), (a 25, .inl (cI, 200, .inl (upd f (Int32.toNatClampNeg 16) (((Int32.toUInt32 p0 >>> (Int32.toUInt32 24 &&& Int32.toUInt32 31)).toInt32) &&& 255))))] := hD
  refine lv_iinc (v := 16) (lv' := [(2, .int 16), (0, .ref (a 24)), (1, .int p0)]) hx hb dX6_append_43 hl (k := 0) rfl (by decide) (by decide) rfl (fun ls hl => ?_)
  refine lv_goto (tgt := 3) hx hb dX6_append_46 (by decide) ?_
  refine lv_iload_n hx hb dX6_append_3 rfl (lv_at hl 0 rfl) ?_
  refine lv_if_lt (tgt := 49) hx hb dX6_append_4 (by decide) (fun c_9 => absurd c_9 (by decide)) (fun _ => ?_)
  refine lv_aload_n hx hb dX6_append_7 rfl (lv_at hl 1 rfl) ?_
  refine va_get (D := (dC, dI)) (ci := 6) (v := .int 17) (C := RX6) (T := TX6) (N := 2) hx hb hw zz_inX6 hown hK hP 0 rfl rfl 1 (by decide) (hw _ tw_12) (fun _ h9 => h9) rfl dX6_append_8 ?_
  refine lv_sipush (v := 200) hx hb dX6_append_11 (by decide) ?_
  refine lv_icmp_ge (tgt := 49) hx hb dX6_append_14 (by decide) (fun c_9 => absurd c_9 (by decide)) (fun _ => ?_)
  refine lv_aload_n hx hb dX6_append_17 rfl (lv_at hl 1 rfl) ?_
  refine va_get (D := (dC, dI)) (ci := 6) (v := .ref (a 25)) (C := RX6) (T := TX6) (N := 2) hx hb hw zz_inX6 hown hK hP 0 rfl rfl 0 (by decide) (hw _ tw_13) (fun _ h9 => h9) rfl dX6_append_18 ?_
  refine lv_aload_n hx hb dX6_append_21 rfl (lv_at hl 1 rfl) ?_
  refine va_get (D := (dC, dI)) (ci := 6) (v := .int 17) (C := RX6) (T := TX6) (N := 2) hx hb hw zz_inX6 hown hK hP 0 rfl rfl 1 (by decide) (hw _ tw_12) (fun _ h9 => h9) rfl dX6_append_22 ?_
  refine lv_iload_n hx hb dX6_append_25 rfl (lv_at hl 2 rfl) ?_
  refine lv_iload_n hx hb dX6_append_26 rfl (lv_at hl 0 rfl) ?_
  refine lv_iushr (v := (Int32.toUInt32 p0 >>> (Int32.toUInt32 16 &&& Int32.toUInt32 31)).toInt32) hx hb dX6_append_27 rfl ?_
  refine lv_sipush (v := 255) hx hb dX6_append_28 (by decide) ?_
  refine lv_iand hx hb dX6_append_31 ?_
  refine va_iast hx hb hK hP hD hS 1 0 rfl rfl (zz_vin (by decide)) dX6_append_32 (fun H locs hP hD hS => ?_)
  have hP : va_P (dC, dI) vwCl [(a 24, .inr (6, [.ref (a 25), .int 17])), (a 25, .inl (cI, 200, .inl (upd (upd f (Int32.toNatClampNeg 16) (((Int32.toUInt32 p0 >>> (Int32.toUInt32 24 &&& Int32.toUInt32 31)).toInt32) &&& 255)) (Int32.toNatClampNeg 17) (((Int32.toUInt32 p0 >>> (Int32.toUInt32 16 &&& Int32.toUInt32 31)).toInt32) &&& 255))))] H := hP
  have hD : va_D A [(a 24, .inr (6, [.ref (a 25), .int 17])), (a 25, .inl (cI, 200, .inl (upd (upd f (Int32.toNatClampNeg 16) (((Int32.toUInt32 p0 >>> (Int32.toUInt32 24 &&& Int32.toUInt32 31)).toInt32) &&& 255)) (Int32.toNatClampNeg 17) (((Int32.toUInt32 p0 >>> (Int32.toUInt32 16 &&& Int32.toUInt32 31)).toInt32) &&& 255))))] := hD
  refine lv_aload_n hx hb dX6_append_33 rfl (lv_at hl 1 rfl) ?_
  refine lv_dup hx hb dX6_append_34 rfl ?_
  refine va_get (D := (dC, dI)) (ci := 6) (v := .int 17) (C := RX6) (T := TX6) (N := 2) hx hb hw zz_inX6 hown hK hP 0 rfl rfl 1 (by decide) (hw _ tw_12) (fun _ h9 => h9) rfl dX6_append_35 ?_
  refine lv_iconst (v := 1) hx hb dX6_append_38 (by decide) ?_
  refine lv_iadd hx hb dX6_append_39 ?_
  refine zz_seti 18 (by decide) ?_
  refine va_put (D := (dC, dI)) (ci := 6) (v := .int 18) (ty := .int) (C := RX6) (T := TX6) (N := 2) hx hb hw zz_inX6 tyX6 tyX6_ok nmX6 hown hK hP hD hS 0 rfl rfl 1 (by decide) (hw _ tw_12) (fun _ h9 => h9) rfl (by decide +kernel) rfl rfl (Nat.le_of_ble_eq_true rfl) dX6_append_40 (fun H locs hP hD hS => ?_)
  have hP : va_P (dC, dI) vwCl [(a 24, .inr (6, [.ref (a 25), .int 18])), (a 25, .inl (cI, 200, .inl (upd (upd f (Int32.toNatClampNeg 16) (((Int32.toUInt32 p0 >>> (Int32.toUInt32 24 &&& Int32.toUInt32 31)).toInt32) &&& 255)) (Int32.toNatClampNeg 17) (((Int32.toUInt32 p0 >>> (Int32.toUInt32 16 &&& Int32.toUInt32 31)).toInt32) &&& 255))))] H := hP
  have hD : va_D A [(a 24, .inr (6, [.ref (a 25), .int 18])), (a 25, .inl (cI, 200, .inl (upd (upd f (Int32.toNatClampNeg 16) (((Int32.toUInt32 p0 >>> (Int32.toUInt32 24 &&& Int32.toUInt32 31)).toInt32) &&& 255)) (Int32.toNatClampNeg 17) (((Int32.toUInt32 p0 >>> (Int32.toUInt32 16 &&& Int32.toUInt32 31)).toInt32) &&& 255))))] := hD
  refine lv_iinc (v := 8) (lv' := [(2, .int 8), (0, .ref (a 24)), (1, .int p0)]) hx hb dX6_append_43 hl (k := 0) rfl (by decide) (by decide) rfl (fun ls hl => ?_)
  refine lv_goto (tgt := 3) hx hb dX6_append_46 (by decide) ?_
  refine lv_iload_n hx hb dX6_append_3 rfl (lv_at hl 0 rfl) ?_
  refine lv_if_lt (tgt := 49) hx hb dX6_append_4 (by decide) (fun c_9 => absurd c_9 (by decide)) (fun _ => ?_)
  refine lv_aload_n hx hb dX6_append_7 rfl (lv_at hl 1 rfl) ?_
  refine va_get (D := (dC, dI)) (ci := 6) (v := .int 18) (C := RX6) (T := TX6) (N := 2) hx hb hw zz_inX6 hown hK hP 0 rfl rfl 1 (by decide) (hw _ tw_12) (fun _ h9 => h9) rfl dX6_append_8 ?_
  refine lv_sipush (v := 200) hx hb dX6_append_11 (by decide) ?_
  refine lv_icmp_ge (tgt := 49) hx hb dX6_append_14 (by decide) (fun c_9 => absurd c_9 (by decide)) (fun _ => ?_)
  refine lv_aload_n hx hb dX6_append_17 rfl (lv_at hl 1 rfl) ?_
  refine va_get (D := (dC, dI)) (ci := 6) (v := .ref (a 25)) (C := RX6) (T := TX6) (N := 2) hx hb hw zz_inX6 hown hK hP 0 rfl rfl 0 (by decide) (hw _ tw_13) (fun _ h9 => h9) rfl dX6_append_18 ?_
  refine lv_aload_n hx hb dX6_append_21 rfl (lv_at hl 1 rfl) ?_
  refine va_get (D := (dC, dI)) (ci := 6) (v := .int 18) (C := RX6) (T := TX6) (N := 2) hx hb hw zz_inX6 hown hK hP 0 rfl rfl 1 (by decide) (hw _ tw_12) (fun _ h9 => h9) rfl dX6_append_22 ?_
  refine lv_iload_n hx hb dX6_append_25 rfl (lv_at hl 2 rfl) ?_
  refine lv_iload_n hx hb dX6_append_26 rfl (lv_at hl 0 rfl) ?_
  refine lv_iushr (v := (Int32.toUInt32 p0 >>> (Int32.toUInt32 8 &&& Int32.toUInt32 31)).toInt32) hx hb dX6_append_27 rfl ?_
  refine lv_sipush (v := 255) hx hb dX6_append_28 (by decide) ?_
  refine lv_iand hx hb dX6_append_31 ?_
  refine va_iast hx hb hK hP hD hS 1 0 rfl rfl (zz_vin (by decide)) dX6_append_32 (fun H locs hP hD hS => ?_)
  have hP : va_P (dC, dI) vwCl [(a 24, .inr (6, [.ref (a 25), .int 18])), (a 25, .inl (cI, 200, .inl (upd (upd (upd f (Int32.toNatClampNeg 16) (((Int32.toUInt32 p0 >>> (Int32.toUInt32 24 &&& Int32.toUInt32 31)).toInt32) &&& 255)) (Int32.toNatClampNeg 17) (((Int32.toUInt32 p0 >>> (Int32.toUInt32 16 &&& Int32.toUInt32 31)).toInt32) &&& 255)) (Int32.toNatClampNeg 18) (((Int32.toUInt32 p0 >>> (Int32.toUInt32 8 &&& Int32.toUInt32 31)).toInt32) &&& 255))))] H := hP
  have hD : va_D A [(a 24, .inr (6, [.ref (a 25), .int 18])), (a 25, .inl (cI, 200, .inl (upd (upd (upd f (Int32.toNatClampNeg 16) (((Int32.toUInt32 p0 >>> (Int32.toUInt32 24 &&& Int32.toUInt32 31)).toInt32) &&& 255)) (Int32.toNatClampNeg 17) (((Int32.toUInt32 p0 >>> (Int32.toUInt32 16 &&& Int32.toUInt32 31)).toInt32) &&& 255)) (Int32.toNatClampNeg 18) (((Int32.toUInt32 p0 >>> (Int32.toUInt32 8 &&& Int32.toUInt32 31)).toInt32) &&& 255))))] := hD
  refine lv_aload_n hx hb dX6_append_33 rfl (lv_at hl 1 rfl) ?_
  refine lv_dup hx hb dX6_append_34 rfl ?_
  refine va_get (D := (dC, dI)) (ci := 6) (v := .int 18) (C := RX6) (T := TX6) (N := 2) hx hb hw zz_inX6 hown hK hP 0 rfl rfl 1 (by decide) (hw _ tw_12) (fun _ h9 => h9) rfl dX6_append_35 ?_
  refine lv_iconst (v := 1) hx hb dX6_append_38 (by decide) ?_
  refine lv_iadd hx hb dX6_append_39 ?_
  refine zz_seti 19 (by decide) ?_
  refine va_put (D := (dC, dI)) (ci := 6) (v := .int 19) (ty := .int) (C := RX6) (T := TX6) (N := 2) hx hb hw zz_inX6 tyX6 tyX6_ok nmX6 hown hK hP hD hS 0 rfl rfl 1 (by decide) (hw _ tw_12) (fun _ h9 => h9) rfl (by decide +kernel) rfl rfl (Nat.le_of_ble_eq_true rfl) dX6_append_40 (fun H locs hP hD hS => ?_)
  have hP : va_P (dC, dI) vwCl [(a 24, .inr (6, [.ref (a 25), .int 19])), (a 25, .inl (cI, 200, .inl (upd (upd (upd f (Int32.toNatClampNeg 16) (((Int32.toUInt32 p0 >>> (Int32.toUInt32 24 &&& Int32.toUInt32 31)).toInt32) &&& 255)) (Int32.toNatClampNeg 17) (((Int32.toUInt32 p0 >>> (Int32.toUInt32 16 &&& Int32.toUInt32 31)).toInt32) &&& 255)) (Int32.toNatClampNeg 18) (((Int32.toUInt32 p0 >>> (Int32.toUInt32 8 &&& Int32.toUInt32 31)).toInt32) &&& 255))))] H := hP
  have hD : va_D A [(a 24, .inr (6, [.ref (a 25), .int 19])), (a 25, .inl (cI, 200, .inl (upd (upd (upd f (Int32.toNatClampNeg 16) (((Int32.toUInt32 p0 >>> (Int32.toUInt32 24 &&& Int32.toUInt32 31)).toInt32) &&& 255)) (Int32.toNatClampNeg 17) (((Int32.toUInt32 p0 >>> (Int32.toUInt32 16 &&& Int32.toUInt32 31)).toInt32) &&& 255)) (Int32.toNatClampNeg 18) (((Int32.toUInt32 p0 >>> (Int32.toUInt32 8 &&& Int32.toUInt32 31)).toInt32) &&& 255))))] := hD
  refine lv_iinc (v := 0) (lv' := [(2, .int 0), (0, .ref (a 24)), (1, .int p0)]) hx hb dX6_append_43 hl (k := 0) rfl (by decide) (by decide) rfl (fun ls hl => ?_)
  refine lv_goto (tgt := 3) hx hb dX6_append_46 (by decide) ?_
  refine lv_iload_n hx hb dX6_append_3 rfl (lv_at hl 0 rfl) ?_
  refine lv_if_lt (tgt := 49) hx hb dX6_append_4 (by decide) (fun c_9 => absurd c_9 (by decide)) (fun _ => ?_)
  refine lv_aload_n hx hb dX6_append_7 rfl (lv_at hl 1 rfl) ?_
  refine va_get (D := (dC, dI)) (ci := 6) (v := .int 19) (C := RX6) (T := TX6) (N := 2) hx hb hw zz_inX6 hown hK hP 0 rfl rfl 1 (by decide) (hw _ tw_12) (fun _ h9 => h9) rfl dX6_append_8 ?_
  refine lv_sipush (v := 200) hx hb dX6_append_11 (by decide) ?_
  refine lv_icmp_ge (tgt := 49) hx hb dX6_append_14 (by decide) (fun c_9 => absurd c_9 (by decide)) (fun _ => ?_)
  refine lv_aload_n hx hb dX6_append_17 rfl (lv_at hl 1 rfl) ?_
  refine va_get (D := (dC, dI)) (ci := 6) (v := .ref (a 25)) (C := RX6) (T := TX6) (N := 2) hx hb hw zz_inX6 hown hK hP 0 rfl rfl 0 (by decide) (hw _ tw_13) (fun _ h9 => h9) rfl dX6_append_18 ?_
  refine lv_aload_n hx hb dX6_append_21 rfl (lv_at hl 1 rfl) ?_
  refine va_get (D := (dC, dI)) (ci := 6) (v := .int 19) (C := RX6) (T := TX6) (N := 2) hx hb hw zz_inX6 hown hK hP 0 rfl rfl 1 (by decide) (hw _ tw_12) (fun _ h9 => h9) rfl dX6_append_22 ?_
  refine lv_iload_n hx hb dX6_append_25 rfl (lv_at hl 2 rfl) ?_
  refine lv_iload_n hx hb dX6_append_26 rfl (lv_at hl 0 rfl) ?_
  refine lv_iushr (v := (Int32.toUInt32 p0 >>> (Int32.toUInt32 0 &&& Int32.toUInt32 31)).toInt32) hx hb dX6_append_27 rfl ?_
  refine lv_sipush (v := 255) hx hb dX6_append_28 (by decide) ?_
  refine lv_iand hx hb dX6_append_31 ?_
  refine va_iast hx hb hK hP hD hS 1 0 rfl rfl (zz_vin (by decide)) dX6_append_32 (fun H locs hP hD hS => ?_)
  have hP : va_P (dC, dI) vwCl [(a 24, .inr (6, [.ref (a 25), .int 19])), (a 25, .inl (cI, 200, .inl (upd (upd (upd (upd f (Int32.toNatClampNeg 16) (((Int32.toUInt32 p0 >>> (Int32.toUInt32 24 &&& Int32.toUInt32 31)).toInt32) &&& 255)) (Int32.toNatClampNeg 17) (((Int32.toUInt32 p0 >>> (Int32.toUInt32 16 &&& Int32.toUInt32 31)).toInt32) &&& 255)) (Int32.toNatClampNeg 18) (((Int32.toUInt32 p0 >>> (Int32.toUInt32 8 &&& Int32.toUInt32 31)).toInt32) &&& 255)) (Int32.toNatClampNeg 19) (((Int32.toUInt32 p0 >>> (Int32.toUInt32 0 &&& Int32.toUInt32 31)).toInt32) &&& 255))))] H := hP
  have hD : va_D A [(a 24, .inr (6, [.ref (a 25), .int 19])), (a 25, .inl (cI, 200, .inl (upd (upd (upd (upd f (Int32.toNatClampNeg 16) (((Int32.toUInt32 p0 >>> (Int32.toUInt32 24 &&& Int32.toUInt32 31)).toInt32) &&& 255)) (Int32.toNatClampNeg 17) (((Int32.toUInt32 p0 >>> (Int32.toUInt32 16 &&& Int32.toUInt32 31)).toInt32) &&& 255)) (Int32.toNatClampNeg 18) (((Int32.toUInt32 p0 >>> (Int32.toUInt32 8 &&& Int32.toUInt32 31)).toInt32) &&& 255)) (Int32.toNatClampNeg 19) (((Int32.toUInt32 p0 >>> (Int32.toUInt32 0 &&& Int32.toUInt32 31)).toInt32) &&& 255))))] := hD
  refine lv_aload_n hx hb dX6_append_33 rfl (lv_at hl 1 rfl) ?_
  refine lv_dup hx hb dX6_append_34 rfl ?_
  refine va_get (D := (dC, dI)) (ci := 6) (v := .int 19) (C := RX6) (T := TX6) (N := 2) hx hb hw zz_inX6 hown hK hP 0 rfl rfl 1 (by decide) (hw _ tw_12) (fun _ h9 => h9) rfl dX6_append_35 ?_
  refine lv_iconst (v := 1) hx hb dX6_append_38 (by decide) ?_
  refine lv_iadd hx hb dX6_append_39 ?_
  refine zz_seti 20 (by decide) ?_
  refine va_put (D := (dC, dI)) (ci := 6) (v := .int 20) (ty := .int) (C := RX6) (T := TX6) (N := 2) hx hb hw zz_inX6 tyX6 tyX6_ok nmX6 hown hK hP hD hS 0 rfl rfl 1 (by decide) (hw _ tw_12) (fun _ h9 => h9) rfl (by decide +kernel) rfl rfl (Nat.le_of_ble_eq_true rfl) dX6_append_40 (fun H locs hP hD hS => ?_)
  have hP : va_P (dC, dI) vwCl [(a 24, .inr (6, [.ref (a 25), .int 20])), (a 25, .inl (cI, 200, .inl (upd (upd (upd (upd f (Int32.toNatClampNeg 16) (((Int32.toUInt32 p0 >>> (Int32.toUInt32 24 &&& Int32.toUInt32 31)).toInt32) &&& 255)) (Int32.toNatClampNeg 17) (((Int32.toUInt32 p0 >>> (Int32.toUInt32 16 &&& Int32.toUInt32 31)).toInt32) &&& 255)) (Int32.toNatClampNeg 18) (((Int32.toUInt32 p0 >>> (Int32.toUInt32 8 &&& Int32.toUInt32 31)).toInt32) &&& 255)) (Int32.toNatClampNeg 19) (((Int32.toUInt32 p0 >>> (Int32.toUInt32 0 &&& Int32.toUInt32 31)).toInt32) &&& 255))))] H := hP
  have hD : va_D A [(a 24, .inr (6, [.ref (a 25), .int 20])), (a 25, .inl (cI, 200, .inl (upd (upd (upd (upd f (Int32.toNatClampNeg 16) (((Int32.toUInt32 p0 >>> (Int32.toUInt32 24 &&& Int32.toUInt32 31)).toInt32) &&& 255)) (Int32.toNatClampNeg 17) (((Int32.toUInt32 p0 >>> (Int32.toUInt32 16 &&& Int32.toUInt32 31)).toInt32) &&& 255)) (Int32.toNatClampNeg 18) (((Int32.toUInt32 p0 >>> (Int32.toUInt32 8 &&& Int32.toUInt32 31)).toInt32) &&& 255)) (Int32.toNatClampNeg 19) (((Int32.toUInt32 p0 >>> (Int32.toUInt32 0 &&& Int32.toUInt32 31)).toInt32) &&& 255))))] := hD
  refine lv_iinc (v := (-8)) (lv' := [(2, .int (-8)), (0, .ref (a 24)), (1, .int p0)]) hx hb dX6_append_43 hl (k := 0) rfl (by decide) (by decide) rfl (fun ls hl => ?_)
  refine lv_goto (tgt := 3) hx hb dX6_append_46 (by decide) ?_
  refine lv_iload_n hx hb dX6_append_3 rfl (lv_at hl 0 rfl) ?_
  refine lv_if_lt (tgt := 49) hx hb dX6_append_4 (by decide) (fun _ => ?_) (fun c_9 => absurd c_9 (by decide))
  have hP9 := hP.sub (ws' := [(a 24, .inr (6, [.ref (a 25), .int 20])), (a 25, .inl (cI, 200, .inl (upd (upd (upd (upd f (Int32.toNatClampNeg 16) (((Int32.toUInt32 p0 >>> (Int32.toUInt32 24 &&& Int32.toUInt32 31)).toInt32) &&& 255)) (Int32.toNatClampNeg 17) (((Int32.toUInt32 p0 >>> (Int32.toUInt32 16 &&& Int32.toUInt32 31)).toInt32) &&& 255)) (Int32.toNatClampNeg 18) (((Int32.toUInt32 p0 >>> (Int32.toUInt32 8 &&& Int32.toUInt32 31)).toInt32) &&& 255)) (Int32.toNatClampNeg 19) (((Int32.toUInt32 p0 >>> (Int32.toUInt32 0 &&& Int32.toUInt32 31)).toInt32) &&& 255))))]) [0, 1] rfl
  have hD9 := hD.sub (ws' := [(a 24, .inr (6, [.ref (a 25), .int 20])), (a 25, .inl (cI, 200, .inl (upd (upd (upd (upd f (Int32.toNatClampNeg 16) (((Int32.toUInt32 p0 >>> (Int32.toUInt32 24 &&& Int32.toUInt32 31)).toInt32) &&& 255)) (Int32.toNatClampNeg 17) (((Int32.toUInt32 p0 >>> (Int32.toUInt32 16 &&& Int32.toUInt32 31)).toInt32) &&& 255)) (Int32.toNatClampNeg 18) (((Int32.toUInt32 p0 >>> (Int32.toUInt32 8 &&& Int32.toUInt32 31)).toInt32) &&& 255)) (Int32.toNatClampNeg 19) (((Int32.toUInt32 p0 >>> (Int32.toUInt32 0 &&& Int32.toUInt32 31)).toInt32) &&& 255))))]) [0, 1] (by decide) rfl
  have hK9 := hK.sub (tys' := [(cI, .int)]) [0] rfl
  exact W.vret hx hb hr (fun t ht hW => ⟨⟨((upd (upd (upd (upd f (Int32.toNatClampNeg 16) (((Int32.toUInt32 p0 >>> (Int32.toUInt32 24 &&& Int32.toUInt32 31)).toInt32) &&& 255)) (Int32.toNatClampNeg 17) (((Int32.toUInt32 p0 >>> (Int32.toUInt32 16 &&& Int32.toUInt32 31)).toInt32) &&& 255)) (Int32.toNatClampNeg 18) (((Int32.toUInt32 p0 >>> (Int32.toUInt32 8 &&& Int32.toUInt32 31)).toInt32) &&& 255)) (Int32.toNatClampNeg 19) (((Int32.toUInt32 p0 >>> (Int32.toUInt32 0 &&& Int32.toUInt32 31)).toInt32) &&& 255))), rfl, trivial, by rw [ht]; exact hP9, va_K.moved hW.alike hK9, hD9⟩, hS.F ht⟩) hS.2.2 dX6_append_49

set_option maxHeartbeats 4000000 in
set_option maxRecDepth 100000 in
theorem k_feed (l : Launch) (dC : Nat → ClassId) (dI : Nat → Nat → Nat) (a : Nat → Nat) (cI : ClassId) (p0 : Int32) (p1 : Int32) (p2 : Int32) (p3 : Int32) (p4 : Int32) (sz : Nat) : Met l yX7_feed (zz_w yX7_feed cX7_feed 6 (some .int)) ({ frames := 1, cells := 0, slots := 0, locals := 22 }) (va_Pc [.ref (a 0), .int p0, .int p1, .int p2, .int p3, .int p4] (zz_B (dC, dI) sz [(a 0, .inr (7, [.ref (a 1), .ref (a 10), .ref (a 23), .ref (a 24), .ref (a 26), .ref (a 29), .ref (a 34), .ref (a 43), .int 0, .int 0, .int 0, .int 0])), (a 24, .inr (6, [.ref (a 25), .int 0])), (a 25, .inl (cI, 200, .inl (fun _ => (0 : Int32))))] [(cI, .int)])) (va_Qi (fun (r : Int32) (_ : Unit) => r = 20) (fun _ _ => True) (va_A [(a 0, .inr (7, [.ref (a 1), .ref (a 10), .ref (a 23), .ref (a 24), .ref (a 26), .ref (a 29), .ref (a 34), .ref (a 43), .int 0, .int 0, .int 0, .int 0])), (a 24, .inr (6, [.ref (a 25), .int 0])), (a 25, .inl (cI, 200, .inl (fun _ => (0 : Int32))))] sz)) 0 0 (va_A [(a 0, .inr (7, [.ref (a 1), .ref (a 10), .ref (a 23), .ref (a 24), .ref (a 26), .ref (a 29), .ref (a 34), .ref (a 43), .int 0, .int 0, .int 0, .int 0])), (a 24, .inr (6, [.ref (a 25), .int 0])), (a 25, .inl (cI, 200, .inl (fun _ => (0 : Int32))))] sz) := by
  refine Met.ofW (cc := cX7_feed) (maxL := 6) (ret := (some .int)) (by decide) rfl ?_
  intro p e s m args below meth c s₁ B hml hv
  obtain ⟨rfl, hsz, hP, hK, hD0, hN⟩ := hv
  have hx := B.exec
  have hb := B.bytes
  have hr := B.returns
  have hts := atoms_spec (ws := zz_w yX7_feed cX7_feed 6 (some .int)) B.pre
  have hw : ∀ w ∈ zz_all, w.before _ s = true := fun w h => hts w (List.mem_cons_of_mem _ h)
  have hown : s.vm.findClass RX7 = some m.cls := findClass_of_methodNamed B.named
  have hlocks := B.notSynchronized
  subst hsz
  have hD := hD0.self (sz := s.heap.size)
  generalize hAe : va_A [(a 0, .inr (7, [.ref (a 1), .ref (a 10), .ref (a 23), .ref (a 24), .ref (a 26), .ref (a 29), .ref (a 34), .ref (a 43), .int 0, .int 0, .int 0, .int 0])), (a 24, .inr (6, [.ref (a 25), .int 0])), (a 25, .inl (cI, 200, .inl (fun _ => (0 : Int32))))] s.heap.size = A at hD ⊢
  have hA : ∀ q : Nat, s.heap.size ≤ q → A q := fun q h => by rw [← hAe]; exact Or.inr h
  have hS : va_S A s.heap s.heap [] := va_S.rf
  have hP : va_P (dC, dI) vwCl [(a 0, .inr (7, [.ref (a 1), .ref (a 10), .ref (a 23), .ref (a 24), .ref (a 26), .ref (a 29), .ref (a 34), .ref (a 43), .int 0, .int 0, .int 0, .int 0])), (a 24, .inr (6, [.ref (a 25), .int 0])), (a 25, .inl (cI, 200, .inl (fun _ => (0 : Int32))))] s.heap := hP
  have hl := lv_entry ([.ref (a 0), .int p0, .int p1, .int p2, .int p3, .int p4]) (n := 6) (Nat.le_of_ble_eq_true rfl)
  rw [lg_entry_eq]
  generalize (lg_sl ([.ref (a 0), .int p0, .int p1, .int p2, .int p3, .int p4]) ++ List.replicate (6 - (lg_sl ([.ref (a 0), .int p0, .int p1, .int p2, .int p3, .int p4])).length) Slot.unset).toArray = ls at hl ⊢
  have hl : lv_has ls 6 [(0, .ref (a 0)), (1, .int p0), (2, .int p1), (3, .int p2), (4, .int p3), (5, .int p4)] := hl
  refine lv_aload_n hx hb dX7_feed_0 rfl (lv_at hl 0 rfl) ?_
  refine va_get (D := (dC, dI)) (ci := 7) (v := .ref (a 24)) (C := RX7) (T := TX7) (N := 12) hx hb hw zz_inX7 hown hK hP 0 rfl rfl 3 (by decide) (hw _ tw_14) (fun _ h9 => h9) rfl dX7_feed_1 ?_
  refine va_getN (D := (dC, dI)) (ci := 6) (v := .int 0) (C := RX6) (T := TX6) (N := 2) hx hb hw zz_inX6 hown hK hP 1 rfl rfl 1 (by decide) (hN.use zz_n23) (fun _ h9 => h9) rfl dX7_feed_4 ?_
  refine lv_sipush (v := 180) hx hb dX7_feed_7 (by decide) ?_
  refine lv_icmp_le (tgt := 15) hx hb dX7_feed_10 (by decide) (fun _ => ?_) (fun c_9 => absurd c_9 (by decide))
  refine lv_aload_n hx hb dX7_feed_15 rfl (lv_at hl 0 rfl) ?_
  refine va_get (D := (dC, dI)) (ci := 7) (v := .ref (a 24)) (C := RX7) (T := TX7) (N := 12) hx hb hw zz_inX7 hown hK hP 0 rfl rfl 3 (by decide) (hw _ tw_14) (fun _ h9 => h9) rfl dX7_feed_16 ?_
  refine lv_iload_n hx hb dX7_feed_19 rfl (lv_at hl 1 rfl) ?_
  have hPc := hP.sub (ws' := [(a 24, .inr (6, [.ref (a 25), .int 0])), (a 25, .inl (cI, 200, .inl (fun _ => (0 : Int32))))]) [1, 2] rfl
  have hDc := hD.sub (ws' := [(a 24, .inr (6, [.ref (a 25), .int 0])), (a 25, .inl (cI, 200, .inl (fun _ => (0 : Int32))))]) [1, 2] (by decide) rfl
  have hKc := hK.sub (tys' := [(cI, .int)]) [0] rfl
  have hFc := va_free (wc := [(a 24, .inr (6, [.ref (a 25), .int 0])), (a 25, .inl (cI, 200, .inl (fun _ => (0 : Int32))))]) hD hS hA [1, 2] rfl
  refine va_callv (va_runVN (As := [.int p0]) (rest := []) ⟨hx, hb, hml, hown, hw⟩ (k_append0 l dC dI a cI (fun _ => (0 : Int32)) p0 s.heap.size) ⟨va_cnB 1 hw (zz_good tw_15) rfl rfl rfl (hN.1 _ zz_n46) (hw _ tw_16) (by decide +kernel) ⟨Nat.le_of_ble_eq_true rfl, Nat.le_of_ble_eq_true rfl⟩, (hw _ tw_17), (hw _ tw_18)⟩ ⟨zz_blind, va_recv hKc hPc (ci := 6) (q0 := 0) rfl rfl, zz_pre hPc hKc hDc hN⟩ rfl rfl hl.1 rfl (lv_room (Nat.le_of_ble_eq_true rfl)) dX7_feed_20 ⟨Nat.le_of_ble_eq_true rfl, Nat.le_of_ble_eq_true rfl⟩) hS (fun q _ h => hFc q h) hFc (fun u_1 t H1 locs ht hvm e_1 hB hz1 hk1 hS => ?_)
  try dsimp only at e_1
  obtain ⟨v_1_0, rfl⟩ : ∃ z, z = u_1 := ⟨_, rfl⟩
  obtain ⟨hP1, hK1, hD1⟩ := hB
  rw [ht] at hP1
  have hK1 := va_K.moved hvm.symm hK1
  try dsimp only at e_1
  obtain ⟨hP, hD⟩ := va_join (wr := [(a 0, .inr (7, [.ref (a 1), .ref (a 10), .ref (a 23), .ref (a 24), .ref (a 26), .ref (a 29), .ref (a 34), .ref (a 43), .int 0, .int 0, .int 0, .int 0]))]) (w1 := [(a 24, .inr (6, [.ref (a 25), .int 4])), (a 25, .inl (cI, 200, .inl v_1_0))]) hP hD [1, 2] [0] rfl rfl (by decide) (by decide) hk1 hFc hP1 hD1
  clear hk1 ht hvm
  generalize H1 = H at hP hS ⊢
  have hP : va_P (dC, dI) vwCl [(a 0, .inr (7, [.ref (a 1), .ref (a 10), .ref (a 23), .ref (a 24), .ref (a 26), .ref (a 29), .ref (a 34), .ref (a 43), .int 0, .int 0, .int 0, .int 0])), (a 24, .inr (6, [.ref (a 25), .int 4])), (a 25, .inl (cI, 200, .inl v_1_0))] H := hP
  have hD : va_D A [(a 0, .inr (7, [.ref (a 1), .ref (a 10), .ref (a 23), .ref (a 24), .ref (a 26), .ref (a 29), .ref (a 34), .ref (a 43), .int 0, .int 0, .int 0, .int 0])), (a 24, .inr (6, [.ref (a 25), .int 4])), (a 25, .inl (cI, 200, .inl v_1_0))] := hD
  refine lv_aload_n hx hb dX7_feed_23 rfl (lv_at hl 0 rfl) ?_
  refine va_get (D := (dC, dI)) (ci := 7) (v := .ref (a 24)) (C := RX7) (T := TX7) (N := 12) hx hb hw zz_inX7 hown hK hP 0 rfl rfl 3 (by decide) (hw _ tw_14) (fun _ h9 => h9) rfl dX7_feed_24 ?_
  refine lv_iload_n hx hb dX7_feed_27 rfl (lv_at hl 2 rfl) ?_
  have hPc := hP.sub (ws' := [(a 24, .inr (6, [.ref (a 25), .int 4])), (a 25, .inl (cI, 200, .inl v_1_0))]) [1, 2] rfl
  have hDc := hD.sub (ws' := [(a 24, .inr (6, [.ref (a 25), .int 4])), (a 25, .inl (cI, 200, .inl v_1_0))]) [1, 2] (by decide) rfl
  have hKc := hK.sub (tys' := [(cI, .int)]) [0] rfl
  have hFc := va_free (wc := [(a 24, .inr (6, [.ref (a 25), .int 4])), (a 25, .inl (cI, 200, .inl v_1_0))]) hD hS hA [1, 2] rfl
  refine va_callv (va_runVN (As := [.int p1]) (rest := []) ⟨hx, hb, hml, hown, hw⟩ (k_append4 l dC dI a cI v_1_0 p1 H.size) ⟨va_cnB 1 hw (zz_good tw_15) rfl rfl rfl (hN.1 _ zz_n46) (hw _ tw_16) (by decide +kernel) ⟨Nat.le_of_ble_eq_true rfl, Nat.le_of_ble_eq_true rfl⟩, (hw _ tw_17), (hw _ tw_18)⟩ ⟨zz_blind, va_recv hKc hPc (ci := 6) (q0 := 0) rfl rfl, zz_pre hPc hKc hDc hN⟩ rfl rfl hl.1 rfl (lv_room (Nat.le_of_ble_eq_true rfl)) dX7_feed_28 ⟨Nat.le_of_ble_eq_true rfl, Nat.le_of_ble_eq_true rfl⟩) hS (fun q _ h => hFc q h) hFc (fun u_2 t H1 locs ht hvm e_2 hB hz1 hk1 hS => ?_)
  try dsimp only at e_2
  obtain ⟨v_2_0, rfl⟩ : ∃ z, z = u_2 := ⟨_, rfl⟩
  obtain ⟨hP1, hK1, hD1⟩ := hB
  rw [ht] at hP1
  have hK1 := va_K.moved hvm.symm hK1
  try dsimp only at e_2
  obtain ⟨hP, hD⟩ := va_join (wr := [(a 0, .inr (7, [.ref (a 1), .ref (a 10), .ref (a 23), .ref (a 24), .ref (a 26), .ref (a 29), .ref (a 34), .ref (a 43), .int 0, .int 0, .int 0, .int 0]))]) (w1 := [(a 24, .inr (6, [.ref (a 25), .int 8])), (a 25, .inl (cI, 200, .inl v_2_0))]) hP hD [1, 2] [0] rfl rfl (by decide) (by decide) hk1 hFc hP1 hD1
  clear hk1 ht hvm
  generalize H1 = H at hP hS ⊢
  have hP : va_P (dC, dI) vwCl [(a 0, .inr (7, [.ref (a 1), .ref (a 10), .ref (a 23), .ref (a 24), .ref (a 26), .ref (a 29), .ref (a 34), .ref (a 43), .int 0, .int 0, .int 0, .int 0])), (a 24, .inr (6, [.ref (a 25), .int 8])), (a 25, .inl (cI, 200, .inl v_2_0))] H := hP
  have hD : va_D A [(a 0, .inr (7, [.ref (a 1), .ref (a 10), .ref (a 23), .ref (a 24), .ref (a 26), .ref (a 29), .ref (a 34), .ref (a 43), .int 0, .int 0, .int 0, .int 0])), (a 24, .inr (6, [.ref (a 25), .int 8])), (a 25, .inl (cI, 200, .inl v_2_0))] := hD
  refine lv_aload_n hx hb dX7_feed_31 rfl (lv_at hl 0 rfl) ?_
  refine va_get (D := (dC, dI)) (ci := 7) (v := .ref (a 24)) (C := RX7) (T := TX7) (N := 12) hx hb hw zz_inX7 hown hK hP 0 rfl rfl 3 (by decide) (hw _ tw_14) (fun _ h9 => h9) rfl dX7_feed_32 ?_
  refine lv_iload_n hx hb dX7_feed_35 rfl (lv_at hl 3 rfl) ?_
  have hPc := hP.sub (ws' := [(a 24, .inr (6, [.ref (a 25), .int 8])), (a 25, .inl (cI, 200, .inl v_2_0))]) [1, 2] rfl
  have hDc := hD.sub (ws' := [(a 24, .inr (6, [.ref (a 25), .int 8])), (a 25, .inl (cI, 200, .inl v_2_0))]) [1, 2] (by decide) rfl
  have hKc := hK.sub (tys' := [(cI, .int)]) [0] rfl
  have hFc := va_free (wc := [(a 24, .inr (6, [.ref (a 25), .int 8])), (a 25, .inl (cI, 200, .inl v_2_0))]) hD hS hA [1, 2] rfl
  refine va_callv (va_runVN (As := [.int p2]) (rest := []) ⟨hx, hb, hml, hown, hw⟩ (k_append8 l dC dI a cI v_2_0 p2 H.size) ⟨va_cnB 1 hw (zz_good tw_15) rfl rfl rfl (hN.1 _ zz_n46) (hw _ tw_16) (by decide +kernel) ⟨Nat.le_of_ble_eq_true rfl, Nat.le_of_ble_eq_true rfl⟩, (hw _ tw_17), (hw _ tw_18)⟩ ⟨zz_blind, va_recv hKc hPc (ci := 6) (q0 := 0) rfl rfl, zz_pre hPc hKc hDc hN⟩ rfl rfl hl.1 rfl (lv_room (Nat.le_of_ble_eq_true rfl)) dX7_feed_36 ⟨Nat.le_of_ble_eq_true rfl, Nat.le_of_ble_eq_true rfl⟩) hS (fun q _ h => hFc q h) hFc (fun u_3 t H1 locs ht hvm e_3 hB hz1 hk1 hS => ?_)
  try dsimp only at e_3
  obtain ⟨v_3_0, rfl⟩ : ∃ z, z = u_3 := ⟨_, rfl⟩
  obtain ⟨hP1, hK1, hD1⟩ := hB
  rw [ht] at hP1
  have hK1 := va_K.moved hvm.symm hK1
  try dsimp only at e_3
  obtain ⟨hP, hD⟩ := va_join (wr := [(a 0, .inr (7, [.ref (a 1), .ref (a 10), .ref (a 23), .ref (a 24), .ref (a 26), .ref (a 29), .ref (a 34), .ref (a 43), .int 0, .int 0, .int 0, .int 0]))]) (w1 := [(a 24, .inr (6, [.ref (a 25), .int 12])), (a 25, .inl (cI, 200, .inl v_3_0))]) hP hD [1, 2] [0] rfl rfl (by decide) (by decide) hk1 hFc hP1 hD1
  clear hk1 ht hvm
  generalize H1 = H at hP hS ⊢
  have hP : va_P (dC, dI) vwCl [(a 0, .inr (7, [.ref (a 1), .ref (a 10), .ref (a 23), .ref (a 24), .ref (a 26), .ref (a 29), .ref (a 34), .ref (a 43), .int 0, .int 0, .int 0, .int 0])), (a 24, .inr (6, [.ref (a 25), .int 12])), (a 25, .inl (cI, 200, .inl v_3_0))] H := hP
  have hD : va_D A [(a 0, .inr (7, [.ref (a 1), .ref (a 10), .ref (a 23), .ref (a 24), .ref (a 26), .ref (a 29), .ref (a 34), .ref (a 43), .int 0, .int 0, .int 0, .int 0])), (a 24, .inr (6, [.ref (a 25), .int 12])), (a 25, .inl (cI, 200, .inl v_3_0))] := hD
  refine lv_aload_n hx hb dX7_feed_39 rfl (lv_at hl 0 rfl) ?_
  refine va_get (D := (dC, dI)) (ci := 7) (v := .ref (a 24)) (C := RX7) (T := TX7) (N := 12) hx hb hw zz_inX7 hown hK hP 0 rfl rfl 3 (by decide) (hw _ tw_14) (fun _ h9 => h9) rfl dX7_feed_40 ?_
  refine lv_iload hx hb dX7_feed_43 (lv_at hl 4 rfl) ?_
  have hPc := hP.sub (ws' := [(a 24, .inr (6, [.ref (a 25), .int 12])), (a 25, .inl (cI, 200, .inl v_3_0))]) [1, 2] rfl
  have hDc := hD.sub (ws' := [(a 24, .inr (6, [.ref (a 25), .int 12])), (a 25, .inl (cI, 200, .inl v_3_0))]) [1, 2] (by decide) rfl
  have hKc := hK.sub (tys' := [(cI, .int)]) [0] rfl
  have hFc := va_free (wc := [(a 24, .inr (6, [.ref (a 25), .int 12])), (a 25, .inl (cI, 200, .inl v_3_0))]) hD hS hA [1, 2] rfl
  refine va_callv (va_runVN (As := [.int p3]) (rest := []) ⟨hx, hb, hml, hown, hw⟩ (k_append12 l dC dI a cI v_3_0 p3 H.size) ⟨va_cnB 1 hw (zz_good tw_15) rfl rfl rfl (hN.1 _ zz_n46) (hw _ tw_16) (by decide +kernel) ⟨Nat.le_of_ble_eq_true rfl, Nat.le_of_ble_eq_true rfl⟩, (hw _ tw_17), (hw _ tw_18)⟩ ⟨zz_blind, va_recv hKc hPc (ci := 6) (q0 := 0) rfl rfl, zz_pre hPc hKc hDc hN⟩ rfl rfl hl.1 rfl (lv_room (Nat.le_of_ble_eq_true rfl)) dX7_feed_45 ⟨Nat.le_of_ble_eq_true rfl, Nat.le_of_ble_eq_true rfl⟩) hS (fun q _ h => hFc q h) hFc (fun u_4 t H1 locs ht hvm e_4 hB hz1 hk1 hS => ?_)
  try dsimp only at e_4
  obtain ⟨v_4_0, rfl⟩ : ∃ z, z = u_4 := ⟨_, rfl⟩
  obtain ⟨hP1, hK1, hD1⟩ := hB
  rw [ht] at hP1
  have hK1 := va_K.moved hvm.symm hK1
  try dsimp only at e_4
  obtain ⟨hP, hD⟩ := va_join (wr := [(a 0, .inr (7, [.ref (a 1), .ref (a 10), .ref (a 23), .ref (a 24), .ref (a 26), .ref (a 29), .ref (a 34), .ref (a 43), .int 0, .int 0, .int 0, .int 0]))]) (w1 := [(a 24, .inr (6, [.ref (a 25), .int 16])), (a 25, .inl (cI, 200, .inl v_4_0))]) hP hD [1, 2] [0] rfl rfl (by decide) (by decide) hk1 hFc hP1 hD1
  clear hk1 ht hvm
  generalize H1 = H at hP hS ⊢
  have hP : va_P (dC, dI) vwCl [(a 0, .inr (7, [.ref (a 1), .ref (a 10), .ref (a 23), .ref (a 24), .ref (a 26), .ref (a 29), .ref (a 34), .ref (a 43), .int 0, .int 0, .int 0, .int 0])), (a 24, .inr (6, [.ref (a 25), .int 16])), (a 25, .inl (cI, 200, .inl v_4_0))] H := hP
  have hD : va_D A [(a 0, .inr (7, [.ref (a 1), .ref (a 10), .ref (a 23), .ref (a 24), .ref (a 26), .ref (a 29), .ref (a 34), .ref (a 43), .int 0, .int 0, .int 0, .int 0])), (a 24, .inr (6, [.ref (a 25), .int 16])), (a 25, .inl (cI, 200, .inl v_4_0))] := hD
  refine lv_aload_n hx hb dX7_feed_48 rfl (lv_at hl 0 rfl) ?_
  refine va_get (D := (dC, dI)) (ci := 7) (v := .ref (a 24)) (C := RX7) (T := TX7) (N := 12) hx hb hw zz_inX7 hown hK hP 0 rfl rfl 3 (by decide) (hw _ tw_14) (fun _ h9 => h9) rfl dX7_feed_49 ?_
  refine lv_iload hx hb dX7_feed_52 (lv_at hl 5 rfl) ?_
  have hPc := hP.sub (ws' := [(a 24, .inr (6, [.ref (a 25), .int 16])), (a 25, .inl (cI, 200, .inl v_4_0))]) [1, 2] rfl
  have hDc := hD.sub (ws' := [(a 24, .inr (6, [.ref (a 25), .int 16])), (a 25, .inl (cI, 200, .inl v_4_0))]) [1, 2] (by decide) rfl
  have hKc := hK.sub (tys' := [(cI, .int)]) [0] rfl
  have hFc := va_free (wc := [(a 24, .inr (6, [.ref (a 25), .int 16])), (a 25, .inl (cI, 200, .inl v_4_0))]) hD hS hA [1, 2] rfl
  refine va_callv (va_runVN (As := [.int p4]) (rest := []) ⟨hx, hb, hml, hown, hw⟩ (k_append16 l dC dI a cI v_4_0 p4 H.size) ⟨va_cnB 1 hw (zz_good tw_15) rfl rfl rfl (hN.1 _ zz_n46) (hw _ tw_16) (by decide +kernel) ⟨Nat.le_of_ble_eq_true rfl, Nat.le_of_ble_eq_true rfl⟩, (hw _ tw_17), (hw _ tw_18)⟩ ⟨zz_blind, va_recv hKc hPc (ci := 6) (q0 := 0) rfl rfl, zz_pre hPc hKc hDc hN⟩ rfl rfl hl.1 rfl (lv_room (Nat.le_of_ble_eq_true rfl)) dX7_feed_54 ⟨Nat.le_of_ble_eq_true rfl, Nat.le_of_ble_eq_true rfl⟩) hS (fun q _ h => hFc q h) hFc (fun u_5 t H1 locs ht hvm e_5 hB hz1 hk1 hS => ?_)
  try dsimp only at e_5
  obtain ⟨v_5_0, rfl⟩ : ∃ z, z = u_5 := ⟨_, rfl⟩
  obtain ⟨hP1, hK1, hD1⟩ := hB
  rw [ht] at hP1
  have hK1 := va_K.moved hvm.symm hK1
  try dsimp only at e_5
  obtain ⟨hP, hD⟩ := va_join (wr := [(a 0, .inr (7, [.ref (a 1), .ref (a 10), .ref (a 23), .ref (a 24), .ref (a 26), .ref (a 29), .ref (a 34), .ref (a 43), .int 0, .int 0, .int 0, .int 0]))]) (w1 := [(a 24, .inr (6, [.ref (a 25), .int 20])), (a 25, .inl (cI, 200, .inl v_5_0))]) hP hD [1, 2] [0] rfl rfl (by decide) (by decide) hk1 hFc hP1 hD1
  clear hk1 ht hvm
  generalize H1 = H at hP hS ⊢
  have hP : va_P (dC, dI) vwCl [(a 0, .inr (7, [.ref (a 1), .ref (a 10), .ref (a 23), .ref (a 24), .ref (a 26), .ref (a 29), .ref (a 34), .ref (a 43), .int 0, .int 0, .int 0, .int 0])), (a 24, .inr (6, [.ref (a 25), .int 20])), (a 25, .inl (cI, 200, .inl v_5_0))] H := hP
  have hD : va_D A [(a 0, .inr (7, [.ref (a 1), .ref (a 10), .ref (a 23), .ref (a 24), .ref (a 26), .ref (a 29), .ref (a 34), .ref (a 43), .int 0, .int 0, .int 0, .int 0])), (a 24, .inr (6, [.ref (a 25), .int 20])), (a 25, .inl (cI, 200, .inl v_5_0))] := hD
  refine lv_aload_n hx hb dX7_feed_57 rfl (lv_at hl 0 rfl) ?_
  refine va_get (D := (dC, dI)) (ci := 7) (v := .ref (a 24)) (C := RX7) (T := TX7) (N := 12) hx hb hw zz_inX7 hown hK hP 0 rfl rfl 3 (by decide) (hw _ tw_14) (fun _ h9 => h9) rfl dX7_feed_58 ?_
  refine va_getN (D := (dC, dI)) (ci := 6) (v := .int 20) (C := RX6) (T := TX6) (N := 2) hx hb hw zz_inX6 hown hK hP 1 rfl rfl 1 (by decide) (hN.use zz_n23) (fun _ h9 => h9) rfl dX7_feed_61 ?_
  exact W.iret (v := 20) hx hb hr (fun t ht hW => ⟨⟨20, (), rfl, rfl, trivial⟩, hS.F ht⟩) hS.2.2 dX7_feed_64

set_option maxHeartbeats 4000000 in
set_option maxRecDepth 100000 in
theorem k_end (l : Launch) (dC : Nat → ClassId) (dI : Nat → Nat → Nat) (a : Nat → Nat) (p0 : Int32) (sz : Nat) : Met l yX7_end (zz_w yX7_end cX7_end 2 (some .int)) ({ frames := 1, cells := 0, slots := 0, locals := 22 }) (va_Pc [.ref (a 0), .int p0] (zz_B (dC, dI) sz [(a 0, .inr (7, [.ref (a 1), .ref (a 10), .ref (a 23), .ref (a 24), .ref (a 26), .ref (a 29), .ref (a 34), .ref (a 43), .int 0, .int 0, .int 0, .int 0])), (a 24, .inr (6, [.ref (a 25), .int 0]))] [])) (va_Qi (fun (r : Int32) (_ : Unit) => r = an_end p0) (fun _ _ => True) (va_A [(a 0, .inr (7, [.ref (a 1), .ref (a 10), .ref (a 23), .ref (a 24), .ref (a 26), .ref (a 29), .ref (a 34), .ref (a 43), .int 0, .int 0, .int 0, .int 0])), (a 24, .inr (6, [.ref (a 25), .int 0]))] sz)) 0 0 (va_A [(a 0, .inr (7, [.ref (a 1), .ref (a 10), .ref (a 23), .ref (a 24), .ref (a 26), .ref (a 29), .ref (a 34), .ref (a 43), .int 0, .int 0, .int 0, .int 0])), (a 24, .inr (6, [.ref (a 25), .int 0]))] sz) := by
  refine Met.ofW (cc := cX7_end) (maxL := 2) (ret := (some .int)) (by decide) rfl ?_
  intro p e s m args below meth c s₁ B hml hv
  obtain ⟨rfl, hsz, hP, hK, hD0, hN⟩ := hv
  have hx := B.exec
  have hb := B.bytes
  have hr := B.returns
  have hts := atoms_spec (ws := zz_w yX7_end cX7_end 2 (some .int)) B.pre
  have hw : ∀ w ∈ zz_all, w.before _ s = true := fun w h => hts w (List.mem_cons_of_mem _ h)
  have hown : s.vm.findClass RX7 = some m.cls := findClass_of_methodNamed B.named
  have hlocks := B.notSynchronized
  subst hsz
  have hD := hD0.self (sz := s.heap.size)
  generalize hAe : va_A [(a 0, .inr (7, [.ref (a 1), .ref (a 10), .ref (a 23), .ref (a 24), .ref (a 26), .ref (a 29), .ref (a 34), .ref (a 43), .int 0, .int 0, .int 0, .int 0])), (a 24, .inr (6, [.ref (a 25), .int 0]))] s.heap.size = A at hD ⊢
  have hA : ∀ q : Nat, s.heap.size ≤ q → A q := fun q h => by rw [← hAe]; exact Or.inr h
  have hS : va_S A s.heap s.heap [] := va_S.rf
  have hP : va_P (dC, dI) vwCl [(a 0, .inr (7, [.ref (a 1), .ref (a 10), .ref (a 23), .ref (a 24), .ref (a 26), .ref (a 29), .ref (a 34), .ref (a 43), .int 0, .int 0, .int 0, .int 0])), (a 24, .inr (6, [.ref (a 25), .int 0]))] s.heap := hP
  have hl := lv_entry ([.ref (a 0), .int p0]) (n := 2) (Nat.le_of_ble_eq_true rfl)
  rw [lg_entry_eq]
  generalize (lg_sl ([.ref (a 0), .int p0]) ++ List.replicate (2 - (lg_sl ([.ref (a 0), .int p0])).length) Slot.unset).toArray = ls at hl ⊢
  have hl : lv_has ls 2 [(0, .ref (a 0)), (1, .int p0)] := hl
  refine lv_iload_n hx hb dX7_end_0 rfl (lv_at hl 1 rfl) ?_
  refine lv_iconst (v := 0) hx hb dX7_end_1 (by decide) ?_
  refine lv_aload_n hx hb dX7_end_2 rfl (lv_at hl 0 rfl) ?_
  refine va_get (D := (dC, dI)) (ci := 7) (v := .ref (a 24)) (C := RX7) (T := TX7) (N := 12) hx hb hw zz_inX7 hown hK hP 0 rfl rfl 3 (by decide) (hw _ tw_14) (fun _ h9 => h9) rfl dX7_end_3 ?_
  refine va_getN (D := (dC, dI)) (ci := 6) (v := .int 0) (C := RX6) (T := TX6) (N := 2) hx hb hw zz_inX6 hown hK hP 1 rfl rfl 1 (by decide) (hN.use zz_n23) (fun _ h9 => h9) rfl dX7_end_6 ?_
  have hPc := hP.sub (ws' := []) [] rfl
  have hDc := hD.sub (ws' := []) [] (by decide) rfl
  have hKc := hK.sub (tys' := []) [] rfl
  have hFc := zz_free0 hS hA
  refine va_calli (va_runS (As := [.int p0, .int 0, .int 0]) (rest := []) ⟨hx, hb, hml, hown, hw⟩ (k_within l dC dI p0 0 0 s.heap.size) ⟨callB_of 3 hw (zz_good tw_1) rfl rfl rfl (hw _ tw_2) (hw _ tw_3) (by decide +kernel) ⟨Nat.le_of_ble_eq_true rfl, Nat.le_of_ble_eq_true rfl⟩, (hw _ tw_4)⟩ ⟨zz_blind, zz_pre hPc hKc hDc hN⟩ rfl rfl hl.1 rfl (lv_room (Nat.le_of_ble_eq_true rfl)) dX7_end_9 ⟨Nat.le_of_ble_eq_true rfl, Nat.le_of_ble_eq_true rfl⟩) hS (fun q _ h => hFc q h) hFc (fun r_1 u_1 t H1 locs ht hvm e_1 hB hz1 hk1 hS => ?_)
  try dsimp only at e_1
  have hP := zz_keep hP hk1
  clear hk1 hB ht hvm
  generalize H1 = H at hP hS ⊢
  have hP : va_P (dC, dI) vwCl [(a 0, .inr (7, [.ref (a 1), .ref (a 10), .ref (a 23), .ref (a 24), .ref (a 26), .ref (a 29), .ref (a 34), .ref (a 43), .int 0, .int 0, .int 0, .int 0])), (a 24, .inr (6, [.ref (a 25), .int 0]))] H := hP
  have hD : va_D A [(a 0, .inr (7, [.ref (a 1), .ref (a 10), .ref (a 23), .ref (a 24), .ref (a 26), .ref (a 29), .ref (a 34), .ref (a 43), .int 0, .int 0, .int 0, .int 0])), (a 24, .inr (6, [.ref (a 25), .int 0]))] := hD
  refine lv_if_ne (tgt := 17) hx hb dX7_end_12 (by decide) (fun c_2 => ?_) (fun c_2 => ?_)
  · refine lv_aload_n hx hb dX7_end_17 rfl (lv_at hl 0 rfl) ?_
    refine va_get (D := (dC, dI)) (ci := 7) (v := .ref (a 24)) (C := RX7) (T := TX7) (N := 12) hx hb hw zz_inX7 hown hK hP 0 rfl rfl 3 (by decide) (hw _ tw_14) (fun _ h9 => h9) rfl dX7_end_18 ?_
    refine lv_iload_n hx hb dX7_end_21 rfl (lv_at hl 1 rfl) ?_
    refine va_putN (D := (dC, dI)) (ci := 6) (v := .int p0) (ty := .int) (C := RX6) (T := TX6) (N := 2) hx hb hw zz_inX6 tyX6 tyX6_ok nmX6 hown hK hP hD hS 1 rfl rfl 1 (by decide) (hN.use zz_n23) (fun _ h9 => h9) rfl (by decide +kernel) rfl rfl (Nat.le_of_ble_eq_true rfl) dX7_end_22 (fun H locs hP hD hS => ?_)
    have hP : va_P (dC, dI) vwCl [(a 0, .inr (7, [.ref (a 1), .ref (a 10), .ref (a 23), .ref (a 24), .ref (a 26), .ref (a 29), .ref (a 34), .ref (a 43), .int 0, .int 0, .int 0, .int 0])), (a 24, .inr (6, [.ref (a 25), .int p0]))] H := hP
    have hD : va_D A [(a 0, .inr (7, [.ref (a 1), .ref (a 10), .ref (a 23), .ref (a 24), .ref (a 26), .ref (a 29), .ref (a 34), .ref (a 43), .int 0, .int 0, .int 0, .int 0])), (a 24, .inr (6, [.ref (a 25), .int p0]))] := hD
    refine lv_iload_n hx hb dX7_end_25 rfl (lv_at hl 1 rfl) ?_
    exact W.iret (v := p0) hx hb hr (fun t ht hW => ⟨⟨p0, (), rfl, (by have zc_2 := c_2; rw [e_1, zz_in0, Int32.le_iff_toInt_le, Int32.le_iff_toInt_le] at zc_2; try rw [show (0 : Int32).toInt = 0 from by decide] at zc_2; try rw [show (0 : Int32).toInt = 0 from by decide] at zc_2; unfold an_end; first | exact (if_pos (by omega)).symm | exact (if_neg (by omega)).symm), trivial⟩, hS.F ht⟩) hS.2.2 dX7_end_26
  · refine lv_iconst (v := (-1)) hx hb dX7_end_15 (by decide) ?_
    exact W.iret (v := (-1)) hx hb hr (fun t ht hW => ⟨⟨(-1), (), rfl, (by have zc_2 := c_2; rw [e_1, zz_in0, Int32.le_iff_toInt_le, Int32.le_iff_toInt_le] at zc_2; try rw [show (0 : Int32).toInt = 0 from by decide] at zc_2; try rw [show (0 : Int32).toInt = 0 from by decide] at zc_2; unfold an_end; first | exact (if_pos (by omega)).symm | exact (if_neg (by omega)).symm), trivial⟩, hS.F ht⟩) hS.2.2 dX7_end_16

set_option maxHeartbeats 4000000 in
set_option maxRecDepth 100000 in
theorem k_read (l : Launch) (dC : Nat → ClassId) (dI : Nat → Nat → Nat) (a : Nat → Nat) (cI : ClassId) (b0 : Nat) (ft : Nat → Int32) (sz : Nat) : Met l yX0_read (zz_w yX0_read cX0_read 3 (some .int)) ({ frames := 1, cells := 0, slots := 0, locals := 40 }) (va_Pc [.ref (a 26), .ref (a 24)] (zz_BU (dC, dI) sz b0 [(a 26, .inr (0, [.ref (a 27), .ref (a 28), .int (-1), .int (-1), .int 0, .int 0, .int 0, .int 0])), (a 27, .inl (cI, 7, .inl ft)), (a 28, .inl (cI, 7, .inl (fun _ => (0 : Int32)))), (a 24, .inr (6, [.ref (a 25), .int 0]))] [(cI, .int)])) (va_Qi (fun (r : Int32) (_ : Unit) => r = 0) (fun (_ : Unit) (t : State) => va_P (dC, dI) vwCl [(a 24, .inr (6, [.ref (a 25), .int 0]))] t.heap ∧ va_K (dC, dI) vwCl [] t ∧ va_D (va_A [(a 26, .inr (0, [.ref (a 27), .ref (a 28), .int (-1), .int (-1), .int 0, .int 0, .int 0, .int 0])), (a 27, .inl (cI, 7, .inl ft)), (a 28, .inl (cI, 7, .inl (fun _ => (0 : Int32)))), (a 24, .inr (6, [.ref (a 25), .int 0]))] sz) [(a 24, .inr (6, [.ref (a 25), .int 0]))]) (va_A [(a 26, .inr (0, [.ref (a 27), .ref (a 28), .int (-1), .int (-1), .int 0, .int 0, .int 0, .int 0])), (a 27, .inl (cI, 7, .inl ft)), (a 28, .inl (cI, 7, .inl (fun _ => (0 : Int32)))), (a 24, .inr (6, [.ref (a 25), .int 0]))] sz)) 0 0 (va_A [(a 26, .inr (0, [.ref (a 27), .ref (a 28), .int (-1), .int (-1), .int 0, .int 0, .int 0, .int 0])), (a 27, .inl (cI, 7, .inl ft)), (a 28, .inl (cI, 7, .inl (fun _ => (0 : Int32)))), (a 24, .inr (6, [.ref (a 25), .int 0]))] sz) := by
  refine Met.ofW (cc := cX0_read) (maxL := 3) (ret := (some .int)) (by decide) rfl ?_
  intro p e s m args below meth c s₁ B hml hv
  obtain ⟨rfl, ⟨hsz, hP, hK, hD0, hN⟩, hU⟩ := hv
  have hx := B.exec
  have hb := B.bytes
  have hr := B.returns
  have hts := atoms_spec (ws := zz_w yX0_read cX0_read 3 (some .int)) B.pre
  have hw : ∀ w ∈ zz_all, w.before _ s = true := fun w h => hts w (List.mem_cons_of_mem _ h)
  have hown : s.vm.findClass RX0 = some m.cls := findClass_of_methodNamed B.named
  have hlocks := B.notSynchronized
  subst hsz
  have hD := hD0.self (sz := s.heap.size)
  generalize hAe : va_A [(a 26, .inr (0, [.ref (a 27), .ref (a 28), .int (-1), .int (-1), .int 0, .int 0, .int 0, .int 0])), (a 27, .inl (cI, 7, .inl ft)), (a 28, .inl (cI, 7, .inl (fun _ => (0 : Int32)))), (a 24, .inr (6, [.ref (a 25), .int 0]))] s.heap.size = A at hD hU ⊢
  have hA : ∀ q : Nat, s.heap.size ≤ q → A q := fun q h => by rw [← hAe]; exact Or.inr h
  have hS : va_S A s.heap s.heap [] := va_S.rf
  have hP : va_P (dC, dI) vwCl [(a 26, .inr (0, [.ref (a 27), .ref (a 28), .int (-1), .int (-1), .int 0, .int 0, .int 0, .int 0])), (a 27, .inl (cI, 7, .inl ft)), (a 28, .inl (cI, 7, .inl (fun _ => (0 : Int32)))), (a 24, .inr (6, [.ref (a 25), .int 0]))] s.heap := hP
  have hl := lv_entry ([.ref (a 26), .ref (a 24)]) (n := 3) (Nat.le_of_ble_eq_true rfl)
  rw [lg_entry_eq]
  generalize (lg_sl ([.ref (a 26), .ref (a 24)]) ++ List.replicate (3 - (lg_sl ([.ref (a 26), .ref (a 24)])).length) Slot.unset).toArray = ls at hl ⊢
  have hl : lv_has ls 3 [(0, .ref (a 26)), (1, .ref (a 24))] := hl
  refine va_getsN hx hb hU.1 hS hown (hN.use zz_n25) (fun _ h9 => h9) dX0_read_0 ?_
  refine lv_iconst (v := 0) hx hb dX0_read_3 (by decide) ?_
  refine lv_aload_n hx hb dX0_read_4 rfl (lv_at hl 0 rfl) ?_
  refine va_get (D := (dC, dI)) (ci := 0) (v := .ref (a 28)) (C := RX0) (T := TX0) (N := 8) hx hb hw zz_inX0 hown hK hP 0 rfl rfl 1 (by decide) (hw _ tw_19) (fun _ h9 => h9) rfl dX0_read_5 ?_
  refine lv_iconst (v := 0) hx hb dX0_read_8 (by decide) ?_
  refine lv_bipush (v := 7) hx hb dX0_read_9 (by decide) ?_
  refine va_copyx hx hb (by rw [hml]; exact hl.1.symm) hown (hw _ tw_20) (hw _ tw_21) (hw _ tw_22) (hw _ tw_23) hK hP hD hS hU.2.1 hU.2.2.1 hU.2.2.2 2 0 rfl rfl (by decide) (by decide) (by decide) (by decide) (by decide) (Nat.le_of_ble_eq_true rfl) (Nat.le_of_ble_eq_true rfl) dX0_read_11 (fun H locs hP hD hS => ?_)
  have hP : va_P (dC, dI) vwCl [(a 26, .inr (0, [.ref (a 27), .ref (a 28), .int (-1), .int (-1), .int 0, .int 0, .int 0, .int 0])), (a 27, .inl (cI, 7, .inl ft)), (a 28, .inl (cI, 7, .inl (va_cpy zz_un (fun _ => (0 : Int32)) (Int32.toNatClampNeg 0) (Int32.toNatClampNeg 0) (Int32.toNatClampNeg 7)))), (a 24, .inr (6, [.ref (a 25), .int 0]))] H := hP
  have hD : va_D A [(a 26, .inr (0, [.ref (a 27), .ref (a 28), .int (-1), .int (-1), .int 0, .int 0, .int 0, .int 0])), (a 27, .inl (cI, 7, .inl ft)), (a 28, .inl (cI, 7, .inl (va_cpy zz_un (fun _ => (0 : Int32)) (Int32.toNatClampNeg 0) (Int32.toNatClampNeg 0) (Int32.toNatClampNeg 7)))), (a 24, .inr (6, [.ref (a 25), .int 0]))] := hD
  refine lv_aload_n hx hb dX0_read_14 rfl (lv_at hl 0 rfl) ?_
  refine lv_iconst (v := 0) hx hb dX0_read_15 (by decide) ?_
  refine va_put (D := (dC, dI)) (ci := 0) (v := .int 0) (ty := .int) (C := RX0) (T := TX0) (N := 8) hx hb hw zz_inX0 tyX0 tyX0_ok nmX0 hown hK hP hD hS 0 rfl rfl 2 (by decide) (hw _ tw_24) (fun _ h9 => h9) rfl (by decide +kernel) rfl rfl (Nat.le_of_ble_eq_true rfl) dX0_read_16 (fun H locs hP hD hS => ?_)
  have hP : va_P (dC, dI) vwCl [(a 26, .inr (0, [.ref (a 27), .ref (a 28), .int 0, .int (-1), .int 0, .int 0, .int 0, .int 0])), (a 27, .inl (cI, 7, .inl ft)), (a 28, .inl (cI, 7, .inl (va_cpy zz_un (fun _ => (0 : Int32)) (Int32.toNatClampNeg 0) (Int32.toNatClampNeg 0) (Int32.toNatClampNeg 7)))), (a 24, .inr (6, [.ref (a 25), .int 0]))] H := hP
  have hD : va_D A [(a 26, .inr (0, [.ref (a 27), .ref (a 28), .int 0, .int (-1), .int 0, .int 0, .int 0, .int 0])), (a 27, .inl (cI, 7, .inl ft)), (a 28, .inl (cI, 7, .inl (va_cpy zz_un (fun _ => (0 : Int32)) (Int32.toNatClampNeg 0) (Int32.toNatClampNeg 0) (Int32.toNatClampNeg 7)))), (a 24, .inr (6, [.ref (a 25), .int 0]))] := hD
  refine lv_aload_n hx hb dX0_read_19 rfl (lv_at hl 0 rfl) ?_
  refine lv_iconst (v := (-1)) hx hb dX0_read_20 (by decide) ?_
  refine va_put (D := (dC, dI)) (ci := 0) (v := .int (-1)) (ty := .int) (C := RX0) (T := TX0) (N := 8) hx hb hw zz_inX0 tyX0 tyX0_ok nmX0 hown hK hP hD hS 0 rfl rfl 3 (by decide) (hw _ tw_25) (fun _ h9 => h9) rfl (by decide +kernel) rfl rfl (Nat.le_of_ble_eq_true rfl) dX0_read_21 (fun H locs hP hD hS => ?_)
  have hP : va_P (dC, dI) vwCl [(a 26, .inr (0, [.ref (a 27), .ref (a 28), .int 0, .int (-1), .int 0, .int 0, .int 0, .int 0])), (a 27, .inl (cI, 7, .inl ft)), (a 28, .inl (cI, 7, .inl (va_cpy zz_un (fun _ => (0 : Int32)) (Int32.toNatClampNeg 0) (Int32.toNatClampNeg 0) (Int32.toNatClampNeg 7)))), (a 24, .inr (6, [.ref (a 25), .int 0]))] H := hP
  have hD : va_D A [(a 26, .inr (0, [.ref (a 27), .ref (a 28), .int 0, .int (-1), .int 0, .int 0, .int 0, .int 0])), (a 27, .inl (cI, 7, .inl ft)), (a 28, .inl (cI, 7, .inl (va_cpy zz_un (fun _ => (0 : Int32)) (Int32.toNatClampNeg 0) (Int32.toNatClampNeg 0) (Int32.toNatClampNeg 7)))), (a 24, .inr (6, [.ref (a 25), .int 0]))] := hD
  refine lv_aload_n hx hb dX0_read_24 rfl (lv_at hl 0 rfl) ?_
  refine lv_iconst (v := 1) hx hb dX0_read_25 (by decide) ?_
  refine va_put (D := (dC, dI)) (ci := 0) (v := .int 1) (ty := .int) (C := RX0) (T := TX0) (N := 8) hx hb hw zz_inX0 tyX0 tyX0_ok nmX0 hown hK hP hD hS 0 rfl rfl 4 (by decide) (hw _ tw_26) (fun _ h9 => h9) rfl (by decide +kernel) rfl rfl (Nat.le_of_ble_eq_true rfl) dX0_read_26 (fun H locs hP hD hS => ?_)
  have hP : va_P (dC, dI) vwCl [(a 26, .inr (0, [.ref (a 27), .ref (a 28), .int 0, .int (-1), .int 1, .int 0, .int 0, .int 0])), (a 27, .inl (cI, 7, .inl ft)), (a 28, .inl (cI, 7, .inl (va_cpy zz_un (fun _ => (0 : Int32)) (Int32.toNatClampNeg 0) (Int32.toNatClampNeg 0) (Int32.toNatClampNeg 7)))), (a 24, .inr (6, [.ref (a 25), .int 0]))] H := hP
  have hD : va_D A [(a 26, .inr (0, [.ref (a 27), .ref (a 28), .int 0, .int (-1), .int 1, .int 0, .int 0, .int 0])), (a 27, .inl (cI, 7, .inl ft)), (a 28, .inl (cI, 7, .inl (va_cpy zz_un (fun _ => (0 : Int32)) (Int32.toNatClampNeg 0) (Int32.toNatClampNeg 0) (Int32.toNatClampNeg 7)))), (a 24, .inr (6, [.ref (a 25), .int 0]))] := hD
  refine lv_aload_n hx hb dX0_read_29 rfl (lv_at hl 0 rfl) ?_
  refine lv_iconst (v := (-1)) hx hb dX0_read_30 (by decide) ?_
  refine va_put (D := (dC, dI)) (ci := 0) (v := .int (-1)) (ty := .int) (C := RX0) (T := TX0) (N := 8) hx hb hw zz_inX0 tyX0 tyX0_ok nmX0 hown hK hP hD hS 0 rfl rfl 5 (by decide) (hw _ tw_27) (fun _ h9 => h9) rfl (by decide +kernel) rfl rfl (Nat.le_of_ble_eq_true rfl) dX0_read_31 (fun H locs hP hD hS => ?_)
  have hP : va_P (dC, dI) vwCl [(a 26, .inr (0, [.ref (a 27), .ref (a 28), .int 0, .int (-1), .int 1, .int (-1), .int 0, .int 0])), (a 27, .inl (cI, 7, .inl ft)), (a 28, .inl (cI, 7, .inl (va_cpy zz_un (fun _ => (0 : Int32)) (Int32.toNatClampNeg 0) (Int32.toNatClampNeg 0) (Int32.toNatClampNeg 7)))), (a 24, .inr (6, [.ref (a 25), .int 0]))] H := hP
  have hD : va_D A [(a 26, .inr (0, [.ref (a 27), .ref (a 28), .int 0, .int (-1), .int 1, .int (-1), .int 0, .int 0])), (a 27, .inl (cI, 7, .inl ft)), (a 28, .inl (cI, 7, .inl (va_cpy zz_un (fun _ => (0 : Int32)) (Int32.toNatClampNeg 0) (Int32.toNatClampNeg 0) (Int32.toNatClampNeg 7)))), (a 24, .inr (6, [.ref (a 25), .int 0]))] := hD
  refine lv_aload_n hx hb dX0_read_34 rfl (lv_at hl 0 rfl) ?_
  refine lv_iconst (v := 0) hx hb dX0_read_35 (by decide) ?_
  refine va_put (D := (dC, dI)) (ci := 0) (v := .int 0) (ty := .int) (C := RX0) (T := TX0) (N := 8) hx hb hw zz_inX0 tyX0 tyX0_ok nmX0 hown hK hP hD hS 0 rfl rfl 6 (by decide) (hw _ tw_28) (fun _ h9 => h9) rfl (by decide +kernel) rfl rfl (Nat.le_of_ble_eq_true rfl) dX0_read_36 (fun H locs hP hD hS => ?_)
  have hP : va_P (dC, dI) vwCl [(a 26, .inr (0, [.ref (a 27), .ref (a 28), .int 0, .int (-1), .int 1, .int (-1), .int 0, .int 0])), (a 27, .inl (cI, 7, .inl ft)), (a 28, .inl (cI, 7, .inl (va_cpy zz_un (fun _ => (0 : Int32)) (Int32.toNatClampNeg 0) (Int32.toNatClampNeg 0) (Int32.toNatClampNeg 7)))), (a 24, .inr (6, [.ref (a 25), .int 0]))] H := hP
  have hD : va_D A [(a 26, .inr (0, [.ref (a 27), .ref (a 28), .int 0, .int (-1), .int 1, .int (-1), .int 0, .int 0])), (a 27, .inl (cI, 7, .inl ft)), (a 28, .inl (cI, 7, .inl (va_cpy zz_un (fun _ => (0 : Int32)) (Int32.toNatClampNeg 0) (Int32.toNatClampNeg 0) (Int32.toNatClampNeg 7)))), (a 24, .inr (6, [.ref (a 25), .int 0]))] := hD
  refine lv_aload_n hx hb dX0_read_39 rfl (lv_at hl 0 rfl) ?_
  refine lv_iconst (v := 0) hx hb dX0_read_40 (by decide) ?_
  refine va_put (D := (dC, dI)) (ci := 0) (v := .int 0) (ty := .int) (C := RX0) (T := TX0) (N := 8) hx hb hw zz_inX0 tyX0 tyX0_ok nmX0 hown hK hP hD hS 0 rfl rfl 7 (by decide) (hw _ tw_29) (fun _ h9 => h9) rfl (by decide +kernel) rfl rfl (Nat.le_of_ble_eq_true rfl) dX0_read_41 (fun H locs hP hD hS => ?_)
  have hP : va_P (dC, dI) vwCl [(a 26, .inr (0, [.ref (a 27), .ref (a 28), .int 0, .int (-1), .int 1, .int (-1), .int 0, .int 0])), (a 27, .inl (cI, 7, .inl ft)), (a 28, .inl (cI, 7, .inl (va_cpy zz_un (fun _ => (0 : Int32)) (Int32.toNatClampNeg 0) (Int32.toNatClampNeg 0) (Int32.toNatClampNeg 7)))), (a 24, .inr (6, [.ref (a 25), .int 0]))] H := hP
  have hD : va_D A [(a 26, .inr (0, [.ref (a 27), .ref (a 28), .int 0, .int (-1), .int 1, .int (-1), .int 0, .int 0])), (a 27, .inl (cI, 7, .inl ft)), (a 28, .inl (cI, 7, .inl (va_cpy zz_un (fun _ => (0 : Int32)) (Int32.toNatClampNeg 0) (Int32.toNatClampNeg 0) (Int32.toNatClampNeg 7)))), (a 24, .inr (6, [.ref (a 25), .int 0]))] := hD
  refine lv_iconst (v := 0) hx hb dX0_read_44 (by decide) ?_
  refine lv_istore_n (lv' := [(2, .int 0), (0, .ref (a 26)), (1, .ref (a 24))]) hx hb dX0_read_45 rfl hl (by decide) rfl (fun ls hl => ?_)
  refine lv_iload_n hx hb dX0_read_46 rfl (lv_at hl 0 rfl) ?_
  refine lv_aload_n hx hb dX0_read_47 rfl (lv_at hl 2 rfl) ?_
  refine va_getN (D := (dC, dI)) (ci := 6) (v := .int 0) (C := RX6) (T := TX6) (N := 2) hx hb hw zz_inX6 hown hK hP 3 rfl rfl 1 (by decide) (hN.use zz_n22) (fun _ h9 => h9) rfl dX0_read_48 ?_
  refine lv_icmp_ge (tgt := 86) hx hb dX0_read_51 (by decide) (fun _ => ?_) (fun c_9 => absurd c_9 (by decide))
  refine lv_aload_n hx hb dX0_read_86 rfl (lv_at hl 1 rfl) ?_
  refine va_get (D := (dC, dI)) (ci := 0) (v := .int 0) (C := RX0) (T := TX0) (N := 8) hx hb hw zz_inX0 hown hK hP 0 rfl rfl 2 (by decide) (hw _ tw_24) (fun _ h9 => h9) rfl dX0_read_87 ?_
  refine lv_if_ne (tgt := 110) hx hb dX0_read_90 (by decide) (fun c_9 => absurd c_9 (by decide)) (fun _ => ?_)
  refine lv_aload_n hx hb dX0_read_93 rfl (lv_at hl 1 rfl) ?_
  refine va_get (D := (dC, dI)) (ci := 0) (v := .int 1) (C := RX0) (T := TX0) (N := 8) hx hb hw zz_inX0 hown hK hP 0 rfl rfl 4 (by decide) (hw _ tw_26) (fun _ h9 => h9) rfl dX0_read_94 ?_
  refine lv_iconst (v := 1) hx hb dX0_read_97 (by decide) ?_
  refine lv_icmp_eq (tgt := 110) hx hb dX0_read_98 (by decide) (fun _ => ?_) (fun c_9 => absurd c_9 (by decide))
  refine lv_aload_n hx hb dX0_read_110 rfl (lv_at hl 1 rfl) ?_
  refine va_get (D := (dC, dI)) (ci := 0) (v := .int 0) (C := RX0) (T := TX0) (N := 8) hx hb hw zz_inX0 hown hK hP 0 rfl rfl 2 (by decide) (hw _ tw_24) (fun _ h9 => h9) rfl dX0_read_111 ?_
  refine lv_if_eq (tgt := 119) hx hb dX0_read_114 (by decide) (fun _ => ?_) (fun c_9 => absurd c_9 (by decide))
  refine lv_aload_n hx hb dX0_read_119 rfl (lv_at hl 1 rfl) ?_
  refine va_get (D := (dC, dI)) (ci := 0) (v := .ref (a 28)) (C := RX0) (T := TX0) (N := 8) hx hb hw zz_inX0 hown hK hP 0 rfl rfl 1 (by decide) (hw _ tw_19) (fun _ h9 => h9) rfl dX0_read_120 ?_
  refine lv_iconst (v := 0) hx hb dX0_read_123 (by decide) ?_
  refine lv_aload_n hx hb dX0_read_124 rfl (lv_at hl 1 rfl) ?_
  refine va_get (D := (dC, dI)) (ci := 0) (v := .ref (a 27)) (C := RX0) (T := TX0) (N := 8) hx hb hw zz_inX0 hown hK hP 0 rfl rfl 0 (by decide) (hw _ tw_30) (fun _ h9 => h9) rfl dX0_read_125 ?_
  refine lv_iconst (v := 0) hx hb dX0_read_128 (by decide) ?_
  refine lv_bipush (v := 7) hx hb dX0_read_129 (by decide) ?_
  refine va_copyi hx hb (by rw [hml]; exact hl.1.symm) hown (hw _ tw_20) (hw _ tw_21) (hw _ tw_22) (hw _ tw_23) hK hP hD hS 2 1 0 0 rfl rfl rfl rfl rfl (by decide) (by decide) (by decide) (by decide) (by decide) (fun _ _ => rfl) (Nat.le_of_ble_eq_true rfl) (Nat.le_of_ble_eq_true rfl) dX0_read_131 (fun H locs hP hD hS => ?_)
  have hP : va_P (dC, dI) vwCl [(a 26, .inr (0, [.ref (a 27), .ref (a 28), .int 0, .int (-1), .int 1, .int (-1), .int 0, .int 0])), (a 27, .inl (cI, 7, .inl (va_cpy (va_cpy zz_un (fun _ => (0 : Int32)) (Int32.toNatClampNeg 0) (Int32.toNatClampNeg 0) (Int32.toNatClampNeg 7)) ft (Int32.toNatClampNeg 0) (Int32.toNatClampNeg 0) (Int32.toNatClampNeg 7)))), (a 28, .inl (cI, 7, .inl (va_cpy zz_un (fun _ => (0 : Int32)) (Int32.toNatClampNeg 0) (Int32.toNatClampNeg 0) (Int32.toNatClampNeg 7)))), (a 24, .inr (6, [.ref (a 25), .int 0]))] H := hP
  have hD : va_D A [(a 26, .inr (0, [.ref (a 27), .ref (a 28), .int 0, .int (-1), .int 1, .int (-1), .int 0, .int 0])), (a 27, .inl (cI, 7, .inl (va_cpy (va_cpy zz_un (fun _ => (0 : Int32)) (Int32.toNatClampNeg 0) (Int32.toNatClampNeg 0) (Int32.toNatClampNeg 7)) ft (Int32.toNatClampNeg 0) (Int32.toNatClampNeg 0) (Int32.toNatClampNeg 7)))), (a 28, .inl (cI, 7, .inl (va_cpy zz_un (fun _ => (0 : Int32)) (Int32.toNatClampNeg 0) (Int32.toNatClampNeg 0) (Int32.toNatClampNeg 7)))), (a 24, .inr (6, [.ref (a 25), .int 0]))] := hD
  refine lv_aload_n hx hb dX0_read_134 rfl (lv_at hl 1 rfl) ?_
  refine va_get (D := (dC, dI)) (ci := 0) (v := .int 0) (C := RX0) (T := TX0) (N := 8) hx hb hw zz_inX0 hown hK hP 0 rfl rfl 7 (by decide) (hw _ tw_29) (fun _ h9 => h9) rfl dX0_read_135 ?_
  have hP9 := hP.sub (ws' := [(a 24, .inr (6, [.ref (a 25), .int 0]))]) [3] rfl
  have hD9 := hD.sub (ws' := [(a 24, .inr (6, [.ref (a 25), .int 0]))]) [3] (by decide) rfl
  have hK9 := hK.sub (tys' := []) [] rfl
  exact W.iret (v := 0) hx hb hr (fun t ht hW => ⟨⟨0, (), rfl, rfl, by rw [ht]; exact hP9, va_K.moved hW.alike hK9, hD9⟩, hS.F ht⟩) hS.2.2 dX0_read_138

set_option maxHeartbeats 4000000 in
set_option maxRecDepth 100000 in
theorem k_custom (l : Launch) (dC : Nat → ClassId) (dI : Nat → Nat → Nat) (a : Nat → Nat) (cI : ClassId) (b0 : Nat) (ft : Nat → Int32) (sz : Nat) : Met l yX7_custom (zz_w yX7_custom cX7_custom 2 (some .int)) ({ frames := 2, cells := 0, slots := 0, locals := 62 }) (va_Pc [.ref (a 0)] (zz_BU (dC, dI) sz b0 [(a 0, .inr (7, [.ref (a 1), .ref (a 10), .ref (a 23), .ref (a 24), .ref (a 26), .ref (a 29), .ref (a 34), .ref (a 43), .int 0, .int 0, .int 0, .int 0])), (a 24, .inr (6, [.ref (a 25), .int 0])), (a 26, .inr (0, [.ref (a 27), .ref (a 28), .int (-1), .int (-1), .int 0, .int 0, .int 0, .int 0])), (a 27, .inl (cI, 7, .inl ft)), (a 28, .inl (cI, 7, .inl (fun _ => (0 : Int32))))] [(cI, .int)])) (va_Qi (fun (r : Int32) (_ : Unit) => r = 0) (fun _ _ => True) (va_A [(a 0, .inr (7, [.ref (a 1), .ref (a 10), .ref (a 23), .ref (a 24), .ref (a 26), .ref (a 29), .ref (a 34), .ref (a 43), .int 0, .int 0, .int 0, .int 0])), (a 24, .inr (6, [.ref (a 25), .int 0])), (a 26, .inr (0, [.ref (a 27), .ref (a 28), .int (-1), .int (-1), .int 0, .int 0, .int 0, .int 0])), (a 27, .inl (cI, 7, .inl ft)), (a 28, .inl (cI, 7, .inl (fun _ => (0 : Int32))))] sz)) 0 0 (va_A [(a 0, .inr (7, [.ref (a 1), .ref (a 10), .ref (a 23), .ref (a 24), .ref (a 26), .ref (a 29), .ref (a 34), .ref (a 43), .int 0, .int 0, .int 0, .int 0])), (a 24, .inr (6, [.ref (a 25), .int 0])), (a 26, .inr (0, [.ref (a 27), .ref (a 28), .int (-1), .int (-1), .int 0, .int 0, .int 0, .int 0])), (a 27, .inl (cI, 7, .inl ft)), (a 28, .inl (cI, 7, .inl (fun _ => (0 : Int32))))] sz) := by
  refine Met.ofW (cc := cX7_custom) (maxL := 2) (ret := (some .int)) (by decide) rfl ?_
  intro p e s m args below meth c s₁ B hml hv
  obtain ⟨rfl, ⟨hsz, hP, hK, hD0, hN⟩, hU⟩ := hv
  have hx := B.exec
  have hb := B.bytes
  have hr := B.returns
  have hts := atoms_spec (ws := zz_w yX7_custom cX7_custom 2 (some .int)) B.pre
  have hw : ∀ w ∈ zz_all, w.before _ s = true := fun w h => hts w (List.mem_cons_of_mem _ h)
  have hown : s.vm.findClass RX7 = some m.cls := findClass_of_methodNamed B.named
  have hlocks := B.notSynchronized
  subst hsz
  have hD := hD0.self (sz := s.heap.size)
  generalize hAe : va_A [(a 0, .inr (7, [.ref (a 1), .ref (a 10), .ref (a 23), .ref (a 24), .ref (a 26), .ref (a 29), .ref (a 34), .ref (a 43), .int 0, .int 0, .int 0, .int 0])), (a 24, .inr (6, [.ref (a 25), .int 0])), (a 26, .inr (0, [.ref (a 27), .ref (a 28), .int (-1), .int (-1), .int 0, .int 0, .int 0, .int 0])), (a 27, .inl (cI, 7, .inl ft)), (a 28, .inl (cI, 7, .inl (fun _ => (0 : Int32))))] s.heap.size = A at hD hU ⊢
  have hA : ∀ q : Nat, s.heap.size ≤ q → A q := fun q h => by rw [← hAe]; exact Or.inr h
  have hS : va_S A s.heap s.heap [] := va_S.rf
  have hP : va_P (dC, dI) vwCl [(a 0, .inr (7, [.ref (a 1), .ref (a 10), .ref (a 23), .ref (a 24), .ref (a 26), .ref (a 29), .ref (a 34), .ref (a 43), .int 0, .int 0, .int 0, .int 0])), (a 24, .inr (6, [.ref (a 25), .int 0])), (a 26, .inr (0, [.ref (a 27), .ref (a 28), .int (-1), .int (-1), .int 0, .int 0, .int 0, .int 0])), (a 27, .inl (cI, 7, .inl ft)), (a 28, .inl (cI, 7, .inl (fun _ => (0 : Int32))))] s.heap := hP
  have hl := lv_entry ([.ref (a 0)]) (n := 2) (Nat.le_of_ble_eq_true rfl)
  rw [lg_entry_eq]
  generalize (lg_sl ([.ref (a 0)]) ++ List.replicate (2 - (lg_sl ([.ref (a 0)])).length) Slot.unset).toArray = ls at hl ⊢
  have hl : lv_has ls 2 [(0, .ref (a 0))] := hl
  refine lv_aload_n hx hb dX7_custom_0 rfl (lv_at hl 0 rfl) ?_
  refine va_get (D := (dC, dI)) (ci := 7) (v := .ref (a 26)) (C := RX7) (T := TX7) (N := 12) hx hb hw zz_inX7 hown hK hP 0 rfl rfl 4 (by decide) (hw _ tw_31) (fun _ h9 => h9) rfl dX7_custom_1 ?_
  refine lv_aload_n hx hb dX7_custom_4 rfl (lv_at hl 0 rfl) ?_
  refine va_get (D := (dC, dI)) (ci := 7) (v := .ref (a 24)) (C := RX7) (T := TX7) (N := 12) hx hb hw zz_inX7 hown hK hP 0 rfl rfl 3 (by decide) (hw _ tw_14) (fun _ h9 => h9) rfl dX7_custom_5 ?_
  have hPc := hP.sub (ws' := [(a 26, .inr (0, [.ref (a 27), .ref (a 28), .int (-1), .int (-1), .int 0, .int 0, .int 0, .int 0])), (a 27, .inl (cI, 7, .inl ft)), (a 28, .inl (cI, 7, .inl (fun _ => (0 : Int32)))), (a 24, .inr (6, [.ref (a 25), .int 0]))]) [2, 3, 4, 1] rfl
  have hDc := hD.sub (ws' := [(a 26, .inr (0, [.ref (a 27), .ref (a 28), .int (-1), .int (-1), .int 0, .int 0, .int 0, .int 0])), (a 27, .inl (cI, 7, .inl ft)), (a 28, .inl (cI, 7, .inl (fun _ => (0 : Int32)))), (a 24, .inr (6, [.ref (a 25), .int 0]))]) [2, 3, 4, 1] (by decide) rfl
  have hKc := hK.sub (tys' := [(cI, .int)]) [0] rfl
  have hFc := va_free (wc := [(a 26, .inr (0, [.ref (a 27), .ref (a 28), .int (-1), .int (-1), .int 0, .int 0, .int 0, .int 0])), (a 27, .inl (cI, 7, .inl ft)), (a 28, .inl (cI, 7, .inl (fun _ => (0 : Int32)))), (a 24, .inr (6, [.ref (a 25), .int 0]))]) hD hS hA [2, 3, 4, 1] rfl
  refine va_calli (va_runVN (As := [.ref (a 24)]) (rest := []) ⟨hx, hb, hml, hown, hw⟩ (k_read l dC dI a cI b0 ft s.heap.size) ⟨va_cnB 1 hw (zz_good tw_32) rfl rfl rfl (hN.1 _ zz_n47) (hw _ tw_33) (by decide +kernel) ⟨Nat.le_of_ble_eq_true rfl, Nat.le_of_ble_eq_true rfl⟩, (hw _ tw_34), (hw _ tw_35)⟩ ⟨zz_blindU, va_recv hKc hPc (ci := 0) (q0 := 0) rfl rfl, zz_preU hPc hKc hDc hN hU hS hFc⟩ rfl rfl hl.1 rfl (lv_room (Nat.le_of_ble_eq_true rfl)) dX7_custom_8 ⟨Nat.le_of_ble_eq_true rfl, Nat.le_of_ble_eq_true rfl⟩) hS (fun q _ h => hFc q h) hFc (fun r_1 u_1 t H1 locs ht hvm e_1 hB hz1 hk1 hS => ?_)
  try dsimp only at e_1
  obtain ⟨hP1, hK1, hD1⟩ := hB
  rw [ht] at hP1
  have hK1 := va_K.moved hvm.symm hK1
  try dsimp only at e_1
  obtain ⟨hP, hD⟩ := va_join (wr := [(a 0, .inr (7, [.ref (a 1), .ref (a 10), .ref (a 23), .ref (a 24), .ref (a 26), .ref (a 29), .ref (a 34), .ref (a 43), .int 0, .int 0, .int 0, .int 0]))]) (w1 := [(a 24, .inr (6, [.ref (a 25), .int 0]))]) hP hD [2, 3, 4, 1] [0] rfl rfl (by decide) (by decide) hk1 hFc hP1 hD1
  clear hk1 ht hvm
  generalize H1 = H at hP hS ⊢
  have hP : va_P (dC, dI) vwCl [(a 0, .inr (7, [.ref (a 1), .ref (a 10), .ref (a 23), .ref (a 24), .ref (a 26), .ref (a 29), .ref (a 34), .ref (a 43), .int 0, .int 0, .int 0, .int 0])), (a 24, .inr (6, [.ref (a 25), .int 0]))] H := hP
  have hD : va_D A [(a 0, .inr (7, [.ref (a 1), .ref (a 10), .ref (a 23), .ref (a 24), .ref (a 26), .ref (a 29), .ref (a 34), .ref (a 43), .int 0, .int 0, .int 0, .int 0])), (a 24, .inr (6, [.ref (a 25), .int 0]))] := hD
  refine zz_seti 0 e_1 ?_
  refine lv_istore_n (lv' := [(1, .int 0), (0, .ref (a 0))]) hx hb dX7_custom_11 rfl hl (by decide) rfl (fun ls hl => ?_)
  refine lv_aload_n hx hb dX7_custom_12 rfl (lv_at hl 1 rfl) ?_
  refine va_get (D := (dC, dI)) (ci := 7) (v := .ref (a 24)) (C := RX7) (T := TX7) (N := 12) hx hb hw zz_inX7 hown hK hP 0 rfl rfl 3 (by decide) (hw _ tw_14) (fun _ h9 => h9) rfl dX7_custom_13 ?_
  refine lv_iconst (v := 0) hx hb dX7_custom_16 (by decide) ?_
  refine va_putN (D := (dC, dI)) (ci := 6) (v := .int 0) (ty := .int) (C := RX6) (T := TX6) (N := 2) hx hb hw zz_inX6 tyX6 tyX6_ok nmX6 hown hK hP hD hS 1 rfl rfl 1 (by decide) (hN.use zz_n23) (fun _ h9 => h9) rfl (by decide +kernel) rfl rfl (Nat.le_of_ble_eq_true rfl) dX7_custom_17 (fun H locs hP hD hS => ?_)
  have hP : va_P (dC, dI) vwCl [(a 0, .inr (7, [.ref (a 1), .ref (a 10), .ref (a 23), .ref (a 24), .ref (a 26), .ref (a 29), .ref (a 34), .ref (a 43), .int 0, .int 0, .int 0, .int 0])), (a 24, .inr (6, [.ref (a 25), .int 0]))] H := hP
  have hD : va_D A [(a 0, .inr (7, [.ref (a 1), .ref (a 10), .ref (a 23), .ref (a 24), .ref (a 26), .ref (a 29), .ref (a 34), .ref (a 43), .int 0, .int 0, .int 0, .int 0])), (a 24, .inr (6, [.ref (a 25), .int 0]))] := hD
  refine lv_iload_n hx hb dX7_custom_20 rfl (lv_at hl 0 rfl) ?_
  exact W.iret (v := 0) hx hb hr (fun t ht hW => ⟨⟨0, (), rfl, rfl, trivial⟩, hS.F ht⟩) hS.2.2 dX7_custom_21

set_option maxHeartbeats 4000000 in
set_option maxRecDepth 100000 in
theorem k_fault (l : Launch) (dC : Nat → ClassId) (dI : Nat → Nat → Nat) (a : Nat → Nat) (p0 : Int32) (sz : Nat) : Met l yX7_fault (zz_w yX7_fault cX7_fault 2 (some .int)) ({ frames := 0, cells := 0, slots := 0, locals := 0 }) (va_Pc [.ref (a 0), .int p0] (zz_B (dC, dI) sz [(a 0, .inr (7, [.ref (a 1), .ref (a 10), .ref (a 23), .ref (a 24), .ref (a 26), .ref (a 29), .ref (a 34), .ref (a 43), .int 0, .int 0, .int 0, .int 0])), (a 26, .inr (0, [.ref (a 27), .ref (a 28), .int (-1), .int (-1), .int 0, .int 0, .int 0, .int 0]))] [])) (va_Qi (fun (r : Int32) (_ : Unit) => r = -1) (fun _ _ => True) (va_A [] sz)) 0 0 (va_A [] sz) := by
  refine Met.ofW (cc := cX7_fault) (maxL := 2) (ret := (some .int)) (by decide) rfl ?_
  intro p e s m args below meth c s₁ B hml hv
  obtain ⟨rfl, hsz, hP, hK, hD0, hN⟩ := hv
  have hx := B.exec
  have hb := B.bytes
  have hr := B.returns
  have hts := atoms_spec (ws := zz_w yX7_fault cX7_fault 2 (some .int)) B.pre
  have hw : ∀ w ∈ zz_all, w.before _ s = true := fun w h => hts w (List.mem_cons_of_mem _ h)
  have hown : s.vm.findClass RX7 = some m.cls := findClass_of_methodNamed B.named
  have hlocks := B.notSynchronized
  subst hsz
  have hD := hD0
  generalize hAe : va_A [] s.heap.size = A
  have hA : ∀ q : Nat, s.heap.size ≤ q → A q := fun q h => by rw [← hAe]; exact Or.inr h
  have hS : va_S A s.heap s.heap [] := va_S.rf
  have hP : va_P (dC, dI) vwCl [(a 0, .inr (7, [.ref (a 1), .ref (a 10), .ref (a 23), .ref (a 24), .ref (a 26), .ref (a 29), .ref (a 34), .ref (a 43), .int 0, .int 0, .int 0, .int 0])), (a 26, .inr (0, [.ref (a 27), .ref (a 28), .int (-1), .int (-1), .int 0, .int 0, .int 0, .int 0]))] s.heap := hP
  have hl := lv_entry ([.ref (a 0), .int p0]) (n := 2) (Nat.le_of_ble_eq_true rfl)
  rw [lg_entry_eq]
  generalize (lg_sl ([.ref (a 0), .int p0]) ++ List.replicate (2 - (lg_sl ([.ref (a 0), .int p0])).length) Slot.unset).toArray = ls at hl ⊢
  have hl : lv_has ls 2 [(0, .ref (a 0)), (1, .int p0)] := hl
  refine lv_iload_n hx hb dX7_fault_0 rfl (lv_at hl 1 rfl) ?_
  by_cases c_1 : p0 = 0
  · refine lv_lookup (off := 27) (tgt := 28) hx hb dX7_fault_1 (by decide) (by rw [c_1]; decide) (by decide) ?_
    refine lv_aload_n hx hb dX7_fault_28 rfl (lv_at hl 0 rfl) ?_
    refine va_get (D := (dC, dI)) (ci := 7) (v := .ref (a 26)) (C := RX7) (T := TX7) (N := 12) hx hb hw zz_inX7 hown hK hP 0 rfl rfl 4 (by decide) (hw _ tw_31) (fun _ h9 => h9) rfl dX7_fault_29 ?_
    refine va_getN (D := (dC, dI)) (ci := 0) (v := .int (-1)) (C := RX0) (T := TX0) (N := 8) hx hb hw zz_inX0 hown hK hP 1 rfl rfl 2 (by decide) (hN.use zz_n27) (fun _ h9 => h9) rfl dX7_fault_32 ?_
    exact W.iret (v := (-1)) hx hb hr (fun t ht hW => ⟨⟨(-1), (), rfl, rfl, trivial⟩, hS.F ht⟩) hS.2.2 dX7_fault_35
  by_cases c_2 : p0 = 1
  · refine lv_lookup (off := 35) (tgt := 36) hx hb dX7_fault_1 (by decide) (by rw [c_2]; decide) (by decide) ?_
    refine lv_aload_n hx hb dX7_fault_36 rfl (lv_at hl 0 rfl) ?_
    refine va_get (D := (dC, dI)) (ci := 7) (v := .ref (a 26)) (C := RX7) (T := TX7) (N := 12) hx hb hw zz_inX7 hown hK hP 0 rfl rfl 4 (by decide) (hw _ tw_31) (fun _ h9 => h9) rfl dX7_fault_37 ?_
    refine va_getN (D := (dC, dI)) (ci := 0) (v := .int (-1)) (C := RX0) (T := TX0) (N := 8) hx hb hw zz_inX0 hown hK hP 1 rfl rfl 3 (by decide) (hN.use zz_n28) (fun _ h9 => h9) rfl dX7_fault_40 ?_
    exact W.iret (v := (-1)) hx hb hr (fun t ht hW => ⟨⟨(-1), (), rfl, rfl, trivial⟩, hS.F ht⟩) hS.2.2 dX7_fault_43
  refine lv_lookup (off := 43) (tgt := 44) hx hb dX7_fault_1 (by decide) (by have n_0 := zz_ne c_1; rw [show (0 : Int32).toInt = 0 from by decide] at n_0; have n_1 := zz_ne c_2; rw [show (1 : Int32).toInt = 1 from by decide] at n_1; simp [Op.lookupswitch.offset, n_0, Ne.symm n_0, n_1, Ne.symm n_1]) (by decide) ?_
  refine lv_iconst (v := (-1)) hx hb dX7_fault_44 (by decide) ?_
  exact W.iret (v := (-1)) hx hb hr (fun t ht hW => ⟨⟨(-1), (), rfl, rfl, trivial⟩, hS.F ht⟩) hS.2.2 dX7_fault_45

set_option maxHeartbeats 4000000 in
set_option maxRecDepth 100000 in
theorem k_says (l : Launch) (dC : Nat → ClassId) (dI : Nat → Nat → Nat) (a : Nat → Nat) (cI : ClassId) (ft : Nat → Int32) (p0 : Int32) (sz : Nat) (hft : ∀ k, k < 7 → ft k = zz_un k) : Met l yX7_says (zz_w yX7_says cX7_says 2 (some .int)) ({ frames := 1, cells := 0, slots := 0, locals := 22 }) (va_Pc [.ref (a 0), .int p0] (zz_B (dC, dI) sz [(a 0, .inr (7, [.ref (a 1), .ref (a 10), .ref (a 23), .ref (a 24), .ref (a 26), .ref (a 29), .ref (a 34), .ref (a 43), .int 0, .int 0, .int 0, .int 0])), (a 26, .inr (0, [.ref (a 27), .ref (a 28), .int (-1), .int (-1), .int 0, .int 0, .int 0, .int 0])), (a 27, .inl (cI, 7, .inl ft))] [(cI, .int)])) (va_Qi (fun (r : Int32) (_ : Unit) => r = an_says p0) (fun _ _ => True) (va_A [] sz)) 0 0 (va_A [] sz) := by
  refine Met.ofW (cc := cX7_says) (maxL := 2) (ret := (some .int)) (by decide) rfl ?_
  intro p e s m args below meth c s₁ B hml hv
  obtain ⟨rfl, hsz, hP, hK, hD0, hN⟩ := hv
  have hx := B.exec
  have hb := B.bytes
  have hr := B.returns
  have hts := atoms_spec (ws := zz_w yX7_says cX7_says 2 (some .int)) B.pre
  have hw : ∀ w ∈ zz_all, w.before _ s = true := fun w h => hts w (List.mem_cons_of_mem _ h)
  have hown : s.vm.findClass RX7 = some m.cls := findClass_of_methodNamed B.named
  have hlocks := B.notSynchronized
  subst hsz
  have hD := hD0
  generalize hAe : va_A [] s.heap.size = A
  have hA : ∀ q : Nat, s.heap.size ≤ q → A q := fun q h => by rw [← hAe]; exact Or.inr h
  have hS : va_S A s.heap s.heap [] := va_S.rf
  have hP : va_P (dC, dI) vwCl [(a 0, .inr (7, [.ref (a 1), .ref (a 10), .ref (a 23), .ref (a 24), .ref (a 26), .ref (a 29), .ref (a 34), .ref (a 43), .int 0, .int 0, .int 0, .int 0])), (a 26, .inr (0, [.ref (a 27), .ref (a 28), .int (-1), .int (-1), .int 0, .int 0, .int 0, .int 0])), (a 27, .inl (cI, 7, .inl ft))] s.heap := hP
  have hl := lv_entry ([.ref (a 0), .int p0]) (n := 2) (Nat.le_of_ble_eq_true rfl)
  rw [lg_entry_eq]
  generalize (lg_sl ([.ref (a 0), .int p0]) ++ List.replicate (2 - (lg_sl ([.ref (a 0), .int p0])).length) Slot.unset).toArray = ls at hl ⊢
  have hl : lv_has ls 2 [(0, .ref (a 0)), (1, .int p0)] := hl
  refine lv_iload_n hx hb dX7_says_0 rfl (lv_at hl 1 rfl) ?_
  refine lv_iconst (v := 0) hx hb dX7_says_1 (by decide) ?_
  refine lv_bipush (v := 6) hx hb dX7_says_2 (by decide) ?_
  have hPc := hP.sub (ws' := []) [] rfl
  have hDc := hD.sub (ws' := []) [] (by decide) rfl
  have hKc := hK.sub (tys' := []) [] rfl
  have hFc := zz_free0 hS hA
  refine va_calli (va_runS (As := [.int p0, .int 0, .int 6]) (rest := []) ⟨hx, hb, hml, hown, hw⟩ (k_within l dC dI p0 0 6 s.heap.size) ⟨callB_of 3 hw (zz_good tw_1) rfl rfl rfl (hw _ tw_2) (hw _ tw_3) (by decide +kernel) ⟨Nat.le_of_ble_eq_true rfl, Nat.le_of_ble_eq_true rfl⟩, (hw _ tw_4)⟩ ⟨zz_blind, zz_pre hPc hKc hDc hN⟩ rfl rfl hl.1 rfl (lv_room (Nat.le_of_ble_eq_true rfl)) dX7_says_4 ⟨Nat.le_of_ble_eq_true rfl, Nat.le_of_ble_eq_true rfl⟩) hS (fun q _ h => hFc q h) hFc (fun r_1 u_1 t H1 locs ht hvm e_1 hB hz1 hk1 hS => ?_)
  try dsimp only at e_1
  have hP := zz_keep hP hk1
  clear hk1 hB ht hvm
  generalize H1 = H at hP hS ⊢
  have hP : va_P (dC, dI) vwCl [(a 0, .inr (7, [.ref (a 1), .ref (a 10), .ref (a 23), .ref (a 24), .ref (a 26), .ref (a 29), .ref (a 34), .ref (a 43), .int 0, .int 0, .int 0, .int 0])), (a 26, .inr (0, [.ref (a 27), .ref (a 28), .int (-1), .int (-1), .int 0, .int 0, .int 0, .int 0])), (a 27, .inl (cI, 7, .inl ft))] H := hP
  have hD : va_D (fun _ => True) [(a 0, .inr (7, [.ref (a 1), .ref (a 10), .ref (a 23), .ref (a 24), .ref (a 26), .ref (a 29), .ref (a 34), .ref (a 43), .int 0, .int 0, .int 0, .int 0])), (a 26, .inr (0, [.ref (a 27), .ref (a 28), .int (-1), .int (-1), .int 0, .int 0, .int 0, .int 0])), (a 27, .inl (cI, 7, .inl ft))] := hD
  refine lv_if_eq (tgt := 22) hx hb dX7_says_7 (by decide) (fun c_2 => ?_) (fun c_2 => ?_)
  · refine lv_iconst (v := (-1)) hx hb dX7_says_22 (by decide) ?_
    exact W.iret (v := (-1)) hx hb hr (fun t ht hW => ⟨⟨(-1), (), rfl, (by have zc_2 := c_2; rw [e_1, zz_in0, Int32.le_iff_toInt_le, Int32.le_iff_toInt_le] at zc_2; try rw [show (0 : Int32).toInt = 0 from by decide] at zc_2; try rw [show (6 : Int32).toInt = 6 from by decide] at zc_2; unfold an_says; first | exact (if_pos (by omega)).symm | exact (if_neg (by omega)).symm), trivial⟩, hS.F ht⟩) hS.2.2 dX7_says_23
  · refine lv_aload_n hx hb dX7_says_10 rfl (lv_at hl 0 rfl) ?_
    refine va_get (D := (dC, dI)) (ci := 7) (v := .ref (a 26)) (C := RX7) (T := TX7) (N := 12) hx hb hw zz_inX7 hown hK hP 0 rfl rfl 4 (by decide) (hw _ tw_31) (fun _ h9 => h9) rfl dX7_says_11 ?_
    refine va_getN (D := (dC, dI)) (ci := 0) (v := .ref (a 27)) (C := RX0) (T := TX0) (N := 8) hx hb hw zz_inX0 hown hK hP 1 rfl rfl 0 (by decide) (hN.use zz_n26) (fun _ h9 => h9) rfl dX7_says_14 ?_
    refine lv_iload_n hx hb dX7_says_17 rfl (lv_at hl 1 rfl) ?_
    refine va_iald hx hb hK hP 2 0 rfl rfl (vp_in_iff.mpr (by have zc_2 := c_2; rw [e_1, zz_in0, Int32.le_iff_toInt_le, Int32.le_iff_toInt_le] at zc_2; try rw [show (0 : Int32).toInt = 0 from by decide] at zc_2; try rw [show (6 : Int32).toInt = 6 from by decide] at zc_2; constructor <;> omega)) dX7_says_18 ?_
    refine lv_goto (tgt := 23) hx hb dX7_says_19 (by decide) ?_
    exact W.iret (v := (ft (Int32.toNatClampNeg p0))) hx hb hr (fun t ht hW => ⟨⟨(ft (Int32.toNatClampNeg p0)), (), rfl, (by have zc_2 := c_2; rw [e_1, zz_in0, Int32.le_iff_toInt_le, Int32.le_iff_toInt_le] at zc_2; try rw [show (0 : Int32).toInt = 0 from by decide] at zc_2; try rw [show (6 : Int32).toInt = 6 from by decide] at zc_2; unfold an_says; rw [if_pos (by omega)]; exact hft _ (zz_clamp (vp_in_iff.mpr (by constructor <;> omega)))), trivial⟩, hS.F ht⟩) hS.2.2 dX7_says_23

set_option maxHeartbeats 4000000 in
set_option maxRecDepth 100000 in
theorem k_ill (l : Launch) (dC : Nat → ClassId) (dI : Nat → Nat → Nat) (a : Nat → Nat) (p0 : Int32) (p1 : Int32) (sz : Nat) : Met l yX7_ill (zz_w yX7_ill cX7_ill 4 (some .boolean)) ({ frames := 2, cells := 0, slots := 0, locals := 43 }) (va_Pc [.ref (a 0), .int p0, .int p1] (zz_B (dC, dI) sz [(a 0, .inr (7, [.ref (a 1), .ref (a 10), .ref (a 23), .ref (a 24), .ref (a 26), .ref (a 29), .ref (a 34), .ref (a 43), .int 0, .int 0, .int 0, .int 0]))] [])) (va_Qi (fun (r : Int32) (_ : Unit) => r = 0) (fun _ _ => True) (va_A [] sz)) 0 0 (va_A [] sz) := by
  refine Met.ofW (cc := cX7_ill) (maxL := 4) (ret := (some .boolean)) (by decide) rfl ?_
  intro p e s m args below meth c s₁ B hml hv
  obtain ⟨rfl, hsz, hP, hK, hD0, hN⟩ := hv
  have hx := B.exec
  have hb := B.bytes
  have hr := B.returns
  have hts := atoms_spec (ws := zz_w yX7_ill cX7_ill 4 (some .boolean)) B.pre
  have hw : ∀ w ∈ zz_all, w.before _ s = true := fun w h => hts w (List.mem_cons_of_mem _ h)
  have hown : s.vm.findClass RX7 = some m.cls := findClass_of_methodNamed B.named
  have hlocks := B.notSynchronized
  subst hsz
  have hD := hD0
  generalize hAe : va_A [] s.heap.size = A
  have hA : ∀ q : Nat, s.heap.size ≤ q → A q := fun q h => by rw [← hAe]; exact Or.inr h
  have hS : va_S A s.heap s.heap [] := va_S.rf
  have hP : va_P (dC, dI) vwCl [(a 0, .inr (7, [.ref (a 1), .ref (a 10), .ref (a 23), .ref (a 24), .ref (a 26), .ref (a 29), .ref (a 34), .ref (a 43), .int 0, .int 0, .int 0, .int 0]))] s.heap := hP
  have hl := lv_entry ([.ref (a 0), .int p0, .int p1]) (n := 4) (Nat.le_of_ble_eq_true rfl)
  rw [lg_entry_eq]
  generalize (lg_sl ([.ref (a 0), .int p0, .int p1]) ++ List.replicate (4 - (lg_sl ([.ref (a 0), .int p0, .int p1])).length) Slot.unset).toArray = ls at hl ⊢
  have hl : lv_has ls 4 [(0, .ref (a 0)), (1, .int p0), (2, .int p1)] := hl
  refine lv_aload_n hx hb dX7_ill_0 rfl (lv_at hl 0 rfl) ?_
  refine lv_iload_n hx hb dX7_ill_1 rfl (lv_at hl 1 rfl) ?_
  have hPc := hP.sub (ws' := [(a 0, .inr (7, [.ref (a 1), .ref (a 10), .ref (a 23), .ref (a 24), .ref (a 26), .ref (a 29), .ref (a 34), .ref (a 43), .int 0, .int 0, .int 0, .int 0]))]) [0] rfl
  have hDc := hD.sub (ws' := [(a 0, .inr (7, [.ref (a 1), .ref (a 10), .ref (a 23), .ref (a 24), .ref (a 26), .ref (a 29), .ref (a 34), .ref (a 43), .int 0, .int 0, .int 0, .int 0]))]) [0] (by decide) rfl
  have hKc := hK.sub (tys' := []) [] rfl
  have hFc := zz_free0 hS hA
  refine va_callq (va_runV (As := [.int p0]) (rest := []) ⟨hx, hb, hml, hown, hw⟩ (k_houseAt l dC dI a p0 s.heap.size) ⟨callB_of 1 hw (zz_good tw_7) rfl rfl rfl (hw _ tw_2) (hw _ tw_8) (by decide +kernel) ⟨Nat.le_of_ble_eq_true rfl, Nat.le_of_ble_eq_true rfl⟩, (hw _ tw_9), (hw _ tw_10)⟩ ⟨zz_blind, va_recv hKc hPc (ci := 7) (q0 := 0) rfl rfl, zz_pre hPc hKc hDc hN⟩ rfl rfl hl.1 rfl (lv_room (Nat.le_of_ble_eq_true rfl)) dX7_ill_2 ⟨Nat.le_of_ble_eq_true rfl, Nat.le_of_ble_eq_true rfl⟩) hS (fun q _ h => hFc q h) hFc (fun r_1 u_1 t H1 locs ht hvm e_1 hB hz1 hk1 hS => ?_)
  try dsimp only at e_1
  have hP := zz_keep hP hk1
  clear hk1 hB ht hvm
  generalize H1 = H at hP hS ⊢
  have hP : va_P (dC, dI) vwCl [(a 0, .inr (7, [.ref (a 1), .ref (a 10), .ref (a 23), .ref (a 24), .ref (a 26), .ref (a 29), .ref (a 34), .ref (a 43), .int 0, .int 0, .int 0, .int 0]))] H := hP
  have hD : va_D (fun _ => True) [(a 0, .inr (7, [.ref (a 1), .ref (a 10), .ref (a 23), .ref (a 24), .ref (a 26), .ref (a 29), .ref (a 34), .ref (a 43), .int 0, .int 0, .int 0, .int 0]))] := hD
  refine zz_setv (.null) (congrArg va_rf e_1) ?_
  refine lv_astore_nN (lv' := [(3, .null), (0, .ref (a 0)), (1, .int p0), (2, .int p1)]) hx hb dX7_ill_5 rfl hl (by decide) rfl (fun ls hl => ?_)
  refine lv_aload_nN hx hb dX7_ill_6 rfl (lv_at hl 0 rfl) ?_
  refine lv_ifnullN (tgt := 21) hx hb dX7_ill_7 (by decide) ?_
  refine lv_iconst (v := 0) hx hb dX7_ill_21 (by decide) ?_
  exact W.zret (v := 0) hx hb hr (rfl) (fun t ht hW => ⟨⟨0, (), rfl, rfl, trivial⟩, hS.F ht⟩) hS.2.2 dX7_ill_22

set_option maxHeartbeats 4000000 in
set_option maxRecDepth 100000 in
theorem k_work (l : Launch) (dC : Nat → ClassId) (dI : Nat → Nat → Nat) (a : Nat → Nat) (p0 : Int32) (p1 : Int32) (p2 : Int32) (sz : Nat) : Met l yX7_work (zz_w yX7_work cX7_work 6 (some .int)) ({ frames := 2, cells := 0, slots := 0, locals := 43 }) (va_Pc [.ref (a 0), .int p0, .int p1, .int p2] (zz_B (dC, dI) sz [(a 0, .inr (7, [.ref (a 1), .ref (a 10), .ref (a 23), .ref (a 24), .ref (a 26), .ref (a 29), .ref (a 34), .ref (a 43), .int 0, .int 0, .int 0, .int 0]))] [])) (va_Qi (fun (r : Int32) (_ : Unit) => r = -1) (fun _ _ => True) (va_A [] sz)) 0 0 (va_A [] sz) := by
  refine Met.ofW (cc := cX7_work) (maxL := 6) (ret := (some .int)) (by decide) rfl ?_
  intro p e s m args below meth c s₁ B hml hv
  obtain ⟨rfl, hsz, hP, hK, hD0, hN⟩ := hv
  have hx := B.exec
  have hb := B.bytes
  have hr := B.returns
  have hts := atoms_spec (ws := zz_w yX7_work cX7_work 6 (some .int)) B.pre
  have hw : ∀ w ∈ zz_all, w.before _ s = true := fun w h => hts w (List.mem_cons_of_mem _ h)
  have hown : s.vm.findClass RX7 = some m.cls := findClass_of_methodNamed B.named
  have hlocks := B.notSynchronized
  subst hsz
  have hD := hD0
  generalize hAe : va_A [] s.heap.size = A
  have hA : ∀ q : Nat, s.heap.size ≤ q → A q := fun q h => by rw [← hAe]; exact Or.inr h
  have hS : va_S A s.heap s.heap [] := va_S.rf
  have hP : va_P (dC, dI) vwCl [(a 0, .inr (7, [.ref (a 1), .ref (a 10), .ref (a 23), .ref (a 24), .ref (a 26), .ref (a 29), .ref (a 34), .ref (a 43), .int 0, .int 0, .int 0, .int 0]))] s.heap := hP
  have hl := lv_entry ([.ref (a 0), .int p0, .int p1, .int p2]) (n := 6) (Nat.le_of_ble_eq_true rfl)
  rw [lg_entry_eq]
  generalize (lg_sl ([.ref (a 0), .int p0, .int p1, .int p2]) ++ List.replicate (6 - (lg_sl ([.ref (a 0), .int p0, .int p1, .int p2])).length) Slot.unset).toArray = ls at hl ⊢
  have hl : lv_has ls 6 [(0, .ref (a 0)), (1, .int p0), (2, .int p1), (3, .int p2)] := hl
  refine lv_aload_n hx hb dX7_work_0 rfl (lv_at hl 0 rfl) ?_
  refine lv_iload_n hx hb dX7_work_1 rfl (lv_at hl 1 rfl) ?_
  have hPc := hP.sub (ws' := [(a 0, .inr (7, [.ref (a 1), .ref (a 10), .ref (a 23), .ref (a 24), .ref (a 26), .ref (a 29), .ref (a 34), .ref (a 43), .int 0, .int 0, .int 0, .int 0]))]) [0] rfl
  have hDc := hD.sub (ws' := [(a 0, .inr (7, [.ref (a 1), .ref (a 10), .ref (a 23), .ref (a 24), .ref (a 26), .ref (a 29), .ref (a 34), .ref (a 43), .int 0, .int 0, .int 0, .int 0]))]) [0] (by decide) rfl
  have hKc := hK.sub (tys' := []) [] rfl
  have hFc := zz_free0 hS hA
  refine va_callq (va_runV (As := [.int p0]) (rest := []) ⟨hx, hb, hml, hown, hw⟩ (k_houseAt l dC dI a p0 s.heap.size) ⟨callB_of 1 hw (zz_good tw_7) rfl rfl rfl (hw _ tw_2) (hw _ tw_8) (by decide +kernel) ⟨Nat.le_of_ble_eq_true rfl, Nat.le_of_ble_eq_true rfl⟩, (hw _ tw_9), (hw _ tw_10)⟩ ⟨zz_blind, va_recv hKc hPc (ci := 7) (q0 := 0) rfl rfl, zz_pre hPc hKc hDc hN⟩ rfl rfl hl.1 rfl (lv_room (Nat.le_of_ble_eq_true rfl)) dX7_work_2 ⟨Nat.le_of_ble_eq_true rfl, Nat.le_of_ble_eq_true rfl⟩) hS (fun q _ h => hFc q h) hFc (fun r_1 u_1 t H1 locs ht hvm e_1 hB hz1 hk1 hS => ?_)
  try dsimp only at e_1
  have hP := zz_keep hP hk1
  clear hk1 hB ht hvm
  generalize H1 = H at hP hS ⊢
  have hP : va_P (dC, dI) vwCl [(a 0, .inr (7, [.ref (a 1), .ref (a 10), .ref (a 23), .ref (a 24), .ref (a 26), .ref (a 29), .ref (a 34), .ref (a 43), .int 0, .int 0, .int 0, .int 0]))] H := hP
  have hD : va_D (fun _ => True) [(a 0, .inr (7, [.ref (a 1), .ref (a 10), .ref (a 23), .ref (a 24), .ref (a 26), .ref (a 29), .ref (a 34), .ref (a 43), .int 0, .int 0, .int 0, .int 0]))] := hD
  refine zz_setv (.null) (congrArg va_rf e_1) ?_
  refine lv_astoreN (lv' := [(4, .null), (0, .ref (a 0)), (1, .int p0), (2, .int p1), (3, .int p2)]) hx hb dX7_work_5 hl (by decide) rfl (fun ls hl => ?_)
  refine lv_aload_n hx hb dX7_work_7 rfl (lv_at hl 1 rfl) ?_
  refine lv_iload_n hx hb dX7_work_8 rfl (lv_at hl 3 rfl) ?_
  have hPc := hP.sub (ws' := [(a 0, .inr (7, [.ref (a 1), .ref (a 10), .ref (a 23), .ref (a 24), .ref (a 26), .ref (a 29), .ref (a 34), .ref (a 43), .int 0, .int 0, .int 0, .int 0]))]) [0] rfl
  have hDc := hD.sub (ws' := [(a 0, .inr (7, [.ref (a 1), .ref (a 10), .ref (a 23), .ref (a 24), .ref (a 26), .ref (a 29), .ref (a 34), .ref (a 43), .int 0, .int 0, .int 0, .int 0]))]) [0] (by decide) rfl
  have hKc := hK.sub (tys' := []) [] rfl
  have hFc := zz_free0 hS hA
  refine va_callq (va_runV (As := [.int p1]) (rest := []) ⟨hx, hb, hml, hown, hw⟩ (k_fieldAt l dC dI a p1 H.size) ⟨callB_of 1 hw (zz_good tw_36) rfl rfl rfl (hw _ tw_2) (hw _ tw_37) (by decide +kernel) ⟨Nat.le_of_ble_eq_true rfl, Nat.le_of_ble_eq_true rfl⟩, (hw _ tw_38), (hw _ tw_39)⟩ ⟨zz_blind, va_recv hKc hPc (ci := 7) (q0 := 0) rfl rfl, zz_pre hPc hKc hDc hN⟩ rfl rfl hl.1 rfl (lv_room (Nat.le_of_ble_eq_true rfl)) dX7_work_9 ⟨Nat.le_of_ble_eq_true rfl, Nat.le_of_ble_eq_true rfl⟩) hS (fun q _ h => hFc q h) hFc (fun r_2 u_2 t H1 locs ht hvm e_2 hB hz1 hk1 hS => ?_)
  try dsimp only at e_2
  have hP := zz_keep hP hk1
  clear hk1 hB ht hvm
  generalize H1 = H at hP hS ⊢
  have hP : va_P (dC, dI) vwCl [(a 0, .inr (7, [.ref (a 1), .ref (a 10), .ref (a 23), .ref (a 24), .ref (a 26), .ref (a 29), .ref (a 34), .ref (a 43), .int 0, .int 0, .int 0, .int 0]))] H := hP
  have hD : va_D (fun _ => True) [(a 0, .inr (7, [.ref (a 1), .ref (a 10), .ref (a 23), .ref (a 24), .ref (a 26), .ref (a 29), .ref (a 34), .ref (a 43), .int 0, .int 0, .int 0, .int 0]))] := hD
  refine zz_setv (.null) (congrArg va_rf e_2) ?_
  refine lv_astoreN (lv' := [(5, .null), (4, .null), (0, .ref (a 0)), (1, .int p0), (2, .int p1), (3, .int p2)]) hx hb dX7_work_12 hl (by decide) rfl (fun ls hl => ?_)
  refine lv_aloadN hx hb dX7_work_14 (lv_at hl 1 rfl) ?_
  refine lv_ifnullN (tgt := 37) hx hb dX7_work_16 (by decide) ?_
  refine lv_iconst (v := (-1)) hx hb dX7_work_37 (by decide) ?_
  exact W.iret (v := (-1)) hx hb hr (fun t ht hW => ⟨⟨(-1), (), rfl, rfl, trivial⟩, hS.F ht⟩) hS.2.2 dX7_work_38

set_option maxHeartbeats 4000000 in
set_option maxRecDepth 100000 in
theorem k_hire (l : Launch) (dC : Nat → ClassId) (dI : Nat → Nat → Nat) (a : Nat → Nat) (p0 : Int32) (p1 : Int32) (sz : Nat) : Met l yX7_hire (zz_w yX7_hire cX7_hire 5 (some .int)) ({ frames := 2, cells := 0, slots := 0, locals := 43 }) (va_Pc [.ref (a 0), .int p0, .int p1] (zz_B (dC, dI) sz [(a 0, .inr (7, [.ref (a 1), .ref (a 10), .ref (a 23), .ref (a 24), .ref (a 26), .ref (a 29), .ref (a 34), .ref (a 43), .int 0, .int 0, .int 0, .int 0]))] [])) (va_Qi (fun (r : Int32) (_ : Unit) => r = -1) (fun _ _ => True) (va_A [] sz)) 0 0 (va_A [] sz) := by
  refine Met.ofW (cc := cX7_hire) (maxL := 5) (ret := (some .int)) (by decide) rfl ?_
  intro p e s m args below meth c s₁ B hml hv
  obtain ⟨rfl, hsz, hP, hK, hD0, hN⟩ := hv
  have hx := B.exec
  have hb := B.bytes
  have hr := B.returns
  have hts := atoms_spec (ws := zz_w yX7_hire cX7_hire 5 (some .int)) B.pre
  have hw : ∀ w ∈ zz_all, w.before _ s = true := fun w h => hts w (List.mem_cons_of_mem _ h)
  have hown : s.vm.findClass RX7 = some m.cls := findClass_of_methodNamed B.named
  have hlocks := B.notSynchronized
  subst hsz
  have hD := hD0
  generalize hAe : va_A [] s.heap.size = A
  have hA : ∀ q : Nat, s.heap.size ≤ q → A q := fun q h => by rw [← hAe]; exact Or.inr h
  have hS : va_S A s.heap s.heap [] := va_S.rf
  have hP : va_P (dC, dI) vwCl [(a 0, .inr (7, [.ref (a 1), .ref (a 10), .ref (a 23), .ref (a 24), .ref (a 26), .ref (a 29), .ref (a 34), .ref (a 43), .int 0, .int 0, .int 0, .int 0]))] s.heap := hP
  have hl := lv_entry ([.ref (a 0), .int p0, .int p1]) (n := 5) (Nat.le_of_ble_eq_true rfl)
  rw [lg_entry_eq]
  generalize (lg_sl ([.ref (a 0), .int p0, .int p1]) ++ List.replicate (5 - (lg_sl ([.ref (a 0), .int p0, .int p1])).length) Slot.unset).toArray = ls at hl ⊢
  have hl : lv_has ls 5 [(0, .ref (a 0)), (1, .int p0), (2, .int p1)] := hl
  refine lv_aload_n hx hb dX7_hire_0 rfl (lv_at hl 0 rfl) ?_
  refine lv_iload_n hx hb dX7_hire_1 rfl (lv_at hl 1 rfl) ?_
  have hPc := hP.sub (ws' := [(a 0, .inr (7, [.ref (a 1), .ref (a 10), .ref (a 23), .ref (a 24), .ref (a 26), .ref (a 29), .ref (a 34), .ref (a 43), .int 0, .int 0, .int 0, .int 0]))]) [0] rfl
  have hDc := hD.sub (ws' := [(a 0, .inr (7, [.ref (a 1), .ref (a 10), .ref (a 23), .ref (a 24), .ref (a 26), .ref (a 29), .ref (a 34), .ref (a 43), .int 0, .int 0, .int 0, .int 0]))]) [0] (by decide) rfl
  have hKc := hK.sub (tys' := []) [] rfl
  have hFc := zz_free0 hS hA
  refine va_callq (va_runV (As := [.int p0]) (rest := []) ⟨hx, hb, hml, hown, hw⟩ (k_fieldAt l dC dI a p0 s.heap.size) ⟨callB_of 1 hw (zz_good tw_36) rfl rfl rfl (hw _ tw_2) (hw _ tw_37) (by decide +kernel) ⟨Nat.le_of_ble_eq_true rfl, Nat.le_of_ble_eq_true rfl⟩, (hw _ tw_38), (hw _ tw_39)⟩ ⟨zz_blind, va_recv hKc hPc (ci := 7) (q0 := 0) rfl rfl, zz_pre hPc hKc hDc hN⟩ rfl rfl hl.1 rfl (lv_room (Nat.le_of_ble_eq_true rfl)) dX7_hire_2 ⟨Nat.le_of_ble_eq_true rfl, Nat.le_of_ble_eq_true rfl⟩) hS (fun q _ h => hFc q h) hFc (fun r_1 u_1 t H1 locs ht hvm e_1 hB hz1 hk1 hS => ?_)
  try dsimp only at e_1
  have hP := zz_keep hP hk1
  clear hk1 hB ht hvm
  generalize H1 = H at hP hS ⊢
  have hP : va_P (dC, dI) vwCl [(a 0, .inr (7, [.ref (a 1), .ref (a 10), .ref (a 23), .ref (a 24), .ref (a 26), .ref (a 29), .ref (a 34), .ref (a 43), .int 0, .int 0, .int 0, .int 0]))] H := hP
  have hD : va_D (fun _ => True) [(a 0, .inr (7, [.ref (a 1), .ref (a 10), .ref (a 23), .ref (a 24), .ref (a 26), .ref (a 29), .ref (a 34), .ref (a 43), .int 0, .int 0, .int 0, .int 0]))] := hD
  refine zz_setv (.null) (congrArg va_rf e_1) ?_
  refine lv_astore_nN (lv' := [(3, .null), (0, .ref (a 0)), (1, .int p0), (2, .int p1)]) hx hb dX7_hire_5 rfl hl (by decide) rfl (fun ls hl => ?_)
  refine lv_aload_nN hx hb dX7_hire_6 rfl (lv_at hl 0 rfl) ?_
  refine lv_ifnullN (tgt := 33) hx hb dX7_hire_7 (by decide) ?_
  refine lv_iconst (v := (-1)) hx hb dX7_hire_33 (by decide) ?_
  exact W.iret (v := (-1)) hx hb hr (fun t ht hW => ⟨⟨(-1), (), rfl, rfl, trivial⟩, hS.F ht⟩) hS.2.2 dX7_hire_34

set_option maxHeartbeats 4000000 in
set_option maxRecDepth 100000 in
theorem k_houseOf (l : Launch) (dC : Nat → ClassId) (dI : Nat → Nat → Nat) (a : Nat → Nat) (p0 : Int32) (p1 : Int32) (sz : Nat) : Met l yX7_houseOf (zz_w yX7_houseOf cX7_houseOf 4 (some .int)) ({ frames := 2, cells := 0, slots := 0, locals := 43 }) (va_Pc [.ref (a 0), .int p0, .int p1] (zz_B (dC, dI) sz [(a 0, .inr (7, [.ref (a 1), .ref (a 10), .ref (a 23), .ref (a 24), .ref (a 26), .ref (a 29), .ref (a 34), .ref (a 43), .int 0, .int 0, .int 0, .int 0]))] [])) (va_Qi (fun (r : Int32) (_ : Unit) => r = (-1000000)) (fun _ _ => True) (va_A [] sz)) 0 0 (va_A [] sz) := by
  refine Met.ofW (cc := cX7_houseOf) (maxL := 4) (ret := (some .int)) (by decide) rfl ?_
  intro p e s m args below meth c s₁ B hml hv
  obtain ⟨rfl, hsz, hP, hK, hD0, hN⟩ := hv
  have hx := B.exec
  have hb := B.bytes
  have hr := B.returns
  have hts := atoms_spec (ws := zz_w yX7_houseOf cX7_houseOf 4 (some .int)) B.pre
  have hw : ∀ w ∈ zz_all, w.before _ s = true := fun w h => hts w (List.mem_cons_of_mem _ h)
  have hown : s.vm.findClass RX7 = some m.cls := findClass_of_methodNamed B.named
  have hlocks := B.notSynchronized
  subst hsz
  have hD := hD0
  generalize hAe : va_A [] s.heap.size = A
  have hA : ∀ q : Nat, s.heap.size ≤ q → A q := fun q h => by rw [← hAe]; exact Or.inr h
  have hS : va_S A s.heap s.heap [] := va_S.rf
  have hP : va_P (dC, dI) vwCl [(a 0, .inr (7, [.ref (a 1), .ref (a 10), .ref (a 23), .ref (a 24), .ref (a 26), .ref (a 29), .ref (a 34), .ref (a 43), .int 0, .int 0, .int 0, .int 0]))] s.heap := hP
  have hl := lv_entry ([.ref (a 0), .int p0, .int p1]) (n := 4) (Nat.le_of_ble_eq_true rfl)
  rw [lg_entry_eq]
  generalize (lg_sl ([.ref (a 0), .int p0, .int p1]) ++ List.replicate (4 - (lg_sl ([.ref (a 0), .int p0, .int p1])).length) Slot.unset).toArray = ls at hl ⊢
  have hl : lv_has ls 4 [(0, .ref (a 0)), (1, .int p0), (2, .int p1)] := hl
  refine lv_aload_n hx hb dX7_houseOf_0 rfl (lv_at hl 0 rfl) ?_
  refine lv_iload_n hx hb dX7_houseOf_1 rfl (lv_at hl 1 rfl) ?_
  have hPc := hP.sub (ws' := [(a 0, .inr (7, [.ref (a 1), .ref (a 10), .ref (a 23), .ref (a 24), .ref (a 26), .ref (a 29), .ref (a 34), .ref (a 43), .int 0, .int 0, .int 0, .int 0]))]) [0] rfl
  have hDc := hD.sub (ws' := [(a 0, .inr (7, [.ref (a 1), .ref (a 10), .ref (a 23), .ref (a 24), .ref (a 26), .ref (a 29), .ref (a 34), .ref (a 43), .int 0, .int 0, .int 0, .int 0]))]) [0] (by decide) rfl
  have hKc := hK.sub (tys' := []) [] rfl
  have hFc := zz_free0 hS hA
  refine va_callq (va_runV (As := [.int p0]) (rest := []) ⟨hx, hb, hml, hown, hw⟩ (k_houseAt l dC dI a p0 s.heap.size) ⟨callB_of 1 hw (zz_good tw_7) rfl rfl rfl (hw _ tw_2) (hw _ tw_8) (by decide +kernel) ⟨Nat.le_of_ble_eq_true rfl, Nat.le_of_ble_eq_true rfl⟩, (hw _ tw_9), (hw _ tw_10)⟩ ⟨zz_blind, va_recv hKc hPc (ci := 7) (q0 := 0) rfl rfl, zz_pre hPc hKc hDc hN⟩ rfl rfl hl.1 rfl (lv_room (Nat.le_of_ble_eq_true rfl)) dX7_houseOf_2 ⟨Nat.le_of_ble_eq_true rfl, Nat.le_of_ble_eq_true rfl⟩) hS (fun q _ h => hFc q h) hFc (fun r_1 u_1 t H1 locs ht hvm e_1 hB hz1 hk1 hS => ?_)
  try dsimp only at e_1
  have hP := zz_keep hP hk1
  clear hk1 hB ht hvm
  generalize H1 = H at hP hS ⊢
  have hP : va_P (dC, dI) vwCl [(a 0, .inr (7, [.ref (a 1), .ref (a 10), .ref (a 23), .ref (a 24), .ref (a 26), .ref (a 29), .ref (a 34), .ref (a 43), .int 0, .int 0, .int 0, .int 0]))] H := hP
  have hD : va_D (fun _ => True) [(a 0, .inr (7, [.ref (a 1), .ref (a 10), .ref (a 23), .ref (a 24), .ref (a 26), .ref (a 29), .ref (a 34), .ref (a 43), .int 0, .int 0, .int 0, .int 0]))] := hD
  refine zz_setv (.null) (congrArg va_rf e_1) ?_
  refine lv_astore_nN (lv' := [(3, .null), (0, .ref (a 0)), (1, .int p0), (2, .int p1)]) hx hb dX7_houseOf_5 rfl hl (by decide) rfl (fun ls hl => ?_)
  refine lv_aload_nN hx hb dX7_houseOf_6 rfl (lv_at hl 0 rfl) ?_
  refine lv_ifnonnullN hx hb dX7_houseOf_7 ?_
  refine lv_ldc (v := (-1000000)) hx hb hown (hw _ tw_40) dX7_houseOf_10 ?_
  exact W.iret (v := (-1000000)) hx hb hr (fun t ht hW => ⟨⟨(-1000000), (), rfl, rfl, trivial⟩, hS.F ht⟩) hS.2.2 dX7_houseOf_12

set_option maxHeartbeats 4000000 in
set_option maxRecDepth 100000 in
theorem k_fieldOf (l : Launch) (dC : Nat → ClassId) (dI : Nat → Nat → Nat) (a : Nat → Nat) (p0 : Int32) (p1 : Int32) (sz : Nat) : Met l yX7_fieldOf (zz_w yX7_fieldOf cX7_fieldOf 4 (some .int)) ({ frames := 2, cells := 0, slots := 0, locals := 43 }) (va_Pc [.ref (a 0), .int p0, .int p1] (zz_B (dC, dI) sz [(a 0, .inr (7, [.ref (a 1), .ref (a 10), .ref (a 23), .ref (a 24), .ref (a 26), .ref (a 29), .ref (a 34), .ref (a 43), .int 0, .int 0, .int 0, .int 0]))] [])) (va_Qi (fun (r : Int32) (_ : Unit) => r = -1) (fun _ _ => True) (va_A [] sz)) 0 0 (va_A [] sz) := by
  refine Met.ofW (cc := cX7_fieldOf) (maxL := 4) (ret := (some .int)) (by decide) rfl ?_
  intro p e s m args below meth c s₁ B hml hv
  obtain ⟨rfl, hsz, hP, hK, hD0, hN⟩ := hv
  have hx := B.exec
  have hb := B.bytes
  have hr := B.returns
  have hts := atoms_spec (ws := zz_w yX7_fieldOf cX7_fieldOf 4 (some .int)) B.pre
  have hw : ∀ w ∈ zz_all, w.before _ s = true := fun w h => hts w (List.mem_cons_of_mem _ h)
  have hown : s.vm.findClass RX7 = some m.cls := findClass_of_methodNamed B.named
  have hlocks := B.notSynchronized
  subst hsz
  have hD := hD0
  generalize hAe : va_A [] s.heap.size = A
  have hA : ∀ q : Nat, s.heap.size ≤ q → A q := fun q h => by rw [← hAe]; exact Or.inr h
  have hS : va_S A s.heap s.heap [] := va_S.rf
  have hP : va_P (dC, dI) vwCl [(a 0, .inr (7, [.ref (a 1), .ref (a 10), .ref (a 23), .ref (a 24), .ref (a 26), .ref (a 29), .ref (a 34), .ref (a 43), .int 0, .int 0, .int 0, .int 0]))] s.heap := hP
  have hl := lv_entry ([.ref (a 0), .int p0, .int p1]) (n := 4) (Nat.le_of_ble_eq_true rfl)
  rw [lg_entry_eq]
  generalize (lg_sl ([.ref (a 0), .int p0, .int p1]) ++ List.replicate (4 - (lg_sl ([.ref (a 0), .int p0, .int p1])).length) Slot.unset).toArray = ls at hl ⊢
  have hl : lv_has ls 4 [(0, .ref (a 0)), (1, .int p0), (2, .int p1)] := hl
  refine lv_aload_n hx hb dX7_fieldOf_0 rfl (lv_at hl 0 rfl) ?_
  refine lv_iload_n hx hb dX7_fieldOf_1 rfl (lv_at hl 1 rfl) ?_
  have hPc := hP.sub (ws' := [(a 0, .inr (7, [.ref (a 1), .ref (a 10), .ref (a 23), .ref (a 24), .ref (a 26), .ref (a 29), .ref (a 34), .ref (a 43), .int 0, .int 0, .int 0, .int 0]))]) [0] rfl
  have hDc := hD.sub (ws' := [(a 0, .inr (7, [.ref (a 1), .ref (a 10), .ref (a 23), .ref (a 24), .ref (a 26), .ref (a 29), .ref (a 34), .ref (a 43), .int 0, .int 0, .int 0, .int 0]))]) [0] (by decide) rfl
  have hKc := hK.sub (tys' := []) [] rfl
  have hFc := zz_free0 hS hA
  refine va_callq (va_runV (As := [.int p0]) (rest := []) ⟨hx, hb, hml, hown, hw⟩ (k_fieldAt l dC dI a p0 s.heap.size) ⟨callB_of 1 hw (zz_good tw_36) rfl rfl rfl (hw _ tw_2) (hw _ tw_37) (by decide +kernel) ⟨Nat.le_of_ble_eq_true rfl, Nat.le_of_ble_eq_true rfl⟩, (hw _ tw_38), (hw _ tw_39)⟩ ⟨zz_blind, va_recv hKc hPc (ci := 7) (q0 := 0) rfl rfl, zz_pre hPc hKc hDc hN⟩ rfl rfl hl.1 rfl (lv_room (Nat.le_of_ble_eq_true rfl)) dX7_fieldOf_2 ⟨Nat.le_of_ble_eq_true rfl, Nat.le_of_ble_eq_true rfl⟩) hS (fun q _ h => hFc q h) hFc (fun r_1 u_1 t H1 locs ht hvm e_1 hB hz1 hk1 hS => ?_)
  try dsimp only at e_1
  have hP := zz_keep hP hk1
  clear hk1 hB ht hvm
  generalize H1 = H at hP hS ⊢
  have hP : va_P (dC, dI) vwCl [(a 0, .inr (7, [.ref (a 1), .ref (a 10), .ref (a 23), .ref (a 24), .ref (a 26), .ref (a 29), .ref (a 34), .ref (a 43), .int 0, .int 0, .int 0, .int 0]))] H := hP
  have hD : va_D (fun _ => True) [(a 0, .inr (7, [.ref (a 1), .ref (a 10), .ref (a 23), .ref (a 24), .ref (a 26), .ref (a 29), .ref (a 34), .ref (a 43), .int 0, .int 0, .int 0, .int 0]))] := hD
  refine zz_setv (.null) (congrArg va_rf e_1) ?_
  refine lv_astore_nN (lv' := [(3, .null), (0, .ref (a 0)), (1, .int p0), (2, .int p1)]) hx hb dX7_fieldOf_5 rfl hl (by decide) rfl (fun ls hl => ?_)
  refine lv_aload_nN hx hb dX7_fieldOf_6 rfl (lv_at hl 0 rfl) ?_
  refine lv_ifnonnullN hx hb dX7_fieldOf_7 ?_
  refine lv_iconst (v := (-1)) hx hb dX7_fieldOf_10 (by decide) ?_
  exact W.iret (v := (-1)) hx hb hr (fun t ht hW => ⟨⟨(-1), (), rfl, rfl, trivial⟩, hS.F ht⟩) hS.2.2 dX7_fieldOf_11

set_option maxHeartbeats 4000000 in
set_option maxRecDepth 100000 in
theorem k_areTwo (l : Launch) (dC : Nat → ClassId) (dI : Nat → Nat → Nat) (a : Nat → Nat) (p0 : Int32) (p1 : Int32) (sz : Nat) : Met l yX7_areTwoHouses (zz_w yX7_areTwoHouses cX7_areTwoHouses 3 (some .boolean)) ({ frames := 2, cells := 0, slots := 0, locals := 43 }) (va_Pc [.ref (a 0), .int p0, .int p1] (zz_B (dC, dI) sz [(a 0, .inr (7, [.ref (a 1), .ref (a 10), .ref (a 23), .ref (a 24), .ref (a 26), .ref (a 29), .ref (a 34), .ref (a 43), .int 0, .int 0, .int 0, .int 0]))] [])) (va_Qi (fun (r : Int32) (_ : Unit) => r = 0) (fun _ _ => True) (va_A [] sz)) 0 0 (va_A [] sz) := by
  refine Met.ofW (cc := cX7_areTwoHouses) (maxL := 3) (ret := (some .boolean)) (by decide) rfl ?_
  intro p e s m args below meth c s₁ B hml hv
  obtain ⟨rfl, hsz, hP, hK, hD0, hN⟩ := hv
  have hx := B.exec
  have hb := B.bytes
  have hr := B.returns
  have hts := atoms_spec (ws := zz_w yX7_areTwoHouses cX7_areTwoHouses 3 (some .boolean)) B.pre
  have hw : ∀ w ∈ zz_all, w.before _ s = true := fun w h => hts w (List.mem_cons_of_mem _ h)
  have hown : s.vm.findClass RX7 = some m.cls := findClass_of_methodNamed B.named
  have hlocks := B.notSynchronized
  subst hsz
  have hD := hD0
  generalize hAe : va_A [] s.heap.size = A
  have hA : ∀ q : Nat, s.heap.size ≤ q → A q := fun q h => by rw [← hAe]; exact Or.inr h
  have hS : va_S A s.heap s.heap [] := va_S.rf
  have hP : va_P (dC, dI) vwCl [(a 0, .inr (7, [.ref (a 1), .ref (a 10), .ref (a 23), .ref (a 24), .ref (a 26), .ref (a 29), .ref (a 34), .ref (a 43), .int 0, .int 0, .int 0, .int 0]))] s.heap := hP
  have hl := lv_entry ([.ref (a 0), .int p0, .int p1]) (n := 3) (Nat.le_of_ble_eq_true rfl)
  rw [lg_entry_eq]
  generalize (lg_sl ([.ref (a 0), .int p0, .int p1]) ++ List.replicate (3 - (lg_sl ([.ref (a 0), .int p0, .int p1])).length) Slot.unset).toArray = ls at hl ⊢
  have hl : lv_has ls 3 [(0, .ref (a 0)), (1, .int p0), (2, .int p1)] := hl
  refine lv_iload_n hx hb dX7_areTwoHouses_0 rfl (lv_at hl 1 rfl) ?_
  refine lv_iload_n hx hb dX7_areTwoHouses_1 rfl (lv_at hl 2 rfl) ?_
  refine lv_icmp_eq (tgt := 25) hx hb dX7_areTwoHouses_2 (by decide) (fun c_1 => ?_) (fun c_1 => ?_)
  · refine lv_iconst (v := 0) hx hb dX7_areTwoHouses_25 (by decide) ?_
    exact W.zret (v := 0) hx hb hr (rfl) (fun t ht hW => ⟨⟨0, (), rfl, rfl, trivial⟩, hS.F ht⟩) hS.2.2 dX7_areTwoHouses_26
  · refine lv_aload_n hx hb dX7_areTwoHouses_5 rfl (lv_at hl 0 rfl) ?_
    refine lv_iload_n hx hb dX7_areTwoHouses_6 rfl (lv_at hl 1 rfl) ?_
    have hPc := hP.sub (ws' := [(a 0, .inr (7, [.ref (a 1), .ref (a 10), .ref (a 23), .ref (a 24), .ref (a 26), .ref (a 29), .ref (a 34), .ref (a 43), .int 0, .int 0, .int 0, .int 0]))]) [0] rfl
    have hDc := hD.sub (ws' := [(a 0, .inr (7, [.ref (a 1), .ref (a 10), .ref (a 23), .ref (a 24), .ref (a 26), .ref (a 29), .ref (a 34), .ref (a 43), .int 0, .int 0, .int 0, .int 0]))]) [0] (by decide) rfl
    have hKc := hK.sub (tys' := []) [] rfl
    have hFc := zz_free0 hS hA
    refine va_callq (va_runV (As := [.int p0]) (rest := []) ⟨hx, hb, hml, hown, hw⟩ (k_houseAt l dC dI a p0 s.heap.size) ⟨callB_of 1 hw (zz_good tw_7) rfl rfl rfl (hw _ tw_2) (hw _ tw_8) (by decide +kernel) ⟨Nat.le_of_ble_eq_true rfl, Nat.le_of_ble_eq_true rfl⟩, (hw _ tw_9), (hw _ tw_10)⟩ ⟨zz_blind, va_recv hKc hPc (ci := 7) (q0 := 0) rfl rfl, zz_pre hPc hKc hDc hN⟩ rfl rfl hl.1 rfl (lv_room (Nat.le_of_ble_eq_true rfl)) dX7_areTwoHouses_7 ⟨Nat.le_of_ble_eq_true rfl, Nat.le_of_ble_eq_true rfl⟩) hS (fun q _ h => hFc q h) hFc (fun r_2 u_2 t H1 locs ht hvm e_2 hB hz1 hk1 hS => ?_)
    try dsimp only at e_2
    have hP := zz_keep hP hk1
    clear hk1 hB ht hvm
    generalize H1 = H at hP hS ⊢
    have hP : va_P (dC, dI) vwCl [(a 0, .inr (7, [.ref (a 1), .ref (a 10), .ref (a 23), .ref (a 24), .ref (a 26), .ref (a 29), .ref (a 34), .ref (a 43), .int 0, .int 0, .int 0, .int 0]))] H := hP
    have hD : va_D (fun _ => True) [(a 0, .inr (7, [.ref (a 1), .ref (a 10), .ref (a 23), .ref (a 24), .ref (a 26), .ref (a 29), .ref (a 34), .ref (a 43), .int 0, .int 0, .int 0, .int 0]))] := hD
    refine zz_setv (.null) (congrArg va_rf e_2) ?_
    refine lv_ifnullN (tgt := 25) hx hb dX7_areTwoHouses_10 (by decide) ?_
    refine lv_iconst (v := 0) hx hb dX7_areTwoHouses_25 (by decide) ?_
    exact W.zret (v := 0) hx hb hr (rfl) (fun t ht hW => ⟨⟨0, (), rfl, rfl, trivial⟩, hS.F ht⟩) hS.2.2 dX7_areTwoHouses_26

set_option maxHeartbeats 4000000 in
set_option maxRecDepth 100000 in
theorem k_owes (l : Launch) (dC : Nat → ClassId) (dI : Nat → Nat → Nat) (a : Nat → Nat) (p0 : Int32) (p1 : Int32) (sz : Nat) : Met l yX7_owes (zz_w yX7_owes cX7_owes 3 (some .int)) ({ frames := 3, cells := 0, slots := 0, locals := 65 }) (va_Pc [.ref (a 0), .int p0, .int p1] (zz_B (dC, dI) sz [(a 0, .inr (7, [.ref (a 1), .ref (a 10), .ref (a 23), .ref (a 24), .ref (a 26), .ref (a 29), .ref (a 34), .ref (a 43), .int 0, .int 0, .int 0, .int 0]))] [])) (va_Qi (fun (r : Int32) (_ : Unit) => r = -1) (fun _ _ => True) (va_A [] sz)) 0 0 (va_A [] sz) := by
  refine Met.ofW (cc := cX7_owes) (maxL := 3) (ret := (some .int)) (by decide) rfl ?_
  intro p e s m args below meth c s₁ B hml hv
  obtain ⟨rfl, hsz, hP, hK, hD0, hN⟩ := hv
  have hx := B.exec
  have hb := B.bytes
  have hr := B.returns
  have hts := atoms_spec (ws := zz_w yX7_owes cX7_owes 3 (some .int)) B.pre
  have hw : ∀ w ∈ zz_all, w.before _ s = true := fun w h => hts w (List.mem_cons_of_mem _ h)
  have hown : s.vm.findClass RX7 = some m.cls := findClass_of_methodNamed B.named
  have hlocks := B.notSynchronized
  subst hsz
  have hD := hD0
  generalize hAe : va_A [] s.heap.size = A
  have hA : ∀ q : Nat, s.heap.size ≤ q → A q := fun q h => by rw [← hAe]; exact Or.inr h
  have hS : va_S A s.heap s.heap [] := va_S.rf
  have hP : va_P (dC, dI) vwCl [(a 0, .inr (7, [.ref (a 1), .ref (a 10), .ref (a 23), .ref (a 24), .ref (a 26), .ref (a 29), .ref (a 34), .ref (a 43), .int 0, .int 0, .int 0, .int 0]))] s.heap := hP
  have hl := lv_entry ([.ref (a 0), .int p0, .int p1]) (n := 3) (Nat.le_of_ble_eq_true rfl)
  rw [lg_entry_eq]
  generalize (lg_sl ([.ref (a 0), .int p0, .int p1]) ++ List.replicate (3 - (lg_sl ([.ref (a 0), .int p0, .int p1])).length) Slot.unset).toArray = ls at hl ⊢
  have hl : lv_has ls 3 [(0, .ref (a 0)), (1, .int p0), (2, .int p1)] := hl
  refine lv_aload_n hx hb dX7_owes_0 rfl (lv_at hl 0 rfl) ?_
  refine lv_iload_n hx hb dX7_owes_1 rfl (lv_at hl 1 rfl) ?_
  refine lv_iload_n hx hb dX7_owes_2 rfl (lv_at hl 2 rfl) ?_
  have hPc := hP.sub (ws' := [(a 0, .inr (7, [.ref (a 1), .ref (a 10), .ref (a 23), .ref (a 24), .ref (a 26), .ref (a 29), .ref (a 34), .ref (a 43), .int 0, .int 0, .int 0, .int 0]))]) [0] rfl
  have hDc := hD.sub (ws' := [(a 0, .inr (7, [.ref (a 1), .ref (a 10), .ref (a 23), .ref (a 24), .ref (a 26), .ref (a 29), .ref (a 34), .ref (a 43), .int 0, .int 0, .int 0, .int 0]))]) [0] (by decide) rfl
  have hKc := hK.sub (tys' := []) [] rfl
  have hFc := zz_free0 hS hA
  refine va_calli (va_runV (As := [.int p0, .int p1]) (rest := []) ⟨hx, hb, hml, hown, hw⟩ (k_areTwo l dC dI a p0 p1 s.heap.size) ⟨callB_of 2 hw (zz_good tw_41) rfl rfl rfl (hw _ tw_2) (hw _ tw_42) (by decide +kernel) ⟨Nat.le_of_ble_eq_true rfl, Nat.le_of_ble_eq_true rfl⟩, (hw _ tw_43), (hw _ tw_44)⟩ ⟨zz_blind, va_recv hKc hPc (ci := 7) (q0 := 0) rfl rfl, zz_pre hPc hKc hDc hN⟩ rfl rfl hl.1 rfl (lv_room (Nat.le_of_ble_eq_true rfl)) dX7_owes_3 ⟨Nat.le_of_ble_eq_true rfl, Nat.le_of_ble_eq_true rfl⟩) hS (fun q _ h => hFc q h) hFc (fun r_1 u_1 t H1 locs ht hvm e_1 hB hz1 hk1 hS => ?_)
  try dsimp only at e_1
  have hP := zz_keep hP hk1
  clear hk1 hB ht hvm
  generalize H1 = H at hP hS ⊢
  have hP : va_P (dC, dI) vwCl [(a 0, .inr (7, [.ref (a 1), .ref (a 10), .ref (a 23), .ref (a 24), .ref (a 26), .ref (a 29), .ref (a 34), .ref (a 43), .int 0, .int 0, .int 0, .int 0]))] H := hP
  have hD : va_D (fun _ => True) [(a 0, .inr (7, [.ref (a 1), .ref (a 10), .ref (a 23), .ref (a 24), .ref (a 26), .ref (a 29), .ref (a 34), .ref (a 43), .int 0, .int 0, .int 0, .int 0]))] := hD
  refine zz_seti 0 e_1 ?_
  refine lv_if_eq (tgt := 21) hx hb dX7_owes_6 (by decide) (fun _ => ?_) (fun c_9 => absurd c_9 (by decide))
  refine lv_iconst (v := (-1)) hx hb dX7_owes_21 (by decide) ?_
  exact W.iret (v := (-1)) hx hb hr (fun t ht hW => ⟨⟨(-1), (), rfl, rfl, trivial⟩, hS.F ht⟩) hS.2.2 dX7_owes_22

set_option maxHeartbeats 4000000 in
set_option maxRecDepth 100000 in
theorem k_oldest (l : Launch) (dC : Nat → ClassId) (dI : Nat → Nat → Nat) (a : Nat → Nat) (p0 : Int32) (p1 : Int32) (sz : Nat) : Met l yX7_oldest (zz_w yX7_oldest cX7_oldest 3 (some .int)) ({ frames := 3, cells := 0, slots := 0, locals := 65 }) (va_Pc [.ref (a 0), .int p0, .int p1] (zz_B (dC, dI) sz [(a 0, .inr (7, [.ref (a 1), .ref (a 10), .ref (a 23), .ref (a 24), .ref (a 26), .ref (a 29), .ref (a 34), .ref (a 43), .int 0, .int 0, .int 0, .int 0]))] [])) (va_Qi (fun (r : Int32) (_ : Unit) => r = -1) (fun _ _ => True) (va_A [] sz)) 0 0 (va_A [] sz) := by
  refine Met.ofW (cc := cX7_oldest) (maxL := 3) (ret := (some .int)) (by decide) rfl ?_
  intro p e s m args below meth c s₁ B hml hv
  obtain ⟨rfl, hsz, hP, hK, hD0, hN⟩ := hv
  have hx := B.exec
  have hb := B.bytes
  have hr := B.returns
  have hts := atoms_spec (ws := zz_w yX7_oldest cX7_oldest 3 (some .int)) B.pre
  have hw : ∀ w ∈ zz_all, w.before _ s = true := fun w h => hts w (List.mem_cons_of_mem _ h)
  have hown : s.vm.findClass RX7 = some m.cls := findClass_of_methodNamed B.named
  have hlocks := B.notSynchronized
  subst hsz
  have hD := hD0
  generalize hAe : va_A [] s.heap.size = A
  have hA : ∀ q : Nat, s.heap.size ≤ q → A q := fun q h => by rw [← hAe]; exact Or.inr h
  have hS : va_S A s.heap s.heap [] := va_S.rf
  have hP : va_P (dC, dI) vwCl [(a 0, .inr (7, [.ref (a 1), .ref (a 10), .ref (a 23), .ref (a 24), .ref (a 26), .ref (a 29), .ref (a 34), .ref (a 43), .int 0, .int 0, .int 0, .int 0]))] s.heap := hP
  have hl := lv_entry ([.ref (a 0), .int p0, .int p1]) (n := 3) (Nat.le_of_ble_eq_true rfl)
  rw [lg_entry_eq]
  generalize (lg_sl ([.ref (a 0), .int p0, .int p1]) ++ List.replicate (3 - (lg_sl ([.ref (a 0), .int p0, .int p1])).length) Slot.unset).toArray = ls at hl ⊢
  have hl : lv_has ls 3 [(0, .ref (a 0)), (1, .int p0), (2, .int p1)] := hl
  refine lv_aload_n hx hb dX7_oldest_0 rfl (lv_at hl 0 rfl) ?_
  refine lv_iload_n hx hb dX7_oldest_1 rfl (lv_at hl 1 rfl) ?_
  refine lv_iload_n hx hb dX7_oldest_2 rfl (lv_at hl 2 rfl) ?_
  have hPc := hP.sub (ws' := [(a 0, .inr (7, [.ref (a 1), .ref (a 10), .ref (a 23), .ref (a 24), .ref (a 26), .ref (a 29), .ref (a 34), .ref (a 43), .int 0, .int 0, .int 0, .int 0]))]) [0] rfl
  have hDc := hD.sub (ws' := [(a 0, .inr (7, [.ref (a 1), .ref (a 10), .ref (a 23), .ref (a 24), .ref (a 26), .ref (a 29), .ref (a 34), .ref (a 43), .int 0, .int 0, .int 0, .int 0]))]) [0] (by decide) rfl
  have hKc := hK.sub (tys' := []) [] rfl
  have hFc := zz_free0 hS hA
  refine va_calli (va_runV (As := [.int p0, .int p1]) (rest := []) ⟨hx, hb, hml, hown, hw⟩ (k_areTwo l dC dI a p0 p1 s.heap.size) ⟨callB_of 2 hw (zz_good tw_41) rfl rfl rfl (hw _ tw_2) (hw _ tw_42) (by decide +kernel) ⟨Nat.le_of_ble_eq_true rfl, Nat.le_of_ble_eq_true rfl⟩, (hw _ tw_43), (hw _ tw_44)⟩ ⟨zz_blind, va_recv hKc hPc (ci := 7) (q0 := 0) rfl rfl, zz_pre hPc hKc hDc hN⟩ rfl rfl hl.1 rfl (lv_room (Nat.le_of_ble_eq_true rfl)) dX7_oldest_3 ⟨Nat.le_of_ble_eq_true rfl, Nat.le_of_ble_eq_true rfl⟩) hS (fun q _ h => hFc q h) hFc (fun r_1 u_1 t H1 locs ht hvm e_1 hB hz1 hk1 hS => ?_)
  try dsimp only at e_1
  have hP := zz_keep hP hk1
  clear hk1 hB ht hvm
  generalize H1 = H at hP hS ⊢
  have hP : va_P (dC, dI) vwCl [(a 0, .inr (7, [.ref (a 1), .ref (a 10), .ref (a 23), .ref (a 24), .ref (a 26), .ref (a 29), .ref (a 34), .ref (a 43), .int 0, .int 0, .int 0, .int 0]))] H := hP
  have hD : va_D (fun _ => True) [(a 0, .inr (7, [.ref (a 1), .ref (a 10), .ref (a 23), .ref (a 24), .ref (a 26), .ref (a 29), .ref (a 34), .ref (a 43), .int 0, .int 0, .int 0, .int 0]))] := hD
  refine zz_seti 0 e_1 ?_
  refine lv_if_eq (tgt := 21) hx hb dX7_oldest_6 (by decide) (fun _ => ?_) (fun c_9 => absurd c_9 (by decide))
  refine lv_iconst (v := (-1)) hx hb dX7_oldest_21 (by decide) ?_
  exact W.iret (v := (-1)) hx hb hr (fun t ht hW => ⟨⟨(-1), (), rfl, rfl, trivial⟩, hS.F ht⟩) hS.2.2 dX7_oldest_22

set_option maxHeartbeats 4000000 in
set_option maxRecDepth 100000 in
theorem k_takeNets (l : Launch) (dC : Nat → ClassId) (dI : Nat → Nat → Nat) (a : Nat → Nat) (cI : ClassId) (sz : Nat) : Met l yX2_takeNets (zz_w yX2_takeNets cX2_takeNets 4 (some .boolean)) ({ frames := 0, cells := 0, slots := 0, locals := 0 }) (va_Pc [.ref (a 34), .ref (a 29)] (zz_B (dC, dI) sz [(a 34, .inr (2, [.ref (a 35), .ref (a 36), .ref (a 37), .ref (a 38), .ref (a 39), .ref (a 40), .ref (a 41), .ref (a 42), .int 0])), (a 35, .inl (cI, 8, .inl (fun _ => (0 : Int32)))), (a 36, .inl (cI, 8, .inl (fun _ => (0 : Int32)))), (a 29, .inr (1, [.ref (a 30), .ref (a 31), .ref (a 32), .ref (a 33), .int 0]))] [(cI, .int)])) (va_Qi (fun (r : Int32) (_ : Nat → Int32) => r = 0) (fun (u0 : Nat → Int32) (t : State) => va_P (dC, dI) vwCl [(a 34, .inr (2, [.ref (a 35), .ref (a 36), .ref (a 37), .ref (a 38), .ref (a 39), .ref (a 40), .ref (a 41), .ref (a 42), .int 0])), (a 35, .inl (cI, 8, .inl (fun _ => (0 : Int32)))), (a 36, .inl (cI, 8, .inl u0)), (a 29, .inr (1, [.ref (a 30), .ref (a 31), .ref (a 32), .ref (a 33), .int 0]))] t.heap ∧ va_K (dC, dI) vwCl [(cI, .int)] t ∧ va_D (va_A [(a 34, .inr (2, [.ref (a 35), .ref (a 36), .ref (a 37), .ref (a 38), .ref (a 39), .ref (a 40), .ref (a 41), .ref (a 42), .int 0])), (a 35, .inl (cI, 8, .inl (fun _ => (0 : Int32)))), (a 36, .inl (cI, 8, .inl (fun _ => (0 : Int32)))), (a 29, .inr (1, [.ref (a 30), .ref (a 31), .ref (a 32), .ref (a 33), .int 0]))] sz) [(a 34, .inr (2, [.ref (a 35), .ref (a 36), .ref (a 37), .ref (a 38), .ref (a 39), .ref (a 40), .ref (a 41), .ref (a 42), .int 0])), (a 35, .inl (cI, 8, .inl (fun _ => (0 : Int32)))), (a 36, .inl (cI, 8, .inl u0)), (a 29, .inr (1, [.ref (a 30), .ref (a 31), .ref (a 32), .ref (a 33), .int 0]))]) (va_A [(a 34, .inr (2, [.ref (a 35), .ref (a 36), .ref (a 37), .ref (a 38), .ref (a 39), .ref (a 40), .ref (a 41), .ref (a 42), .int 0])), (a 35, .inl (cI, 8, .inl (fun _ => (0 : Int32)))), (a 36, .inl (cI, 8, .inl (fun _ => (0 : Int32)))), (a 29, .inr (1, [.ref (a 30), .ref (a 31), .ref (a 32), .ref (a 33), .int 0]))] sz)) 0 0 (va_A [(a 34, .inr (2, [.ref (a 35), .ref (a 36), .ref (a 37), .ref (a 38), .ref (a 39), .ref (a 40), .ref (a 41), .ref (a 42), .int 0])), (a 35, .inl (cI, 8, .inl (fun _ => (0 : Int32)))), (a 36, .inl (cI, 8, .inl (fun _ => (0 : Int32)))), (a 29, .inr (1, [.ref (a 30), .ref (a 31), .ref (a 32), .ref (a 33), .int 0]))] sz) := by
  refine Met.ofW (cc := cX2_takeNets) (maxL := 4) (ret := (some .boolean)) (by decide) rfl ?_
  intro p e s m args below meth c s₁ B hml hv
  obtain ⟨rfl, hsz, hP, hK, hD0, hN⟩ := hv
  have hx := B.exec
  have hb := B.bytes
  have hr := B.returns
  have hts := atoms_spec (ws := zz_w yX2_takeNets cX2_takeNets 4 (some .boolean)) B.pre
  have hw : ∀ w ∈ zz_all, w.before _ s = true := fun w h => hts w (List.mem_cons_of_mem _ h)
  have hown : s.vm.findClass RX2 = some m.cls := findClass_of_methodNamed B.named
  have hlocks := B.notSynchronized
  subst hsz
  have hD := hD0.self (sz := s.heap.size)
  generalize hAe : va_A [(a 34, .inr (2, [.ref (a 35), .ref (a 36), .ref (a 37), .ref (a 38), .ref (a 39), .ref (a 40), .ref (a 41), .ref (a 42), .int 0])), (a 35, .inl (cI, 8, .inl (fun _ => (0 : Int32)))), (a 36, .inl (cI, 8, .inl (fun _ => (0 : Int32)))), (a 29, .inr (1, [.ref (a 30), .ref (a 31), .ref (a 32), .ref (a 33), .int 0]))] s.heap.size = A at hD ⊢
  have hA : ∀ q : Nat, s.heap.size ≤ q → A q := fun q h => by rw [← hAe]; exact Or.inr h
  have hS : va_S A s.heap s.heap [] := va_S.rf
  have hP : va_P (dC, dI) vwCl [(a 34, .inr (2, [.ref (a 35), .ref (a 36), .ref (a 37), .ref (a 38), .ref (a 39), .ref (a 40), .ref (a 41), .ref (a 42), .int 0])), (a 35, .inl (cI, 8, .inl (fun _ => (0 : Int32)))), (a 36, .inl (cI, 8, .inl (fun _ => (0 : Int32)))), (a 29, .inr (1, [.ref (a 30), .ref (a 31), .ref (a 32), .ref (a 33), .int 0]))] s.heap := hP
  have hl := lv_entry ([.ref (a 34), .ref (a 29)]) (n := 4) (Nat.le_of_ble_eq_true rfl)
  rw [lg_entry_eq]
  generalize (lg_sl ([.ref (a 34), .ref (a 29)]) ++ List.replicate (4 - (lg_sl ([.ref (a 34), .ref (a 29)])).length) Slot.unset).toArray = ls at hl ⊢
  have hl : lv_has ls 4 [(0, .ref (a 34)), (1, .ref (a 29))] := hl
  refine lv_iconst (v := 0) hx hb dX2_takeNets_0 (by decide) ?_
  refine lv_istore_n (lv' := [(2, .int 0), (0, .ref (a 34)), (1, .ref (a 29))]) hx hb dX2_takeNets_1 rfl hl (by decide) rfl (fun ls hl => ?_)
  refine lv_iconst (v := 0) hx hb dX2_takeNets_2 (by decide) ?_
  refine lv_istore_n (lv' := [(3, .int 0), (2, .int 0), (0, .ref (a 34)), (1, .ref (a 29))]) hx hb dX2_takeNets_3 rfl hl (by decide) rfl (fun ls hl => ?_)
  refine lv_iload_n hx hb dX2_takeNets_4 rfl (lv_at hl 0 rfl) ?_
  refine lv_bipush (v := 8) hx hb dX2_takeNets_5 (by decide) ?_
  refine lv_icmp_ge (tgt := 23) hx hb dX2_takeNets_7 (by decide) (fun c_9 => absurd c_9 (by decide)) (fun _ => ?_)
  refine lv_aload_n hx hb dX2_takeNets_10 rfl (lv_at hl 2 rfl) ?_
  refine va_get (D := (dC, dI)) (ci := 2) (v := .ref (a 36)) (C := RX2) (T := TX2) (N := 9) hx hb hw zz_inX2 hown hK hP 0 rfl rfl 1 (by decide) (hw _ tw_45) (fun _ h9 => h9) rfl dX2_takeNets_11 ?_
  refine lv_iload_n hx hb dX2_takeNets_14 rfl (lv_at hl 0 rfl) ?_
  refine lv_iconst (v := 0) hx hb dX2_takeNets_15 (by decide) ?_
  refine va_iast hx hb hK hP hD hS 2 0 rfl rfl (zz_vin (by decide)) dX2_takeNets_16 (fun H locs hP hD hS => ?_)
  have hP : va_P (dC, dI) vwCl [(a 34, .inr (2, [.ref (a 35), .ref (a 36), .ref (a 37), .ref (a 38), .ref (a 39), .ref (a 40), .ref (a 41), .ref (a 42), .int 0])), (a 35, .inl (cI, 8, .inl (fun _ => (0 : Int32)))), (a 36, .inl (cI, 8, .inl (upd (fun _ => (0 : Int32)) (Int32.toNatClampNeg 0) 0))), (a 29, .inr (1, [.ref (a 30), .ref (a 31), .ref (a 32), .ref (a 33), .int 0]))] H := hP
  have hD : va_D A [(a 34, .inr (2, [.ref (a 35), .ref (a 36), .ref (a 37), .ref (a 38), .ref (a 39), .ref (a 40), .ref (a 41), .ref (a 42), .int 0])), (a 35, .inl (cI, 8, .inl (fun _ => (0 : Int32)))), (a 36, .inl (cI, 8, .inl (upd (fun _ => (0 : Int32)) (Int32.toNatClampNeg 0) 0))), (a 29, .inr (1, [.ref (a 30), .ref (a 31), .ref (a 32), .ref (a 33), .int 0]))] := hD
  refine lv_iinc (v := 1) (lv' := [(3, .int 1), (2, .int 0), (0, .ref (a 34)), (1, .ref (a 29))]) hx hb dX2_takeNets_17 hl (k := 0) rfl (by decide) (by decide) rfl (fun ls hl => ?_)
  refine lv_goto (tgt := 4) hx hb dX2_takeNets_20 (by decide) ?_
  refine lv_iload_n hx hb dX2_takeNets_4 rfl (lv_at hl 0 rfl) ?_
  refine lv_bipush (v := 8) hx hb dX2_takeNets_5 (by decide) ?_
  refine lv_icmp_ge (tgt := 23) hx hb dX2_takeNets_7 (by decide) (fun c_9 => absurd c_9 (by decide)) (fun _ => ?_)
  refine lv_aload_n hx hb dX2_takeNets_10 rfl (lv_at hl 2 rfl) ?_
  refine va_get (D := (dC, dI)) (ci := 2) (v := .ref (a 36)) (C := RX2) (T := TX2) (N := 9) hx hb hw zz_inX2 hown hK hP 0 rfl rfl 1 (by decide) (hw _ tw_45) (fun _ h9 => h9) rfl dX2_takeNets_11 ?_
  refine lv_iload_n hx hb dX2_takeNets_14 rfl (lv_at hl 0 rfl) ?_
  refine lv_iconst (v := 0) hx hb dX2_takeNets_15 (by decide) ?_
  refine va_iast hx hb hK hP hD hS 2 0 rfl rfl (zz_vin (by decide)) dX2_takeNets_16 (fun H locs hP hD hS => ?_)
  have hP : va_P (dC, dI) vwCl [(a 34, .inr (2, [.ref (a 35), .ref (a 36), .ref (a 37), .ref (a 38), .ref (a 39), .ref (a 40), .ref (a 41), .ref (a 42), .int 0])), (a 35, .inl (cI, 8, .inl (fun _ => (0 : Int32)))), (a 36, .inl (cI, 8, .inl (upd (upd (fun _ => (0 : Int32)) (Int32.toNatClampNeg 0) 0) (Int32.toNatClampNeg 1) 0))), (a 29, .inr (1, [.ref (a 30), .ref (a 31), .ref (a 32), .ref (a 33), .int 0]))] H := hP
  have hD : va_D A [(a 34, .inr (2, [.ref (a 35), .ref (a 36), .ref (a 37), .ref (a 38), .ref (a 39), .ref (a 40), .ref (a 41), .ref (a 42), .int 0])), (a 35, .inl (cI, 8, .inl (fun _ => (0 : Int32)))), (a 36, .inl (cI, 8, .inl (upd (upd (fun _ => (0 : Int32)) (Int32.toNatClampNeg 0) 0) (Int32.toNatClampNeg 1) 0))), (a 29, .inr (1, [.ref (a 30), .ref (a 31), .ref (a 32), .ref (a 33), .int 0]))] := hD
  refine lv_iinc (v := 2) (lv' := [(3, .int 2), (2, .int 0), (0, .ref (a 34)), (1, .ref (a 29))]) hx hb dX2_takeNets_17 hl (k := 0) rfl (by decide) (by decide) rfl (fun ls hl => ?_)
  refine lv_goto (tgt := 4) hx hb dX2_takeNets_20 (by decide) ?_
  refine lv_iload_n hx hb dX2_takeNets_4 rfl (lv_at hl 0 rfl) ?_
  refine lv_bipush (v := 8) hx hb dX2_takeNets_5 (by decide) ?_
  refine lv_icmp_ge (tgt := 23) hx hb dX2_takeNets_7 (by decide) (fun c_9 => absurd c_9 (by decide)) (fun _ => ?_)
  refine lv_aload_n hx hb dX2_takeNets_10 rfl (lv_at hl 2 rfl) ?_
  refine va_get (D := (dC, dI)) (ci := 2) (v := .ref (a 36)) (C := RX2) (T := TX2) (N := 9) hx hb hw zz_inX2 hown hK hP 0 rfl rfl 1 (by decide) (hw _ tw_45) (fun _ h9 => h9) rfl dX2_takeNets_11 ?_
  refine lv_iload_n hx hb dX2_takeNets_14 rfl (lv_at hl 0 rfl) ?_
  refine lv_iconst (v := 0) hx hb dX2_takeNets_15 (by decide) ?_
  refine va_iast hx hb hK hP hD hS 2 0 rfl rfl (zz_vin (by decide)) dX2_takeNets_16 (fun H locs hP hD hS => ?_)
  have hP : va_P (dC, dI) vwCl [(a 34, .inr (2, [.ref (a 35), .ref (a 36), .ref (a 37), .ref (a 38), .ref (a 39), .ref (a 40), .ref (a 41), .ref (a 42), .int 0])), (a 35, .inl (cI, 8, .inl (fun _ => (0 : Int32)))), (a 36, .inl (cI, 8, .inl (upd (upd (upd (fun _ => (0 : Int32)) (Int32.toNatClampNeg 0) 0) (Int32.toNatClampNeg 1) 0) (Int32.toNatClampNeg 2) 0))), (a 29, .inr (1, [.ref (a 30), .ref (a 31), .ref (a 32), .ref (a 33), .int 0]))] H := hP
  have hD : va_D A [(a 34, .inr (2, [.ref (a 35), .ref (a 36), .ref (a 37), .ref (a 38), .ref (a 39), .ref (a 40), .ref (a 41), .ref (a 42), .int 0])), (a 35, .inl (cI, 8, .inl (fun _ => (0 : Int32)))), (a 36, .inl (cI, 8, .inl (upd (upd (upd (fun _ => (0 : Int32)) (Int32.toNatClampNeg 0) 0) (Int32.toNatClampNeg 1) 0) (Int32.toNatClampNeg 2) 0))), (a 29, .inr (1, [.ref (a 30), .ref (a 31), .ref (a 32), .ref (a 33), .int 0]))] := hD
  refine lv_iinc (v := 3) (lv' := [(3, .int 3), (2, .int 0), (0, .ref (a 34)), (1, .ref (a 29))]) hx hb dX2_takeNets_17 hl (k := 0) rfl (by decide) (by decide) rfl (fun ls hl => ?_)
  refine lv_goto (tgt := 4) hx hb dX2_takeNets_20 (by decide) ?_
  refine lv_iload_n hx hb dX2_takeNets_4 rfl (lv_at hl 0 rfl) ?_
  refine lv_bipush (v := 8) hx hb dX2_takeNets_5 (by decide) ?_
  refine lv_icmp_ge (tgt := 23) hx hb dX2_takeNets_7 (by decide) (fun c_9 => absurd c_9 (by decide)) (fun _ => ?_)
  refine lv_aload_n hx hb dX2_takeNets_10 rfl (lv_at hl 2 rfl) ?_
  refine va_get (D := (dC, dI)) (ci := 2) (v := .ref (a 36)) (C := RX2) (T := TX2) (N := 9) hx hb hw zz_inX2 hown hK hP 0 rfl rfl 1 (by decide) (hw _ tw_45) (fun _ h9 => h9) rfl dX2_takeNets_11 ?_
  refine lv_iload_n hx hb dX2_takeNets_14 rfl (lv_at hl 0 rfl) ?_
  refine lv_iconst (v := 0) hx hb dX2_takeNets_15 (by decide) ?_
  refine va_iast hx hb hK hP hD hS 2 0 rfl rfl (zz_vin (by decide)) dX2_takeNets_16 (fun H locs hP hD hS => ?_)
  have hP : va_P (dC, dI) vwCl [(a 34, .inr (2, [.ref (a 35), .ref (a 36), .ref (a 37), .ref (a 38), .ref (a 39), .ref (a 40), .ref (a 41), .ref (a 42), .int 0])), (a 35, .inl (cI, 8, .inl (fun _ => (0 : Int32)))), (a 36, .inl (cI, 8, .inl (upd (upd (upd (upd (fun _ => (0 : Int32)) (Int32.toNatClampNeg 0) 0) (Int32.toNatClampNeg 1) 0) (Int32.toNatClampNeg 2) 0) (Int32.toNatClampNeg 3) 0))), (a 29, .inr (1, [.ref (a 30), .ref (a 31), .ref (a 32), .ref (a 33), .int 0]))] H := hP
  have hD : va_D A [(a 34, .inr (2, [.ref (a 35), .ref (a 36), .ref (a 37), .ref (a 38), .ref (a 39), .ref (a 40), .ref (a 41), .ref (a 42), .int 0])), (a 35, .inl (cI, 8, .inl (fun _ => (0 : Int32)))), (a 36, .inl (cI, 8, .inl (upd (upd (upd (upd (fun _ => (0 : Int32)) (Int32.toNatClampNeg 0) 0) (Int32.toNatClampNeg 1) 0) (Int32.toNatClampNeg 2) 0) (Int32.toNatClampNeg 3) 0))), (a 29, .inr (1, [.ref (a 30), .ref (a 31), .ref (a 32), .ref (a 33), .int 0]))] := hD
  refine lv_iinc (v := 4) (lv' := [(3, .int 4), (2, .int 0), (0, .ref (a 34)), (1, .ref (a 29))]) hx hb dX2_takeNets_17 hl (k := 0) rfl (by decide) (by decide) rfl (fun ls hl => ?_)
  refine lv_goto (tgt := 4) hx hb dX2_takeNets_20 (by decide) ?_
  refine lv_iload_n hx hb dX2_takeNets_4 rfl (lv_at hl 0 rfl) ?_
  refine lv_bipush (v := 8) hx hb dX2_takeNets_5 (by decide) ?_
  refine lv_icmp_ge (tgt := 23) hx hb dX2_takeNets_7 (by decide) (fun c_9 => absurd c_9 (by decide)) (fun _ => ?_)
  refine lv_aload_n hx hb dX2_takeNets_10 rfl (lv_at hl 2 rfl) ?_
  refine va_get (D := (dC, dI)) (ci := 2) (v := .ref (a 36)) (C := RX2) (T := TX2) (N := 9) hx hb hw zz_inX2 hown hK hP 0 rfl rfl 1 (by decide) (hw _ tw_45) (fun _ h9 => h9) rfl dX2_takeNets_11 ?_
  refine lv_iload_n hx hb dX2_takeNets_14 rfl (lv_at hl 0 rfl) ?_
  refine lv_iconst (v := 0) hx hb dX2_takeNets_15 (by decide) ?_
  refine va_iast hx hb hK hP hD hS 2 0 rfl rfl (zz_vin (by decide)) dX2_takeNets_16 (fun H locs hP hD hS => ?_)
  have hP : va_P (dC, dI) vwCl [(a 34, .inr (2, [.ref (a 35), .ref (a 36), .ref (a 37), .ref (a 38), .ref (a 39), .ref (a 40), .ref (a 41), .ref (a 42), .int 0])), (a 35, .inl (cI, 8, .inl (fun _ => (0 : Int32)))), (a 36, .inl (cI, 8, .inl (upd (upd (upd (upd (upd (fun _ => (0 : Int32)) (Int32.toNatClampNeg 0) 0) (Int32.toNatClampNeg 1) 0) (Int32.toNatClampNeg 2) 0) (Int32.toNatClampNeg 3) 0) (Int32.toNatClampNeg 4) 0))), (a 29, .inr (1, [.ref (a 30), .ref (a 31), .ref (a 32), .ref (a 33), .int 0]))] H := hP
  have hD : va_D A [(a 34, .inr (2, [.ref (a 35), .ref (a 36), .ref (a 37), .ref (a 38), .ref (a 39), .ref (a 40), .ref (a 41), .ref (a 42), .int 0])), (a 35, .inl (cI, 8, .inl (fun _ => (0 : Int32)))), (a 36, .inl (cI, 8, .inl (upd (upd (upd (upd (upd (fun _ => (0 : Int32)) (Int32.toNatClampNeg 0) 0) (Int32.toNatClampNeg 1) 0) (Int32.toNatClampNeg 2) 0) (Int32.toNatClampNeg 3) 0) (Int32.toNatClampNeg 4) 0))), (a 29, .inr (1, [.ref (a 30), .ref (a 31), .ref (a 32), .ref (a 33), .int 0]))] := hD
  refine lv_iinc (v := 5) (lv' := [(3, .int 5), (2, .int 0), (0, .ref (a 34)), (1, .ref (a 29))]) hx hb dX2_takeNets_17 hl (k := 0) rfl (by decide) (by decide) rfl (fun ls hl => ?_)
  refine lv_goto (tgt := 4) hx hb dX2_takeNets_20 (by decide) ?_
  refine lv_iload_n hx hb dX2_takeNets_4 rfl (lv_at hl 0 rfl) ?_
  refine lv_bipush (v := 8) hx hb dX2_takeNets_5 (by decide) ?_
  refine lv_icmp_ge (tgt := 23) hx hb dX2_takeNets_7 (by decide) (fun c_9 => absurd c_9 (by decide)) (fun _ => ?_)
  refine lv_aload_n hx hb dX2_takeNets_10 rfl (lv_at hl 2 rfl) ?_
  refine va_get (D := (dC, dI)) (ci := 2) (v := .ref (a 36)) (C := RX2) (T := TX2) (N := 9) hx hb hw zz_inX2 hown hK hP 0 rfl rfl 1 (by decide) (hw _ tw_45) (fun _ h9 => h9) rfl dX2_takeNets_11 ?_
  refine lv_iload_n hx hb dX2_takeNets_14 rfl (lv_at hl 0 rfl) ?_
  refine lv_iconst (v := 0) hx hb dX2_takeNets_15 (by decide) ?_
  refine va_iast hx hb hK hP hD hS 2 0 rfl rfl (zz_vin (by decide)) dX2_takeNets_16 (fun H locs hP hD hS => ?_)
  have hP : va_P (dC, dI) vwCl [(a 34, .inr (2, [.ref (a 35), .ref (a 36), .ref (a 37), .ref (a 38), .ref (a 39), .ref (a 40), .ref (a 41), .ref (a 42), .int 0])), (a 35, .inl (cI, 8, .inl (fun _ => (0 : Int32)))), (a 36, .inl (cI, 8, .inl (upd (upd (upd (upd (upd (upd (fun _ => (0 : Int32)) (Int32.toNatClampNeg 0) 0) (Int32.toNatClampNeg 1) 0) (Int32.toNatClampNeg 2) 0) (Int32.toNatClampNeg 3) 0) (Int32.toNatClampNeg 4) 0) (Int32.toNatClampNeg 5) 0))), (a 29, .inr (1, [.ref (a 30), .ref (a 31), .ref (a 32), .ref (a 33), .int 0]))] H := hP
  have hD : va_D A [(a 34, .inr (2, [.ref (a 35), .ref (a 36), .ref (a 37), .ref (a 38), .ref (a 39), .ref (a 40), .ref (a 41), .ref (a 42), .int 0])), (a 35, .inl (cI, 8, .inl (fun _ => (0 : Int32)))), (a 36, .inl (cI, 8, .inl (upd (upd (upd (upd (upd (upd (fun _ => (0 : Int32)) (Int32.toNatClampNeg 0) 0) (Int32.toNatClampNeg 1) 0) (Int32.toNatClampNeg 2) 0) (Int32.toNatClampNeg 3) 0) (Int32.toNatClampNeg 4) 0) (Int32.toNatClampNeg 5) 0))), (a 29, .inr (1, [.ref (a 30), .ref (a 31), .ref (a 32), .ref (a 33), .int 0]))] := hD
  refine lv_iinc (v := 6) (lv' := [(3, .int 6), (2, .int 0), (0, .ref (a 34)), (1, .ref (a 29))]) hx hb dX2_takeNets_17 hl (k := 0) rfl (by decide) (by decide) rfl (fun ls hl => ?_)
  refine lv_goto (tgt := 4) hx hb dX2_takeNets_20 (by decide) ?_
  refine lv_iload_n hx hb dX2_takeNets_4 rfl (lv_at hl 0 rfl) ?_
  refine lv_bipush (v := 8) hx hb dX2_takeNets_5 (by decide) ?_
  refine lv_icmp_ge (tgt := 23) hx hb dX2_takeNets_7 (by decide) (fun c_9 => absurd c_9 (by decide)) (fun _ => ?_)
  refine lv_aload_n hx hb dX2_takeNets_10 rfl (lv_at hl 2 rfl) ?_
  refine va_get (D := (dC, dI)) (ci := 2) (v := .ref (a 36)) (C := RX2) (T := TX2) (N := 9) hx hb hw zz_inX2 hown hK hP 0 rfl rfl 1 (by decide) (hw _ tw_45) (fun _ h9 => h9) rfl dX2_takeNets_11 ?_
  refine lv_iload_n hx hb dX2_takeNets_14 rfl (lv_at hl 0 rfl) ?_
  refine lv_iconst (v := 0) hx hb dX2_takeNets_15 (by decide) ?_
  refine va_iast hx hb hK hP hD hS 2 0 rfl rfl (zz_vin (by decide)) dX2_takeNets_16 (fun H locs hP hD hS => ?_)
  have hP : va_P (dC, dI) vwCl [(a 34, .inr (2, [.ref (a 35), .ref (a 36), .ref (a 37), .ref (a 38), .ref (a 39), .ref (a 40), .ref (a 41), .ref (a 42), .int 0])), (a 35, .inl (cI, 8, .inl (fun _ => (0 : Int32)))), (a 36, .inl (cI, 8, .inl (upd (upd (upd (upd (upd (upd (upd (fun _ => (0 : Int32)) (Int32.toNatClampNeg 0) 0) (Int32.toNatClampNeg 1) 0) (Int32.toNatClampNeg 2) 0) (Int32.toNatClampNeg 3) 0) (Int32.toNatClampNeg 4) 0) (Int32.toNatClampNeg 5) 0) (Int32.toNatClampNeg 6) 0))), (a 29, .inr (1, [.ref (a 30), .ref (a 31), .ref (a 32), .ref (a 33), .int 0]))] H := hP
  have hD : va_D A [(a 34, .inr (2, [.ref (a 35), .ref (a 36), .ref (a 37), .ref (a 38), .ref (a 39), .ref (a 40), .ref (a 41), .ref (a 42), .int 0])), (a 35, .inl (cI, 8, .inl (fun _ => (0 : Int32)))), (a 36, .inl (cI, 8, .inl (upd (upd (upd (upd (upd (upd (upd (fun _ => (0 : Int32)) (Int32.toNatClampNeg 0) 0) (Int32.toNatClampNeg 1) 0) (Int32.toNatClampNeg 2) 0) (Int32.toNatClampNeg 3) 0) (Int32.toNatClampNeg 4) 0) (Int32.toNatClampNeg 5) 0) (Int32.toNatClampNeg 6) 0))), (a 29, .inr (1, [.ref (a 30), .ref (a 31), .ref (a 32), .ref (a 33), .int 0]))] := hD
  refine lv_iinc (v := 7) (lv' := [(3, .int 7), (2, .int 0), (0, .ref (a 34)), (1, .ref (a 29))]) hx hb dX2_takeNets_17 hl (k := 0) rfl (by decide) (by decide) rfl (fun ls hl => ?_)
  refine lv_goto (tgt := 4) hx hb dX2_takeNets_20 (by decide) ?_
  refine lv_iload_n hx hb dX2_takeNets_4 rfl (lv_at hl 0 rfl) ?_
  refine lv_bipush (v := 8) hx hb dX2_takeNets_5 (by decide) ?_
  refine lv_icmp_ge (tgt := 23) hx hb dX2_takeNets_7 (by decide) (fun c_9 => absurd c_9 (by decide)) (fun _ => ?_)
  refine lv_aload_n hx hb dX2_takeNets_10 rfl (lv_at hl 2 rfl) ?_
  refine va_get (D := (dC, dI)) (ci := 2) (v := .ref (a 36)) (C := RX2) (T := TX2) (N := 9) hx hb hw zz_inX2 hown hK hP 0 rfl rfl 1 (by decide) (hw _ tw_45) (fun _ h9 => h9) rfl dX2_takeNets_11 ?_
  refine lv_iload_n hx hb dX2_takeNets_14 rfl (lv_at hl 0 rfl) ?_
  refine lv_iconst (v := 0) hx hb dX2_takeNets_15 (by decide) ?_
  refine va_iast hx hb hK hP hD hS 2 0 rfl rfl (zz_vin (by decide)) dX2_takeNets_16 (fun H locs hP hD hS => ?_)
  have hP : va_P (dC, dI) vwCl [(a 34, .inr (2, [.ref (a 35), .ref (a 36), .ref (a 37), .ref (a 38), .ref (a 39), .ref (a 40), .ref (a 41), .ref (a 42), .int 0])), (a 35, .inl (cI, 8, .inl (fun _ => (0 : Int32)))), (a 36, .inl (cI, 8, .inl (upd (upd (upd (upd (upd (upd (upd (upd (fun _ => (0 : Int32)) (Int32.toNatClampNeg 0) 0) (Int32.toNatClampNeg 1) 0) (Int32.toNatClampNeg 2) 0) (Int32.toNatClampNeg 3) 0) (Int32.toNatClampNeg 4) 0) (Int32.toNatClampNeg 5) 0) (Int32.toNatClampNeg 6) 0) (Int32.toNatClampNeg 7) 0))), (a 29, .inr (1, [.ref (a 30), .ref (a 31), .ref (a 32), .ref (a 33), .int 0]))] H := hP
  have hD : va_D A [(a 34, .inr (2, [.ref (a 35), .ref (a 36), .ref (a 37), .ref (a 38), .ref (a 39), .ref (a 40), .ref (a 41), .ref (a 42), .int 0])), (a 35, .inl (cI, 8, .inl (fun _ => (0 : Int32)))), (a 36, .inl (cI, 8, .inl (upd (upd (upd (upd (upd (upd (upd (upd (fun _ => (0 : Int32)) (Int32.toNatClampNeg 0) 0) (Int32.toNatClampNeg 1) 0) (Int32.toNatClampNeg 2) 0) (Int32.toNatClampNeg 3) 0) (Int32.toNatClampNeg 4) 0) (Int32.toNatClampNeg 5) 0) (Int32.toNatClampNeg 6) 0) (Int32.toNatClampNeg 7) 0))), (a 29, .inr (1, [.ref (a 30), .ref (a 31), .ref (a 32), .ref (a 33), .int 0]))] := hD
  refine lv_iinc (v := 8) (lv' := [(3, .int 8), (2, .int 0), (0, .ref (a 34)), (1, .ref (a 29))]) hx hb dX2_takeNets_17 hl (k := 0) rfl (by decide) (by decide) rfl (fun ls hl => ?_)
  refine lv_goto (tgt := 4) hx hb dX2_takeNets_20 (by decide) ?_
  refine lv_iload_n hx hb dX2_takeNets_4 rfl (lv_at hl 0 rfl) ?_
  refine lv_bipush (v := 8) hx hb dX2_takeNets_5 (by decide) ?_
  refine lv_icmp_ge (tgt := 23) hx hb dX2_takeNets_7 (by decide) (fun _ => ?_) (fun c_9 => absurd c_9 (by decide))
  refine lv_iconst (v := 0) hx hb dX2_takeNets_23 (by decide) ?_
  refine lv_istore_n (lv' := [(3, .int 0), (2, .int 0), (0, .ref (a 34)), (1, .ref (a 29))]) hx hb dX2_takeNets_24 rfl hl (by decide) rfl (fun ls hl => ?_)
  refine lv_iload_n hx hb dX2_takeNets_25 rfl (lv_at hl 0 rfl) ?_
  refine lv_aload_n hx hb dX2_takeNets_26 rfl (lv_at hl 3 rfl) ?_
  refine va_getN (D := (dC, dI)) (ci := 1) (v := .int 0) (C := RX1) (T := TX1) (N := 5) hx hb hw zz_inX1 hown hK hP 3 rfl rfl 4 (by decide) (hN.use zz_n36) (fun _ h9 => h9) rfl dX2_takeNets_27 ?_
  refine lv_icmp_ge (tgt := 109) hx hb dX2_takeNets_30 (by decide) (fun _ => ?_) (fun c_9 => absurd c_9 (by decide))
  refine lv_iconst (v := 0) hx hb dX2_takeNets_109 (by decide) ?_
  refine lv_istore_n (lv' := [(3, .int 0), (2, .int 0), (0, .ref (a 34)), (1, .ref (a 29))]) hx hb dX2_takeNets_110 rfl hl (by decide) rfl (fun ls hl => ?_)
  refine lv_iload_n hx hb dX2_takeNets_111 rfl (lv_at hl 0 rfl) ?_
  refine lv_bipush (v := 8) hx hb dX2_takeNets_112 (by decide) ?_
  refine lv_icmp_ge (tgt := 152) hx hb dX2_takeNets_114 (by decide) (fun c_9 => absurd c_9 (by decide)) (fun _ => ?_)
  refine lv_aload_n hx hb dX2_takeNets_117 rfl (lv_at hl 2 rfl) ?_
  refine va_get (D := (dC, dI)) (ci := 2) (v := .ref (a 35)) (C := RX2) (T := TX2) (N := 9) hx hb hw zz_inX2 hown hK hP 0 rfl rfl 0 (by decide) (hw _ tw_46) (fun _ h9 => h9) rfl dX2_takeNets_118 ?_
  refine lv_iload_n hx hb dX2_takeNets_121 rfl (lv_at hl 0 rfl) ?_
  refine va_iald hx hb hK hP 1 0 rfl rfl (zz_vin (by decide)) dX2_takeNets_122 ?_
  refine zz_seti 0 (by rfl) ?_
  refine lv_aload_n hx hb dX2_takeNets_123 rfl (lv_at hl 2 rfl) ?_
  refine va_get (D := (dC, dI)) (ci := 2) (v := .ref (a 36)) (C := RX2) (T := TX2) (N := 9) hx hb hw zz_inX2 hown hK hP 0 rfl rfl 1 (by decide) (hw _ tw_45) (fun _ h9 => h9) rfl dX2_takeNets_124 ?_
  refine lv_iload_n hx hb dX2_takeNets_127 rfl (lv_at hl 0 rfl) ?_
  refine va_iald hx hb hK hP 2 0 rfl rfl (zz_vin (by decide)) dX2_takeNets_128 ?_
  refine zz_seti 0 (by rfl) ?_
  refine lv_icmp_eq (tgt := 146) hx hb dX2_takeNets_129 (by decide) (fun _ => ?_) (fun c_9 => absurd c_9 (by decide))
  refine lv_iinc (v := 1) (lv' := [(3, .int 1), (2, .int 0), (0, .ref (a 34)), (1, .ref (a 29))]) hx hb dX2_takeNets_146 hl (k := 0) rfl (by decide) (by decide) rfl (fun ls hl => ?_)
  refine lv_goto (tgt := 111) hx hb dX2_takeNets_149 (by decide) ?_
  refine lv_iload_n hx hb dX2_takeNets_111 rfl (lv_at hl 0 rfl) ?_
  refine lv_bipush (v := 8) hx hb dX2_takeNets_112 (by decide) ?_
  refine lv_icmp_ge (tgt := 152) hx hb dX2_takeNets_114 (by decide) (fun c_9 => absurd c_9 (by decide)) (fun _ => ?_)
  refine lv_aload_n hx hb dX2_takeNets_117 rfl (lv_at hl 2 rfl) ?_
  refine va_get (D := (dC, dI)) (ci := 2) (v := .ref (a 35)) (C := RX2) (T := TX2) (N := 9) hx hb hw zz_inX2 hown hK hP 0 rfl rfl 0 (by decide) (hw _ tw_46) (fun _ h9 => h9) rfl dX2_takeNets_118 ?_
  refine lv_iload_n hx hb dX2_takeNets_121 rfl (lv_at hl 0 rfl) ?_
  refine va_iald hx hb hK hP 1 0 rfl rfl (zz_vin (by decide)) dX2_takeNets_122 ?_
  refine zz_seti 0 (by rfl) ?_
  refine lv_aload_n hx hb dX2_takeNets_123 rfl (lv_at hl 2 rfl) ?_
  refine va_get (D := (dC, dI)) (ci := 2) (v := .ref (a 36)) (C := RX2) (T := TX2) (N := 9) hx hb hw zz_inX2 hown hK hP 0 rfl rfl 1 (by decide) (hw _ tw_45) (fun _ h9 => h9) rfl dX2_takeNets_124 ?_
  refine lv_iload_n hx hb dX2_takeNets_127 rfl (lv_at hl 0 rfl) ?_
  refine va_iald hx hb hK hP 2 0 rfl rfl (zz_vin (by decide)) dX2_takeNets_128 ?_
  refine zz_seti 0 (by rfl) ?_
  refine lv_icmp_eq (tgt := 146) hx hb dX2_takeNets_129 (by decide) (fun _ => ?_) (fun c_9 => absurd c_9 (by decide))
  refine lv_iinc (v := 2) (lv' := [(3, .int 2), (2, .int 0), (0, .ref (a 34)), (1, .ref (a 29))]) hx hb dX2_takeNets_146 hl (k := 0) rfl (by decide) (by decide) rfl (fun ls hl => ?_)
  refine lv_goto (tgt := 111) hx hb dX2_takeNets_149 (by decide) ?_
  refine lv_iload_n hx hb dX2_takeNets_111 rfl (lv_at hl 0 rfl) ?_
  refine lv_bipush (v := 8) hx hb dX2_takeNets_112 (by decide) ?_
  refine lv_icmp_ge (tgt := 152) hx hb dX2_takeNets_114 (by decide) (fun c_9 => absurd c_9 (by decide)) (fun _ => ?_)
  refine lv_aload_n hx hb dX2_takeNets_117 rfl (lv_at hl 2 rfl) ?_
  refine va_get (D := (dC, dI)) (ci := 2) (v := .ref (a 35)) (C := RX2) (T := TX2) (N := 9) hx hb hw zz_inX2 hown hK hP 0 rfl rfl 0 (by decide) (hw _ tw_46) (fun _ h9 => h9) rfl dX2_takeNets_118 ?_
  refine lv_iload_n hx hb dX2_takeNets_121 rfl (lv_at hl 0 rfl) ?_
  refine va_iald hx hb hK hP 1 0 rfl rfl (zz_vin (by decide)) dX2_takeNets_122 ?_
  refine zz_seti 0 (by rfl) ?_
  refine lv_aload_n hx hb dX2_takeNets_123 rfl (lv_at hl 2 rfl) ?_
  refine va_get (D := (dC, dI)) (ci := 2) (v := .ref (a 36)) (C := RX2) (T := TX2) (N := 9) hx hb hw zz_inX2 hown hK hP 0 rfl rfl 1 (by decide) (hw _ tw_45) (fun _ h9 => h9) rfl dX2_takeNets_124 ?_
  refine lv_iload_n hx hb dX2_takeNets_127 rfl (lv_at hl 0 rfl) ?_
  refine va_iald hx hb hK hP 2 0 rfl rfl (zz_vin (by decide)) dX2_takeNets_128 ?_
  refine zz_seti 0 (by rfl) ?_
  refine lv_icmp_eq (tgt := 146) hx hb dX2_takeNets_129 (by decide) (fun _ => ?_) (fun c_9 => absurd c_9 (by decide))
  refine lv_iinc (v := 3) (lv' := [(3, .int 3), (2, .int 0), (0, .ref (a 34)), (1, .ref (a 29))]) hx hb dX2_takeNets_146 hl (k := 0) rfl (by decide) (by decide) rfl (fun ls hl => ?_)
  refine lv_goto (tgt := 111) hx hb dX2_takeNets_149 (by decide) ?_
  refine lv_iload_n hx hb dX2_takeNets_111 rfl (lv_at hl 0 rfl) ?_
  refine lv_bipush (v := 8) hx hb dX2_takeNets_112 (by decide) ?_
  refine lv_icmp_ge (tgt := 152) hx hb dX2_takeNets_114 (by decide) (fun c_9 => absurd c_9 (by decide)) (fun _ => ?_)
  refine lv_aload_n hx hb dX2_takeNets_117 rfl (lv_at hl 2 rfl) ?_
  refine va_get (D := (dC, dI)) (ci := 2) (v := .ref (a 35)) (C := RX2) (T := TX2) (N := 9) hx hb hw zz_inX2 hown hK hP 0 rfl rfl 0 (by decide) (hw _ tw_46) (fun _ h9 => h9) rfl dX2_takeNets_118 ?_
  refine lv_iload_n hx hb dX2_takeNets_121 rfl (lv_at hl 0 rfl) ?_
  refine va_iald hx hb hK hP 1 0 rfl rfl (zz_vin (by decide)) dX2_takeNets_122 ?_
  refine zz_seti 0 (by rfl) ?_
  refine lv_aload_n hx hb dX2_takeNets_123 rfl (lv_at hl 2 rfl) ?_
  refine va_get (D := (dC, dI)) (ci := 2) (v := .ref (a 36)) (C := RX2) (T := TX2) (N := 9) hx hb hw zz_inX2 hown hK hP 0 rfl rfl 1 (by decide) (hw _ tw_45) (fun _ h9 => h9) rfl dX2_takeNets_124 ?_
  refine lv_iload_n hx hb dX2_takeNets_127 rfl (lv_at hl 0 rfl) ?_
  refine va_iald hx hb hK hP 2 0 rfl rfl (zz_vin (by decide)) dX2_takeNets_128 ?_
  refine zz_seti 0 (by rfl) ?_
  refine lv_icmp_eq (tgt := 146) hx hb dX2_takeNets_129 (by decide) (fun _ => ?_) (fun c_9 => absurd c_9 (by decide))
  refine lv_iinc (v := 4) (lv' := [(3, .int 4), (2, .int 0), (0, .ref (a 34)), (1, .ref (a 29))]) hx hb dX2_takeNets_146 hl (k := 0) rfl (by decide) (by decide) rfl (fun ls hl => ?_)
  refine lv_goto (tgt := 111) hx hb dX2_takeNets_149 (by decide) ?_
  refine lv_iload_n hx hb dX2_takeNets_111 rfl (lv_at hl 0 rfl) ?_
  refine lv_bipush (v := 8) hx hb dX2_takeNets_112 (by decide) ?_
  refine lv_icmp_ge (tgt := 152) hx hb dX2_takeNets_114 (by decide) (fun c_9 => absurd c_9 (by decide)) (fun _ => ?_)
  refine lv_aload_n hx hb dX2_takeNets_117 rfl (lv_at hl 2 rfl) ?_
  refine va_get (D := (dC, dI)) (ci := 2) (v := .ref (a 35)) (C := RX2) (T := TX2) (N := 9) hx hb hw zz_inX2 hown hK hP 0 rfl rfl 0 (by decide) (hw _ tw_46) (fun _ h9 => h9) rfl dX2_takeNets_118 ?_
  refine lv_iload_n hx hb dX2_takeNets_121 rfl (lv_at hl 0 rfl) ?_
  refine va_iald hx hb hK hP 1 0 rfl rfl (zz_vin (by decide)) dX2_takeNets_122 ?_
  refine zz_seti 0 (by rfl) ?_
  refine lv_aload_n hx hb dX2_takeNets_123 rfl (lv_at hl 2 rfl) ?_
  refine va_get (D := (dC, dI)) (ci := 2) (v := .ref (a 36)) (C := RX2) (T := TX2) (N := 9) hx hb hw zz_inX2 hown hK hP 0 rfl rfl 1 (by decide) (hw _ tw_45) (fun _ h9 => h9) rfl dX2_takeNets_124 ?_
  refine lv_iload_n hx hb dX2_takeNets_127 rfl (lv_at hl 0 rfl) ?_
  refine va_iald hx hb hK hP 2 0 rfl rfl (zz_vin (by decide)) dX2_takeNets_128 ?_
  refine zz_seti 0 (by rfl) ?_
  refine lv_icmp_eq (tgt := 146) hx hb dX2_takeNets_129 (by decide) (fun _ => ?_) (fun c_9 => absurd c_9 (by decide))
  refine lv_iinc (v := 5) (lv' := [(3, .int 5), (2, .int 0), (0, .ref (a 34)), (1, .ref (a 29))]) hx hb dX2_takeNets_146 hl (k := 0) rfl (by decide) (by decide) rfl (fun ls hl => ?_)
  refine lv_goto (tgt := 111) hx hb dX2_takeNets_149 (by decide) ?_
  refine lv_iload_n hx hb dX2_takeNets_111 rfl (lv_at hl 0 rfl) ?_
  refine lv_bipush (v := 8) hx hb dX2_takeNets_112 (by decide) ?_
  refine lv_icmp_ge (tgt := 152) hx hb dX2_takeNets_114 (by decide) (fun c_9 => absurd c_9 (by decide)) (fun _ => ?_)
  refine lv_aload_n hx hb dX2_takeNets_117 rfl (lv_at hl 2 rfl) ?_
  refine va_get (D := (dC, dI)) (ci := 2) (v := .ref (a 35)) (C := RX2) (T := TX2) (N := 9) hx hb hw zz_inX2 hown hK hP 0 rfl rfl 0 (by decide) (hw _ tw_46) (fun _ h9 => h9) rfl dX2_takeNets_118 ?_
  refine lv_iload_n hx hb dX2_takeNets_121 rfl (lv_at hl 0 rfl) ?_
  refine va_iald hx hb hK hP 1 0 rfl rfl (zz_vin (by decide)) dX2_takeNets_122 ?_
  refine zz_seti 0 (by rfl) ?_
  refine lv_aload_n hx hb dX2_takeNets_123 rfl (lv_at hl 2 rfl) ?_
  refine va_get (D := (dC, dI)) (ci := 2) (v := .ref (a 36)) (C := RX2) (T := TX2) (N := 9) hx hb hw zz_inX2 hown hK hP 0 rfl rfl 1 (by decide) (hw _ tw_45) (fun _ h9 => h9) rfl dX2_takeNets_124 ?_
  refine lv_iload_n hx hb dX2_takeNets_127 rfl (lv_at hl 0 rfl) ?_
  refine va_iald hx hb hK hP 2 0 rfl rfl (zz_vin (by decide)) dX2_takeNets_128 ?_
  refine zz_seti 0 (by rfl) ?_
  refine lv_icmp_eq (tgt := 146) hx hb dX2_takeNets_129 (by decide) (fun _ => ?_) (fun c_9 => absurd c_9 (by decide))
  refine lv_iinc (v := 6) (lv' := [(3, .int 6), (2, .int 0), (0, .ref (a 34)), (1, .ref (a 29))]) hx hb dX2_takeNets_146 hl (k := 0) rfl (by decide) (by decide) rfl (fun ls hl => ?_)
  refine lv_goto (tgt := 111) hx hb dX2_takeNets_149 (by decide) ?_
  refine lv_iload_n hx hb dX2_takeNets_111 rfl (lv_at hl 0 rfl) ?_
  refine lv_bipush (v := 8) hx hb dX2_takeNets_112 (by decide) ?_
  refine lv_icmp_ge (tgt := 152) hx hb dX2_takeNets_114 (by decide) (fun c_9 => absurd c_9 (by decide)) (fun _ => ?_)
  refine lv_aload_n hx hb dX2_takeNets_117 rfl (lv_at hl 2 rfl) ?_
  refine va_get (D := (dC, dI)) (ci := 2) (v := .ref (a 35)) (C := RX2) (T := TX2) (N := 9) hx hb hw zz_inX2 hown hK hP 0 rfl rfl 0 (by decide) (hw _ tw_46) (fun _ h9 => h9) rfl dX2_takeNets_118 ?_
  refine lv_iload_n hx hb dX2_takeNets_121 rfl (lv_at hl 0 rfl) ?_
  refine va_iald hx hb hK hP 1 0 rfl rfl (zz_vin (by decide)) dX2_takeNets_122 ?_
  refine zz_seti 0 (by rfl) ?_
  refine lv_aload_n hx hb dX2_takeNets_123 rfl (lv_at hl 2 rfl) ?_
  refine va_get (D := (dC, dI)) (ci := 2) (v := .ref (a 36)) (C := RX2) (T := TX2) (N := 9) hx hb hw zz_inX2 hown hK hP 0 rfl rfl 1 (by decide) (hw _ tw_45) (fun _ h9 => h9) rfl dX2_takeNets_124 ?_
  refine lv_iload_n hx hb dX2_takeNets_127 rfl (lv_at hl 0 rfl) ?_
  refine va_iald hx hb hK hP 2 0 rfl rfl (zz_vin (by decide)) dX2_takeNets_128 ?_
  refine zz_seti 0 (by rfl) ?_
  refine lv_icmp_eq (tgt := 146) hx hb dX2_takeNets_129 (by decide) (fun _ => ?_) (fun c_9 => absurd c_9 (by decide))
  refine lv_iinc (v := 7) (lv' := [(3, .int 7), (2, .int 0), (0, .ref (a 34)), (1, .ref (a 29))]) hx hb dX2_takeNets_146 hl (k := 0) rfl (by decide) (by decide) rfl (fun ls hl => ?_)
  refine lv_goto (tgt := 111) hx hb dX2_takeNets_149 (by decide) ?_
  refine lv_iload_n hx hb dX2_takeNets_111 rfl (lv_at hl 0 rfl) ?_
  refine lv_bipush (v := 8) hx hb dX2_takeNets_112 (by decide) ?_
  refine lv_icmp_ge (tgt := 152) hx hb dX2_takeNets_114 (by decide) (fun c_9 => absurd c_9 (by decide)) (fun _ => ?_)
  refine lv_aload_n hx hb dX2_takeNets_117 rfl (lv_at hl 2 rfl) ?_
  refine va_get (D := (dC, dI)) (ci := 2) (v := .ref (a 35)) (C := RX2) (T := TX2) (N := 9) hx hb hw zz_inX2 hown hK hP 0 rfl rfl 0 (by decide) (hw _ tw_46) (fun _ h9 => h9) rfl dX2_takeNets_118 ?_
  refine lv_iload_n hx hb dX2_takeNets_121 rfl (lv_at hl 0 rfl) ?_
  refine va_iald hx hb hK hP 1 0 rfl rfl (zz_vin (by decide)) dX2_takeNets_122 ?_
  refine zz_seti 0 (by rfl) ?_
  refine lv_aload_n hx hb dX2_takeNets_123 rfl (lv_at hl 2 rfl) ?_
  refine va_get (D := (dC, dI)) (ci := 2) (v := .ref (a 36)) (C := RX2) (T := TX2) (N := 9) hx hb hw zz_inX2 hown hK hP 0 rfl rfl 1 (by decide) (hw _ tw_45) (fun _ h9 => h9) rfl dX2_takeNets_124 ?_
  refine lv_iload_n hx hb dX2_takeNets_127 rfl (lv_at hl 0 rfl) ?_
  refine va_iald hx hb hK hP 2 0 rfl rfl (zz_vin (by decide)) dX2_takeNets_128 ?_
  refine zz_seti 0 (by rfl) ?_
  refine lv_icmp_eq (tgt := 146) hx hb dX2_takeNets_129 (by decide) (fun _ => ?_) (fun c_9 => absurd c_9 (by decide))
  refine lv_iinc (v := 8) (lv' := [(3, .int 8), (2, .int 0), (0, .ref (a 34)), (1, .ref (a 29))]) hx hb dX2_takeNets_146 hl (k := 0) rfl (by decide) (by decide) rfl (fun ls hl => ?_)
  refine lv_goto (tgt := 111) hx hb dX2_takeNets_149 (by decide) ?_
  refine lv_iload_n hx hb dX2_takeNets_111 rfl (lv_at hl 0 rfl) ?_
  refine lv_bipush (v := 8) hx hb dX2_takeNets_112 (by decide) ?_
  refine lv_icmp_ge (tgt := 152) hx hb dX2_takeNets_114 (by decide) (fun _ => ?_) (fun c_9 => absurd c_9 (by decide))
  refine lv_iload_n hx hb dX2_takeNets_152 rfl (lv_at hl 1 rfl) ?_
  have hP9 := hP.sub (ws' := [(a 34, .inr (2, [.ref (a 35), .ref (a 36), .ref (a 37), .ref (a 38), .ref (a 39), .ref (a 40), .ref (a 41), .ref (a 42), .int 0])), (a 35, .inl (cI, 8, .inl (fun _ => (0 : Int32)))), (a 36, .inl (cI, 8, .inl (upd (upd (upd (upd (upd (upd (upd (upd (fun _ => (0 : Int32)) (Int32.toNatClampNeg 0) 0) (Int32.toNatClampNeg 1) 0) (Int32.toNatClampNeg 2) 0) (Int32.toNatClampNeg 3) 0) (Int32.toNatClampNeg 4) 0) (Int32.toNatClampNeg 5) 0) (Int32.toNatClampNeg 6) 0) (Int32.toNatClampNeg 7) 0))), (a 29, .inr (1, [.ref (a 30), .ref (a 31), .ref (a 32), .ref (a 33), .int 0]))]) [0, 1, 2, 3] rfl
  have hD9 := hD.sub (ws' := [(a 34, .inr (2, [.ref (a 35), .ref (a 36), .ref (a 37), .ref (a 38), .ref (a 39), .ref (a 40), .ref (a 41), .ref (a 42), .int 0])), (a 35, .inl (cI, 8, .inl (fun _ => (0 : Int32)))), (a 36, .inl (cI, 8, .inl (upd (upd (upd (upd (upd (upd (upd (upd (fun _ => (0 : Int32)) (Int32.toNatClampNeg 0) 0) (Int32.toNatClampNeg 1) 0) (Int32.toNatClampNeg 2) 0) (Int32.toNatClampNeg 3) 0) (Int32.toNatClampNeg 4) 0) (Int32.toNatClampNeg 5) 0) (Int32.toNatClampNeg 6) 0) (Int32.toNatClampNeg 7) 0))), (a 29, .inr (1, [.ref (a 30), .ref (a 31), .ref (a 32), .ref (a 33), .int 0]))]) [0, 1, 2, 3] (by decide) rfl
  have hK9 := hK.sub (tys' := [(cI, .int)]) [0] rfl
  exact W.zret (v := 0) hx hb hr (rfl) (fun t ht hW => ⟨⟨0, ((upd (upd (upd (upd (upd (upd (upd (upd (fun _ => (0 : Int32)) (Int32.toNatClampNeg 0) 0) (Int32.toNatClampNeg 1) 0) (Int32.toNatClampNeg 2) 0) (Int32.toNatClampNeg 3) 0) (Int32.toNatClampNeg 4) 0) (Int32.toNatClampNeg 5) 0) (Int32.toNatClampNeg 6) 0) (Int32.toNatClampNeg 7) 0)), rfl, rfl, by rw [ht]; exact hP9, va_K.moved hW.alike hK9, hD9⟩, hS.F ht⟩) hS.2.2 dX2_takeNets_153

set_option maxHeartbeats 4000000 in
set_option maxRecDepth 100000 in
theorem k_tellFor (l : Launch) (dC : Nat → ClassId) (dI : Nat → Nat → Nat) (a : Nat → Nat) (cI : ClassId) (sz : Nat) : Met l yX2_tellFor (zz_w yX2_tellFor cX2_tellFor 2 none) ({ frames := 1, cells := 0, slots := 0, locals := 23 }) (va_Pc [.ref (a 34), .ref (a 29)] (zz_B (dC, dI) sz [(a 34, .inr (2, [.ref (a 35), .ref (a 36), .ref (a 37), .ref (a 38), .ref (a 39), .ref (a 40), .ref (a 41), .ref (a 42), .int 0])), (a 35, .inl (cI, 8, .inl (fun _ => (0 : Int32)))), (a 36, .inl (cI, 8, .inl (fun _ => (0 : Int32)))), (a 29, .inr (1, [.ref (a 30), .ref (a 31), .ref (a 32), .ref (a 33), .int 0]))] [(cI, .int)])) (va_Qv (fun (_ : Nat → Int32) => True) (fun (u0 : Nat → Int32) (t : State) => va_P (dC, dI) vwCl [(a 34, .inr (2, [.ref (a 35), .ref (a 36), .ref (a 37), .ref (a 38), .ref (a 39), .ref (a 40), .ref (a 41), .ref (a 42), .int 0])), (a 35, .inl (cI, 8, .inl (fun _ => (0 : Int32)))), (a 36, .inl (cI, 8, .inl u0)), (a 29, .inr (1, [.ref (a 30), .ref (a 31), .ref (a 32), .ref (a 33), .int 0]))] t.heap ∧ va_K (dC, dI) vwCl [(cI, .int)] t ∧ va_D (va_A [(a 34, .inr (2, [.ref (a 35), .ref (a 36), .ref (a 37), .ref (a 38), .ref (a 39), .ref (a 40), .ref (a 41), .ref (a 42), .int 0])), (a 35, .inl (cI, 8, .inl (fun _ => (0 : Int32)))), (a 36, .inl (cI, 8, .inl (fun _ => (0 : Int32)))), (a 29, .inr (1, [.ref (a 30), .ref (a 31), .ref (a 32), .ref (a 33), .int 0]))] sz) [(a 34, .inr (2, [.ref (a 35), .ref (a 36), .ref (a 37), .ref (a 38), .ref (a 39), .ref (a 40), .ref (a 41), .ref (a 42), .int 0])), (a 35, .inl (cI, 8, .inl (fun _ => (0 : Int32)))), (a 36, .inl (cI, 8, .inl u0)), (a 29, .inr (1, [.ref (a 30), .ref (a 31), .ref (a 32), .ref (a 33), .int 0]))]) (va_A [(a 34, .inr (2, [.ref (a 35), .ref (a 36), .ref (a 37), .ref (a 38), .ref (a 39), .ref (a 40), .ref (a 41), .ref (a 42), .int 0])), (a 35, .inl (cI, 8, .inl (fun _ => (0 : Int32)))), (a 36, .inl (cI, 8, .inl (fun _ => (0 : Int32)))), (a 29, .inr (1, [.ref (a 30), .ref (a 31), .ref (a 32), .ref (a 33), .int 0]))] sz)) 0 0 (va_A [(a 34, .inr (2, [.ref (a 35), .ref (a 36), .ref (a 37), .ref (a 38), .ref (a 39), .ref (a 40), .ref (a 41), .ref (a 42), .int 0])), (a 35, .inl (cI, 8, .inl (fun _ => (0 : Int32)))), (a 36, .inl (cI, 8, .inl (fun _ => (0 : Int32)))), (a 29, .inr (1, [.ref (a 30), .ref (a 31), .ref (a 32), .ref (a 33), .int 0]))] sz) := by
  refine Met.ofW (cc := cX2_tellFor) (maxL := 2) (ret := none) (by decide) rfl ?_
  intro p e s m args below meth c s₁ B hml hv
  obtain ⟨rfl, hsz, hP, hK, hD0, hN⟩ := hv
  have hx := B.exec
  have hb := B.bytes
  have hr := B.returns
  have hts := atoms_spec (ws := zz_w yX2_tellFor cX2_tellFor 2 none) B.pre
  have hw : ∀ w ∈ zz_all, w.before _ s = true := fun w h => hts w (List.mem_cons_of_mem _ h)
  have hown : s.vm.findClass RX2 = some m.cls := findClass_of_methodNamed B.named
  have hlocks := B.notSynchronized
  subst hsz
  have hD := hD0.self (sz := s.heap.size)
  generalize hAe : va_A [(a 34, .inr (2, [.ref (a 35), .ref (a 36), .ref (a 37), .ref (a 38), .ref (a 39), .ref (a 40), .ref (a 41), .ref (a 42), .int 0])), (a 35, .inl (cI, 8, .inl (fun _ => (0 : Int32)))), (a 36, .inl (cI, 8, .inl (fun _ => (0 : Int32)))), (a 29, .inr (1, [.ref (a 30), .ref (a 31), .ref (a 32), .ref (a 33), .int 0]))] s.heap.size = A at hD ⊢
  have hA : ∀ q : Nat, s.heap.size ≤ q → A q := fun q h => by rw [← hAe]; exact Or.inr h
  have hS : va_S A s.heap s.heap [] := va_S.rf
  have hP : va_P (dC, dI) vwCl [(a 34, .inr (2, [.ref (a 35), .ref (a 36), .ref (a 37), .ref (a 38), .ref (a 39), .ref (a 40), .ref (a 41), .ref (a 42), .int 0])), (a 35, .inl (cI, 8, .inl (fun _ => (0 : Int32)))), (a 36, .inl (cI, 8, .inl (fun _ => (0 : Int32)))), (a 29, .inr (1, [.ref (a 30), .ref (a 31), .ref (a 32), .ref (a 33), .int 0]))] s.heap := hP
  have hl := lv_entry ([.ref (a 34), .ref (a 29)]) (n := 2) (Nat.le_of_ble_eq_true rfl)
  rw [lg_entry_eq]
  generalize (lg_sl ([.ref (a 34), .ref (a 29)]) ++ List.replicate (2 - (lg_sl ([.ref (a 34), .ref (a 29)])).length) Slot.unset).toArray = ls at hl ⊢
  have hl : lv_has ls 2 [(0, .ref (a 34)), (1, .ref (a 29))] := hl
  refine lv_aload_n hx hb dX2_tellFor_0 rfl (lv_at hl 0 rfl) ?_
  refine lv_aload_n hx hb dX2_tellFor_1 rfl (lv_at hl 1 rfl) ?_
  have hPc := hP.sub (ws' := [(a 34, .inr (2, [.ref (a 35), .ref (a 36), .ref (a 37), .ref (a 38), .ref (a 39), .ref (a 40), .ref (a 41), .ref (a 42), .int 0])), (a 35, .inl (cI, 8, .inl (fun _ => (0 : Int32)))), (a 36, .inl (cI, 8, .inl (fun _ => (0 : Int32)))), (a 29, .inr (1, [.ref (a 30), .ref (a 31), .ref (a 32), .ref (a 33), .int 0]))]) [0, 1, 2, 3] rfl
  have hDc := hD.sub (ws' := [(a 34, .inr (2, [.ref (a 35), .ref (a 36), .ref (a 37), .ref (a 38), .ref (a 39), .ref (a 40), .ref (a 41), .ref (a 42), .int 0])), (a 35, .inl (cI, 8, .inl (fun _ => (0 : Int32)))), (a 36, .inl (cI, 8, .inl (fun _ => (0 : Int32)))), (a 29, .inr (1, [.ref (a 30), .ref (a 31), .ref (a 32), .ref (a 33), .int 0]))]) [0, 1, 2, 3] (by decide) rfl
  have hKc := hK.sub (tys' := [(cI, .int)]) [0] rfl
  have hFc := va_free (wc := [(a 34, .inr (2, [.ref (a 35), .ref (a 36), .ref (a 37), .ref (a 38), .ref (a 39), .ref (a 40), .ref (a 41), .ref (a 42), .int 0])), (a 35, .inl (cI, 8, .inl (fun _ => (0 : Int32)))), (a 36, .inl (cI, 8, .inl (fun _ => (0 : Int32)))), (a 29, .inr (1, [.ref (a 30), .ref (a 31), .ref (a 32), .ref (a 33), .int 0]))]) hD hS hA [0, 1, 2, 3] rfl
  refine va_calli (va_runV (As := [.ref (a 29)]) (rest := []) ⟨hx, hb, hml, hown, hw⟩ (k_takeNets l dC dI a cI s.heap.size) ⟨callB_of 1 hw (zz_good tw_47) rfl rfl rfl (hw _ tw_48) (hw _ tw_49) (by decide +kernel) ⟨Nat.le_of_ble_eq_true rfl, Nat.le_of_ble_eq_true rfl⟩, (hw _ tw_50), (hw _ tw_51)⟩ ⟨zz_blind, va_recv hKc hPc (ci := 2) (q0 := 0) rfl rfl, zz_pre hPc hKc hDc hN⟩ rfl rfl hl.1 rfl (lv_room (Nat.le_of_ble_eq_true rfl)) dX2_tellFor_2 ⟨Nat.le_of_ble_eq_true rfl, Nat.le_of_ble_eq_true rfl⟩) hS (fun q _ h => hFc q h) hFc (fun r_1 u_1 t H1 locs ht hvm e_1 hB hz1 hk1 hS => ?_)
  try dsimp only at e_1
  obtain ⟨v_1_0, rfl⟩ : ∃ z, z = u_1 := ⟨_, rfl⟩
  obtain ⟨hP1, hK1, hD1⟩ := hB
  rw [ht] at hP1
  have hK1 := va_K.moved hvm.symm hK1
  try dsimp only at e_1
  obtain ⟨hP, hD⟩ := va_join (wr := []) (w1 := [(a 34, .inr (2, [.ref (a 35), .ref (a 36), .ref (a 37), .ref (a 38), .ref (a 39), .ref (a 40), .ref (a 41), .ref (a 42), .int 0])), (a 35, .inl (cI, 8, .inl (fun _ => (0 : Int32)))), (a 36, .inl (cI, 8, .inl v_1_0)), (a 29, .inr (1, [.ref (a 30), .ref (a 31), .ref (a 32), .ref (a 33), .int 0]))]) hP hD [0, 1, 2, 3] [] rfl rfl (by decide) (by decide) hk1 hFc hP1 hD1
  clear hk1 ht hvm
  generalize H1 = H at hP hS ⊢
  have hP : va_P (dC, dI) vwCl [(a 34, .inr (2, [.ref (a 35), .ref (a 36), .ref (a 37), .ref (a 38), .ref (a 39), .ref (a 40), .ref (a 41), .ref (a 42), .int 0])), (a 35, .inl (cI, 8, .inl (fun _ => (0 : Int32)))), (a 36, .inl (cI, 8, .inl v_1_0)), (a 29, .inr (1, [.ref (a 30), .ref (a 31), .ref (a 32), .ref (a 33), .int 0]))] H := hP
  have hD : va_D A [(a 34, .inr (2, [.ref (a 35), .ref (a 36), .ref (a 37), .ref (a 38), .ref (a 39), .ref (a 40), .ref (a 41), .ref (a 42), .int 0])), (a 35, .inl (cI, 8, .inl (fun _ => (0 : Int32)))), (a 36, .inl (cI, 8, .inl v_1_0)), (a 29, .inr (1, [.ref (a 30), .ref (a 31), .ref (a 32), .ref (a 33), .int 0]))] := hD
  refine zz_seti 0 e_1 ?_
  refine lv_if_eq (tgt := 12) hx hb dX2_tellFor_5 (by decide) (fun _ => ?_) (fun c_9 => absurd c_9 (by decide))
  have hP9 := hP.sub (ws' := [(a 34, .inr (2, [.ref (a 35), .ref (a 36), .ref (a 37), .ref (a 38), .ref (a 39), .ref (a 40), .ref (a 41), .ref (a 42), .int 0])), (a 35, .inl (cI, 8, .inl (fun _ => (0 : Int32)))), (a 36, .inl (cI, 8, .inl v_1_0)), (a 29, .inr (1, [.ref (a 30), .ref (a 31), .ref (a 32), .ref (a 33), .int 0]))]) [0, 1, 2, 3] rfl
  have hD9 := hD.sub (ws' := [(a 34, .inr (2, [.ref (a 35), .ref (a 36), .ref (a 37), .ref (a 38), .ref (a 39), .ref (a 40), .ref (a 41), .ref (a 42), .int 0])), (a 35, .inl (cI, 8, .inl (fun _ => (0 : Int32)))), (a 36, .inl (cI, 8, .inl v_1_0)), (a 29, .inr (1, [.ref (a 30), .ref (a 31), .ref (a 32), .ref (a 33), .int 0]))]) [0, 1, 2, 3] (by decide) rfl
  have hK9 := hK.sub (tys' := [(cI, .int)]) [0] rfl
  exact W.vret hx hb hr (fun t ht hW => ⟨⟨(v_1_0), rfl, trivial, by rw [ht]; exact hP9, va_K.moved hW.alike hK9, hD9⟩, hS.F ht⟩) hS.2.2 dX2_tellFor_12

set_option maxHeartbeats 4000000 in
set_option maxRecDepth 100000 in
theorem k_payments (l : Launch) (dC : Nat → ClassId) (dI : Nat → Nat → Nat) (a : Nat → Nat) (cI : ClassId) (sz : Nat) : Met l yX7_payments (zz_w yX7_payments cX7_payments 1 (some .int)) ({ frames := 2, cells := 0, slots := 0, locals := 44 }) (va_Pc [.ref (a 0)] (zz_B (dC, dI) sz [(a 0, .inr (7, [.ref (a 1), .ref (a 10), .ref (a 23), .ref (a 24), .ref (a 26), .ref (a 29), .ref (a 34), .ref (a 43), .int 0, .int 0, .int 0, .int 0])), (a 34, .inr (2, [.ref (a 35), .ref (a 36), .ref (a 37), .ref (a 38), .ref (a 39), .ref (a 40), .ref (a 41), .ref (a 42), .int 0])), (a 35, .inl (cI, 8, .inl (fun _ => (0 : Int32)))), (a 36, .inl (cI, 8, .inl (fun _ => (0 : Int32)))), (a 29, .inr (1, [.ref (a 30), .ref (a 31), .ref (a 32), .ref (a 33), .int 0]))] [(cI, .int)])) (va_Qi (fun (r : Int32) (_ : Unit) => r = 0) (fun _ _ => True) (va_A [(a 0, .inr (7, [.ref (a 1), .ref (a 10), .ref (a 23), .ref (a 24), .ref (a 26), .ref (a 29), .ref (a 34), .ref (a 43), .int 0, .int 0, .int 0, .int 0])), (a 34, .inr (2, [.ref (a 35), .ref (a 36), .ref (a 37), .ref (a 38), .ref (a 39), .ref (a 40), .ref (a 41), .ref (a 42), .int 0])), (a 35, .inl (cI, 8, .inl (fun _ => (0 : Int32)))), (a 36, .inl (cI, 8, .inl (fun _ => (0 : Int32)))), (a 29, .inr (1, [.ref (a 30), .ref (a 31), .ref (a 32), .ref (a 33), .int 0]))] sz)) 0 0 (va_A [(a 0, .inr (7, [.ref (a 1), .ref (a 10), .ref (a 23), .ref (a 24), .ref (a 26), .ref (a 29), .ref (a 34), .ref (a 43), .int 0, .int 0, .int 0, .int 0])), (a 34, .inr (2, [.ref (a 35), .ref (a 36), .ref (a 37), .ref (a 38), .ref (a 39), .ref (a 40), .ref (a 41), .ref (a 42), .int 0])), (a 35, .inl (cI, 8, .inl (fun _ => (0 : Int32)))), (a 36, .inl (cI, 8, .inl (fun _ => (0 : Int32)))), (a 29, .inr (1, [.ref (a 30), .ref (a 31), .ref (a 32), .ref (a 33), .int 0]))] sz) := by
  refine Met.ofW (cc := cX7_payments) (maxL := 1) (ret := (some .int)) (by decide) rfl ?_
  intro p e s m args below meth c s₁ B hml hv
  obtain ⟨rfl, hsz, hP, hK, hD0, hN⟩ := hv
  have hx := B.exec
  have hb := B.bytes
  have hr := B.returns
  have hts := atoms_spec (ws := zz_w yX7_payments cX7_payments 1 (some .int)) B.pre
  have hw : ∀ w ∈ zz_all, w.before _ s = true := fun w h => hts w (List.mem_cons_of_mem _ h)
  have hown : s.vm.findClass RX7 = some m.cls := findClass_of_methodNamed B.named
  have hlocks := B.notSynchronized
  subst hsz
  have hD := hD0.self (sz := s.heap.size)
  generalize hAe : va_A [(a 0, .inr (7, [.ref (a 1), .ref (a 10), .ref (a 23), .ref (a 24), .ref (a 26), .ref (a 29), .ref (a 34), .ref (a 43), .int 0, .int 0, .int 0, .int 0])), (a 34, .inr (2, [.ref (a 35), .ref (a 36), .ref (a 37), .ref (a 38), .ref (a 39), .ref (a 40), .ref (a 41), .ref (a 42), .int 0])), (a 35, .inl (cI, 8, .inl (fun _ => (0 : Int32)))), (a 36, .inl (cI, 8, .inl (fun _ => (0 : Int32)))), (a 29, .inr (1, [.ref (a 30), .ref (a 31), .ref (a 32), .ref (a 33), .int 0]))] s.heap.size = A at hD ⊢
  have hA : ∀ q : Nat, s.heap.size ≤ q → A q := fun q h => by rw [← hAe]; exact Or.inr h
  have hS : va_S A s.heap s.heap [] := va_S.rf
  have hP : va_P (dC, dI) vwCl [(a 0, .inr (7, [.ref (a 1), .ref (a 10), .ref (a 23), .ref (a 24), .ref (a 26), .ref (a 29), .ref (a 34), .ref (a 43), .int 0, .int 0, .int 0, .int 0])), (a 34, .inr (2, [.ref (a 35), .ref (a 36), .ref (a 37), .ref (a 38), .ref (a 39), .ref (a 40), .ref (a 41), .ref (a 42), .int 0])), (a 35, .inl (cI, 8, .inl (fun _ => (0 : Int32)))), (a 36, .inl (cI, 8, .inl (fun _ => (0 : Int32)))), (a 29, .inr (1, [.ref (a 30), .ref (a 31), .ref (a 32), .ref (a 33), .int 0]))] s.heap := hP
  have hl := lv_entry ([.ref (a 0)]) (n := 1) (Nat.le_of_ble_eq_true rfl)
  rw [lg_entry_eq]
  generalize (lg_sl ([.ref (a 0)]) ++ List.replicate (1 - (lg_sl ([.ref (a 0)])).length) Slot.unset).toArray = ls at hl ⊢
  have hl : lv_has ls 1 [(0, .ref (a 0))] := hl
  refine lv_aload_n hx hb dX7_payments_0 rfl (lv_at hl 0 rfl) ?_
  refine va_get (D := (dC, dI)) (ci := 7) (v := .ref (a 34)) (C := RX7) (T := TX7) (N := 12) hx hb hw zz_inX7 hown hK hP 0 rfl rfl 6 (by decide) (hw _ tw_52) (fun _ h9 => h9) rfl dX7_payments_1 ?_
  refine lv_aload_n hx hb dX7_payments_4 rfl (lv_at hl 0 rfl) ?_
  refine va_get (D := (dC, dI)) (ci := 7) (v := .ref (a 29)) (C := RX7) (T := TX7) (N := 12) hx hb hw zz_inX7 hown hK hP 0 rfl rfl 5 (by decide) (hw _ tw_53) (fun _ h9 => h9) rfl dX7_payments_5 ?_
  have hPc := hP.sub (ws' := [(a 34, .inr (2, [.ref (a 35), .ref (a 36), .ref (a 37), .ref (a 38), .ref (a 39), .ref (a 40), .ref (a 41), .ref (a 42), .int 0])), (a 35, .inl (cI, 8, .inl (fun _ => (0 : Int32)))), (a 36, .inl (cI, 8, .inl (fun _ => (0 : Int32)))), (a 29, .inr (1, [.ref (a 30), .ref (a 31), .ref (a 32), .ref (a 33), .int 0]))]) [1, 2, 3, 4] rfl
  have hDc := hD.sub (ws' := [(a 34, .inr (2, [.ref (a 35), .ref (a 36), .ref (a 37), .ref (a 38), .ref (a 39), .ref (a 40), .ref (a 41), .ref (a 42), .int 0])), (a 35, .inl (cI, 8, .inl (fun _ => (0 : Int32)))), (a 36, .inl (cI, 8, .inl (fun _ => (0 : Int32)))), (a 29, .inr (1, [.ref (a 30), .ref (a 31), .ref (a 32), .ref (a 33), .int 0]))]) [1, 2, 3, 4] (by decide) rfl
  have hKc := hK.sub (tys' := [(cI, .int)]) [0] rfl
  have hFc := va_free (wc := [(a 34, .inr (2, [.ref (a 35), .ref (a 36), .ref (a 37), .ref (a 38), .ref (a 39), .ref (a 40), .ref (a 41), .ref (a 42), .int 0])), (a 35, .inl (cI, 8, .inl (fun _ => (0 : Int32)))), (a 36, .inl (cI, 8, .inl (fun _ => (0 : Int32)))), (a 29, .inr (1, [.ref (a 30), .ref (a 31), .ref (a 32), .ref (a 33), .int 0]))]) hD hS hA [1, 2, 3, 4] rfl
  refine va_callv (va_runVN (As := [.ref (a 29)]) (rest := []) ⟨hx, hb, hml, hown, hw⟩ (k_tellFor l dC dI a cI s.heap.size) ⟨va_cnB 1 hw (zz_good tw_54) rfl rfl rfl (hN.1 _ zz_n60) (hw _ tw_48) (by decide +kernel) ⟨Nat.le_of_ble_eq_true rfl, Nat.le_of_ble_eq_true rfl⟩, (hw _ tw_55), (hw _ tw_56)⟩ ⟨zz_blind, va_recv hKc hPc (ci := 2) (q0 := 0) rfl rfl, zz_pre hPc hKc hDc hN⟩ rfl rfl hl.1 rfl (lv_room (Nat.le_of_ble_eq_true rfl)) dX7_payments_8 ⟨Nat.le_of_ble_eq_true rfl, Nat.le_of_ble_eq_true rfl⟩) hS (fun q _ h => hFc q h) hFc (fun u_1 t H1 locs ht hvm e_1 hB hz1 hk1 hS => ?_)
  try dsimp only at e_1
  obtain ⟨v_1_0, rfl⟩ : ∃ z, z = u_1 := ⟨_, rfl⟩
  obtain ⟨hP1, hK1, hD1⟩ := hB
  rw [ht] at hP1
  have hK1 := va_K.moved hvm.symm hK1
  try dsimp only at e_1
  obtain ⟨hP, hD⟩ := va_join (wr := [(a 0, .inr (7, [.ref (a 1), .ref (a 10), .ref (a 23), .ref (a 24), .ref (a 26), .ref (a 29), .ref (a 34), .ref (a 43), .int 0, .int 0, .int 0, .int 0]))]) (w1 := [(a 34, .inr (2, [.ref (a 35), .ref (a 36), .ref (a 37), .ref (a 38), .ref (a 39), .ref (a 40), .ref (a 41), .ref (a 42), .int 0])), (a 35, .inl (cI, 8, .inl (fun _ => (0 : Int32)))), (a 36, .inl (cI, 8, .inl v_1_0)), (a 29, .inr (1, [.ref (a 30), .ref (a 31), .ref (a 32), .ref (a 33), .int 0]))]) hP hD [1, 2, 3, 4] [0] rfl rfl (by decide) (by decide) hk1 hFc hP1 hD1
  clear hk1 ht hvm
  generalize H1 = H at hP hS ⊢
  have hP : va_P (dC, dI) vwCl [(a 0, .inr (7, [.ref (a 1), .ref (a 10), .ref (a 23), .ref (a 24), .ref (a 26), .ref (a 29), .ref (a 34), .ref (a 43), .int 0, .int 0, .int 0, .int 0])), (a 34, .inr (2, [.ref (a 35), .ref (a 36), .ref (a 37), .ref (a 38), .ref (a 39), .ref (a 40), .ref (a 41), .ref (a 42), .int 0])), (a 35, .inl (cI, 8, .inl (fun _ => (0 : Int32)))), (a 36, .inl (cI, 8, .inl v_1_0)), (a 29, .inr (1, [.ref (a 30), .ref (a 31), .ref (a 32), .ref (a 33), .int 0]))] H := hP
  have hD : va_D A [(a 0, .inr (7, [.ref (a 1), .ref (a 10), .ref (a 23), .ref (a 24), .ref (a 26), .ref (a 29), .ref (a 34), .ref (a 43), .int 0, .int 0, .int 0, .int 0])), (a 34, .inr (2, [.ref (a 35), .ref (a 36), .ref (a 37), .ref (a 38), .ref (a 39), .ref (a 40), .ref (a 41), .ref (a 42), .int 0])), (a 35, .inl (cI, 8, .inl (fun _ => (0 : Int32)))), (a 36, .inl (cI, 8, .inl v_1_0)), (a 29, .inr (1, [.ref (a 30), .ref (a 31), .ref (a 32), .ref (a 33), .int 0]))] := hD
  refine lv_aload_n hx hb dX7_payments_11 rfl (lv_at hl 0 rfl) ?_
  refine va_get (D := (dC, dI)) (ci := 7) (v := .ref (a 34)) (C := RX7) (T := TX7) (N := 12) hx hb hw zz_inX7 hown hK hP 0 rfl rfl 6 (by decide) (hw _ tw_52) (fun _ h9 => h9) rfl dX7_payments_12 ?_
  refine va_getN (D := (dC, dI)) (ci := 2) (v := .int 0) (C := RX2) (T := TX2) (N := 9) hx hb hw zz_inX2 hown hK hP 1 rfl rfl 8 (by decide) (hN.use zz_n42) (fun _ h9 => h9) rfl dX7_payments_15 ?_
  exact W.iret (v := 0) hx hb hr (fun t ht hW => ⟨⟨0, (), rfl, rfl, trivial⟩, hS.F ht⟩) hS.2.2 dX7_payments_18

set_option maxHeartbeats 4000000 in
set_option maxRecDepth 100000 in
theorem k_payment (l : Launch) (dC : Nat → ClassId) (dI : Nat → Nat → Nat) (a : Nat → Nat) (cI : ClassId) (p0 : Int32) (p1 : Int32) (sz : Nat) : Met l yX7_payment (zz_w yX7_payment cX7_payment 3 (some .int)) ({ frames := 2, cells := 0, slots := 0, locals := 44 }) (va_Pc [.ref (a 0), .int p0, .int p1] (zz_B (dC, dI) sz [(a 0, .inr (7, [.ref (a 1), .ref (a 10), .ref (a 23), .ref (a 24), .ref (a 26), .ref (a 29), .ref (a 34), .ref (a 43), .int 0, .int 0, .int 0, .int 0])), (a 34, .inr (2, [.ref (a 35), .ref (a 36), .ref (a 37), .ref (a 38), .ref (a 39), .ref (a 40), .ref (a 41), .ref (a 42), .int 0])), (a 35, .inl (cI, 8, .inl (fun _ => (0 : Int32)))), (a 36, .inl (cI, 8, .inl (fun _ => (0 : Int32)))), (a 29, .inr (1, [.ref (a 30), .ref (a 31), .ref (a 32), .ref (a 33), .int 0]))] [(cI, .int)])) (va_Qi (fun (r : Int32) (_ : Unit) => r = -1) (fun _ _ => True) (va_A [(a 0, .inr (7, [.ref (a 1), .ref (a 10), .ref (a 23), .ref (a 24), .ref (a 26), .ref (a 29), .ref (a 34), .ref (a 43), .int 0, .int 0, .int 0, .int 0])), (a 34, .inr (2, [.ref (a 35), .ref (a 36), .ref (a 37), .ref (a 38), .ref (a 39), .ref (a 40), .ref (a 41), .ref (a 42), .int 0])), (a 35, .inl (cI, 8, .inl (fun _ => (0 : Int32)))), (a 36, .inl (cI, 8, .inl (fun _ => (0 : Int32)))), (a 29, .inr (1, [.ref (a 30), .ref (a 31), .ref (a 32), .ref (a 33), .int 0]))] sz)) 0 0 (va_A [(a 0, .inr (7, [.ref (a 1), .ref (a 10), .ref (a 23), .ref (a 24), .ref (a 26), .ref (a 29), .ref (a 34), .ref (a 43), .int 0, .int 0, .int 0, .int 0])), (a 34, .inr (2, [.ref (a 35), .ref (a 36), .ref (a 37), .ref (a 38), .ref (a 39), .ref (a 40), .ref (a 41), .ref (a 42), .int 0])), (a 35, .inl (cI, 8, .inl (fun _ => (0 : Int32)))), (a 36, .inl (cI, 8, .inl (fun _ => (0 : Int32)))), (a 29, .inr (1, [.ref (a 30), .ref (a 31), .ref (a 32), .ref (a 33), .int 0]))] sz) := by
  refine Met.ofW (cc := cX7_payment) (maxL := 3) (ret := (some .int)) (by decide) rfl ?_
  intro p e s m args below meth c s₁ B hml hv
  obtain ⟨rfl, hsz, hP, hK, hD0, hN⟩ := hv
  have hx := B.exec
  have hb := B.bytes
  have hr := B.returns
  have hts := atoms_spec (ws := zz_w yX7_payment cX7_payment 3 (some .int)) B.pre
  have hw : ∀ w ∈ zz_all, w.before _ s = true := fun w h => hts w (List.mem_cons_of_mem _ h)
  have hown : s.vm.findClass RX7 = some m.cls := findClass_of_methodNamed B.named
  have hlocks := B.notSynchronized
  subst hsz
  have hD := hD0.self (sz := s.heap.size)
  generalize hAe : va_A [(a 0, .inr (7, [.ref (a 1), .ref (a 10), .ref (a 23), .ref (a 24), .ref (a 26), .ref (a 29), .ref (a 34), .ref (a 43), .int 0, .int 0, .int 0, .int 0])), (a 34, .inr (2, [.ref (a 35), .ref (a 36), .ref (a 37), .ref (a 38), .ref (a 39), .ref (a 40), .ref (a 41), .ref (a 42), .int 0])), (a 35, .inl (cI, 8, .inl (fun _ => (0 : Int32)))), (a 36, .inl (cI, 8, .inl (fun _ => (0 : Int32)))), (a 29, .inr (1, [.ref (a 30), .ref (a 31), .ref (a 32), .ref (a 33), .int 0]))] s.heap.size = A at hD ⊢
  have hA : ∀ q : Nat, s.heap.size ≤ q → A q := fun q h => by rw [← hAe]; exact Or.inr h
  have hS : va_S A s.heap s.heap [] := va_S.rf
  have hP : va_P (dC, dI) vwCl [(a 0, .inr (7, [.ref (a 1), .ref (a 10), .ref (a 23), .ref (a 24), .ref (a 26), .ref (a 29), .ref (a 34), .ref (a 43), .int 0, .int 0, .int 0, .int 0])), (a 34, .inr (2, [.ref (a 35), .ref (a 36), .ref (a 37), .ref (a 38), .ref (a 39), .ref (a 40), .ref (a 41), .ref (a 42), .int 0])), (a 35, .inl (cI, 8, .inl (fun _ => (0 : Int32)))), (a 36, .inl (cI, 8, .inl (fun _ => (0 : Int32)))), (a 29, .inr (1, [.ref (a 30), .ref (a 31), .ref (a 32), .ref (a 33), .int 0]))] s.heap := hP
  have hl := lv_entry ([.ref (a 0), .int p0, .int p1]) (n := 3) (Nat.le_of_ble_eq_true rfl)
  rw [lg_entry_eq]
  generalize (lg_sl ([.ref (a 0), .int p0, .int p1]) ++ List.replicate (3 - (lg_sl ([.ref (a 0), .int p0, .int p1])).length) Slot.unset).toArray = ls at hl ⊢
  have hl : lv_has ls 3 [(0, .ref (a 0)), (1, .int p0), (2, .int p1)] := hl
  refine lv_aload_n hx hb dX7_payment_0 rfl (lv_at hl 0 rfl) ?_
  refine va_get (D := (dC, dI)) (ci := 7) (v := .ref (a 34)) (C := RX7) (T := TX7) (N := 12) hx hb hw zz_inX7 hown hK hP 0 rfl rfl 6 (by decide) (hw _ tw_52) (fun _ h9 => h9) rfl dX7_payment_1 ?_
  refine lv_aload_n hx hb dX7_payment_4 rfl (lv_at hl 0 rfl) ?_
  refine va_get (D := (dC, dI)) (ci := 7) (v := .ref (a 29)) (C := RX7) (T := TX7) (N := 12) hx hb hw zz_inX7 hown hK hP 0 rfl rfl 5 (by decide) (hw _ tw_53) (fun _ h9 => h9) rfl dX7_payment_5 ?_
  have hPc := hP.sub (ws' := [(a 34, .inr (2, [.ref (a 35), .ref (a 36), .ref (a 37), .ref (a 38), .ref (a 39), .ref (a 40), .ref (a 41), .ref (a 42), .int 0])), (a 35, .inl (cI, 8, .inl (fun _ => (0 : Int32)))), (a 36, .inl (cI, 8, .inl (fun _ => (0 : Int32)))), (a 29, .inr (1, [.ref (a 30), .ref (a 31), .ref (a 32), .ref (a 33), .int 0]))]) [1, 2, 3, 4] rfl
  have hDc := hD.sub (ws' := [(a 34, .inr (2, [.ref (a 35), .ref (a 36), .ref (a 37), .ref (a 38), .ref (a 39), .ref (a 40), .ref (a 41), .ref (a 42), .int 0])), (a 35, .inl (cI, 8, .inl (fun _ => (0 : Int32)))), (a 36, .inl (cI, 8, .inl (fun _ => (0 : Int32)))), (a 29, .inr (1, [.ref (a 30), .ref (a 31), .ref (a 32), .ref (a 33), .int 0]))]) [1, 2, 3, 4] (by decide) rfl
  have hKc := hK.sub (tys' := [(cI, .int)]) [0] rfl
  have hFc := va_free (wc := [(a 34, .inr (2, [.ref (a 35), .ref (a 36), .ref (a 37), .ref (a 38), .ref (a 39), .ref (a 40), .ref (a 41), .ref (a 42), .int 0])), (a 35, .inl (cI, 8, .inl (fun _ => (0 : Int32)))), (a 36, .inl (cI, 8, .inl (fun _ => (0 : Int32)))), (a 29, .inr (1, [.ref (a 30), .ref (a 31), .ref (a 32), .ref (a 33), .int 0]))]) hD hS hA [1, 2, 3, 4] rfl
  refine va_callv (va_runVN (As := [.ref (a 29)]) (rest := []) ⟨hx, hb, hml, hown, hw⟩ (k_tellFor l dC dI a cI s.heap.size) ⟨va_cnB 1 hw (zz_good tw_54) rfl rfl rfl (hN.1 _ zz_n60) (hw _ tw_48) (by decide +kernel) ⟨Nat.le_of_ble_eq_true rfl, Nat.le_of_ble_eq_true rfl⟩, (hw _ tw_55), (hw _ tw_56)⟩ ⟨zz_blind, va_recv hKc hPc (ci := 2) (q0 := 0) rfl rfl, zz_pre hPc hKc hDc hN⟩ rfl rfl hl.1 rfl (lv_room (Nat.le_of_ble_eq_true rfl)) dX7_payment_8 ⟨Nat.le_of_ble_eq_true rfl, Nat.le_of_ble_eq_true rfl⟩) hS (fun q _ h => hFc q h) hFc (fun u_1 t H1 locs ht hvm e_1 hB hz1 hk1 hS => ?_)
  try dsimp only at e_1
  obtain ⟨v_1_0, rfl⟩ : ∃ z, z = u_1 := ⟨_, rfl⟩
  obtain ⟨hP1, hK1, hD1⟩ := hB
  rw [ht] at hP1
  have hK1 := va_K.moved hvm.symm hK1
  try dsimp only at e_1
  obtain ⟨hP, hD⟩ := va_join (wr := [(a 0, .inr (7, [.ref (a 1), .ref (a 10), .ref (a 23), .ref (a 24), .ref (a 26), .ref (a 29), .ref (a 34), .ref (a 43), .int 0, .int 0, .int 0, .int 0]))]) (w1 := [(a 34, .inr (2, [.ref (a 35), .ref (a 36), .ref (a 37), .ref (a 38), .ref (a 39), .ref (a 40), .ref (a 41), .ref (a 42), .int 0])), (a 35, .inl (cI, 8, .inl (fun _ => (0 : Int32)))), (a 36, .inl (cI, 8, .inl v_1_0)), (a 29, .inr (1, [.ref (a 30), .ref (a 31), .ref (a 32), .ref (a 33), .int 0]))]) hP hD [1, 2, 3, 4] [0] rfl rfl (by decide) (by decide) hk1 hFc hP1 hD1
  clear hk1 ht hvm
  generalize H1 = H at hP hS ⊢
  have hP : va_P (dC, dI) vwCl [(a 0, .inr (7, [.ref (a 1), .ref (a 10), .ref (a 23), .ref (a 24), .ref (a 26), .ref (a 29), .ref (a 34), .ref (a 43), .int 0, .int 0, .int 0, .int 0])), (a 34, .inr (2, [.ref (a 35), .ref (a 36), .ref (a 37), .ref (a 38), .ref (a 39), .ref (a 40), .ref (a 41), .ref (a 42), .int 0])), (a 35, .inl (cI, 8, .inl (fun _ => (0 : Int32)))), (a 36, .inl (cI, 8, .inl v_1_0)), (a 29, .inr (1, [.ref (a 30), .ref (a 31), .ref (a 32), .ref (a 33), .int 0]))] H := hP
  have hD : va_D A [(a 0, .inr (7, [.ref (a 1), .ref (a 10), .ref (a 23), .ref (a 24), .ref (a 26), .ref (a 29), .ref (a 34), .ref (a 43), .int 0, .int 0, .int 0, .int 0])), (a 34, .inr (2, [.ref (a 35), .ref (a 36), .ref (a 37), .ref (a 38), .ref (a 39), .ref (a 40), .ref (a 41), .ref (a 42), .int 0])), (a 35, .inl (cI, 8, .inl (fun _ => (0 : Int32)))), (a 36, .inl (cI, 8, .inl v_1_0)), (a 29, .inr (1, [.ref (a 30), .ref (a 31), .ref (a 32), .ref (a 33), .int 0]))] := hD
  refine lv_iload_n hx hb dX7_payment_11 rfl (lv_at hl 1 rfl) ?_
  refine lv_iconst (v := 0) hx hb dX7_payment_12 (by decide) ?_
  refine lv_aload_n hx hb dX7_payment_13 rfl (lv_at hl 0 rfl) ?_
  refine va_get (D := (dC, dI)) (ci := 7) (v := .ref (a 34)) (C := RX7) (T := TX7) (N := 12) hx hb hw zz_inX7 hown hK hP 0 rfl rfl 6 (by decide) (hw _ tw_52) (fun _ h9 => h9) rfl dX7_payment_14 ?_
  refine va_getN (D := (dC, dI)) (ci := 2) (v := .int 0) (C := RX2) (T := TX2) (N := 9) hx hb hw zz_inX2 hown hK hP 1 rfl rfl 8 (by decide) (hN.use zz_n42) (fun _ h9 => h9) rfl dX7_payment_17 ?_
  refine lv_iconst (v := 1) hx hb dX7_payment_20 (by decide) ?_
  refine lv_isub hx hb dX7_payment_21 ?_
  refine zz_seti (-1) (by decide) ?_
  have hPc := hP.sub (ws' := []) [] rfl
  have hDc := hD.sub (ws' := []) [] (by decide) rfl
  have hKc := hK.sub (tys' := []) [] rfl
  have hFc := zz_free0 hS hA
  refine va_calli (va_runS (As := [.int p0, .int 0, .int (-1)]) (rest := []) ⟨hx, hb, hml, hown, hw⟩ (k_within l dC dI p0 0 (-1) H.size) ⟨callB_of 3 hw (zz_good tw_1) rfl rfl rfl (hw _ tw_2) (hw _ tw_3) (by decide +kernel) ⟨Nat.le_of_ble_eq_true rfl, Nat.le_of_ble_eq_true rfl⟩, (hw _ tw_4)⟩ ⟨zz_blind, zz_pre hPc hKc hDc hN⟩ rfl rfl hl.1 rfl (lv_room (Nat.le_of_ble_eq_true rfl)) dX7_payment_22 ⟨Nat.le_of_ble_eq_true rfl, Nat.le_of_ble_eq_true rfl⟩) hS (fun q _ h => hFc q h) hFc (fun r_2 u_2 t H1 locs ht hvm e_2 hB hz1 hk1 hS => ?_)
  try dsimp only at e_2
  have hP := zz_keep hP hk1
  clear hk1 hB ht hvm
  generalize H1 = H at hP hS ⊢
  have hP : va_P (dC, dI) vwCl [(a 0, .inr (7, [.ref (a 1), .ref (a 10), .ref (a 23), .ref (a 24), .ref (a 26), .ref (a 29), .ref (a 34), .ref (a 43), .int 0, .int 0, .int 0, .int 0])), (a 34, .inr (2, [.ref (a 35), .ref (a 36), .ref (a 37), .ref (a 38), .ref (a 39), .ref (a 40), .ref (a 41), .ref (a 42), .int 0])), (a 35, .inl (cI, 8, .inl (fun _ => (0 : Int32)))), (a 36, .inl (cI, 8, .inl v_1_0)), (a 29, .inr (1, [.ref (a 30), .ref (a 31), .ref (a 32), .ref (a 33), .int 0]))] H := hP
  have hD : va_D A [(a 0, .inr (7, [.ref (a 1), .ref (a 10), .ref (a 23), .ref (a 24), .ref (a 26), .ref (a 29), .ref (a 34), .ref (a 43), .int 0, .int 0, .int 0, .int 0])), (a 34, .inr (2, [.ref (a 35), .ref (a 36), .ref (a 37), .ref (a 38), .ref (a 39), .ref (a 40), .ref (a 41), .ref (a 42), .int 0])), (a 35, .inl (cI, 8, .inl (fun _ => (0 : Int32)))), (a 36, .inl (cI, 8, .inl v_1_0)), (a 29, .inr (1, [.ref (a 30), .ref (a 31), .ref (a 32), .ref (a 33), .int 0]))] := hD
  refine zz_seti 0 (e_2.trans (zz_empty _)) ?_
  refine lv_if_ne (tgt := 30) hx hb dX7_payment_25 (by decide) (fun c_9 => absurd c_9 (by decide)) (fun _ => ?_)
  refine lv_iconst (v := (-1)) hx hb dX7_payment_28 (by decide) ?_
  exact W.iret (v := (-1)) hx hb hr (fun t ht hW => ⟨⟨(-1), (), rfl, rfl, trivial⟩, hS.F ht⟩) hS.2.2 dX7_payment_29

set_option maxHeartbeats 4000000 in
set_option maxRecDepth 100000 in
theorem k_even (l : Launch) (dC : Nat → ClassId) (dI : Nat → Nat → Nat) (a : Nat → Nat) (sz : Nat) : Met l yX7_even (zz_w yX7_even cX7_even 2 (some .int)) ({ frames := 0, cells := 0, slots := 0, locals := 0 }) (va_Pc [.ref (a 0)] (zz_B (dC, dI) sz [(a 0, .inr (7, [.ref (a 1), .ref (a 10), .ref (a 23), .ref (a 24), .ref (a 26), .ref (a 29), .ref (a 34), .ref (a 43), .int 0, .int 0, .int 0, .int 0])), (a 29, .inr (1, [.ref (a 30), .ref (a 31), .ref (a 32), .ref (a 33), .int 0]))] [])) (va_Qi (fun (r : Int32) (_ : Unit) => r = 0) (fun _ _ => True) (va_A [(a 0, .inr (7, [.ref (a 1), .ref (a 10), .ref (a 23), .ref (a 24), .ref (a 26), .ref (a 29), .ref (a 34), .ref (a 43), .int 0, .int 0, .int 0, .int 0])), (a 29, .inr (1, [.ref (a 30), .ref (a 31), .ref (a 32), .ref (a 33), .int 0]))] sz)) 0 0 (va_A [(a 0, .inr (7, [.ref (a 1), .ref (a 10), .ref (a 23), .ref (a 24), .ref (a 26), .ref (a 29), .ref (a 34), .ref (a 43), .int 0, .int 0, .int 0, .int 0])), (a 29, .inr (1, [.ref (a 30), .ref (a 31), .ref (a 32), .ref (a 33), .int 0]))] sz) := by
  refine Met.ofW (cc := cX7_even) (maxL := 2) (ret := (some .int)) (by decide) rfl ?_
  intro p e s m args below meth c s₁ B hml hv
  obtain ⟨rfl, hsz, hP, hK, hD0, hN⟩ := hv
  have hx := B.exec
  have hb := B.bytes
  have hr := B.returns
  have hts := atoms_spec (ws := zz_w yX7_even cX7_even 2 (some .int)) B.pre
  have hw : ∀ w ∈ zz_all, w.before _ s = true := fun w h => hts w (List.mem_cons_of_mem _ h)
  have hown : s.vm.findClass RX7 = some m.cls := findClass_of_methodNamed B.named
  have hlocks := B.notSynchronized
  subst hsz
  have hD := hD0.self (sz := s.heap.size)
  generalize hAe : va_A [(a 0, .inr (7, [.ref (a 1), .ref (a 10), .ref (a 23), .ref (a 24), .ref (a 26), .ref (a 29), .ref (a 34), .ref (a 43), .int 0, .int 0, .int 0, .int 0])), (a 29, .inr (1, [.ref (a 30), .ref (a 31), .ref (a 32), .ref (a 33), .int 0]))] s.heap.size = A at hD ⊢
  have hA : ∀ q : Nat, s.heap.size ≤ q → A q := fun q h => by rw [← hAe]; exact Or.inr h
  have hS : va_S A s.heap s.heap [] := va_S.rf
  have hP : va_P (dC, dI) vwCl [(a 0, .inr (7, [.ref (a 1), .ref (a 10), .ref (a 23), .ref (a 24), .ref (a 26), .ref (a 29), .ref (a 34), .ref (a 43), .int 0, .int 0, .int 0, .int 0])), (a 29, .inr (1, [.ref (a 30), .ref (a 31), .ref (a 32), .ref (a 33), .int 0]))] s.heap := hP
  have hl := lv_entry ([.ref (a 0)]) (n := 2) (Nat.le_of_ble_eq_true rfl)
  rw [lg_entry_eq]
  generalize (lg_sl ([.ref (a 0)]) ++ List.replicate (2 - (lg_sl ([.ref (a 0)])).length) Slot.unset).toArray = ls at hl ⊢
  have hl : lv_has ls 2 [(0, .ref (a 0))] := hl
  refine lv_aload_n hx hb dX7_even_0 rfl (lv_at hl 0 rfl) ?_
  refine va_get (D := (dC, dI)) (ci := 7) (v := .ref (a 29)) (C := RX7) (T := TX7) (N := 12) hx hb hw zz_inX7 hown hK hP 0 rfl rfl 5 (by decide) (hw _ tw_53) (fun _ h9 => h9) rfl dX7_even_1 ?_
  refine va_getN (D := (dC, dI)) (ci := 1) (v := .int 0) (C := RX1) (T := TX1) (N := 5) hx hb hw zz_inX1 hown hK hP 1 rfl rfl 4 (by decide) (hN.use zz_n37) (fun _ h9 => h9) rfl dX7_even_4 ?_
  refine lv_istore_n (lv' := [(1, .int 0), (0, .ref (a 0))]) hx hb dX7_even_7 rfl hl (by decide) rfl (fun ls hl => ?_)
  refine lv_aload_n hx hb dX7_even_8 rfl (lv_at hl 1 rfl) ?_
  refine va_get (D := (dC, dI)) (ci := 7) (v := .ref (a 29)) (C := RX7) (T := TX7) (N := 12) hx hb hw zz_inX7 hown hK hP 0 rfl rfl 5 (by decide) (hw _ tw_53) (fun _ h9 => h9) rfl dX7_even_9 ?_
  refine lv_iconst (v := 0) hx hb dX7_even_12 (by decide) ?_
  refine va_putN (D := (dC, dI)) (ci := 1) (v := .int 0) (ty := .int) (C := RX1) (T := TX1) (N := 5) hx hb hw zz_inX1 tyX1 tyX1_ok nmX1 hown hK hP hD hS 1 rfl rfl 4 (by decide) (hN.use zz_n37) (fun _ h9 => h9) rfl (by decide +kernel) rfl rfl (Nat.le_of_ble_eq_true rfl) dX7_even_13 (fun H locs hP hD hS => ?_)
  have hP : va_P (dC, dI) vwCl [(a 0, .inr (7, [.ref (a 1), .ref (a 10), .ref (a 23), .ref (a 24), .ref (a 26), .ref (a 29), .ref (a 34), .ref (a 43), .int 0, .int 0, .int 0, .int 0])), (a 29, .inr (1, [.ref (a 30), .ref (a 31), .ref (a 32), .ref (a 33), .int 0]))] H := hP
  have hD : va_D A [(a 0, .inr (7, [.ref (a 1), .ref (a 10), .ref (a 23), .ref (a 24), .ref (a 26), .ref (a 29), .ref (a 34), .ref (a 43), .int 0, .int 0, .int 0, .int 0])), (a 29, .inr (1, [.ref (a 30), .ref (a 31), .ref (a 32), .ref (a 33), .int 0]))] := hD
  refine lv_iload_n hx hb dX7_even_16 rfl (lv_at hl 0 rfl) ?_
  exact W.iret (v := 0) hx hb hr (fun t ht hW => ⟨⟨0, (), rfl, rfl, trivial⟩, hS.F ht⟩) hS.2.2 dX7_even_17

set_option maxHeartbeats 4000000 in
set_option maxRecDepth 100000 in
theorem k_waiting (l : Launch) (dC : Nat → ClassId) (dI : Nat → Nat → Nat) (a : Nat → Nat) (sz : Nat) : Met l yX7_waitingFields (zz_w yX7_waitingFields cX7_waitingFields 3 (some .int)) ({ frames := 0, cells := 0, slots := 0, locals := 0 }) (va_Pc [.ref (a 0)] (zz_B (dC, dI) sz [(a 0, .inr (7, [.ref (a 1), .ref (a 10), .ref (a 23), .ref (a 24), .ref (a 26), .ref (a 29), .ref (a 34), .ref (a 43), .int 0, .int 0, .int 0, .int 0]))] [])) (va_Qi (fun (r : Int32) (_ : Unit) => r = 0) (fun _ _ => True) (va_A [] sz)) 0 0 (va_A [] sz) := by
  refine Met.ofW (cc := cX7_waitingFields) (maxL := 3) (ret := (some .int)) (by decide) rfl ?_
  intro p e s m args below meth c s₁ B hml hv
  obtain ⟨rfl, hsz, hP, hK, hD0, hN⟩ := hv
  have hx := B.exec
  have hb := B.bytes
  have hr := B.returns
  have hts := atoms_spec (ws := zz_w yX7_waitingFields cX7_waitingFields 3 (some .int)) B.pre
  have hw : ∀ w ∈ zz_all, w.before _ s = true := fun w h => hts w (List.mem_cons_of_mem _ h)
  have hown : s.vm.findClass RX7 = some m.cls := findClass_of_methodNamed B.named
  have hlocks := B.notSynchronized
  subst hsz
  have hD := hD0
  generalize hAe : va_A [] s.heap.size = A
  have hA : ∀ q : Nat, s.heap.size ≤ q → A q := fun q h => by rw [← hAe]; exact Or.inr h
  have hS : va_S A s.heap s.heap [] := va_S.rf
  have hP : va_P (dC, dI) vwCl [(a 0, .inr (7, [.ref (a 1), .ref (a 10), .ref (a 23), .ref (a 24), .ref (a 26), .ref (a 29), .ref (a 34), .ref (a 43), .int 0, .int 0, .int 0, .int 0]))] s.heap := hP
  have hl := lv_entry ([.ref (a 0)]) (n := 3) (Nat.le_of_ble_eq_true rfl)
  rw [lg_entry_eq]
  generalize (lg_sl ([.ref (a 0)]) ++ List.replicate (3 - (lg_sl ([.ref (a 0)])).length) Slot.unset).toArray = ls at hl ⊢
  have hl : lv_has ls 3 [(0, .ref (a 0))] := hl
  refine lv_iconst (v := 0) hx hb dX7_waitingFields_0 (by decide) ?_
  refine lv_istore_n (lv' := [(1, .int 0), (0, .ref (a 0))]) hx hb dX7_waitingFields_1 rfl hl (by decide) rfl (fun ls hl => ?_)
  refine lv_iconst (v := 0) hx hb dX7_waitingFields_2 (by decide) ?_
  refine lv_istore_n (lv' := [(2, .int 0), (1, .int 0), (0, .ref (a 0))]) hx hb dX7_waitingFields_3 rfl hl (by decide) rfl (fun ls hl => ?_)
  refine lv_iload_n hx hb dX7_waitingFields_4 rfl (lv_at hl 0 rfl) ?_
  refine lv_aload_n hx hb dX7_waitingFields_5 rfl (lv_at hl 2 rfl) ?_
  refine va_get (D := (dC, dI)) (ci := 7) (v := .int 0) (C := RX7) (T := TX7) (N := 12) hx hb hw zz_inX7 hown hK hP 0 rfl rfl 9 (by decide) (hw _ tw_5) (fun _ h9 => h9) rfl dX7_waitingFields_6 ?_
  refine lv_icmp_ge (tgt := 33) hx hb dX7_waitingFields_9 (by decide) (fun _ => ?_) (fun c_9 => absurd c_9 (by decide))
  refine lv_iload_n hx hb dX7_waitingFields_33 rfl (lv_at hl 1 rfl) ?_
  exact W.iret (v := 0) hx hb hr (fun t ht hW => ⟨⟨0, (), rfl, rfl, trivial⟩, hS.F ht⟩) hS.2.2 dX7_waitingFields_34

set_option maxHeartbeats 4000000 in
set_option maxRecDepth 100000 in
theorem k_begin (l : Launch) (dC : Nat → ClassId) (dI : Nat → Nat → Nat) (a : Nat → Nat) (p0 : Int32) (sz : Nat) : Met l yX5_begin (zz_w yX5_begin cX5_begin 3 none) ({ frames := 1, cells := 0, slots := 0, locals := 14 }) (va_Pc [.ref (a 43), .int 0, .int p0] (zz_B (dC, dI) sz [(a 43, .inr (5, [.ref (a 44), .ref (a 45), .ref (a 46), .ref (a 47), .ref (a 48), .ref (a 49), .ref (a 50), .ref (a 51), .int 0, .int 0, .int 0, .int 0]))] [])) (va_Qv (fun (_ : Int32) => True) (fun (u0 : Int32) (t : State) => va_P (dC, dI) vwCl [(a 43, .inr (5, [.ref (a 44), .ref (a 45), .ref (a 46), .ref (a 47), .ref (a 48), .ref (a 49), .ref (a 50), .ref (a 51), .int 0, .int 0, .int 0, .int u0]))] t.heap ∧ va_K (dC, dI) vwCl [] t ∧ va_D (va_A [(a 43, .inr (5, [.ref (a 44), .ref (a 45), .ref (a 46), .ref (a 47), .ref (a 48), .ref (a 49), .ref (a 50), .ref (a 51), .int 0, .int 0, .int 0, .int 0]))] sz) [(a 43, .inr (5, [.ref (a 44), .ref (a 45), .ref (a 46), .ref (a 47), .ref (a 48), .ref (a 49), .ref (a 50), .ref (a 51), .int 0, .int 0, .int 0, .int u0]))]) (va_A [(a 43, .inr (5, [.ref (a 44), .ref (a 45), .ref (a 46), .ref (a 47), .ref (a 48), .ref (a 49), .ref (a 50), .ref (a 51), .int 0, .int 0, .int 0, .int 0]))] sz)) 0 0 (va_A [(a 43, .inr (5, [.ref (a 44), .ref (a 45), .ref (a 46), .ref (a 47), .ref (a 48), .ref (a 49), .ref (a 50), .ref (a 51), .int 0, .int 0, .int 0, .int 0]))] sz) := by
  refine Met.ofW (cc := cX5_begin) (maxL := 3) (ret := none) (by decide) rfl ?_
  intro p e s m args below meth c s₁ B hml hv
  obtain ⟨rfl, hsz, hP, hK, hD0, hN⟩ := hv
  have hx := B.exec
  have hb := B.bytes
  have hr := B.returns
  have hts := atoms_spec (ws := zz_w yX5_begin cX5_begin 3 none) B.pre
  have hw : ∀ w ∈ zz_all, w.before _ s = true := fun w h => hts w (List.mem_cons_of_mem _ h)
  have hown : s.vm.findClass RX5 = some m.cls := findClass_of_methodNamed B.named
  have hlocks := B.notSynchronized
  subst hsz
  have hD := hD0.self (sz := s.heap.size)
  generalize hAe : va_A [(a 43, .inr (5, [.ref (a 44), .ref (a 45), .ref (a 46), .ref (a 47), .ref (a 48), .ref (a 49), .ref (a 50), .ref (a 51), .int 0, .int 0, .int 0, .int 0]))] s.heap.size = A at hD ⊢
  have hA : ∀ q : Nat, s.heap.size ≤ q → A q := fun q h => by rw [← hAe]; exact Or.inr h
  have hS : va_S A s.heap s.heap [] := va_S.rf
  have hP : va_P (dC, dI) vwCl [(a 43, .inr (5, [.ref (a 44), .ref (a 45), .ref (a 46), .ref (a 47), .ref (a 48), .ref (a 49), .ref (a 50), .ref (a 51), .int 0, .int 0, .int 0, .int 0]))] s.heap := hP
  have hl := lv_entry ([.ref (a 43), .int 0, .int p0]) (n := 3) (Nat.le_of_ble_eq_true rfl)
  rw [lg_entry_eq]
  generalize (lg_sl ([.ref (a 43), .int 0, .int p0]) ++ List.replicate (3 - (lg_sl ([.ref (a 43), .int 0, .int p0])).length) Slot.unset).toArray = ls at hl ⊢
  have hl : lv_has ls 3 [(0, .ref (a 43)), (1, .int 0), (2, .int p0)] := hl
  refine lv_aload_n hx hb dX5_begin_0 rfl (lv_at hl 0 rfl) ?_
  refine lv_iconst (v := 0) hx hb dX5_begin_1 (by decide) ?_
  refine va_put (D := (dC, dI)) (ci := 5) (v := .int 0) (ty := .int) (C := RX5) (T := TX5) (N := 12) hx hb hw zz_inX5 tyX5 tyX5_ok nmX5 hown hK hP hD hS 0 rfl rfl 9 (by decide) (hw _ tw_57) (fun _ h9 => h9) rfl (by decide +kernel) rfl rfl (Nat.le_of_ble_eq_true rfl) dX5_begin_2 (fun H locs hP hD hS => ?_)
  have hP : va_P (dC, dI) vwCl [(a 43, .inr (5, [.ref (a 44), .ref (a 45), .ref (a 46), .ref (a 47), .ref (a 48), .ref (a 49), .ref (a 50), .ref (a 51), .int 0, .int 0, .int 0, .int 0]))] H := hP
  have hD : va_D A [(a 43, .inr (5, [.ref (a 44), .ref (a 45), .ref (a 46), .ref (a 47), .ref (a 48), .ref (a 49), .ref (a 50), .ref (a 51), .int 0, .int 0, .int 0, .int 0]))] := hD
  refine lv_aload_n hx hb dX5_begin_5 rfl (lv_at hl 0 rfl) ?_
  refine lv_iload_n hx hb dX5_begin_6 rfl (lv_at hl 1 rfl) ?_
  refine va_put (D := (dC, dI)) (ci := 5) (v := .int 0) (ty := .int) (C := RX5) (T := TX5) (N := 12) hx hb hw zz_inX5 tyX5 tyX5_ok nmX5 hown hK hP hD hS 0 rfl rfl 10 (by decide) (hw _ tw_58) (fun _ h9 => h9) rfl (by decide +kernel) rfl rfl (Nat.le_of_ble_eq_true rfl) dX5_begin_7 (fun H locs hP hD hS => ?_)
  have hP : va_P (dC, dI) vwCl [(a 43, .inr (5, [.ref (a 44), .ref (a 45), .ref (a 46), .ref (a 47), .ref (a 48), .ref (a 49), .ref (a 50), .ref (a 51), .int 0, .int 0, .int 0, .int 0]))] H := hP
  have hD : va_D A [(a 43, .inr (5, [.ref (a 44), .ref (a 45), .ref (a 46), .ref (a 47), .ref (a 48), .ref (a 49), .ref (a 50), .ref (a 51), .int 0, .int 0, .int 0, .int 0]))] := hD
  refine lv_aload_n hx hb dX5_begin_10 rfl (lv_at hl 0 rfl) ?_
  refine lv_iconst (v := 1) hx hb dX5_begin_11 (by decide) ?_
  refine lv_iload_n hx hb dX5_begin_12 rfl (lv_at hl 2 rfl) ?_
  refine va_mmax hx hb (by rw [hml]; exact hl.1.symm) hown (hw _ tw_59) (hw _ tw_60) (hw _ tw_61) (hw _ tw_62) (Nat.le_of_ble_eq_true rfl) (Nat.le_of_ble_eq_true rfl) (Nat.le_of_ble_eq_true rfl) (Nat.le_of_ble_eq_true rfl) dX5_begin_13 ?_
  refine va_put (D := (dC, dI)) (ci := 5) (v := .int (if 1 < p0 then p0 else 1)) (ty := .int) (C := RX5) (T := TX5) (N := 12) hx hb hw zz_inX5 tyX5 tyX5_ok nmX5 hown hK hP hD hS 0 rfl rfl 11 (by decide) (hw _ tw_63) (fun _ h9 => h9) rfl (by decide +kernel) rfl rfl (Nat.le_of_ble_eq_true rfl) dX5_begin_16 (fun H locs hP hD hS => ?_)
  have hP : va_P (dC, dI) vwCl [(a 43, .inr (5, [.ref (a 44), .ref (a 45), .ref (a 46), .ref (a 47), .ref (a 48), .ref (a 49), .ref (a 50), .ref (a 51), .int 0, .int 0, .int 0, .int (if 1 < p0 then p0 else 1)]))] H := hP
  have hD : va_D A [(a 43, .inr (5, [.ref (a 44), .ref (a 45), .ref (a 46), .ref (a 47), .ref (a 48), .ref (a 49), .ref (a 50), .ref (a 51), .int 0, .int 0, .int 0, .int (if 1 < p0 then p0 else 1)]))] := hD
  have hP9 := hP.sub (ws' := [(a 43, .inr (5, [.ref (a 44), .ref (a 45), .ref (a 46), .ref (a 47), .ref (a 48), .ref (a 49), .ref (a 50), .ref (a 51), .int 0, .int 0, .int 0, .int (if 1 < p0 then p0 else 1)]))]) [0] rfl
  have hD9 := hD.sub (ws' := [(a 43, .inr (5, [.ref (a 44), .ref (a 45), .ref (a 46), .ref (a 47), .ref (a 48), .ref (a 49), .ref (a 50), .ref (a 51), .int 0, .int 0, .int 0, .int (if 1 < p0 then p0 else 1)]))]) [0] (by decide) rfl
  have hK9 := hK.sub (tys' := []) [] rfl
  exact W.vret hx hb hr (fun t ht hW => ⟨⟨((if 1 < p0 then p0 else 1)), rfl, trivial, by rw [ht]; exact hP9, va_K.moved hW.alike hK9, hD9⟩, hS.F ht⟩) hS.2.2 dX5_begin_19

set_option maxHeartbeats 4000000 in
set_option maxRecDepth 100000 in
theorem k_choose (l : Launch) (dC : Nat → ClassId) (dI : Nat → Nat → Nat) (a : Nat → Nat) (cI : ClassId) (ha : Int32) (sz : Nat) : Met l yX5_choose (zz_w yX5_choose cX5_choose 6 (some .int)) ({ frames := 0, cells := 0, slots := 0, locals := 0 }) (va_Pc [.ref (a 43), .ref (a 23)] (zz_B (dC, dI) sz [(a 43, .inr (5, [.ref (a 44), .ref (a 45), .ref (a 46), .ref (a 47), .ref (a 48), .ref (a 49), .ref (a 50), .ref (a 51), .int 0, .int 0, .int 0, .int ha])), (a 49, .inl (cI, 128, .inl (fun _ => (0 : Int32))))] [(cI, .int)])) (va_Qi (fun (r : Int32) (_ : Unit) => r = 0) (fun _ _ => True) (va_A [(a 43, .inr (5, [.ref (a 44), .ref (a 45), .ref (a 46), .ref (a 47), .ref (a 48), .ref (a 49), .ref (a 50), .ref (a 51), .int 0, .int 0, .int 0, .int ha])), (a 49, .inl (cI, 128, .inl (fun _ => (0 : Int32))))] sz)) 0 0 (va_A [(a 43, .inr (5, [.ref (a 44), .ref (a 45), .ref (a 46), .ref (a 47), .ref (a 48), .ref (a 49), .ref (a 50), .ref (a 51), .int 0, .int 0, .int 0, .int ha])), (a 49, .inl (cI, 128, .inl (fun _ => (0 : Int32))))] sz) := by
  refine Met.ofW (cc := cX5_choose) (maxL := 6) (ret := (some .int)) (by decide) rfl ?_
  intro p e s m args below meth c s₁ B hml hv
  obtain ⟨rfl, hsz, hP, hK, hD0, hN⟩ := hv
  have hx := B.exec
  have hb := B.bytes
  have hr := B.returns
  have hts := atoms_spec (ws := zz_w yX5_choose cX5_choose 6 (some .int)) B.pre
  have hw : ∀ w ∈ zz_all, w.before _ s = true := fun w h => hts w (List.mem_cons_of_mem _ h)
  have hown : s.vm.findClass RX5 = some m.cls := findClass_of_methodNamed B.named
  have hlocks := B.notSynchronized
  subst hsz
  have hD := hD0.self (sz := s.heap.size)
  generalize hAe : va_A [(a 43, .inr (5, [.ref (a 44), .ref (a 45), .ref (a 46), .ref (a 47), .ref (a 48), .ref (a 49), .ref (a 50), .ref (a 51), .int 0, .int 0, .int 0, .int ha])), (a 49, .inl (cI, 128, .inl (fun _ => (0 : Int32))))] s.heap.size = A at hD ⊢
  have hA : ∀ q : Nat, s.heap.size ≤ q → A q := fun q h => by rw [← hAe]; exact Or.inr h
  have hS : va_S A s.heap s.heap [] := va_S.rf
  have hP : va_P (dC, dI) vwCl [(a 43, .inr (5, [.ref (a 44), .ref (a 45), .ref (a 46), .ref (a 47), .ref (a 48), .ref (a 49), .ref (a 50), .ref (a 51), .int 0, .int 0, .int 0, .int ha])), (a 49, .inl (cI, 128, .inl (fun _ => (0 : Int32))))] s.heap := hP
  have hl := lv_entry ([.ref (a 43), .ref (a 23)]) (n := 6) (Nat.le_of_ble_eq_true rfl)
  rw [lg_entry_eq]
  generalize (lg_sl ([.ref (a 43), .ref (a 23)]) ++ List.replicate (6 - (lg_sl ([.ref (a 43), .ref (a 23)])).length) Slot.unset).toArray = ls at hl ⊢
  have hl : lv_has ls 6 [(0, .ref (a 43)), (1, .ref (a 23))] := hl
  refine lv_iconst (v := 1) hx hb dX5_choose_0 (by decide) ?_
  refine lv_aload_n hx hb dX5_choose_1 rfl (lv_at hl 0 rfl) ?_
  refine va_get (D := (dC, dI)) (ci := 5) (v := .int 0) (C := RX5) (T := TX5) (N := 12) hx hb hw zz_inX5 hown hK hP 0 rfl rfl 9 (by decide) (hw _ tw_57) (fun _ h9 => h9) rfl dX5_choose_2 ?_
  refine lv_ishl hx hb dX5_choose_5 ?_
  refine zz_seti 1 (by decide) ?_
  refine lv_iconst (v := 1) hx hb dX5_choose_6 (by decide) ?_
  refine lv_isub hx hb dX5_choose_7 ?_
  refine zz_seti 0 (by decide) ?_
  refine lv_istore_n (lv' := [(2, .int 0), (0, .ref (a 43)), (1, .ref (a 23))]) hx hb dX5_choose_8 rfl hl (by decide) rfl (fun ls hl => ?_)
  refine lv_aload_n hx hb dX5_choose_9 rfl (lv_at hl 1 rfl) ?_
  refine va_get (D := (dC, dI)) (ci := 5) (v := .ref (a 49)) (C := RX5) (T := TX5) (N := 12) hx hb hw zz_inX5 hown hK hP 0 rfl rfl 5 (by decide) (hw _ tw_64) (fun _ h9 => h9) rfl dX5_choose_10 ?_
  refine lv_iload_n hx hb dX5_choose_13 rfl (lv_at hl 0 rfl) ?_
  refine lv_iconst (v := 0) hx hb dX5_choose_14 (by decide) ?_
  refine va_iast hx hb hK hP hD hS 1 0 rfl rfl (zz_vin (by decide)) dX5_choose_15 (fun H locs hP hD hS => ?_)
  have hP : va_P (dC, dI) vwCl [(a 43, .inr (5, [.ref (a 44), .ref (a 45), .ref (a 46), .ref (a 47), .ref (a 48), .ref (a 49), .ref (a 50), .ref (a 51), .int 0, .int 0, .int 0, .int ha])), (a 49, .inl (cI, 128, .inl (upd (fun _ => (0 : Int32)) (Int32.toNatClampNeg 0) 0)))] H := hP
  have hD : va_D A [(a 43, .inr (5, [.ref (a 44), .ref (a 45), .ref (a 46), .ref (a 47), .ref (a 48), .ref (a 49), .ref (a 50), .ref (a 51), .int 0, .int 0, .int 0, .int ha])), (a 49, .inl (cI, 128, .inl (upd (fun _ => (0 : Int32)) (Int32.toNatClampNeg 0) 0)))] := hD
  refine lv_iload_n hx hb dX5_choose_16 rfl (lv_at hl 0 rfl) ?_
  refine lv_iconst (v := 1) hx hb dX5_choose_17 (by decide) ?_
  refine lv_isub hx hb dX5_choose_18 ?_
  refine zz_seti (-1) (by decide) ?_
  refine lv_istore_n (lv' := [(3, .int (-1)), (2, .int 0), (0, .ref (a 43)), (1, .ref (a 23))]) hx hb dX5_choose_19 rfl hl (by decide) rfl (fun ls hl => ?_)
  refine lv_iload_n hx hb dX5_choose_20 rfl (lv_at hl 0 rfl) ?_
  refine lv_if_lt (tgt := 36) hx hb dX5_choose_21 (by decide) (fun _ => ?_) (fun c_9 => absurd c_9 (by decide))
  refine lv_aload_n hx hb dX5_choose_36 rfl (lv_at hl 2 rfl) ?_
  refine lv_aload_n hx hb dX5_choose_37 rfl (lv_at hl 2 rfl) ?_
  refine va_get (D := (dC, dI)) (ci := 5) (v := .int 0) (C := RX5) (T := TX5) (N := 12) hx hb hw zz_inX5 hown hK hP 0 rfl rfl 9 (by decide) (hw _ tw_57) (fun _ h9 => h9) rfl dX5_choose_38 ?_
  refine va_put (D := (dC, dI)) (ci := 5) (v := .int 0) (ty := .int) (C := RX5) (T := TX5) (N := 12) hx hb hw zz_inX5 tyX5 tyX5_ok nmX5 hown hK hP hD hS 0 rfl rfl 8 (by decide) (hw _ tw_65) (fun _ h9 => h9) rfl (by decide +kernel) rfl rfl (Nat.le_of_ble_eq_true rfl) dX5_choose_41 (fun H locs hP hD hS => ?_)
  have hP : va_P (dC, dI) vwCl [(a 43, .inr (5, [.ref (a 44), .ref (a 45), .ref (a 46), .ref (a 47), .ref (a 48), .ref (a 49), .ref (a 50), .ref (a 51), .int 0, .int 0, .int 0, .int ha])), (a 49, .inl (cI, 128, .inl (upd (fun _ => (0 : Int32)) (Int32.toNatClampNeg 0) 0)))] H := hP
  have hD : va_D A [(a 43, .inr (5, [.ref (a 44), .ref (a 45), .ref (a 46), .ref (a 47), .ref (a 48), .ref (a 49), .ref (a 50), .ref (a 51), .int 0, .int 0, .int 0, .int ha])), (a 49, .inl (cI, 128, .inl (upd (fun _ => (0 : Int32)) (Int32.toNatClampNeg 0) 0)))] := hD
  refine lv_iconst (v := 0) hx hb dX5_choose_44 (by decide) ?_
  refine lv_istore_n (lv' := [(3, .int 0), (2, .int 0), (0, .ref (a 43)), (1, .ref (a 23))]) hx hb dX5_choose_45 rfl hl (by decide) rfl (fun ls hl => ?_)
  refine lv_iconst (v := 0) hx hb dX5_choose_46 (by decide) ?_
  refine lv_istore (lv' := [(4, .int 0), (3, .int 0), (2, .int 0), (0, .ref (a 43)), (1, .ref (a 23))]) hx hb dX5_choose_47 hl (by decide) rfl (fun ls hl => ?_)
  refine lv_iload hx hb dX5_choose_49 (lv_at hl 0 rfl) ?_
  refine lv_aload_n hx hb dX5_choose_51 rfl (lv_at hl 3 rfl) ?_
  refine va_get (D := (dC, dI)) (ci := 5) (v := .int 0) (C := RX5) (T := TX5) (N := 12) hx hb hw zz_inX5 hown hK hP 0 rfl rfl 9 (by decide) (hw _ tw_57) (fun _ h9 => h9) rfl dX5_choose_52 ?_
  refine lv_icmp_ge (tgt := 93) hx hb dX5_choose_55 (by decide) (fun _ => ?_) (fun c_9 => absurd c_9 (by decide))
  refine lv_aload_n hx hb dX5_choose_93 rfl (lv_at hl 3 rfl) ?_
  refine va_get (D := (dC, dI)) (ci := 5) (v := .ref (a 49)) (C := RX5) (T := TX5) (N := 12) hx hb hw zz_inX5 hown hK hP 0 rfl rfl 5 (by decide) (hw _ tw_64) (fun _ h9 => h9) rfl dX5_choose_94 ?_
  refine lv_iconst (v := 0) hx hb dX5_choose_97 (by decide) ?_
  refine va_iald hx hb hK hP 1 0 rfl rfl (zz_vin (by decide)) dX5_choose_98 ?_
  refine zz_seti 0 (by rfl) ?_
  exact W.iret (v := 0) hx hb hr (fun t ht hW => ⟨⟨0, (), rfl, rfl, trivial⟩, hS.F ht⟩) hS.2.2 dX5_choose_99

set_option maxHeartbeats 4000000 in
set_option maxRecDepth 100000 in
theorem k_plan (l : Launch) (dC : Nat → ClassId) (dI : Nat → Nat → Nat) (a : Nat → Nat) (cI : ClassId) (p0 : Int32) (sz : Nat) : Met l yX7_plan (zz_w yX7_plan cX7_plan 3 (some .int)) ({ frames := 2, cells := 0, slots := 0, locals := 36 }) (va_Pc [.ref (a 0), .int p0] (zz_B (dC, dI) sz [(a 0, .inr (7, [.ref (a 1), .ref (a 10), .ref (a 23), .ref (a 24), .ref (a 26), .ref (a 29), .ref (a 34), .ref (a 43), .int 0, .int 0, .int 0, .int 0])), (a 43, .inr (5, [.ref (a 44), .ref (a 45), .ref (a 46), .ref (a 47), .ref (a 48), .ref (a 49), .ref (a 50), .ref (a 51), .int 0, .int 0, .int 0, .int 0])), (a 49, .inl (cI, 128, .inl (fun _ => (0 : Int32))))] [(cI, .int)])) (va_Qi (fun (r : Int32) (_ : Unit) => r = an_plan p0) (fun _ _ => True) (va_A [(a 0, .inr (7, [.ref (a 1), .ref (a 10), .ref (a 23), .ref (a 24), .ref (a 26), .ref (a 29), .ref (a 34), .ref (a 43), .int 0, .int 0, .int 0, .int 0])), (a 43, .inr (5, [.ref (a 44), .ref (a 45), .ref (a 46), .ref (a 47), .ref (a 48), .ref (a 49), .ref (a 50), .ref (a 51), .int 0, .int 0, .int 0, .int 0])), (a 49, .inl (cI, 128, .inl (fun _ => (0 : Int32))))] sz)) 0 0 (va_A [(a 0, .inr (7, [.ref (a 1), .ref (a 10), .ref (a 23), .ref (a 24), .ref (a 26), .ref (a 29), .ref (a 34), .ref (a 43), .int 0, .int 0, .int 0, .int 0])), (a 43, .inr (5, [.ref (a 44), .ref (a 45), .ref (a 46), .ref (a 47), .ref (a 48), .ref (a 49), .ref (a 50), .ref (a 51), .int 0, .int 0, .int 0, .int 0])), (a 49, .inl (cI, 128, .inl (fun _ => (0 : Int32))))] sz) := by
  refine Met.ofW (cc := cX7_plan) (maxL := 3) (ret := (some .int)) (by decide) rfl ?_
  intro p e s m args below meth c s₁ B hml hv
  obtain ⟨rfl, hsz, hP, hK, hD0, hN⟩ := hv
  have hx := B.exec
  have hb := B.bytes
  have hr := B.returns
  have hts := atoms_spec (ws := zz_w yX7_plan cX7_plan 3 (some .int)) B.pre
  have hw : ∀ w ∈ zz_all, w.before _ s = true := fun w h => hts w (List.mem_cons_of_mem _ h)
  have hown : s.vm.findClass RX7 = some m.cls := findClass_of_methodNamed B.named
  have hlocks := B.notSynchronized
  subst hsz
  have hD := hD0.self (sz := s.heap.size)
  generalize hAe : va_A [(a 0, .inr (7, [.ref (a 1), .ref (a 10), .ref (a 23), .ref (a 24), .ref (a 26), .ref (a 29), .ref (a 34), .ref (a 43), .int 0, .int 0, .int 0, .int 0])), (a 43, .inr (5, [.ref (a 44), .ref (a 45), .ref (a 46), .ref (a 47), .ref (a 48), .ref (a 49), .ref (a 50), .ref (a 51), .int 0, .int 0, .int 0, .int 0])), (a 49, .inl (cI, 128, .inl (fun _ => (0 : Int32))))] s.heap.size = A at hD ⊢
  have hA : ∀ q : Nat, s.heap.size ≤ q → A q := fun q h => by rw [← hAe]; exact Or.inr h
  have hS : va_S A s.heap s.heap [] := va_S.rf
  have hP : va_P (dC, dI) vwCl [(a 0, .inr (7, [.ref (a 1), .ref (a 10), .ref (a 23), .ref (a 24), .ref (a 26), .ref (a 29), .ref (a 34), .ref (a 43), .int 0, .int 0, .int 0, .int 0])), (a 43, .inr (5, [.ref (a 44), .ref (a 45), .ref (a 46), .ref (a 47), .ref (a 48), .ref (a 49), .ref (a 50), .ref (a 51), .int 0, .int 0, .int 0, .int 0])), (a 49, .inl (cI, 128, .inl (fun _ => (0 : Int32))))] s.heap := hP
  have hl := lv_entry ([.ref (a 0), .int p0]) (n := 3) (Nat.le_of_ble_eq_true rfl)
  rw [lg_entry_eq]
  generalize (lg_sl ([.ref (a 0), .int p0]) ++ List.replicate (3 - (lg_sl ([.ref (a 0), .int p0])).length) Slot.unset).toArray = ls at hl ⊢
  have hl : lv_has ls 3 [(0, .ref (a 0)), (1, .int p0)] := hl
  refine lv_iload_n hx hb dX7_plan_0 rfl (lv_at hl 1 rfl) ?_
  refine lv_iconst (v := 1) hx hb dX7_plan_1 (by decide) ?_
  refine lv_bipush (v := 99) hx hb dX7_plan_2 (by decide) ?_
  have hPc := hP.sub (ws' := []) [] rfl
  have hDc := hD.sub (ws' := []) [] (by decide) rfl
  have hKc := hK.sub (tys' := []) [] rfl
  have hFc := zz_free0 hS hA
  refine va_calli (va_runS (As := [.int p0, .int 1, .int 99]) (rest := []) ⟨hx, hb, hml, hown, hw⟩ (k_within l dC dI p0 1 99 s.heap.size) ⟨callB_of 3 hw (zz_good tw_1) rfl rfl rfl (hw _ tw_2) (hw _ tw_3) (by decide +kernel) ⟨Nat.le_of_ble_eq_true rfl, Nat.le_of_ble_eq_true rfl⟩, (hw _ tw_4)⟩ ⟨zz_blind, zz_pre hPc hKc hDc hN⟩ rfl rfl hl.1 rfl (lv_room (Nat.le_of_ble_eq_true rfl)) dX7_plan_4 ⟨Nat.le_of_ble_eq_true rfl, Nat.le_of_ble_eq_true rfl⟩) hS (fun q _ h => hFc q h) hFc (fun r_1 u_1 t H1 locs ht hvm e_1 hB hz1 hk1 hS => ?_)
  try dsimp only at e_1
  have hP := zz_keep hP hk1
  clear hk1 hB ht hvm
  generalize H1 = H at hP hS ⊢
  have hP : va_P (dC, dI) vwCl [(a 0, .inr (7, [.ref (a 1), .ref (a 10), .ref (a 23), .ref (a 24), .ref (a 26), .ref (a 29), .ref (a 34), .ref (a 43), .int 0, .int 0, .int 0, .int 0])), (a 43, .inr (5, [.ref (a 44), .ref (a 45), .ref (a 46), .ref (a 47), .ref (a 48), .ref (a 49), .ref (a 50), .ref (a 51), .int 0, .int 0, .int 0, .int 0])), (a 49, .inl (cI, 128, .inl (fun _ => (0 : Int32))))] H := hP
  have hD : va_D A [(a 0, .inr (7, [.ref (a 1), .ref (a 10), .ref (a 23), .ref (a 24), .ref (a 26), .ref (a 29), .ref (a 34), .ref (a 43), .int 0, .int 0, .int 0, .int 0])), (a 43, .inr (5, [.ref (a 44), .ref (a 45), .ref (a 46), .ref (a 47), .ref (a 48), .ref (a 49), .ref (a 50), .ref (a 51), .int 0, .int 0, .int 0, .int 0])), (a 49, .inl (cI, 128, .inl (fun _ => (0 : Int32))))] := hD
  refine lv_if_eq (tgt := 19) hx hb dX7_plan_7 (by decide) (fun c_2 => ?_) (fun c_2 => ?_)
  · refine lv_iconst (v := (-1)) hx hb dX7_plan_19 (by decide) ?_
    exact W.iret (v := (-1)) hx hb hr (fun t ht hW => ⟨⟨(-1), (), rfl, (by have zc_2 := c_2; rw [e_1, zz_in0, Int32.le_iff_toInt_le, Int32.le_iff_toInt_le] at zc_2; try rw [show (1 : Int32).toInt = 1 from by decide] at zc_2; try rw [show (99 : Int32).toInt = 99 from by decide] at zc_2; unfold an_plan; first | exact (if_pos (by omega)).symm | exact (if_neg (by omega)).symm), trivial⟩, hS.F ht⟩) hS.2.2 dX7_plan_20
  · refine lv_aload_n hx hb dX7_plan_10 rfl (lv_at hl 0 rfl) ?_
    have hPc := hP.sub (ws' := [(a 0, .inr (7, [.ref (a 1), .ref (a 10), .ref (a 23), .ref (a 24), .ref (a 26), .ref (a 29), .ref (a 34), .ref (a 43), .int 0, .int 0, .int 0, .int 0]))]) [0] rfl
    have hDc := hD.sub (ws' := [(a 0, .inr (7, [.ref (a 1), .ref (a 10), .ref (a 23), .ref (a 24), .ref (a 26), .ref (a 29), .ref (a 34), .ref (a 43), .int 0, .int 0, .int 0, .int 0]))]) [0] (by decide) rfl
    have hKc := hK.sub (tys' := []) [] rfl
    have hFc := zz_free0 hS hA
    refine va_calli (va_runV (As := []) (rest := []) ⟨hx, hb, hml, hown, hw⟩ (k_waiting l dC dI a H.size) ⟨callB_of 0 hw (zz_good tw_66) rfl rfl rfl (hw _ tw_2) (hw _ tw_67) (by decide +kernel) ⟨Nat.le_of_ble_eq_true rfl, Nat.le_of_ble_eq_true rfl⟩, (hw _ tw_68), (hw _ tw_69)⟩ ⟨zz_blind, va_recv hKc hPc (ci := 7) (q0 := 0) rfl rfl, zz_pre hPc hKc hDc hN⟩ rfl rfl hl.1 rfl (lv_room (Nat.le_of_ble_eq_true rfl)) dX7_plan_11 ⟨Nat.le_of_ble_eq_true rfl, Nat.le_of_ble_eq_true rfl⟩) hS (fun q _ h => hFc q h) hFc (fun r_3 u_3 t H1 locs ht hvm e_3 hB hz1 hk1 hS => ?_)
    try dsimp only at e_3
    have hP := zz_keep hP hk1
    clear hk1 hB ht hvm
    generalize H1 = H at hP hS ⊢
    have hP : va_P (dC, dI) vwCl [(a 0, .inr (7, [.ref (a 1), .ref (a 10), .ref (a 23), .ref (a 24), .ref (a 26), .ref (a 29), .ref (a 34), .ref (a 43), .int 0, .int 0, .int 0, .int 0])), (a 43, .inr (5, [.ref (a 44), .ref (a 45), .ref (a 46), .ref (a 47), .ref (a 48), .ref (a 49), .ref (a 50), .ref (a 51), .int 0, .int 0, .int 0, .int 0])), (a 49, .inl (cI, 128, .inl (fun _ => (0 : Int32))))] H := hP
    have hD : va_D A [(a 0, .inr (7, [.ref (a 1), .ref (a 10), .ref (a 23), .ref (a 24), .ref (a 26), .ref (a 29), .ref (a 34), .ref (a 43), .int 0, .int 0, .int 0, .int 0])), (a 43, .inr (5, [.ref (a 44), .ref (a 45), .ref (a 46), .ref (a 47), .ref (a 48), .ref (a 49), .ref (a 50), .ref (a 51), .int 0, .int 0, .int 0, .int 0])), (a 49, .inl (cI, 128, .inl (fun _ => (0 : Int32))))] := hD
    refine zz_seti 0 e_3 ?_
    refine lv_bipush (v := 7) hx hb dX7_plan_14 (by decide) ?_
    refine lv_icmp_le (tgt := 21) hx hb dX7_plan_16 (by decide) (fun _ => ?_) (fun c_9 => absurd c_9 (by decide))
    refine lv_aload_n hx hb dX7_plan_21 rfl (lv_at hl 0 rfl) ?_
    refine va_get (D := (dC, dI)) (ci := 7) (v := .ref (a 43)) (C := RX7) (T := TX7) (N := 12) hx hb hw zz_inX7 hown hK hP 0 rfl rfl 7 (by decide) (hw _ tw_70) (fun _ h9 => h9) rfl dX7_plan_22 ?_
    refine lv_aload_n hx hb dX7_plan_25 rfl (lv_at hl 0 rfl) ?_
    refine va_get (D := (dC, dI)) (ci := 7) (v := .int 0) (C := RX7) (T := TX7) (N := 12) hx hb hw zz_inX7 hown hK hP 0 rfl rfl 10 (by decide) (hw _ tw_71) (fun _ h9 => h9) rfl dX7_plan_26 ?_
    refine lv_iload_n hx hb dX7_plan_29 rfl (lv_at hl 1 rfl) ?_
    have hPc := hP.sub (ws' := [(a 43, .inr (5, [.ref (a 44), .ref (a 45), .ref (a 46), .ref (a 47), .ref (a 48), .ref (a 49), .ref (a 50), .ref (a 51), .int 0, .int 0, .int 0, .int 0]))]) [1] rfl
    have hDc := hD.sub (ws' := [(a 43, .inr (5, [.ref (a 44), .ref (a 45), .ref (a 46), .ref (a 47), .ref (a 48), .ref (a 49), .ref (a 50), .ref (a 51), .int 0, .int 0, .int 0, .int 0]))]) [1] (by decide) rfl
    have hKc := hK.sub (tys' := []) [] rfl
    have hFc := va_free (wc := [(a 43, .inr (5, [.ref (a 44), .ref (a 45), .ref (a 46), .ref (a 47), .ref (a 48), .ref (a 49), .ref (a 50), .ref (a 51), .int 0, .int 0, .int 0, .int 0]))]) hD hS hA [1] rfl
    refine va_callv (va_runVN (As := [.int 0, .int p0]) (rest := []) ⟨hx, hb, hml, hown, hw⟩ (k_begin l dC dI a p0 H.size) ⟨va_cnB 2 hw (zz_good tw_72) rfl rfl rfl (hN.1 _ zz_n62) (hw _ tw_73) (by decide +kernel) ⟨Nat.le_of_ble_eq_true rfl, Nat.le_of_ble_eq_true rfl⟩, (hw _ tw_74), (hw _ tw_75)⟩ ⟨zz_blind, va_recv hKc hPc (ci := 5) (q0 := 0) rfl rfl, zz_pre hPc hKc hDc hN⟩ rfl rfl hl.1 rfl (lv_room (Nat.le_of_ble_eq_true rfl)) dX7_plan_30 ⟨Nat.le_of_ble_eq_true rfl, Nat.le_of_ble_eq_true rfl⟩) hS (fun q _ h => hFc q h) hFc (fun u_4 t H1 locs ht hvm e_4 hB hz1 hk1 hS => ?_)
    try dsimp only at e_4
    obtain ⟨v_4_0, rfl⟩ : ∃ z, z = u_4 := ⟨_, rfl⟩
    obtain ⟨hP1, hK1, hD1⟩ := hB
    rw [ht] at hP1
    have hK1 := va_K.moved hvm.symm hK1
    try dsimp only at e_4
    obtain ⟨hP, hD⟩ := va_join (wr := [(a 0, .inr (7, [.ref (a 1), .ref (a 10), .ref (a 23), .ref (a 24), .ref (a 26), .ref (a 29), .ref (a 34), .ref (a 43), .int 0, .int 0, .int 0, .int 0])), (a 49, .inl (cI, 128, .inl (fun _ => (0 : Int32))))]) (w1 := [(a 43, .inr (5, [.ref (a 44), .ref (a 45), .ref (a 46), .ref (a 47), .ref (a 48), .ref (a 49), .ref (a 50), .ref (a 51), .int 0, .int 0, .int 0, .int v_4_0]))]) hP hD [1] [0, 2] rfl rfl (by decide) (by decide) hk1 hFc hP1 hD1
    clear hk1 ht hvm
    generalize H1 = H at hP hS ⊢
    have hP : va_P (dC, dI) vwCl [(a 0, .inr (7, [.ref (a 1), .ref (a 10), .ref (a 23), .ref (a 24), .ref (a 26), .ref (a 29), .ref (a 34), .ref (a 43), .int 0, .int 0, .int 0, .int 0])), (a 49, .inl (cI, 128, .inl (fun _ => (0 : Int32)))), (a 43, .inr (5, [.ref (a 44), .ref (a 45), .ref (a 46), .ref (a 47), .ref (a 48), .ref (a 49), .ref (a 50), .ref (a 51), .int 0, .int 0, .int 0, .int v_4_0]))] H := hP
    have hD : va_D A [(a 0, .inr (7, [.ref (a 1), .ref (a 10), .ref (a 23), .ref (a 24), .ref (a 26), .ref (a 29), .ref (a 34), .ref (a 43), .int 0, .int 0, .int 0, .int 0])), (a 49, .inl (cI, 128, .inl (fun _ => (0 : Int32)))), (a 43, .inr (5, [.ref (a 44), .ref (a 45), .ref (a 46), .ref (a 47), .ref (a 48), .ref (a 49), .ref (a 50), .ref (a 51), .int 0, .int 0, .int 0, .int v_4_0]))] := hD
    refine lv_iconst (v := 0) hx hb dX7_plan_33 (by decide) ?_
    refine lv_istore_n (lv' := [(2, .int 0), (0, .ref (a 0)), (1, .int p0)]) hx hb dX7_plan_34 rfl hl (by decide) rfl (fun ls hl => ?_)
    refine lv_iload_n hx hb dX7_plan_35 rfl (lv_at hl 0 rfl) ?_
    refine lv_aload_n hx hb dX7_plan_36 rfl (lv_at hl 1 rfl) ?_
    refine va_get (D := (dC, dI)) (ci := 7) (v := .int 0) (C := RX7) (T := TX7) (N := 12) hx hb hw zz_inX7 hown hK hP 0 rfl rfl 9 (by decide) (hw _ tw_5) (fun _ h9 => h9) rfl dX7_plan_37 ?_
    refine lv_icmp_ge (tgt := 75) hx hb dX7_plan_40 (by decide) (fun _ => ?_) (fun c_9 => absurd c_9 (by decide))
    refine lv_aload_n hx hb dX7_plan_75 rfl (lv_at hl 1 rfl) ?_
    refine va_get (D := (dC, dI)) (ci := 7) (v := .ref (a 43)) (C := RX7) (T := TX7) (N := 12) hx hb hw zz_inX7 hown hK hP 0 rfl rfl 7 (by decide) (hw _ tw_70) (fun _ h9 => h9) rfl dX7_plan_76 ?_
    refine lv_aload_n hx hb dX7_plan_79 rfl (lv_at hl 1 rfl) ?_
    refine va_get (D := (dC, dI)) (ci := 7) (v := .ref (a 23)) (C := RX7) (T := TX7) (N := 12) hx hb hw zz_inX7 hown hK hP 0 rfl rfl 2 (by decide) (hw _ tw_11) (fun _ h9 => h9) rfl dX7_plan_80 ?_
    have hPc := hP.sub (ws' := [(a 43, .inr (5, [.ref (a 44), .ref (a 45), .ref (a 46), .ref (a 47), .ref (a 48), .ref (a 49), .ref (a 50), .ref (a 51), .int 0, .int 0, .int 0, .int v_4_0])), (a 49, .inl (cI, 128, .inl (fun _ => (0 : Int32))))]) [2, 1] rfl
    have hDc := hD.sub (ws' := [(a 43, .inr (5, [.ref (a 44), .ref (a 45), .ref (a 46), .ref (a 47), .ref (a 48), .ref (a 49), .ref (a 50), .ref (a 51), .int 0, .int 0, .int 0, .int v_4_0])), (a 49, .inl (cI, 128, .inl (fun _ => (0 : Int32))))]) [2, 1] (by decide) rfl
    have hKc := hK.sub (tys' := [(cI, .int)]) [0] rfl
    have hFc := va_free (wc := [(a 43, .inr (5, [.ref (a 44), .ref (a 45), .ref (a 46), .ref (a 47), .ref (a 48), .ref (a 49), .ref (a 50), .ref (a 51), .int 0, .int 0, .int 0, .int v_4_0])), (a 49, .inl (cI, 128, .inl (fun _ => (0 : Int32))))]) hD hS hA [2, 1] rfl
    refine va_calli (va_runVN (As := [.ref (a 23)]) (rest := []) ⟨hx, hb, hml, hown, hw⟩ (k_choose l dC dI a cI v_4_0 H.size) ⟨va_cnB 1 hw (zz_good tw_76) rfl rfl rfl (hN.1 _ zz_n64) (hw _ tw_73) (by decide +kernel) ⟨Nat.le_of_ble_eq_true rfl, Nat.le_of_ble_eq_true rfl⟩, (hw _ tw_77), (hw _ tw_78)⟩ ⟨zz_blind, va_recv hKc hPc (ci := 5) (q0 := 0) rfl rfl, zz_pre hPc hKc hDc hN⟩ rfl rfl hl.1 rfl (lv_room (Nat.le_of_ble_eq_true rfl)) dX7_plan_83 ⟨Nat.le_of_ble_eq_true rfl, Nat.le_of_ble_eq_true rfl⟩) hS (fun q _ h => hFc q h) hFc (fun r_5 u_5 t H1 locs ht hvm e_5 hB hz1 hk1 hS => ?_)
    try dsimp only at e_5
    have hP1 : va_P (dC, dI) vwCl [] H1 := zz_P0
    have hD1 : va_D (va_A [(a 43, .inr (5, [.ref (a 44), .ref (a 45), .ref (a 46), .ref (a 47), .ref (a 48), .ref (a 49), .ref (a 50), .ref (a 51), .int 0, .int 0, .int 0, .int v_4_0])), (a 49, .inl (cI, 128, .inl (fun _ => (0 : Int32))))] H.size) [] := zz_D0
    obtain ⟨hP, hD⟩ := va_join (wr := [(a 0, .inr (7, [.ref (a 1), .ref (a 10), .ref (a 23), .ref (a 24), .ref (a 26), .ref (a 29), .ref (a 34), .ref (a 43), .int 0, .int 0, .int 0, .int 0]))]) (w1 := []) hP hD [2, 1] [0] rfl rfl (by decide) (by decide) hk1 hFc hP1 hD1
    clear hk1 ht hvm
    generalize H1 = H at hP hS ⊢
    have hP : va_P (dC, dI) vwCl [(a 0, .inr (7, [.ref (a 1), .ref (a 10), .ref (a 23), .ref (a 24), .ref (a 26), .ref (a 29), .ref (a 34), .ref (a 43), .int 0, .int 0, .int 0, .int 0]))] H := hP
    have hD : va_D A [(a 0, .inr (7, [.ref (a 1), .ref (a 10), .ref (a 23), .ref (a 24), .ref (a 26), .ref (a 29), .ref (a 34), .ref (a 43), .int 0, .int 0, .int 0, .int 0]))] := hD
    refine zz_seti 0 e_5 ?_
    exact W.iret (v := 0) hx hb hr (fun t ht hW => ⟨⟨0, (), rfl, (by have zc_2 := c_2; rw [e_1, zz_in0, Int32.le_iff_toInt_le, Int32.le_iff_toInt_le] at zc_2; try rw [show (1 : Int32).toInt = 1 from by decide] at zc_2; try rw [show (99 : Int32).toInt = 99 from by decide] at zc_2; unfold an_plan; first | exact (if_pos (by omega)).symm | exact (if_neg (by omega)).symm), trivial⟩, hS.F ht⟩) hS.2.2 dX7_plan_86

set_option maxHeartbeats 4000000 in
set_option maxRecDepth 100000 in
theorem k_planned (l : Launch) (dC : Nat → ClassId) (dI : Nat → Nat → Nat) (a : Nat → Nat) (p0 : Int32) (sz : Nat) : Met l yX7_planned (zz_w yX7_planned cX7_planned 2 (some .int)) ({ frames := 1, cells := 0, slots := 0, locals := 22 }) (va_Pc [.ref (a 0), .int p0] (zz_B (dC, dI) sz [(a 0, .inr (7, [.ref (a 1), .ref (a 10), .ref (a 23), .ref (a 24), .ref (a 26), .ref (a 29), .ref (a 34), .ref (a 43), .int 0, .int 0, .int 0, .int 0])), (a 43, .inr (5, [.ref (a 44), .ref (a 45), .ref (a 46), .ref (a 47), .ref (a 48), .ref (a 49), .ref (a 50), .ref (a 51), .int 0, .int 0, .int 0, .int 0]))] [])) (va_Qi (fun (r : Int32) (_ : Unit) => r = -1) (fun _ _ => True) (va_A [] sz)) 0 0 (va_A [] sz) := by
  refine Met.ofW (cc := cX7_planned) (maxL := 2) (ret := (some .int)) (by decide) rfl ?_
  intro p e s m args below meth c s₁ B hml hv
  obtain ⟨rfl, hsz, hP, hK, hD0, hN⟩ := hv
  have hx := B.exec
  have hb := B.bytes
  have hr := B.returns
  have hts := atoms_spec (ws := zz_w yX7_planned cX7_planned 2 (some .int)) B.pre
  have hw : ∀ w ∈ zz_all, w.before _ s = true := fun w h => hts w (List.mem_cons_of_mem _ h)
  have hown : s.vm.findClass RX7 = some m.cls := findClass_of_methodNamed B.named
  have hlocks := B.notSynchronized
  subst hsz
  have hD := hD0
  generalize hAe : va_A [] s.heap.size = A
  have hA : ∀ q : Nat, s.heap.size ≤ q → A q := fun q h => by rw [← hAe]; exact Or.inr h
  have hS : va_S A s.heap s.heap [] := va_S.rf
  have hP : va_P (dC, dI) vwCl [(a 0, .inr (7, [.ref (a 1), .ref (a 10), .ref (a 23), .ref (a 24), .ref (a 26), .ref (a 29), .ref (a 34), .ref (a 43), .int 0, .int 0, .int 0, .int 0])), (a 43, .inr (5, [.ref (a 44), .ref (a 45), .ref (a 46), .ref (a 47), .ref (a 48), .ref (a 49), .ref (a 50), .ref (a 51), .int 0, .int 0, .int 0, .int 0]))] s.heap := hP
  have hl := lv_entry ([.ref (a 0), .int p0]) (n := 2) (Nat.le_of_ble_eq_true rfl)
  rw [lg_entry_eq]
  generalize (lg_sl ([.ref (a 0), .int p0]) ++ List.replicate (2 - (lg_sl ([.ref (a 0), .int p0])).length) Slot.unset).toArray = ls at hl ⊢
  have hl : lv_has ls 2 [(0, .ref (a 0)), (1, .int p0)] := hl
  refine lv_iload_n hx hb dX7_planned_0 rfl (lv_at hl 1 rfl) ?_
  refine lv_iconst (v := 0) hx hb dX7_planned_1 (by decide) ?_
  refine lv_aload_n hx hb dX7_planned_2 rfl (lv_at hl 0 rfl) ?_
  refine va_get (D := (dC, dI)) (ci := 7) (v := .ref (a 43)) (C := RX7) (T := TX7) (N := 12) hx hb hw zz_inX7 hown hK hP 0 rfl rfl 7 (by decide) (hw _ tw_70) (fun _ h9 => h9) rfl dX7_planned_3 ?_
  refine va_getN (D := (dC, dI)) (ci := 5) (v := .int 0) (C := RX5) (T := TX5) (N := 12) hx hb hw zz_inX5 hown hK hP 1 rfl rfl 8 (by decide) (hN.use zz_n45) (fun _ h9 => h9) rfl dX7_planned_6 ?_
  refine lv_iconst (v := 1) hx hb dX7_planned_9 (by decide) ?_
  refine lv_isub hx hb dX7_planned_10 ?_
  refine zz_seti (-1) (by decide) ?_
  have hPc := hP.sub (ws' := []) [] rfl
  have hDc := hD.sub (ws' := []) [] (by decide) rfl
  have hKc := hK.sub (tys' := []) [] rfl
  have hFc := zz_free0 hS hA
  refine va_calli (va_runS (As := [.int p0, .int 0, .int (-1)]) (rest := []) ⟨hx, hb, hml, hown, hw⟩ (k_within l dC dI p0 0 (-1) s.heap.size) ⟨callB_of 3 hw (zz_good tw_1) rfl rfl rfl (hw _ tw_2) (hw _ tw_3) (by decide +kernel) ⟨Nat.le_of_ble_eq_true rfl, Nat.le_of_ble_eq_true rfl⟩, (hw _ tw_4)⟩ ⟨zz_blind, zz_pre hPc hKc hDc hN⟩ rfl rfl hl.1 rfl (lv_room (Nat.le_of_ble_eq_true rfl)) dX7_planned_11 ⟨Nat.le_of_ble_eq_true rfl, Nat.le_of_ble_eq_true rfl⟩) hS (fun q _ h => hFc q h) hFc (fun r_1 u_1 t H1 locs ht hvm e_1 hB hz1 hk1 hS => ?_)
  try dsimp only at e_1
  have hP := zz_keep hP hk1
  clear hk1 hB ht hvm
  generalize H1 = H at hP hS ⊢
  have hP : va_P (dC, dI) vwCl [(a 0, .inr (7, [.ref (a 1), .ref (a 10), .ref (a 23), .ref (a 24), .ref (a 26), .ref (a 29), .ref (a 34), .ref (a 43), .int 0, .int 0, .int 0, .int 0])), (a 43, .inr (5, [.ref (a 44), .ref (a 45), .ref (a 46), .ref (a 47), .ref (a 48), .ref (a 49), .ref (a 50), .ref (a 51), .int 0, .int 0, .int 0, .int 0]))] H := hP
  have hD : va_D (fun _ => True) [(a 0, .inr (7, [.ref (a 1), .ref (a 10), .ref (a 23), .ref (a 24), .ref (a 26), .ref (a 29), .ref (a 34), .ref (a 43), .int 0, .int 0, .int 0, .int 0])), (a 43, .inr (5, [.ref (a 44), .ref (a 45), .ref (a 46), .ref (a 47), .ref (a 48), .ref (a 49), .ref (a 50), .ref (a 51), .int 0, .int 0, .int 0, .int 0]))] := hD
  refine zz_seti 0 (e_1.trans (zz_empty _)) ?_
  refine lv_if_eq (tgt := 29) hx hb dX7_planned_14 (by decide) (fun _ => ?_) (fun c_9 => absurd c_9 (by decide))
  refine lv_iconst (v := (-1)) hx hb dX7_planned_29 (by decide) ?_
  exact W.iret (v := (-1)) hx hb hr (fun t ht hW => ⟨⟨(-1), (), rfl, rfl, trivial⟩, hS.F ht⟩) hS.2.2 dX7_planned_30

set_option maxHeartbeats 4000000 in
set_option maxRecDepth 100000 in
theorem k_about (l : Launch) (dC : Nat → ClassId) (dI : Nat → Nat → Nat) (a : Nat → Nat) (cI : ClassId) (p0 : Int32) (sz : Nat) : Met l yX7_about (zz_w yX7_about cX7_about 2 (some .int)) ({ frames := 1, cells := 0, slots := 0, locals := 22 }) (va_Pc [.ref (a 0), .int p0] (zz_B (dC, dI) sz [(a 0, .inr (7, [.ref (a 1), .ref (a 10), .ref (a 23), .ref (a 24), .ref (a 26), .ref (a 29), .ref (a 34), .ref (a 43), .int 0, .int 0, .int 0, .int 0])), (a 29, .inr (1, [.ref (a 30), .ref (a 31), .ref (a 32), .ref (a 33), .int 0])), (a 24, .inr (6, [.ref (a 25), .int 0])), (a 23, .inl (cI, 10, .inl (fun _ => (0 : Int32))))] [(cI, .int)])) (va_Qi (fun (r : Int32) (_ : Unit) => r = an_about p0) (fun _ _ => True) (va_A [] sz)) 0 0 (va_A [] sz) := by
  refine Met.ofW (cc := cX7_about) (maxL := 2) (ret := (some .int)) (by decide) rfl ?_
  intro p e s m args below meth c s₁ B hml hv
  obtain ⟨rfl, hsz, hP, hK, hD0, hN⟩ := hv
  have hx := B.exec
  have hb := B.bytes
  have hr := B.returns
  have hts := atoms_spec (ws := zz_w yX7_about cX7_about 2 (some .int)) B.pre
  have hw : ∀ w ∈ zz_all, w.before _ s = true := fun w h => hts w (List.mem_cons_of_mem _ h)
  have hown : s.vm.findClass RX7 = some m.cls := findClass_of_methodNamed B.named
  have hlocks := B.notSynchronized
  subst hsz
  have hD := hD0
  generalize hAe : va_A [] s.heap.size = A
  have hA : ∀ q : Nat, s.heap.size ≤ q → A q := fun q h => by rw [← hAe]; exact Or.inr h
  have hS : va_S A s.heap s.heap [] := va_S.rf
  have hP : va_P (dC, dI) vwCl [(a 0, .inr (7, [.ref (a 1), .ref (a 10), .ref (a 23), .ref (a 24), .ref (a 26), .ref (a 29), .ref (a 34), .ref (a 43), .int 0, .int 0, .int 0, .int 0])), (a 29, .inr (1, [.ref (a 30), .ref (a 31), .ref (a 32), .ref (a 33), .int 0])), (a 24, .inr (6, [.ref (a 25), .int 0])), (a 23, .inl (cI, 10, .inl (fun _ => (0 : Int32))))] s.heap := hP
  have hl := lv_entry ([.ref (a 0), .int p0]) (n := 2) (Nat.le_of_ble_eq_true rfl)
  rw [lg_entry_eq]
  generalize (lg_sl ([.ref (a 0), .int p0]) ++ List.replicate (2 - (lg_sl ([.ref (a 0), .int p0])).length) Slot.unset).toArray = ls at hl ⊢
  have hl : lv_has ls 2 [(0, .ref (a 0)), (1, .int p0)] := hl
  refine lv_iload_n hx hb dX7_about_0 rfl (lv_at hl 1 rfl) ?_
  by_cases c_1 : p0 = 0
  · refine lv_tableIn (tgt := 40) hx hb dX7_about_1 (by rw [c_1]; decide) (by rw [c_1]; decide) (by rw [c_1]; rfl) (by decide) ?_
    refine lv_aload_n hx hb dX7_about_40 rfl (lv_at hl 0 rfl) ?_
    refine va_get (D := (dC, dI)) (ci := 7) (v := .int 0) (C := RX7) (T := TX7) (N := 12) hx hb hw zz_inX7 hown hK hP 0 rfl rfl 8 (by decide) (hw _ tw_0) (fun _ h9 => h9) rfl dX7_about_41 ?_
    exact W.iret (v := 0) hx hb hr (fun t ht hW => ⟨⟨0, (), rfl, (by have zc_1 := c_1; rw [← Int32.toInt_inj] at zc_1; try rw [show (0 : Int32).toInt = 0 from by decide] at zc_1; unfold an_about; first | exact (if_pos (by omega)).symm | exact (if_neg (by omega)).symm), trivial⟩, hS.F ht⟩) hS.2.2 dX7_about_44
  by_cases c_2 : p0 = 1
  · refine lv_tableIn (tgt := 45) hx hb dX7_about_1 (by rw [c_2]; decide) (by rw [c_2]; decide) (by rw [c_2]; rfl) (by decide) ?_
    refine lv_aload_n hx hb dX7_about_45 rfl (lv_at hl 0 rfl) ?_
    refine va_get (D := (dC, dI)) (ci := 7) (v := .int 0) (C := RX7) (T := TX7) (N := 12) hx hb hw zz_inX7 hown hK hP 0 rfl rfl 9 (by decide) (hw _ tw_5) (fun _ h9 => h9) rfl dX7_about_46 ?_
    exact W.iret (v := 0) hx hb hr (fun t ht hW => ⟨⟨0, (), rfl, (by have zc_2 := c_2; rw [← Int32.toInt_inj] at zc_2; try rw [show (1 : Int32).toInt = 1 from by decide] at zc_2; unfold an_about; first | exact (if_pos (by omega)).symm | exact (if_neg (by omega)).symm), trivial⟩, hS.F ht⟩) hS.2.2 dX7_about_49
  by_cases c_3 : p0 = 2
  · refine lv_tableIn (tgt := 50) hx hb dX7_about_1 (by rw [c_3]; decide) (by rw [c_3]; decide) (by rw [c_3]; rfl) (by decide) ?_
    refine lv_aload_n hx hb dX7_about_50 rfl (lv_at hl 0 rfl) ?_
    refine va_get (D := (dC, dI)) (ci := 7) (v := .int 0) (C := RX7) (T := TX7) (N := 12) hx hb hw zz_inX7 hown hK hP 0 rfl rfl 10 (by decide) (hw _ tw_71) (fun _ h9 => h9) rfl dX7_about_51 ?_
    exact W.iret (v := 0) hx hb hr (fun t ht hW => ⟨⟨0, (), rfl, (by have zc_3 := c_3; rw [← Int32.toInt_inj] at zc_3; try rw [show (2 : Int32).toInt = 2 from by decide] at zc_3; unfold an_about; first | exact (if_pos (by omega)).symm | exact (if_neg (by omega)).symm), trivial⟩, hS.F ht⟩) hS.2.2 dX7_about_54
  by_cases c_4 : p0 = 3
  · refine lv_tableIn (tgt := 55) hx hb dX7_about_1 (by rw [c_4]; decide) (by rw [c_4]; decide) (by rw [c_4]; rfl) (by decide) ?_
    refine lv_aload_n hx hb dX7_about_55 rfl (lv_at hl 0 rfl) ?_
    refine va_get (D := (dC, dI)) (ci := 7) (v := .ref (a 29)) (C := RX7) (T := TX7) (N := 12) hx hb hw zz_inX7 hown hK hP 0 rfl rfl 5 (by decide) (hw _ tw_53) (fun _ h9 => h9) rfl dX7_about_56 ?_
    refine va_getN (D := (dC, dI)) (ci := 1) (v := .int 0) (C := RX1) (T := TX1) (N := 5) hx hb hw zz_inX1 hown hK hP 1 rfl rfl 4 (by decide) (hN.use zz_n37) (fun _ h9 => h9) rfl dX7_about_59 ?_
    exact W.iret (v := 0) hx hb hr (fun t ht hW => ⟨⟨0, (), rfl, (by have zc_4 := c_4; rw [← Int32.toInt_inj] at zc_4; try rw [show (3 : Int32).toInt = 3 from by decide] at zc_4; unfold an_about; first | exact (if_pos (by omega)).symm | exact (if_neg (by omega)).symm), trivial⟩, hS.F ht⟩) hS.2.2 dX7_about_62
  by_cases c_5 : p0 = 4
  · refine lv_tableIn (tgt := 63) hx hb dX7_about_1 (by rw [c_5]; decide) (by rw [c_5]; decide) (by rw [c_5]; rfl) (by decide) ?_
    refine lv_aload_n hx hb dX7_about_63 rfl (lv_at hl 0 rfl) ?_
    refine va_get (D := (dC, dI)) (ci := 7) (v := .int 0) (C := RX7) (T := TX7) (N := 12) hx hb hw zz_inX7 hown hK hP 0 rfl rfl 11 (by decide) (hw _ tw_79) (fun _ h9 => h9) rfl dX7_about_64 ?_
    exact W.iret (v := 0) hx hb hr (fun t ht hW => ⟨⟨0, (), rfl, (by have zc_5 := c_5; rw [← Int32.toInt_inj] at zc_5; try rw [show (4 : Int32).toInt = 4 from by decide] at zc_5; unfold an_about; first | exact (if_pos (by omega)).symm | exact (if_neg (by omega)).symm), trivial⟩, hS.F ht⟩) hS.2.2 dX7_about_67
  by_cases c_6 : p0 = 5
  · refine lv_tableIn (tgt := 68) hx hb dX7_about_1 (by rw [c_6]; decide) (by rw [c_6]; decide) (by rw [c_6]; rfl) (by decide) ?_
    refine lv_aload_n hx hb dX7_about_68 rfl (lv_at hl 0 rfl) ?_
    refine va_get (D := (dC, dI)) (ci := 7) (v := .ref (a 24)) (C := RX7) (T := TX7) (N := 12) hx hb hw zz_inX7 hown hK hP 0 rfl rfl 3 (by decide) (hw _ tw_14) (fun _ h9 => h9) rfl dX7_about_69 ?_
    refine va_getN (D := (dC, dI)) (ci := 6) (v := .int 0) (C := RX6) (T := TX6) (N := 2) hx hb hw zz_inX6 hown hK hP 2 rfl rfl 1 (by decide) (hN.use zz_n23) (fun _ h9 => h9) rfl dX7_about_72 ?_
    exact W.iret (v := 0) hx hb hr (fun t ht hW => ⟨⟨0, (), rfl, (by have zc_6 := c_6; rw [← Int32.toInt_inj] at zc_6; try rw [show (5 : Int32).toInt = 5 from by decide] at zc_6; unfold an_about; first | exact (if_pos (by omega)).symm | exact (if_neg (by omega)).symm), trivial⟩, hS.F ht⟩) hS.2.2 dX7_about_75
  refine lv_tableOut (tgt := 76) hx hb dX7_about_1 (by have := zz_ne c_1; rw [show (0 : Int32).toInt = 0 from by decide] at this; have := zz_ne c_2; rw [show (1 : Int32).toInt = 1 from by decide] at this; have := zz_ne c_3; rw [show (2 : Int32).toInt = 2 from by decide] at this; have := zz_ne c_4; rw [show (3 : Int32).toInt = 3 from by decide] at this; have := zz_ne c_5; rw [show (4 : Int32).toInt = 4 from by decide] at this; have := zz_ne c_6; rw [show (5 : Int32).toInt = 5 from by decide] at this; omega) (by decide) ?_
  refine lv_iload_n hx hb dX7_about_76 rfl (lv_at hl 1 rfl) ?_
  refine lv_bipush (v := 20) hx hb dX7_about_77 (by decide) ?_
  refine lv_bipush (v := 29) hx hb dX7_about_79 (by decide) ?_
  have hPc := hP.sub (ws' := []) [] rfl
  have hDc := hD.sub (ws' := []) [] (by decide) rfl
  have hKc := hK.sub (tys' := []) [] rfl
  have hFc := zz_free0 hS hA
  refine va_calli (va_runS (As := [.int p0, .int 20, .int 29]) (rest := []) ⟨hx, hb, hml, hown, hw⟩ (k_within l dC dI p0 20 29 s.heap.size) ⟨callB_of 3 hw (zz_good tw_1) rfl rfl rfl (hw _ tw_2) (hw _ tw_3) (by decide +kernel) ⟨Nat.le_of_ble_eq_true rfl, Nat.le_of_ble_eq_true rfl⟩, (hw _ tw_4)⟩ ⟨zz_blind, zz_pre hPc hKc hDc hN⟩ rfl rfl hl.1 rfl (lv_room (Nat.le_of_ble_eq_true rfl)) dX7_about_81 ⟨Nat.le_of_ble_eq_true rfl, Nat.le_of_ble_eq_true rfl⟩) hS (fun q _ h => hFc q h) hFc (fun r_7 u_7 t H1 locs ht hvm e_7 hB hz1 hk1 hS => ?_)
  try dsimp only at e_7
  have hP := zz_keep hP hk1
  clear hk1 hB ht hvm
  generalize H1 = H at hP hS ⊢
  have hP : va_P (dC, dI) vwCl [(a 0, .inr (7, [.ref (a 1), .ref (a 10), .ref (a 23), .ref (a 24), .ref (a 26), .ref (a 29), .ref (a 34), .ref (a 43), .int 0, .int 0, .int 0, .int 0])), (a 29, .inr (1, [.ref (a 30), .ref (a 31), .ref (a 32), .ref (a 33), .int 0])), (a 24, .inr (6, [.ref (a 25), .int 0])), (a 23, .inl (cI, 10, .inl (fun _ => (0 : Int32))))] H := hP
  have hD : va_D (fun _ => True) [(a 0, .inr (7, [.ref (a 1), .ref (a 10), .ref (a 23), .ref (a 24), .ref (a 26), .ref (a 29), .ref (a 34), .ref (a 43), .int 0, .int 0, .int 0, .int 0])), (a 29, .inr (1, [.ref (a 30), .ref (a 31), .ref (a 32), .ref (a 33), .int 0])), (a 24, .inr (6, [.ref (a 25), .int 0])), (a 23, .inl (cI, 10, .inl (fun _ => (0 : Int32))))] := hD
  refine lv_if_eq (tgt := 99) hx hb dX7_about_84 (by decide) (fun c_8 => ?_) (fun c_8 => ?_)
  · refine lv_iconst (v := (-1)) hx hb dX7_about_99 (by decide) ?_
    exact W.iret (v := (-1)) hx hb hr (fun t ht hW => ⟨⟨(-1), (), rfl, (by have zc_1 := c_1; rw [← Int32.toInt_inj] at zc_1; try rw [show (0 : Int32).toInt = 0 from by decide] at zc_1; have zc_2 := c_2; rw [← Int32.toInt_inj] at zc_2; try rw [show (1 : Int32).toInt = 1 from by decide] at zc_2; have zc_3 := c_3; rw [← Int32.toInt_inj] at zc_3; try rw [show (2 : Int32).toInt = 2 from by decide] at zc_3; have zc_4 := c_4; rw [← Int32.toInt_inj] at zc_4; try rw [show (3 : Int32).toInt = 3 from by decide] at zc_4; have zc_5 := c_5; rw [← Int32.toInt_inj] at zc_5; try rw [show (4 : Int32).toInt = 4 from by decide] at zc_5; have zc_6 := c_6; rw [← Int32.toInt_inj] at zc_6; try rw [show (5 : Int32).toInt = 5 from by decide] at zc_6; have zc_8 := c_8; rw [e_7, zz_in0, Int32.le_iff_toInt_le, Int32.le_iff_toInt_le] at zc_8; try rw [show (20 : Int32).toInt = 20 from by decide] at zc_8; try rw [show (29 : Int32).toInt = 29 from by decide] at zc_8; unfold an_about; first | exact (if_pos (by omega)).symm | exact (if_neg (by omega)).symm), trivial⟩, hS.F ht⟩) hS.2.2 dX7_about_100
  · refine lv_aload_n hx hb dX7_about_87 rfl (lv_at hl 0 rfl) ?_
    refine va_get (D := (dC, dI)) (ci := 7) (v := .ref (a 23)) (C := RX7) (T := TX7) (N := 12) hx hb hw zz_inX7 hown hK hP 0 rfl rfl 2 (by decide) (hw _ tw_11) (fun _ h9 => h9) rfl dX7_about_88 ?_
    refine lv_iload_n hx hb dX7_about_91 rfl (lv_at hl 1 rfl) ?_
    refine lv_bipush (v := 20) hx hb dX7_about_92 (by decide) ?_
    refine lv_isub hx hb dX7_about_94 ?_
    refine va_iald hx hb hK hP 3 0 rfl rfl (zz_sub20 (by have zc_1 := c_1; rw [← Int32.toInt_inj] at zc_1; try rw [show (0 : Int32).toInt = 0 from by decide] at zc_1; have zc_2 := c_2; rw [← Int32.toInt_inj] at zc_2; try rw [show (1 : Int32).toInt = 1 from by decide] at zc_2; have zc_3 := c_3; rw [← Int32.toInt_inj] at zc_3; try rw [show (2 : Int32).toInt = 2 from by decide] at zc_3; have zc_4 := c_4; rw [← Int32.toInt_inj] at zc_4; try rw [show (3 : Int32).toInt = 3 from by decide] at zc_4; have zc_5 := c_5; rw [← Int32.toInt_inj] at zc_5; try rw [show (4 : Int32).toInt = 4 from by decide] at zc_5; have zc_6 := c_6; rw [← Int32.toInt_inj] at zc_6; try rw [show (5 : Int32).toInt = 5 from by decide] at zc_6; have zc_8 := c_8; rw [e_7, zz_in0, Int32.le_iff_toInt_le, Int32.le_iff_toInt_le] at zc_8; try rw [show (20 : Int32).toInt = 20 from by decide] at zc_8; try rw [show (29 : Int32).toInt = 29 from by decide] at zc_8; omega) (by have zc_1 := c_1; rw [← Int32.toInt_inj] at zc_1; try rw [show (0 : Int32).toInt = 0 from by decide] at zc_1; have zc_2 := c_2; rw [← Int32.toInt_inj] at zc_2; try rw [show (1 : Int32).toInt = 1 from by decide] at zc_2; have zc_3 := c_3; rw [← Int32.toInt_inj] at zc_3; try rw [show (2 : Int32).toInt = 2 from by decide] at zc_3; have zc_4 := c_4; rw [← Int32.toInt_inj] at zc_4; try rw [show (3 : Int32).toInt = 3 from by decide] at zc_4; have zc_5 := c_5; rw [← Int32.toInt_inj] at zc_5; try rw [show (4 : Int32).toInt = 4 from by decide] at zc_5; have zc_6 := c_6; rw [← Int32.toInt_inj] at zc_6; try rw [show (5 : Int32).toInt = 5 from by decide] at zc_6; have zc_8 := c_8; rw [e_7, zz_in0, Int32.le_iff_toInt_le, Int32.le_iff_toInt_le] at zc_8; try rw [show (20 : Int32).toInt = 20 from by decide] at zc_8; try rw [show (29 : Int32).toInt = 29 from by decide] at zc_8; omega)) dX7_about_95 ?_
    refine lv_goto (tgt := 100) hx hb dX7_about_96 (by decide) ?_
    exact W.iret (v := ((fun _ => (0 : Int32)) (Int32.toNatClampNeg (p0 - 20)))) hx hb hr (fun t ht hW => ⟨⟨((fun _ => (0 : Int32)) (Int32.toNatClampNeg (p0 - 20))), (), rfl, (by have zc_1 := c_1; rw [← Int32.toInt_inj] at zc_1; try rw [show (0 : Int32).toInt = 0 from by decide] at zc_1; have zc_2 := c_2; rw [← Int32.toInt_inj] at zc_2; try rw [show (1 : Int32).toInt = 1 from by decide] at zc_2; have zc_3 := c_3; rw [← Int32.toInt_inj] at zc_3; try rw [show (2 : Int32).toInt = 2 from by decide] at zc_3; have zc_4 := c_4; rw [← Int32.toInt_inj] at zc_4; try rw [show (3 : Int32).toInt = 3 from by decide] at zc_4; have zc_5 := c_5; rw [← Int32.toInt_inj] at zc_5; try rw [show (4 : Int32).toInt = 4 from by decide] at zc_5; have zc_6 := c_6; rw [← Int32.toInt_inj] at zc_6; try rw [show (5 : Int32).toInt = 5 from by decide] at zc_6; have zc_8 := c_8; rw [e_7, zz_in0, Int32.le_iff_toInt_le, Int32.le_iff_toInt_le] at zc_8; try rw [show (20 : Int32).toInt = 20 from by decide] at zc_8; try rw [show (29 : Int32).toInt = 29 from by decide] at zc_8; unfold an_about; first | exact (if_pos (by omega)).symm | exact (if_neg (by omega)).symm), trivial⟩, hS.F ht⟩) hS.2.2 dX7_about_100
end
