-- ===== PART A: goes FIRST, ahead of the names: the tables' words, and 'selects' of the private methods out of them =====
/-- a private method of a class that the tables say can be made, by its rows of tables_1 -/
def lw_okq (q : MethodName × Nat) : Prop := (q.1.cls ≠ "java/lang/invoke/MethodHandle" ∧ q.1.cls ≠ "java/lang/invoke/VarHandle") ∧ Cond.instantiable q.1.cls q.2 ∈ tables_1 ∧ Cond.privateMethod q.1 ∈ tables_1 ∧ Cond.instanceMethod q.1 ∈ tables_1
theorem lw_p0 : lw_okq (⟨"LearnLoans", "isPerson", "(I)Z"⟩, 4) := ⟨⟨by decide +kernel, by decide +kernel⟩, List.mem_of_getElem? (i := 14) (by decide +kernel), List.mem_of_getElem? (i := 358) (by decide +kernel), List.mem_of_getElem? (i := 359) (by decide +kernel)⟩
theorem lw_p1 : lw_okq (⟨"LearnLoans$Run", "layAct", "(III)V"⟩, 19) := ⟨⟨by decide +kernel, by decide +kernel⟩, List.mem_of_getElem? (i := 28) (by decide +kernel), List.mem_of_getElem? (i := 450) (by decide +kernel), List.mem_of_getElem? (i := 451) (by decide +kernel)⟩
theorem lw_p2 : lw_okq (⟨"LearnLoans", "isLoan", "(I)Z"⟩, 4) := ⟨⟨by decide +kernel, by decide +kernel⟩, List.mem_of_getElem? (i := 14) (by decide +kernel), List.mem_of_getElem? (i := 464) (by decide +kernel), List.mem_of_getElem? (i := 465) (by decide +kernel)⟩
theorem lw_p3 : lw_okq (⟨"LearnLoans$Run", "isStruck", "(II)Z"⟩, 19) := ⟨⟨by decide +kernel, by decide +kernel⟩, List.mem_of_getElem? (i := 28) (by decide +kernel), List.mem_of_getElem? (i := 520) (by decide +kernel), List.mem_of_getElem? (i := 521) (by decide +kernel)⟩
theorem lw_p4 : lw_okq (⟨"LearnLoans$Run", "cellOf", "(II)I"⟩, 19) := ⟨⟨by decide +kernel, by decide +kernel⟩, List.mem_of_getElem? (i := 28) (by decide +kernel), List.mem_of_getElem? (i := 524) (by decide +kernel), List.mem_of_getElem? (i := 525) (by decide +kernel)⟩
theorem lw_p5 : lw_okq (⟨"LearnLoans$Run", "planIn", "(II)I"⟩, 19) := ⟨⟨by decide +kernel, by decide +kernel⟩, List.mem_of_getElem? (i := 28) (by decide +kernel), List.mem_of_getElem? (i := 528) (by decide +kernel), List.mem_of_getElem? (i := 529) (by decide +kernel)⟩
theorem lw_p6 : lw_okq (⟨"LearnLoans$Run", "grow", "(II)V"⟩, 19) := ⟨⟨by decide +kernel, by decide +kernel⟩, List.mem_of_getElem? (i := 28) (by decide +kernel), List.mem_of_getElem? (i := 557) (by decide +kernel), List.mem_of_getElem? (i := 558) (by decide +kernel)⟩
theorem lw_p7 : lw_okq (⟨"LearnLoans$Run", "draw", "(II)V"⟩, 19) := ⟨⟨by decide +kernel, by decide +kernel⟩, List.mem_of_getElem? (i := 28) (by decide +kernel), List.mem_of_getElem? (i := 563) (by decide +kernel), List.mem_of_getElem? (i := 564) (by decide +kernel)⟩
theorem lw_p8 : lw_okq (⟨"LearnLoans$Run", "lineUp", "(I)V"⟩, 19) := ⟨⟨by decide +kernel, by decide +kernel⟩, List.mem_of_getElem? (i := 28) (by decide +kernel), List.mem_of_getElem? (i := 568) (by decide +kernel), List.mem_of_getElem? (i := 569) (by decide +kernel)⟩
theorem lw_p9 : lw_okq (⟨"LearnLoans$Run", "payAhead", "()V"⟩, 19) := ⟨⟨by decide +kernel, by decide +kernel⟩, List.mem_of_getElem? (i := 28) (by decide +kernel), List.mem_of_getElem? (i := 573) (by decide +kernel), List.mem_of_getElem? (i := 574) (by decide +kernel)⟩
theorem lw_p10 : lw_okq (⟨"LearnLoans$Run", "takeAll", "(I)V"⟩, 19) := ⟨⟨by decide +kernel, by decide +kernel⟩, List.mem_of_getElem? (i := 28) (by decide +kernel), List.mem_of_getElem? (i := 577) (by decide +kernel), List.mem_of_getElem? (i := 578) (by decide +kernel)⟩
theorem lw_p11 : lw_okq (⟨"LearnLoans$Run", "asked", "(I)J"⟩, 19) := ⟨⟨by decide +kernel, by decide +kernel⟩, List.mem_of_getElem? (i := 28) (by decide +kernel), List.mem_of_getElem? (i := 581) (by decide +kernel), List.mem_of_getElem? (i := 582) (by decide +kernel)⟩
theorem lw_p12 : lw_okq (⟨"LearnLoans", "togethe\x72", "(IIII)J"⟩, 4) := ⟨⟨by decide +kernel, by decide +kernel⟩, List.mem_of_getElem? (i := 14) (by decide +kernel), List.mem_of_getElem? (i := 589) (by decide +kernel), List.mem_of_getElem? (i := 590) (by decide +kernel)⟩
theorem lw_p13 : lw_okq (⟨"LearnLoans$Text", "readValue", "(I)V"⟩, 7) := ⟨⟨by decide +kernel, by decide +kernel⟩, List.mem_of_getElem? (i := 106) (by decide +kernel), List.mem_of_getElem? (i := 616) (by decide +kernel), List.mem_of_getElem? (i := 617) (by decide +kernel)⟩
theorem lw_p14 : lw_okq (⟨"LearnLoans$Text", "blame", "(II)V"⟩, 7) := ⟨⟨by decide +kernel, by decide +kernel⟩, List.mem_of_getElem? (i := 106) (by decide +kernel), List.mem_of_getElem? (i := 620) (by decide +kernel), List.mem_of_getElem? (i := 621) (by decide +kernel)⟩
theorem lw_p15 : lw_okq (⟨"LearnLoans$Text", "readChain", "(II)V"⟩, 7) := ⟨⟨by decide +kernel, by decide +kernel⟩, List.mem_of_getElem? (i := 106) (by decide +kernel), List.mem_of_getElem? (i := 624) (by decide +kernel), List.mem_of_getElem? (i := 625) (by decide +kernel)⟩
def lw_privs_1 : List (MethodName × Nat) := [(⟨"LearnLoans", "isPerson", "(I)Z"⟩, 4), (⟨"LearnLoans$Run", "layAct", "(III)V"⟩, 19), (⟨"LearnLoans", "isLoan", "(I)Z"⟩, 4), (⟨"LearnLoans$Run", "isStruck", "(II)Z"⟩, 19), (⟨"LearnLoans$Run", "cellOf", "(II)I"⟩, 19), (⟨"LearnLoans$Run", "planIn", "(II)I"⟩, 19), (⟨"LearnLoans$Run", "grow", "(II)V"⟩, 19), (⟨"LearnLoans$Run", "draw", "(II)V"⟩, 19), (⟨"LearnLoans$Run", "lineUp", "(I)V"⟩, 19), (⟨"LearnLoans$Run", "payAhead", "()V"⟩, 19), (⟨"LearnLoans$Run", "takeAll", "(I)V"⟩, 19), (⟨"LearnLoans$Run", "asked", "(I)J"⟩, 19), (⟨"LearnLoans", "togethe\x72", "(IIII)J"⟩, 4), (⟨"LearnLoans$Text", "readValue", "(I)V"⟩, 7), (⟨"LearnLoans$Text", "blame", "(II)V"⟩, 7), (⟨"LearnLoans$Text", "readChain", "(II)V"⟩, 7)]
theorem lw_r1 : ∀ q ∈ lw_privs_1, lw_okq q := List.forall_mem_cons.mpr ⟨lw_p0, List.forall_mem_cons.mpr ⟨lw_p1, List.forall_mem_cons.mpr ⟨lw_p2, List.forall_mem_cons.mpr ⟨lw_p3, List.forall_mem_cons.mpr ⟨lw_p4, List.forall_mem_cons.mpr ⟨lw_p5, List.forall_mem_cons.mpr ⟨lw_p6, List.forall_mem_cons.mpr ⟨lw_p7, List.forall_mem_cons.mpr ⟨lw_p8, List.forall_mem_cons.mpr ⟨lw_p9, List.forall_mem_cons.mpr ⟨lw_p10, List.forall_mem_cons.mpr ⟨lw_p11, List.forall_mem_cons.mpr ⟨lw_p12, List.forall_mem_cons.mpr ⟨lw_p13, List.forall_mem_cons.mpr ⟨lw_p14, List.forall_mem_cons.mpr ⟨lw_p15, fun _ h => absurd h List.not_mem_nil⟩⟩⟩⟩⟩⟩⟩⟩⟩⟩⟩⟩⟩⟩⟩⟩
theorem lw_p16 : lw_okq (⟨"LearnLoans$Text", "passSigns", "()I"⟩, 7) := ⟨⟨by decide +kernel, by decide +kernel⟩, List.mem_of_getElem? (i := 106) (by decide +kernel), List.mem_of_getElem? (i := 628) (by decide +kernel), List.mem_of_getElem? (i := 629) (by decide +kernel)⟩
theorem lw_p17 : lw_okq (⟨"LearnLoans$Text", "next", "()I"⟩, 7) := ⟨⟨by decide +kernel, by decide +kernel⟩, List.mem_of_getElem? (i := 106) (by decide +kernel), List.mem_of_getElem? (i := 632) (by decide +kernel), List.mem_of_getElem? (i := 633) (by decide +kernel)⟩
theorem lw_p18 : lw_okq (⟨"LearnLoans$Text", "readPlain", "(I)V"⟩, 7) := ⟨⟨by decide +kernel, by decide +kernel⟩, List.mem_of_getElem? (i := 106) (by decide +kernel), List.mem_of_getElem? (i := 636) (by decide +kernel), List.mem_of_getElem? (i := 637) (by decide +kernel)⟩
theorem lw_p19 : lw_okq (⟨"LearnLoans$Text", "readDigits", "()V"⟩, 7) := ⟨⟨by decide +kernel, by decide +kernel⟩, List.mem_of_getElem? (i := 106) (by decide +kernel), List.mem_of_getElem? (i := 643) (by decide +kernel), List.mem_of_getElem? (i := 644) (by decide +kernel)⟩
theorem lw_p20 : lw_okq (⟨"LearnLoans$Text", "emit", "(I)V"⟩, 7) := ⟨⟨by decide +kernel, by decide +kernel⟩, List.mem_of_getElem? (i := 106) (by decide +kernel), List.mem_of_getElem? (i := 647) (by decide +kernel), List.mem_of_getElem? (i := 648) (by decide +kernel)⟩
theorem lw_p21 : lw_okq (⟨"LearnLoans$Text", "pass", "(I)V"⟩, 7) := ⟨⟨by decide +kernel, by decide +kernel⟩, List.mem_of_getElem? (i := 106) (by decide +kernel), List.mem_of_getElem? (i := 651) (by decide +kernel), List.mem_of_getElem? (i := 652) (by decide +kernel)⟩
theorem lw_p22 : lw_okq (⟨"LearnLoans$Text", "emitSigns", "(II)V"⟩, 7) := ⟨⟨by decide +kernel, by decide +kernel⟩, List.mem_of_getElem? (i := 106) (by decide +kernel), List.mem_of_getElem? (i := 655) (by decide +kernel), List.mem_of_getElem? (i := 656) (by decide +kernel)⟩
theorem lw_p23 : lw_okq (⟨"LearnLoans", "runEverybody", "(II)V"⟩, 4) := ⟨⟨by decide +kernel, by decide +kernel⟩, List.mem_of_getElem? (i := 14) (by decide +kernel), List.mem_of_getElem? (i := 687) (by decide +kernel), List.mem_of_getElem? (i := 688) (by decide +kernel)⟩
theorem lw_p24 : lw_okq (⟨"LearnLoans", "takenByLife", "(IIIIII)J"⟩, 4) := ⟨⟨by decide +kernel, by decide +kernel⟩, List.mem_of_getElem? (i := 14) (by decide +kernel), List.mem_of_getElem? (i := 704) (by decide +kernel), List.mem_of_getElem? (i := 705) (by decide +kernel)⟩
theorem lw_p25 : lw_okq (⟨"LearnLoans$Ways", "end", "(JJJ)V"⟩, 9) := ⟨⟨by decide +kernel, by decide +kernel⟩, List.mem_of_getElem? (i := 22) (by decide +kernel), List.mem_of_getElem? (i := 738) (by decide +kernel), List.mem_of_getElem? (i := 739) (by decide +kernel)⟩
theorem lw_p26 : lw_okq (⟨"LearnLoans", "takenIf", "(IIIII)J"⟩, 4) := ⟨⟨by decide +kernel, by decide +kernel⟩, List.mem_of_getElem? (i := 14) (by decide +kernel), List.mem_of_getElem? (i := 748) (by decide +kernel), List.mem_of_getElem? (i := 749) (by decide +kernel)⟩
theorem lw_p27 : lw_okq (⟨"LearnLoansModel", "isPerson", "(I)Z"⟩, 27) := ⟨⟨by decide +kernel, by decide +kernel⟩, List.mem_of_getElem? (i := 833) (by decide +kernel), List.mem_of_getElem? (i := 937) (by decide +kernel), List.mem_of_getElem? (i := 938) (by decide +kernel)⟩
theorem lw_p28 : lw_okq (⟨"LearnLoansModel", "earningsOf", "(III)I"⟩, 27) := ⟨⟨by decide +kernel, by decide +kernel⟩, List.mem_of_getElem? (i := 833) (by decide +kernel), List.mem_of_getElem? (i := 970) (by decide +kernel), List.mem_of_getElem? (i := 971) (by decide +kernel)⟩
theorem lw_p29 : lw_okq (⟨"LearnLoansModel", "inForce", "(IIII)I"⟩, 27) := ⟨⟨by decide +kernel, by decide +kernel⟩, List.mem_of_getElem? (i := 833) (by decide +kernel), List.mem_of_getElem? (i := 997) (by decide +kernel), List.mem_of_getElem? (i := 998) (by decide +kernel)⟩
theorem lw_p30 : lw_okq (⟨"LearnLoansModel", "isLoan", "(I)Z"⟩, 27) := ⟨⟨by decide +kernel, by decide +kernel⟩, List.mem_of_getElem? (i := 833) (by decide +kernel), List.mem_of_getElem? (i := 1013) (by decide +kernel), List.mem_of_getElem? (i := 1014) (by decide +kernel)⟩
theorem lw_p31 : lw_okq (⟨"LearnLoansModel", "given", "(II)I"⟩, 27) := ⟨⟨by decide +kernel, by decide +kernel⟩, List.mem_of_getElem? (i := 833) (by decide +kernel), List.mem_of_getElem? (i := 1017) (by decide +kernel), List.mem_of_getElem? (i := 1018) (by decide +kernel)⟩
def lw_privs_2 : List (MethodName × Nat) := [(⟨"LearnLoans$Text", "passSigns", "()I"⟩, 7), (⟨"LearnLoans$Text", "next", "()I"⟩, 7), (⟨"LearnLoans$Text", "readPlain", "(I)V"⟩, 7), (⟨"LearnLoans$Text", "readDigits", "()V"⟩, 7), (⟨"LearnLoans$Text", "emit", "(I)V"⟩, 7), (⟨"LearnLoans$Text", "pass", "(I)V"⟩, 7), (⟨"LearnLoans$Text", "emitSigns", "(II)V"⟩, 7), (⟨"LearnLoans", "runEverybody", "(II)V"⟩, 4), (⟨"LearnLoans", "takenByLife", "(IIIIII)J"⟩, 4), (⟨"LearnLoans$Ways", "end", "(JJJ)V"⟩, 9), (⟨"LearnLoans", "takenIf", "(IIIII)J"⟩, 4), (⟨"LearnLoansModel", "isPerson", "(I)Z"⟩, 27), (⟨"LearnLoansModel", "earningsOf", "(III)I"⟩, 27), (⟨"LearnLoansModel", "inForce", "(IIII)I"⟩, 27), (⟨"LearnLoansModel", "isLoan", "(I)Z"⟩, 27), (⟨"LearnLoansModel", "given", "(II)I"⟩, 27)]
theorem lw_r2 : ∀ q ∈ lw_privs_2, lw_okq q := List.forall_mem_cons.mpr ⟨lw_p16, List.forall_mem_cons.mpr ⟨lw_p17, List.forall_mem_cons.mpr ⟨lw_p18, List.forall_mem_cons.mpr ⟨lw_p19, List.forall_mem_cons.mpr ⟨lw_p20, List.forall_mem_cons.mpr ⟨lw_p21, List.forall_mem_cons.mpr ⟨lw_p22, List.forall_mem_cons.mpr ⟨lw_p23, List.forall_mem_cons.mpr ⟨lw_p24, List.forall_mem_cons.mpr ⟨lw_p25, List.forall_mem_cons.mpr ⟨lw_p26, List.forall_mem_cons.mpr ⟨lw_p27, List.forall_mem_cons.mpr ⟨lw_p28, List.forall_mem_cons.mpr ⟨lw_p29, List.forall_mem_cons.mpr ⟨lw_p30, List.forall_mem_cons.mpr ⟨lw_p31, fun _ h => absurd h List.not_mem_nil⟩⟩⟩⟩⟩⟩⟩⟩⟩⟩⟩⟩⟩⟩⟩⟩
theorem lw_p32 : lw_okq (⟨"LearnLoansModel", "planAt", "(II)I"⟩, 27) := ⟨⟨by decide +kernel, by decide +kernel⟩, List.mem_of_getElem? (i := 833) (by decide +kernel), List.mem_of_getElem? (i := 1029) (by decide +kernel), List.mem_of_getElem? (i := 1030) (by decide +kernel)⟩
theorem lw_p33 : lw_okq (⟨"LearnLoansModel", "work", "(I)Z"⟩, 27) := ⟨⟨by decide +kernel, by decide +kernel⟩, List.mem_of_getElem? (i := 833) (by decide +kernel), List.mem_of_getElem? (i := 1046) (by decide +kernel), List.mem_of_getElem? (i := 1047) (by decide +kernel)⟩
theorem lw_p34 : lw_okq (⟨"LearnLoansModel", "lay", "(J)V"⟩, 27) := ⟨⟨by decide +kernel, by decide +kernel⟩, List.mem_of_getElem? (i := 833) (by decide +kernel), List.mem_of_getElem? (i := 1053) (by decide +kernel), List.mem_of_getElem? (i := 1054) (by decide +kernel)⟩
theorem lw_p35 : lw_okq (⟨"LearnLoansModel", "top", "()I"⟩, 27) := ⟨⟨by decide +kernel, by decide +kernel⟩, List.mem_of_getElem? (i := 833) (by decide +kernel), List.mem_of_getElem? (i := 1057) (by decide +kernel), List.mem_of_getElem? (i := 1058) (by decide +kernel)⟩
theorem lw_p36 : lw_okq (⟨"LearnLoansModel", "opened", "()I"⟩, 27) := ⟨⟨by decide +kernel, by decide +kernel⟩, List.mem_of_getElem? (i := 833) (by decide +kernel), List.mem_of_getElem? (i := 1067) (by decide +kernel), List.mem_of_getElem? (i := 1068) (by decide +kernel)⟩
theorem lw_p37 : lw_okq (⟨"LearnLoansModel", "wait", "(I)V"⟩, 27) := ⟨⟨by decide +kernel, by decide +kernel⟩, List.mem_of_getElem? (i := 833) (by decide +kernel), List.mem_of_getElem? (i := 1071) (by decide +kernel), List.mem_of_getElem? (i := 1072) (by decide +kernel)⟩
theorem lw_p38 : lw_okq (⟨"LearnLoansModel", "behind", "(I)Z"⟩, 27) := ⟨⟨by decide +kernel, by decide +kernel⟩, List.mem_of_getElem? (i := 833) (by decide +kernel), List.mem_of_getElem? (i := 1075) (by decide +kernel), List.mem_of_getElem? (i := 1076) (by decide +kernel)⟩
theorem lw_p39 : lw_okq (⟨"LearnLoansModel", "reduce", "(I)V"⟩, 27) := ⟨⟨by decide +kernel, by decide +kernel⟩, List.mem_of_getElem? (i := 833) (by decide +kernel), List.mem_of_getElem? (i := 1082) (by decide +kernel), List.mem_of_getElem? (i := 1083) (by decide +kernel)⟩
theorem lw_p40 : lw_okq (⟨"LearnLoansModel", "choose", "()V"⟩, 27) := ⟨⟨by decide +kernel, by decide +kernel⟩, List.mem_of_getElem? (i := 833) (by decide +kernel), List.mem_of_getElem? (i := 1089) (by decide +kernel), List.mem_of_getElem? (i := 1090) (by decide +kernel)⟩
theorem lw_p41 : lw_okq (⟨"LearnLoansModel", "ofLoan", "(II)I"⟩, 27) := ⟨⟨by decide +kernel, by decide +kernel⟩, List.mem_of_getElem? (i := 833) (by decide +kernel), List.mem_of_getElem? (i := 1098) (by decide +kernel), List.mem_of_getElem? (i := 1099) (by decide +kernel)⟩
theorem lw_p42 : lw_okq (⟨"LearnLoansModel", "run", "(III)V"⟩, 27) := ⟨⟨by decide +kernel, by decide +kernel⟩, List.mem_of_getElem? (i := 833) (by decide +kernel), List.mem_of_getElem? (i := 1102) (by decide +kernel), List.mem_of_getElem? (i := 1103) (by decide +kernel)⟩
theorem lw_p43 : lw_okq (⟨"LearnLoansModel", "beginRun", "()V"⟩, 27) := ⟨⟨by decide +kernel, by decide +kernel⟩, List.mem_of_getElem? (i := 833) (by decide +kernel), List.mem_of_getElem? (i := 1106) (by decide +kernel), List.mem_of_getElem? (i := 1107) (by decide +kernel)⟩
theorem lw_p44 : lw_okq (⟨"LearnLoansModel", "stepYea\x72", "(IIIIZJ)V"⟩, 27) := ⟨⟨by decide +kernel, by decide +kernel⟩, List.mem_of_getElem? (i := 833) (by decide +kernel), List.mem_of_getElem? (i := 1110) (by decide +kernel), List.mem_of_getElem? (i := 1111) (by decide +kernel)⟩
theorem lw_p45 : lw_okq (⟨"LearnLoansModel", "begin", "(IIIIZ)V"⟩, 27) := ⟨⟨by decide +kernel, by decide +kernel⟩, List.mem_of_getElem? (i := 833) (by decide +kernel), List.mem_of_getElem? (i := 1114) (by decide +kernel), List.mem_of_getElem? (i := 1115) (by decide +kernel)⟩
theorem lw_p46 : lw_okq (⟨"LearnLoansModel", "rateOf", "(IIII)I"⟩, 27) := ⟨⟨by decide +kernel, by decide +kernel⟩, List.mem_of_getElem? (i := 833) (by decide +kernel), List.mem_of_getElem? (i := 1118) (by decide +kernel), List.mem_of_getElem? (i := 1119) (by decide +kernel)⟩
theorem lw_p47 : lw_okq (⟨"LearnLoansModel", "isIn", "(IIII)Z"⟩, 27) := ⟨⟨by decide +kernel, by decide +kernel⟩, List.mem_of_getElem? (i := 833) (by decide +kernel), List.mem_of_getElem? (i := 1123) (by decide +kernel), List.mem_of_getElem? (i := 1124) (by decide +kernel)⟩
def lw_privs_3 : List (MethodName × Nat) := [(⟨"LearnLoansModel", "planAt", "(II)I"⟩, 27), (⟨"LearnLoansModel", "work", "(I)Z"⟩, 27), (⟨"LearnLoansModel", "lay", "(J)V"⟩, 27), (⟨"LearnLoansModel", "top", "()I"⟩, 27), (⟨"LearnLoansModel", "opened", "()I"⟩, 27), (⟨"LearnLoansModel", "wait", "(I)V"⟩, 27), (⟨"LearnLoansModel", "behind", "(I)Z"⟩, 27), (⟨"LearnLoansModel", "reduce", "(I)V"⟩, 27), (⟨"LearnLoansModel", "choose", "()V"⟩, 27), (⟨"LearnLoansModel", "ofLoan", "(II)I"⟩, 27), (⟨"LearnLoansModel", "run", "(III)V"⟩, 27), (⟨"LearnLoansModel", "beginRun", "()V"⟩, 27), (⟨"LearnLoansModel", "stepYea\x72", "(IIIIZJ)V"⟩, 27), (⟨"LearnLoansModel", "begin", "(IIIIZ)V"⟩, 27), (⟨"LearnLoansModel", "rateOf", "(IIII)I"⟩, 27), (⟨"LearnLoansModel", "isIn", "(IIII)Z"⟩, 27)]
theorem lw_r3 : ∀ q ∈ lw_privs_3, lw_okq q := List.forall_mem_cons.mpr ⟨lw_p32, List.forall_mem_cons.mpr ⟨lw_p33, List.forall_mem_cons.mpr ⟨lw_p34, List.forall_mem_cons.mpr ⟨lw_p35, List.forall_mem_cons.mpr ⟨lw_p36, List.forall_mem_cons.mpr ⟨lw_p37, List.forall_mem_cons.mpr ⟨lw_p38, List.forall_mem_cons.mpr ⟨lw_p39, List.forall_mem_cons.mpr ⟨lw_p40, List.forall_mem_cons.mpr ⟨lw_p41, List.forall_mem_cons.mpr ⟨lw_p42, List.forall_mem_cons.mpr ⟨lw_p43, List.forall_mem_cons.mpr ⟨lw_p44, List.forall_mem_cons.mpr ⟨lw_p45, List.forall_mem_cons.mpr ⟨lw_p46, List.forall_mem_cons.mpr ⟨lw_p47, fun _ h => absurd h List.not_mem_nil⟩⟩⟩⟩⟩⟩⟩⟩⟩⟩⟩⟩⟩⟩⟩⟩
theorem lw_p48 : lw_okq (⟨"LearnLoansModel", "dueOf", "(IIII)J"⟩, 27) := ⟨⟨by decide +kernel, by decide +kernel⟩, List.mem_of_getElem? (i := 833) (by decide +kernel), List.mem_of_getElem? (i := 1127) (by decide +kernel), List.mem_of_getElem? (i := 1128) (by decide +kernel)⟩
theorem lw_p49 : lw_okq (⟨"LearnLoansModel", "runOf", "(II)J"⟩, 27) := ⟨⟨by decide +kernel, by decide +kernel⟩, List.mem_of_getElem? (i := 833) (by decide +kernel), List.mem_of_getElem? (i := 1131) (by decide +kernel), List.mem_of_getElem? (i := 1132) (by decide +kernel)⟩
theorem lw_p50 : lw_okq (⟨"LearnLoansModel", "allOf", "(II)J"⟩, 27) := ⟨⟨by decide +kernel, by decide +kernel⟩, List.mem_of_getElem? (i := 833) (by decide +kernel), List.mem_of_getElem? (i := 1139) (by decide +kernel), List.mem_of_getElem? (i := 1140) (by decide +kernel)⟩
theorem lw_p51 : lw_okq (⟨"LearnLoansModel", "lived", "(IIIIJ)J"⟩, 27) := ⟨⟨by decide +kernel, by decide +kernel⟩, List.mem_of_getElem? (i := 833) (by decide +kernel), List.mem_of_getElem? (i := 1176) (by decide +kernel), List.mem_of_getElem? (i := 1177) (by decide +kernel)⟩
theorem lw_p52 : lw_okq (⟨"LearnLoansModel", "keep", "()V"⟩, 27) := ⟨⟨by decide +kernel, by decide +kernel⟩, List.mem_of_getElem? (i := 833) (by decide +kernel), List.mem_of_getElem? (i := 1193) (by decide +kernel), List.mem_of_getElem? (i := 1194) (by decide +kernel)⟩
theorem lw_p53 : lw_okq (⟨"LearnLoansModel", "goWay", "(IIIIII)J"⟩, 27) := ⟨⟨by decide +kernel, by decide +kernel⟩, List.mem_of_getElem? (i := 833) (by decide +kernel), List.mem_of_getElem? (i := 1198) (by decide +kernel), List.mem_of_getElem? (i := 1199) (by decide +kernel)⟩
theorem lw_p54 : lw_okq (⟨"LearnLoansModel", "back", "()V"⟩, 27) := ⟨⟨by decide +kernel, by decide +kernel⟩, List.mem_of_getElem? (i := 833) (by decide +kernel), List.mem_of_getElem? (i := 1202) (by decide +kernel), List.mem_of_getElem? (i := 1203) (by decide +kernel)⟩
theorem lw_p55 : lw_okq (⟨"LearnLoansModel", "chanceOf", "(II)I"⟩, 27) := ⟨⟨by decide +kernel, by decide +kernel⟩, List.mem_of_getElem? (i := 833) (by decide +kernel), List.mem_of_getElem? (i := 1206) (by decide +kernel), List.mem_of_getElem? (i := 1207) (by decide +kernel)⟩
theorem lw_p56 : lw_okq (⟨"LearnLoansModel", "triedOf", "(IIIII)J"⟩, 27) := ⟨⟨by decide +kernel, by decide +kernel⟩, List.mem_of_getElem? (i := 833) (by decide +kernel), List.mem_of_getElem? (i := 1214) (by decide +kernel), List.mem_of_getElem? (i := 1215) (by decide +kernel)⟩
def lw_privs_4 : List (MethodName × Nat) := [(⟨"LearnLoansModel", "dueOf", "(IIII)J"⟩, 27), (⟨"LearnLoansModel", "runOf", "(II)J"⟩, 27), (⟨"LearnLoansModel", "allOf", "(II)J"⟩, 27), (⟨"LearnLoansModel", "lived", "(IIIIJ)J"⟩, 27), (⟨"LearnLoansModel", "keep", "()V"⟩, 27), (⟨"LearnLoansModel", "goWay", "(IIIIII)J"⟩, 27), (⟨"LearnLoansModel", "back", "()V"⟩, 27), (⟨"LearnLoansModel", "chanceOf", "(II)I"⟩, 27), (⟨"LearnLoansModel", "triedOf", "(IIIII)J"⟩, 27)]
theorem lw_r4 : ∀ q ∈ lw_privs_4, lw_okq q := List.forall_mem_cons.mpr ⟨lw_p48, List.forall_mem_cons.mpr ⟨lw_p49, List.forall_mem_cons.mpr ⟨lw_p50, List.forall_mem_cons.mpr ⟨lw_p51, List.forall_mem_cons.mpr ⟨lw_p52, List.forall_mem_cons.mpr ⟨lw_p53, List.forall_mem_cons.mpr ⟨lw_p54, List.forall_mem_cons.mpr ⟨lw_p55, List.forall_mem_cons.mpr ⟨lw_p56, fun _ h => absurd h List.not_mem_nil⟩⟩⟩⟩⟩⟩⟩⟩⟩
def lw_privs : List (MethodName × Nat) := lw_privs_1 ++ (lw_privs_2 ++ (lw_privs_3 ++ (lw_privs_4)))
def lw_tbl : List Cond := k2_sels lw_privs ++ tables_1
theorem lw_privs_ok : ∀ q ∈ lw_privs, lw_okq q := by
  show ∀ q ∈ lw_privs_1 ++ (lw_privs_2 ++ (lw_privs_3 ++ (lw_privs_4))), lw_okq q
  exact List.forall_mem_append.mpr ⟨lw_r1, List.forall_mem_append.mpr ⟨lw_r2, List.forall_mem_append.mpr ⟨lw_r3, lw_r4⟩⟩⟩

/-! names of the classes and methods, out of the printed names -/
def RX0 : String := "LearnLoans$House"
def TX0 : u_T := fun k => match k with
  | 0 => ("LearnLoans$House", "people", "LLearnLoans$People;", true)
  | 1 => ("LearnLoans$House", "scales", "[I", true)
  | 2 => ("LearnLoans$House", "prices", "[I", true)
  | 3 => ("LearnLoans$House", "acts", "LLearnLoans$Rows;", true)
  | 4 => ("LearnLoans$House", "loans", "LLearnLoans$Rows;", true)
  | 5 => ("LearnLoans$House", "moves", "LLearnLoans$Rows;", true)
  | 6 => ("LearnLoans$House", "planAt", "[I", true)
  | 7 => ("LearnLoans$House", "texts", "[LLearnLoans$Text;", true)
  | 8 => ("LearnLoans$House", "promises", "LLearnLoans$Rows;", true)
  | 9 => ("LearnLoans$House", "lives", "[I", true)
  | 10 => ("LearnLoans$House", "chances", "[I", true)
  | 11 => ("LearnLoans$House", "told", "[I", true)
  | _ => ("LearnLoans$House", "toldSize", "I", false)
def tyX0 : Nat → FieldType := fun k => match k with
  | 0 => .object "LearnLoans$People"
  | 1 => .array .int
  | 2 => .array .int
  | 3 => .object "LearnLoans$Rows"
  | 4 => .object "LearnLoans$Rows"
  | 5 => .object "LearnLoans$Rows"
  | 6 => .array .int
  | 7 => .array (.object "LearnLoans$Text")
  | 8 => .object "LearnLoans$Rows"
  | 9 => .array .int
  | 10 => .array .int
  | 11 => .array .int
  | _ => .int
theorem nmX0 : ∀ a, a < 13 → ∀ b, b < 13 → a ≠ b → (TX0 a).2.1 ≠ (TX0 b).2.1 := by decide +kernel
theorem tyX0_ok : ∀ k, k < 13 → parseFieldDescriptor (TX0 k).2.2.1 = some (tyX0 k) := by decide +kernel
abbrev cX0_init : ByteArray := prog_2_method_1_code
def yX0_init : MethodName := ⟨RX0, "<init>", "()V"⟩
abbrev cX0_addAct : ByteArray := prog_2_method_2_code
def yX0_addAct : MethodName := ⟨RX0, "addAct", "(IIIIII)I"⟩
abbrev cX0_givenBack : ByteArray := prog_2_method_3_code
def yX0_givenBack : MethodName := ⟨RX0, "givenBack", "(I)J"⟩
abbrev cX0_promised : ByteArray := prog_2_method_4_code
def yX0_promised : MethodName := ⟨RX0, "promised", "(II)J"⟩
abbrev cX0_takeOver : ByteArray := prog_2_method_5_code
def yX0_takeOver : MethodName := ⟨RX0, "takeOve\x72", "(LLearnLoans$House;)V"⟩
def RX1 : String := "LearnLoans$Letters"
def TX1 : u_T := fun k => match k with
  | 0 => ("LearnLoans$Letters", "rate", "J", false)
  | 1 => ("LearnLoans$Letters", "prices", "J", false)
  | 2 => ("LearnLoans$Letters", "earned", "J", false)
  | 3 => ("LearnLoans$Letters", "line", "J", false)
  | 4 => ("LearnLoans$Letters", "years", "J", false)
  | 5 => ("LearnLoans$Letters", "owed", "J", false)
  | _ => ("LearnLoans$Letters", "land", "J", false)
def tyX1 : Nat → FieldType := fun k => match k with
  | 0 => .long
  | 1 => .long
  | 2 => .long
  | 3 => .long
  | 4 => .long
  | 5 => .long
  | _ => .long
theorem nmX1 : ∀ a, a < 7 → ∀ b, b < 7 → a ≠ b → (TX1 a).2.1 ≠ (TX1 b).2.1 := by decide +kernel
theorem tyX1_ok : ∀ k, k < 7 → parseFieldDescriptor (TX1 k).2.2.1 = some (tyX1 k) := by decide +kernel
abbrev cX1_init : ByteArray := prog_3_method_1_code
def yX1_init : MethodName := ⟨RX1, "<init>", "()V"⟩
abbrev cX1_valueOf : ByteArray := prog_3_method_2_code
def yX1_valueOf : MethodName := ⟨RX1, "valueOf", "(I)J"⟩
def RX2 : String := "LearnLoans$People"
def TX2 : u_T := fun k => match k with
  | 0 => ("LearnLoans$People", "began", "[I", true)
  | 1 => ("LearnLoans$People", "died", "[I", true)
  | 2 => ("LearnLoans$People", "lands", "[I", true)
  | 3 => ("LearnLoans$People", "first", "[I", true)
  | 4 => ("LearnLoans$People", "firstKnown", "[I", true)
  | 5 => ("LearnLoans$People", "second", "[I", true)
  | 6 => ("LearnLoans$People", "secondKnown", "[I", true)
  | _ => ("LearnLoans$People", "size", "I", false)
def tyX2 : Nat → FieldType := fun k => match k with
  | 0 => .array .int
  | 1 => .array .int
  | 2 => .array .int
  | 3 => .array .int
  | 4 => .array .int
  | 5 => .array .int
  | 6 => .array .int
  | _ => .int
theorem nmX2 : ∀ a, a < 8 → ∀ b, b < 8 → a ≠ b → (TX2 a).2.1 ≠ (TX2 b).2.1 := by decide +kernel
theorem tyX2_ok : ∀ k, k < 8 → parseFieldDescriptor (TX2 k).2.2.1 = some (tyX2 k) := by decide +kernel
abbrev cX2_init : ByteArray := prog_4_method_1_code
def yX2_init : MethodName := ⟨RX2, "<init>", "()V"⟩
abbrev cX2_earned : ByteArray := prog_4_method_2_code
def yX2_earned : MethodName := ⟨RX2, "earned", "(III)I"⟩
abbrev cX2_isDead : ByteArray := prog_4_method_3_code
def yX2_isDead : MethodName := ⟨RX2, "isDead", "(II)Z"⟩
abbrev cX2_takeOver : ByteArray := prog_4_method_4_code
def yX2_takeOver : MethodName := ⟨RX2, "takeOve\x72", "(LLearnLoans$People;)V"⟩
abbrev cX2_mixed : ByteArray := prog_4_method_5_code
def yX2_mixed : MethodName := ⟨RX2, "mixed", "(J)J"⟩
def RX3 : String := "LearnLoans$Rows"
def TX3 : u_T := fun k => match k with
  | 0 => ("LearnLoans$Rows", "cells", "[I", true)
  | 1 => ("LearnLoans$Rows", "wide", "I", true)
  | _ => ("LearnLoans$Rows", "size", "I", false)
def tyX3 : Nat → FieldType := fun k => match k with
  | 0 => .array .int
  | 1 => .int
  | _ => .int
theorem nmX3 : ∀ a, a < 3 → ∀ b, b < 3 → a ≠ b → (TX3 a).2.1 ≠ (TX3 b).2.1 := by decide +kernel
theorem tyX3_ok : ∀ k, k < 3 → parseFieldDescriptor (TX3 k).2.2.1 = some (tyX3 k) := by decide +kernel
abbrev cX3_init : ByteArray := prog_5_method_1_code
def yX3_init : MethodName := ⟨RX3, "<init>", "([II)V"⟩
abbrev cX3_at : ByteArray := prog_5_method_2_code
def yX3_at : MethodName := ⟨RX3, "at", "(II)I"⟩
abbrev cX3_put : ByteArray := prog_5_method_3_code
def yX3_put : MethodName := ⟨RX3, "put", "(III)V"⟩
abbrev cX3_add : ByteArray := prog_5_method_4_code
def yX3_add : MethodName := ⟨RX3, "add", "(III)I"⟩
abbrev cX3_dropLast : ByteArray := prog_5_method_5_code
def yX3_dropLast : MethodName := ⟨RX3, "dropLast", "()V"⟩
abbrev cX3_takeOver : ByteArray := prog_5_method_6_code
def yX3_takeOver : MethodName := ⟨RX3, "takeOve\x72", "(LLearnLoans$Rows;)V"⟩
abbrev cX3_mixed : ByteArray := prog_5_method_7_code
def yX3_mixed : MethodName := ⟨RX3, "mixed", "(J)J"⟩
def RX4 : String := "LearnLoans$Run"
def TX4 : u_T := fun k => match k with
  | 0 => ("LearnLoans$Run", "house", "LLearnLoans$House;", true)
  | 1 => ("LearnLoans$Run", "numbers", "[I", true)
  | 2 => ("LearnLoans$Run", "sums", "[J", true)
  | 3 => ("LearnLoans$Run", "mine", "[I", true)
  | 4 => ("LearnLoans$Run", "queue", "[I", true)
  | 5 => ("LearnLoans$Run", "letters", "LLearnLoans$Letters;", true)
  | 6 => ("LearnLoans$Run", "stack", "[J", true)
  | 7 => ("LearnLoans$Run", "size", "I", false)
  | 8 => ("LearnLoans$Run", "person", "I", false)
  | 9 => ("LearnLoans$Run", "known", "I", false)
  | 10 => ("LearnLoans$Run", "nextYea\x72", "I", false)
  | 11 => ("LearnLoans$Run", "life", "I", false)
  | 12 => ("LearnLoans$Run", "plan", "I", false)
  | 13 => ("LearnLoans$Run", "deadAhead", "Z", false)
  | 14 => ("LearnLoans$Run", "due", "J", false)
  | 15 => ("LearnLoans$Run", "paid", "J", false)
  | 16 => ("LearnLoans$Run", "earned", "I", false)
  | 17 => ("LearnLoans$Run", "land", "I", false)
  | _ => ("LearnLoans$Run", "dead", "Z", false)
def tyX4 : Nat → FieldType := fun k => match k with
  | 0 => .object "LearnLoans$House"
  | 1 => .array .int
  | 2 => .array .long
  | 3 => .array .int
  | 4 => .array .int
  | 5 => .object "LearnLoans$Letters"
  | 6 => .array .long
  | 7 => .int
  | 8 => .int
  | 9 => .int
  | 10 => .int
  | 11 => .int
  | 12 => .int
  | 13 => .boolean
  | 14 => .long
  | 15 => .long
  | 16 => .int
  | 17 => .int
  | _ => .boolean
theorem nmX4 : ∀ a, a < 19 → ∀ b, b < 19 → a ≠ b → (TX4 a).2.1 ≠ (TX4 b).2.1 := by decide +kernel
theorem tyX4_ok : ∀ k, k < 19 → parseFieldDescriptor (TX4 k).2.2.1 = some (tyX4 k) := by decide +kernel
abbrev cX4_init : ByteArray := prog_6_method_1_code
def yX4_init : MethodName := ⟨RX4, "<init>", "()V"⟩
abbrev cX4_begin : ByteArray := prog_6_method_2_code
def yX4_begin : MethodName := ⟨RX4, "begin", "(II)V"⟩
abbrev cX4_turnTo : ByteArray := prog_6_method_3_code
def yX4_turnTo : MethodName := ⟨RX4, "turnTo", "(IIJ)V"⟩
abbrev cX4_go : ByteArray := prog_6_method_4_code
def yX4_go : MethodName := ⟨RX4, "go", "(I)V"⟩
abbrev cX4_layNumbers : ByteArray := prog_6_method_5_code
def yX4_layNumbers : MethodName := ⟨RX4, "layNumbers", "(I)V"⟩
abbrev cX4_layAct : ByteArray := prog_6_method_6_code
def yX4_layAct : MethodName := ⟨RX4, "layAct", "(III)V"⟩
abbrev cX4_look : ByteArray := prog_6_method_7_code
def yX4_look : MethodName := ⟨RX4, "look", "(I)V"⟩
abbrev cX4_suppose : ByteArray := prog_6_method_8_code
def yX4_suppose : MethodName := ⟨RX4, "suppose", "(IIZ)V"⟩
abbrev cX4_turn : ByteArray := prog_6_method_9_code
def yX4_turn : MethodName := ⟨RX4, "turn", "(I)V"⟩
abbrev cX4_isStruck : ByteArray := prog_6_method_10_code
def yX4_isStruck : MethodName := ⟨RX4, "isStruck", "(II)Z"⟩
abbrev cX4_grow : ByteArray := prog_6_method_11_code
def yX4_grow : MethodName := ⟨RX4, "grow", "(II)V"⟩
abbrev cX4_draw : ByteArray := prog_6_method_12_code
def yX4_draw : MethodName := ⟨RX4, "draw", "(II)V"⟩
abbrev cX4_planIn : ByteArray := prog_6_method_13_code
def yX4_planIn : MethodName := ⟨RX4, "planIn", "(II)I"⟩
abbrev cX4_cellOf : ByteArray := prog_6_method_14_code
def yX4_cellOf : MethodName := ⟨RX4, "cellOf", "(II)I"⟩
abbrev cX4_rateOf : ByteArray := prog_6_method_15_code
def yX4_rateOf : MethodName := ⟨RX4, "rateOf", "(II)I"⟩
abbrev cX4_lineUp : ByteArray := prog_6_method_16_code
def yX4_lineUp : MethodName := ⟨RX4, "lineUp", "(I)V"⟩
abbrev cX4_payAhead : ByteArray := prog_6_method_17_code
def yX4_payAhead : MethodName := ⟨RX4, "payAhead", "()V"⟩
abbrev cX4_takeAll : ByteArray := prog_6_method_18_code
def yX4_takeAll : MethodName := ⟨RX4, "takeAll", "(I)V"⟩
abbrev cX4_asked : ByteArray := prog_6_method_19_code
def yX4_asked : MethodName := ⟨RX4, "asked", "(I)J"⟩
abbrev cX4_together : ByteArray := prog_6_method_20_code
def yX4_together : MethodName := ⟨RX4, "togethe\x72", "(I)J"⟩
def RX5 : String := "LearnLoans$Text"
def TX5 : u_T := fun k => match k with
  | 0 => ("LearnLoans$Text", "signs", "[I", true)
  | 1 => ("LearnLoans$Text", "code", "[I", true)
  | 2 => ("LearnLoans$Text", "codes", "I", false)
  | 3 => ("LearnLoans$Text", "place", "I", false)
  | 4 => ("LearnLoans$Text", "open", "I", false)
  | 5 => ("LearnLoans$Text", "size", "I", false)
  | _ => ("LearnLoans$Text", "wrong", "I", false)
def tyX5 : Nat → FieldType := fun k => match k with
  | 0 => .array .int
  | 1 => .array .int
  | 2 => .int
  | 3 => .int
  | 4 => .int
  | 5 => .int
  | _ => .int
theorem nmX5 : ∀ a, a < 7 → ∀ b, b < 7 → a ≠ b → (TX5 a).2.1 ≠ (TX5 b).2.1 := by decide +kernel
theorem tyX5_ok : ∀ k, k < 7 → parseFieldDescriptor (TX5 k).2.2.1 = some (tyX5 k) := by decide +kernel
abbrev cX5_init : ByteArray := prog_7_method_1_code
def yX5_init : MethodName := ⟨RX5, "<init>", "()V"⟩
abbrev cX5_add : ByteArray := prog_7_method_2_code
def yX5_add : MethodName := ⟨RX5, "add", "(I)V"⟩
abbrev cX5_clear : ByteArray := prog_7_method_3_code
def yX5_clear : MethodName := ⟨RX5, "clea\x72", "()V"⟩
abbrev cX5_takeOver : ByteArray := prog_7_method_4_code
def yX5_takeOver : MethodName := ⟨RX5, "takeOve\x72", "(LLearnLoans$Text;)V"⟩
abbrev cX5_mixed : ByteArray := prog_7_method_5_code
def yX5_mixed : MethodName := ⟨RX5, "mixed", "(J)J"⟩
abbrev cX5_blame : ByteArray := prog_7_method_6_code
def yX5_blame : MethodName := ⟨RX5, "blame", "(II)V"⟩
abbrev cX5_emit : ByteArray := prog_7_method_7_code
def yX5_emit : MethodName := ⟨RX5, "emit", "(I)V"⟩
abbrev cX5_next : ByteArray := prog_7_method_8_code
def yX5_next : MethodName := ⟨RX5, "next", "()I"⟩
abbrev cX5_pass : ByteArray := prog_7_method_9_code
def yX5_pass : MethodName := ⟨RX5, "pass", "(I)V"⟩
abbrev cX5_readValue : ByteArray := prog_7_method_10_code
def yX5_readValue : MethodName := ⟨RX5, "readValue", "(I)V"⟩
abbrev cX5_readChain : ByteArray := prog_7_method_11_code
def yX5_readChain : MethodName := ⟨RX5, "readChain", "(II)V"⟩
abbrev cX5_levelOf : ByteArray := prog_7_method_12_code
def yX5_levelOf : MethodName := ⟨RX5, "levelOf", "(I)I"⟩
abbrev cX5_passSigns : ByteArray := prog_7_method_13_code
def yX5_passSigns : MethodName := ⟨RX5, "passSigns", "()I"⟩
abbrev cX5_emitSigns : ByteArray := prog_7_method_14_code
def yX5_emitSigns : MethodName := ⟨RX5, "emitSigns", "(II)V"⟩
abbrev cX5_readPlain : ByteArray := prog_7_method_15_code
def yX5_readPlain : MethodName := ⟨RX5, "readPlain", "(I)V"⟩
abbrev cX5_readDigits : ByteArray := prog_7_method_16_code
def yX5_readDigits : MethodName := ⟨RX5, "readDigits", "()V"⟩
abbrev cX5_isDigit : ByteArray := prog_7_method_17_code
def yX5_isDigit : MethodName := ⟨RX5, "isDigit", "(I)Z"⟩
abbrev cX5_worked : ByteArray := prog_7_method_18_code
def yX5_worked : MethodName := ⟨RX5, "worked", "(LLearnLoans$Letters;[J)J"⟩
abbrev cX5_operands : ByteArray := prog_7_method_19_code
def yX5_operands : MethodName := ⟨RX5, "operands", "(I)I"⟩
abbrev cX5_joined : ByteArray := prog_7_method_20_code
def yX5_joined : MethodName := ⟨RX5, "joined", "(IJJ)J"⟩
def RX6 : String := "LearnLoans$Ways"
def TX6 : u_T := fun k => match k with
  | 0 => ("LearnLoans$Ways", "run", "LLearnLoans$Run;", true)
  | 1 => ("LearnLoans$Ways", "owedAhead", "[J", true)
  | 2 => ("LearnLoans$Ways", "yea\x72", "I", false)
  | 3 => ("LearnLoans$Ways", "years", "I", false)
  | 4 => ("LearnLoans$Ways", "pence", "I", false)
  | 5 => ("LearnLoans$Ways", "mean", "J", false)
  | 6 => ("LearnLoans$Ways", "least", "J", false)
  | 7 => ("LearnLoans$Ways", "greatest", "J", false)
  | _ => ("LearnLoans$Ways", "neve\x72", "J", false)
def tyX6 : Nat → FieldType := fun k => match k with
  | 0 => .object "LearnLoans$Run"
  | 1 => .array .long
  | 2 => .int
  | 3 => .int
  | 4 => .int
  | 5 => .long
  | 6 => .long
  | 7 => .long
  | _ => .long
theorem nmX6 : ∀ a, a < 9 → ∀ b, b < 9 → a ≠ b → (TX6 a).2.1 ≠ (TX6 b).2.1 := by decide +kernel
theorem tyX6_ok : ∀ k, k < 9 → parseFieldDescriptor (TX6 k).2.2.1 = some (tyX6 k) := by decide +kernel
abbrev cX6_init : ByteArray := prog_8_method_1_code
def yX6_init : MethodName := ⟨RX6, "<init>", "()V"⟩
abbrev cX6_follow : ByteArray := prog_8_method_2_code
def yX6_follow : MethodName := ⟨RX6, "follow", "(IIIII)V"⟩
abbrev cX6_walk : ByteArray := prog_8_method_3_code
def yX6_walk : MethodName := ⟨RX6, "walk", "(LLearnLoans$Ways;IIJJJ)V"⟩
abbrev cX6_end : ByteArray := prog_8_method_4_code
def yX6_end : MethodName := ⟨RX6, "end", "(JJJ)V"⟩
def RX7 : String := "LearnLoans"
def TX7 : u_T := fun k => match k with
  | 0 => ("LearnLoans", "house", "LLearnLoans$House;", true)
  | 1 => ("LearnLoans", "images", "[LLearnLoans$House;", true)
  | 2 => ("LearnLoans", "run", "LLearnLoans$Run;", true)
  | _ => ("LearnLoans", "ways", "LLearnLoans$Ways;", true)
def tyX7 : Nat → FieldType := fun k => match k with
  | 0 => .object "LearnLoans$House"
  | 1 => .array (.object "LearnLoans$House")
  | 2 => .object "LearnLoans$Run"
  | _ => .object "LearnLoans$Ways"
theorem nmX7 : ∀ a, a < 4 → ∀ b, b < 4 → a ≠ b → (TX7 a).2.1 ≠ (TX7 b).2.1 := by decide +kernel
theorem tyX7_ok : ∀ k, k < 4 → parseFieldDescriptor (TX7 k).2.2.1 = some (tyX7 k) := by decide +kernel
abbrev cX7_init : ByteArray := prog_1_method_1_code
def yX7_init : MethodName := ⟨RX7, "<init>", "()V"⟩
abbrev cX7_person : ByteArray := prog_1_method_2_code
def yX7_person : MethodName := ⟨RX7, "person", "(I)I"⟩
abbrev cX7_land : ByteArray := prog_1_method_3_code
def yX7_land : MethodName := ⟨RX7, "land", "(IIII)I"⟩
abbrev cX7_scale : ByteArray := prog_1_method_4_code
def yX7_scale : MethodName := ⟨RX7, "scale", "(II)I"⟩
abbrev cX7_prices : ByteArray := prog_1_method_5_code
def yX7_prices : MethodName := ⟨RX7, "prices", "(II)I"⟩
abbrev cX7_dies : ByteArray := prog_1_method_6_code
def yX7_dies : MethodName := ⟨RX7, "dies", "(II)I"⟩
abbrev cX7_earn : ByteArray := prog_1_method_7_code
def yX7_earn : MethodName := ⟨RX7, "earn", "(IIII)I"⟩
abbrev cX7_right : ByteArray := prog_1_method_8_code
def yX7_right : MethodName := ⟨RX7, "right", "(IIII)I"⟩
abbrev cX7_earnings : ByteArray := prog_1_method_9_code
def yX7_earnings : MethodName := ⟨RX7, "earnings", "(III)I"⟩
abbrev cX7_act : ByteArray := prog_1_method_10_code
def yX7_act : MethodName := ⟨RX7, "act", "(IIIIII)I"⟩
abbrev cX7_force : ByteArray := prog_1_method_11_code
def yX7_force : MethodName := ⟨RX7, "force", "(IIII)I"⟩
abbrev cX7_loan : ByteArray := prog_1_method_12_code
def yX7_loan : MethodName := ⟨RX7, "loan", "(IIIIZ)I"⟩
abbrev cX7_leave : ByteArray := prog_1_method_13_code
def yX7_leave : MethodName := ⟨RX7, "leave", "(II)I"⟩
abbrev cX7_move : ByteArray := prog_1_method_14_code
def yX7_move : MethodName := ⟨RX7, "move", "(III)I"⟩
abbrev cX7_planOf : ByteArray := prog_1_method_15_code
def yX7_planOf : MethodName := ⟨RX7, "planOf", "(II)I"⟩
abbrev cX7_owes : ByteArray := prog_1_method_16_code
def yX7_owes : MethodName := ⟨RX7, "owes", "(IIII)J"⟩
abbrev cX7_all : ByteArray := prog_1_method_17_code
def yX7_all : MethodName := ⟨RX7, "all", "(IIII)J"⟩
abbrev cX7_rate : ByteArray := prog_1_method_18_code
def yX7_rate : MethodName := ⟨RX7, "rate", "(III)I"⟩
abbrev cX7_over : ByteArray := prog_1_method_19_code
def yX7_over : MethodName := ⟨RX7, "ove\x72", "(III)J"⟩
abbrev cX7_write : ByteArray := prog_1_method_20_code
def yX7_write : MethodName := ⟨RX7, "write", "(II)I"⟩
abbrev cX7_erase : ByteArray := prog_1_method_21_code
def yX7_erase : MethodName := ⟨RX7, "erase", "(I)I"⟩
abbrev cX7_fault : ByteArray := prog_1_method_22_code
def yX7_fault : MethodName := ⟨RX7, "fault", "(I)I"⟩
abbrev cX7_sell : ByteArray := prog_1_method_23_code
def yX7_sell : MethodName := ⟨RX7, "sell", "(III)I"⟩
abbrev cX7_promise : ByteArray := prog_1_method_24_code
def yX7_promise : MethodName := ⟨RX7, "promise", "(III)I"⟩
abbrev cX7_book : ByteArray := prog_1_method_25_code
def yX7_book : MethodName := ⟨RX7, "book", "(IIII)J"⟩
abbrev cX7_live : ByteArray := prog_1_method_26_code
def yX7_live : MethodName := ⟨RX7, "live", "(IIII)I"⟩
abbrev cX7_early : ByteArray := prog_1_method_27_code
def yX7_early : MethodName := ⟨RX7, "early", "(IIII)I"⟩
abbrev cX7_choice : ByteArray := prog_1_method_28_code
def yX7_choice : MethodName := ⟨RX7, "choice", "(IIIII)J"⟩
abbrev cX7_chances : ByteArray := prog_1_method_29_code
def yX7_chances : MethodName := ⟨RX7, "chances", "(IIIII)I"⟩
abbrev cX7_foretold : ByteArray := prog_1_method_30_code
def yX7_foretold : MethodName := ⟨RX7, "foretold", "(IIIIII)J"⟩
abbrev cX7_tried : ByteArray := prog_1_method_31_code
def yX7_tried : MethodName := ⟨RX7, "tried", "(IIIII)J"⟩
abbrev cX7_tell : ByteArray := prog_1_method_32_code
def yX7_tell : MethodName := ⟨RX7, "tell", "(I)I"⟩
abbrev cX7_untell : ByteArray := prog_1_method_33_code
def yX7_untell : MethodName := ⟨RX7, "untell", "()I"⟩
abbrev cX7_best : ByteArray := prog_1_method_34_code
def yX7_best : MethodName := ⟨RX7, "best", "(IIIIIJ)I"⟩
abbrev cX7_image : ByteArray := prog_1_method_35_code
def yX7_image : MethodName := ⟨RX7, "image", "(I)I"⟩
abbrev cX7_from : ByteArray := prog_1_method_36_code
def yX7_from : MethodName := ⟨RX7, "from", "(I)I"⟩
abbrev cX7_count : ByteArray := prog_1_method_37_code
def yX7_count : MethodName := ⟨RX7, "count", "(I)I"⟩
abbrev cX7_digest : ByteArray := prog_1_method_38_code
def yX7_digest : MethodName := ⟨RX7, "digest", "()J"⟩
abbrev cX7_within : ByteArray := prog_1_method_39_code
def yX7_within : MethodName := ⟨RX7, "within", "(III)Z"⟩
abbrev cX7_isYear : ByteArray := prog_1_method_40_code
def yX7_isYear : MethodName := ⟨RX7, "isYea\x72", "(I)Z"⟩
abbrev cX7_isSpan : ByteArray := prog_1_method_41_code
def yX7_isSpan : MethodName := ⟨RX7, "isSpan", "(II)Z"⟩
abbrev cX7_isPence : ByteArray := prog_1_method_42_code
def yX7_isPence : MethodName := ⟨RX7, "isPence", "(I)Z"⟩
abbrev cX7_isPlan : ByteArray := prog_1_method_43_code
def yX7_isPlan : MethodName := ⟨RX7, "isPlan", "(I)Z"⟩
abbrev cX7_isNumber : ByteArray := prog_1_method_44_code
def yX7_isNumber : MethodName := ⟨RX7, "isNumbe\x72", "(II)Z"⟩
abbrev cX7_isChance : ByteArray := prog_1_method_45_code
def yX7_isChance : MethodName := ⟨RX7, "isChance", "(I)Z"⟩
abbrev cX7_isPerson : ByteArray := prog_1_method_46_code
def yX7_isPerson : MethodName := ⟨RX7, "isPerson", "(I)Z"⟩
abbrev cX7_isLoan : ByteArray := prog_1_method_47_code
def yX7_isLoan : MethodName := ⟨RX7, "isLoan", "(I)Z"⟩
abbrev cX7_lay : ByteArray := prog_1_method_48_code
def yX7_lay : MethodName := ⟨RX7, "lay", "([IIII)V"⟩
abbrev cX7_together : ByteArray := prog_1_method_49_code
def yX7_together : MethodName := ⟨RX7, "togethe\x72", "(IIII)J"⟩
abbrev cX7_runEverybody : ByteArray := prog_1_method_50_code
def yX7_runEverybody : MethodName := ⟨RX7, "runEverybody", "(II)V"⟩
abbrev cX7_takenByLife : ByteArray := prog_1_method_51_code
def yX7_takenByLife : MethodName := ⟨RX7, "takenByLife", "(IIIIII)J"⟩
abbrev cX7_takenIf : ByteArray := prog_1_method_52_code
def yX7_takenIf : MethodName := ⟨RX7, "takenIf", "(IIIII)J"⟩
abbrev cX7_isNearer : ByteArray := prog_1_method_53_code
def yX7_isNearer : MethodName := ⟨RX7, "isNeare\x72", "(III)Z"⟩
def RX8 : String := "LearnLoansModel"
def TX8 : u_T := fun k => match k with
  | 0 => ("LearnLoansModel", "cells", "[I", true)
  | 1 => ("LearnLoansModel", "images", "[I", true)
  | 2 => ("LearnLoansModel", "hasImage", "[Z", true)
  | 3 => ("LearnLoansModel", "tryPlan", "I", false)
  | 4 => ("LearnLoansModel", "tryWhat", "I", false)
  | 5 => ("LearnLoansModel", "tryIs", "I", false)
  | 6 => ("LearnLoansModel", "tryFrom", "I", false)
  | 7 => ("LearnLoansModel", "leadPlan", "I", false)
  | 8 => ("LearnLoansModel", "leadFrom", "I", false)
  | 9 => ("LearnLoansModel", "waits", "[I", true)
  | 10 => ("LearnLoansModel", "worked", "[J", true)
  | 11 => ("LearnLoansModel", "waitMany", "I", false)
  | 12 => ("LearnLoansModel", "workedMany", "I", false)
  | 13 => ("LearnLoansModel", "facts", "[J", true)
  | 14 => ("LearnLoansModel", "faultAt", "I", false)
  | 15 => ("LearnLoansModel", "owed", "[J", true)
  | 16 => ("LearnLoansModel", "taken", "[J", true)
  | 17 => ("LearnLoansModel", "takenAll", "[J", true)
  | 18 => ("LearnLoansModel", "takenSold", "[J", true)
  | 19 => ("LearnLoansModel", "struck", "[J", true)
  | 20 => ("LearnLoansModel", "grown", "[J", true)
  | 21 => ("LearnLoansModel", "isStruck", "[Z", true)
  | 22 => ("LearnLoansModel", "paid", "J", false)
  | 23 => ("LearnLoansModel", "owedThen", "[J", true)
  | 24 => ("LearnLoansModel", "struckThen", "[Z", true)
  | 25 => ("LearnLoansModel", "takenWay", "J", false)
  | _ => ("LearnLoansModel", "neverWay", "J", false)
def tyX8 : Nat → FieldType := fun k => match k with
  | 0 => .array .int
  | 1 => .array .int
  | 2 => .array .boolean
  | 3 => .int
  | 4 => .int
  | 5 => .int
  | 6 => .int
  | 7 => .int
  | 8 => .int
  | 9 => .array .int
  | 10 => .array .long
  | 11 => .int
  | 12 => .int
  | 13 => .array .long
  | 14 => .int
  | 15 => .array .long
  | 16 => .array .long
  | 17 => .array .long
  | 18 => .array .long
  | 19 => .array .long
  | 20 => .array .long
  | 21 => .array .boolean
  | 22 => .long
  | 23 => .array .long
  | 24 => .array .boolean
  | 25 => .long
  | _ => .long
theorem nmX8 : ∀ a, a < 27 → ∀ b, b < 27 → a ≠ b → (TX8 a).2.1 ≠ (TX8 b).2.1 := by decide +kernel
theorem tyX8_ok : ∀ k, k < 27 → parseFieldDescriptor (TX8 k).2.2.1 = some (tyX8 k) := by decide +kernel
abbrev cX8_init : ByteArray := prog_10_method_1_code
def yX8_init : MethodName := ⟨RX8, "<init>", "()V"⟩
abbrev cX8_in : ByteArray := prog_10_method_3_code
def yX8_in : MethodName := ⟨RX8, "in", "(JJJ)Z"⟩
abbrev cX8_isYear : ByteArray := prog_10_method_4_code
def yX8_isYear : MethodName := ⟨RX8, "isYea\x72", "(I)Z"⟩
abbrev cX8_isPerson : ByteArray := prog_10_method_5_code
def yX8_isPerson : MethodName := ⟨RX8, "isPerson", "(I)Z"⟩
abbrev cX8_isLoan : ByteArray := prog_10_method_6_code
def yX8_isLoan : MethodName := ⟨RX8, "isLoan", "(I)Z"⟩
abbrev cX8_isPlan : ByteArray := prog_10_method_7_code
def yX8_isPlan : MethodName := ⟨RX8, "isPlan", "(I)Z"⟩
abbrev cX8_person : ByteArray := prog_10_method_8_code
def yX8_person : MethodName := ⟨RX8, "person", "(I)I"⟩
abbrev cX8_land : ByteArray := prog_10_method_9_code
def yX8_land : MethodName := ⟨RX8, "land", "(IIII)I"⟩
abbrev cX8_scale : ByteArray := prog_10_method_10_code
def yX8_scale : MethodName := ⟨RX8, "scale", "(II)I"⟩
abbrev cX8_prices : ByteArray := prog_10_method_11_code
def yX8_prices : MethodName := ⟨RX8, "prices", "(II)I"⟩
abbrev cX8_dies : ByteArray := prog_10_method_12_code
def yX8_dies : MethodName := ⟨RX8, "dies", "(II)I"⟩
abbrev cX8_earn : ByteArray := prog_10_method_13_code
def yX8_earn : MethodName := ⟨RX8, "earn", "(IIII)I"⟩
abbrev cX8_right : ByteArray := prog_10_method_14_code
def yX8_right : MethodName := ⟨RX8, "right", "(IIII)I"⟩
abbrev cX8_earningsOf : ByteArray := prog_10_method_15_code
def yX8_earningsOf : MethodName := ⟨RX8, "earningsOf", "(III)I"⟩
abbrev cX8_earnings : ByteArray := prog_10_method_16_code
def yX8_earnings : MethodName := ⟨RX8, "earnings", "(III)I"⟩
abbrev cX8_atFirst : ByteArray := prog_10_method_17_code
def yX8_atFirst : MethodName := ⟨RX8, "atFirst", "(I)I"⟩
abbrev cX8_mayBe : ByteArray := prog_10_method_18_code
def yX8_mayBe : MethodName := ⟨RX8, "mayBe", "(II)Z"⟩
abbrev cX8_isWhat : ByteArray := prog_10_method_19_code
def yX8_isWhat : MethodName := ⟨RX8, "isWhat", "(I)Z"⟩
abbrev cX8_act : ByteArray := prog_10_method_20_code
def yX8_act : MethodName := ⟨RX8, "act", "(IIIIII)I"⟩
abbrev cX8_inForce : ByteArray := prog_10_method_21_code
def yX8_inForce : MethodName := ⟨RX8, "inForce", "(IIII)I"⟩
abbrev cX8_force : ByteArray := prog_10_method_22_code
def yX8_force : MethodName := ⟨RX8, "force", "(IIII)I"⟩
abbrev cX8_loan : ByteArray := prog_10_method_23_code
def yX8_loan : MethodName := ⟨RX8, "loan", "(IIIIZ)I"⟩
abbrev cX8_given : ByteArray := prog_10_method_24_code
def yX8_given : MethodName := ⟨RX8, "given", "(II)I"⟩
abbrev cX8_leave : ByteArray := prog_10_method_25_code
def yX8_leave : MethodName := ⟨RX8, "leave", "(II)I"⟩
abbrev cX8_move : ByteArray := prog_10_method_26_code
def yX8_move : MethodName := ⟨RX8, "move", "(III)I"⟩
abbrev cX8_planAt : ByteArray := prog_10_method_27_code
def yX8_planAt : MethodName := ⟨RX8, "planAt", "(II)I"⟩
abbrev cX8_planOf : ByteArray := prog_10_method_28_code
def yX8_planOf : MethodName := ⟨RX8, "planOf", "(II)I"⟩
abbrev cX8_write : ByteArray := prog_10_method_29_code
def yX8_write : MethodName := ⟨RX8, "write", "(II)I"⟩
abbrev cX8_erase : ByteArray := prog_10_method_30_code
def yX8_erase : MethodName := ⟨RX8, "erase", "(I)I"⟩
abbrev cX8_factOf : ByteArray := prog_10_method_31_code
def yX8_factOf : MethodName := ⟨RX8, "factOf", "(I)I"⟩
abbrev cX8_closeness : ByteArray := prog_10_method_32_code
def yX8_closeness : MethodName := ⟨RX8, "closeness", "(I)I"⟩
abbrev cX8_told : ByteArray := prog_10_method_33_code
def yX8_told : MethodName := ⟨RX8, "told", "(Z)J"⟩
abbrev cX8_between : ByteArray := prog_10_method_34_code
def yX8_between : MethodName := ⟨RX8, "between", "(IJJ)J"⟩
abbrev cX8_top : ByteArray := prog_10_method_35_code
def yX8_top : MethodName := ⟨RX8, "top", "()I"⟩
abbrev cX8_lay : ByteArray := prog_10_method_36_code
def yX8_lay : MethodName := ⟨RX8, "lay", "(J)V"⟩
abbrev cX8_reduce : ByteArray := prog_10_method_37_code
def yX8_reduce : MethodName := ⟨RX8, "reduce", "(I)V"⟩
abbrev cX8_choose : ByteArray := prog_10_method_38_code
def yX8_choose : MethodName := ⟨RX8, "choose", "()V"⟩
abbrev cX8_wait : ByteArray := prog_10_method_39_code
def yX8_wait : MethodName := ⟨RX8, "wait", "(I)V"⟩
abbrev cX8_opened : ByteArray := prog_10_method_40_code
def yX8_opened : MethodName := ⟨RX8, "opened", "()I"⟩
abbrev cX8_behind : ByteArray := prog_10_method_41_code
def yX8_behind : MethodName := ⟨RX8, "behind", "(I)Z"⟩
abbrev cX8_work : ByteArray := prog_10_method_42_code
def yX8_work : MethodName := ⟨RX8, "work", "(I)Z"⟩
abbrev cX8_fault : ByteArray := prog_10_method_43_code
def yX8_fault : MethodName := ⟨RX8, "fault", "(I)I"⟩
abbrev cX8_ofLoan : ByteArray := prog_10_method_44_code
def yX8_ofLoan : MethodName := ⟨RX8, "ofLoan", "(II)I"⟩
abbrev cX8_rateOf : ByteArray := prog_10_method_45_code
def yX8_rateOf : MethodName := ⟨RX8, "rateOf", "(IIII)I"⟩
abbrev cX8_beginRun : ByteArray := prog_10_method_46_code
def yX8_beginRun : MethodName := ⟨RX8, "beginRun", "()V"⟩
abbrev cX8_begin : ByteArray := prog_10_method_47_code
def yX8_begin : MethodName := ⟨RX8, "begin", "(IIIIZ)V"⟩
abbrev cX8_dueOf : ByteArray := prog_10_method_48_code
def yX8_dueOf : MethodName := ⟨RX8, "dueOf", "(IIII)J"⟩
abbrev cX8_isIn : ByteArray := prog_10_method_49_code
def yX8_isIn : MethodName := ⟨RX8, "isIn", "(IIII)Z"⟩
abbrev cX8_stepYear : ByteArray := prog_10_method_50_code
def yX8_stepYear : MethodName := ⟨RX8, "stepYea\x72", "(IIIIZJ)V"⟩
abbrev cX8_run : ByteArray := prog_10_method_51_code
def yX8_run : MethodName := ⟨RX8, "run", "(III)V"⟩
abbrev cX8_runOf : ByteArray := prog_10_method_52_code
def yX8_runOf : MethodName := ⟨RX8, "runOf", "(II)J"⟩
abbrev cX8_allOf : ByteArray := prog_10_method_53_code
def yX8_allOf : MethodName := ⟨RX8, "allOf", "(II)J"⟩
abbrev cX8_owes : ByteArray := prog_10_method_54_code
def yX8_owes : MethodName := ⟨RX8, "owes", "(IIII)J"⟩
abbrev cX8_all : ByteArray := prog_10_method_55_code
def yX8_all : MethodName := ⟨RX8, "all", "(IIII)J"⟩
abbrev cX8_rate : ByteArray := prog_10_method_56_code
def yX8_rate : MethodName := ⟨RX8, "rate", "(III)I"⟩
abbrev cX8_over : ByteArray := prog_10_method_57_code
def yX8_over : MethodName := ⟨RX8, "ove\x72", "(III)J"⟩
abbrev cX8_sell : ByteArray := prog_10_method_58_code
def yX8_sell : MethodName := ⟨RX8, "sell", "(III)I"⟩
abbrev cX8_promise : ByteArray := prog_10_method_59_code
def yX8_promise : MethodName := ⟨RX8, "promise", "(III)I"⟩
abbrev cX8_book : ByteArray := prog_10_method_60_code
def yX8_book : MethodName := ⟨RX8, "book", "(IIII)J"⟩
abbrev cX8_isLife : ByteArray := prog_10_method_61_code
def yX8_isLife : MethodName := ⟨RX8, "isLife", "(I)Z"⟩
abbrev cX8_live : ByteArray := prog_10_method_62_code
def yX8_live : MethodName := ⟨RX8, "live", "(IIII)I"⟩
abbrev cX8_lived : ByteArray := prog_10_method_63_code
def yX8_lived : MethodName := ⟨RX8, "lived", "(IIIIJ)J"⟩
abbrev cX8_early : ByteArray := prog_10_method_64_code
def yX8_early : MethodName := ⟨RX8, "early", "(IIII)I"⟩
abbrev cX8_choice : ByteArray := prog_10_method_65_code
def yX8_choice : MethodName := ⟨RX8, "choice", "(IIIII)J"⟩
abbrev cX8_chances : ByteArray := prog_10_method_66_code
def yX8_chances : MethodName := ⟨RX8, "chances", "(IIIII)I"⟩
abbrev cX8_chanceOf : ByteArray := prog_10_method_67_code
def yX8_chanceOf : MethodName := ⟨RX8, "chanceOf", "(II)I"⟩
abbrev cX8_keep : ByteArray := prog_10_method_68_code
def yX8_keep : MethodName := ⟨RX8, "keep", "()V"⟩
abbrev cX8_back : ByteArray := prog_10_method_69_code
def yX8_back : MethodName := ⟨RX8, "back", "()V"⟩
abbrev cX8_goWay : ByteArray := prog_10_method_70_code
def yX8_goWay : MethodName := ⟨RX8, "goWay", "(IIIIII)J"⟩
abbrev cX8_foretold : ByteArray := prog_10_method_71_code
def yX8_foretold : MethodName := ⟨RX8, "foretold", "(IIIIII)J"⟩
abbrev cX8_triedOf : ByteArray := prog_10_method_72_code
def yX8_triedOf : MethodName := ⟨RX8, "triedOf", "(IIIII)J"⟩
abbrev cX8_tried : ByteArray := prog_10_method_73_code
def yX8_tried : MethodName := ⟨RX8, "tried", "(IIIII)J"⟩
abbrev cX8_tell : ByteArray := prog_10_method_74_code
def yX8_tell : MethodName := ⟨RX8, "tell", "(I)I"⟩
abbrev cX8_untell : ByteArray := prog_10_method_75_code
def yX8_untell : MethodName := ⟨RX8, "untell", "()I"⟩
abbrev cX8_far : ByteArray := prog_10_method_76_code
def yX8_far : MethodName := ⟨RX8, "fa\x72", "(II)I"⟩
abbrev cX8_best : ByteArray := prog_10_method_77_code
def yX8_best : MethodName := ⟨RX8, "best", "(IIIIIJ)I"⟩
abbrev cX8_image : ByteArray := prog_10_method_78_code
def yX8_image : MethodName := ⟨RX8, "image", "(I)I"⟩
abbrev cX8_from : ByteArray := prog_10_method_79_code
def yX8_from : MethodName := ⟨RX8, "from", "(I)I"⟩
abbrev cX8_count : ByteArray := prog_10_method_80_code
def yX8_count : MethodName := ⟨RX8, "count", "(I)I"⟩
abbrev cX8_digest : ByteArray := prog_10_method_81_code
def yX8_digest : MethodName := ⟨RX8, "digest", "()J"⟩
def RJ9 : String := "java/lang/Math"
abbrev cJ9_abs_0f7a4 : ByteArray := prog_11_method_59_code
def yJ9_abs_0f7a4 : MethodName := ⟨RJ9, "abs", "(I)I"⟩
abbrev cJ9_max_7cf53 : ByteArray := prog_11_method_65_code
def yJ9_max_7cf53 : MethodName := ⟨RJ9, "max", "(II)I"⟩
abbrev cJ9_max_f86c9 : ByteArray := prog_11_method_66_code
def yJ9_max_f86c9 : MethodName := ⟨RJ9, "max", "(JJ)J"⟩
abbrev cJ9_min_7cf53 : ByteArray := prog_11_method_69_code
def yJ9_min_7cf53 : MethodName := ⟨RJ9, "min", "(II)I"⟩
abbrev cJ9_min_f86c9 : ByteArray := prog_11_method_70_code
def yJ9_min_f86c9 : MethodName := ⟨RJ9, "min", "(JJ)J"⟩
def RJ10 : String := "java/lang/System"
def RJ7 : String := "java/util/Arrays"
abbrev cJ7_fill_53178 : ByteArray := prog_13_method_103_code
def yJ7_fill_53178 : MethodName := ⟨RJ7, "fill", "([II)V"⟩
def RL : String := "LearnLoansLaw"
abbrev cL_law : ByteArray := code
def yL_law : MethodName := ⟨RL, "law", "([I)Z"⟩
