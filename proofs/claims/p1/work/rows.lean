section
-- ===== PART A: goes FIRST, ahead of the names: the tables' words, and 'selects' of the private methods out of them =====
/-- a private method of a class that the tables say can be made, by its rows of tables_1 -/
def lw_okq (q : MethodName × Nat) : Prop := (q.1.cls ≠ "java/lang/invoke/MethodHandle" ∧ q.1.cls ≠ "java/lang/invoke/VarHandle") ∧ Cond.instantiable q.1.cls q.2 ∈ tables_1 ∧ Cond.privateMethod q.1 ∈ tables_1 ∧ Cond.instanceMethod q.1 ∈ tables_1
theorem lw_p0 : lw_okq (⟨"LearnLoans", "isPerson", "(I)Z"⟩, 4) := ⟨⟨by decide +kernel, by decide +kernel⟩, List.mem_of_getElem? (i := 14) (by decide +kernel), List.mem_of_getElem? (i := 355) (by decide +kernel), List.mem_of_getElem? (i := 356) (by decide +kernel)⟩
theorem lw_p1 : lw_okq (⟨"LearnLoans$Run", "layAct", "(III)V"⟩, 18) := ⟨⟨by decide +kernel, by decide +kernel⟩, List.mem_of_getElem? (i := 28) (by decide +kernel), List.mem_of_getElem? (i := 447) (by decide +kernel), List.mem_of_getElem? (i := 448) (by decide +kernel)⟩
theorem lw_p2 : lw_okq (⟨"LearnLoans", "isLoan", "(I)Z"⟩, 4) := ⟨⟨by decide +kernel, by decide +kernel⟩, List.mem_of_getElem? (i := 14) (by decide +kernel), List.mem_of_getElem? (i := 461) (by decide +kernel), List.mem_of_getElem? (i := 462) (by decide +kernel)⟩
theorem lw_p3 : lw_okq (⟨"LearnLoans$Run", "isStruck", "(II)Z"⟩, 18) := ⟨⟨by decide +kernel, by decide +kernel⟩, List.mem_of_getElem? (i := 28) (by decide +kernel), List.mem_of_getElem? (i := 517) (by decide +kernel), List.mem_of_getElem? (i := 518) (by decide +kernel)⟩
theorem lw_p4 : lw_okq (⟨"LearnLoans$Run", "cellOf", "(II)I"⟩, 18) := ⟨⟨by decide +kernel, by decide +kernel⟩, List.mem_of_getElem? (i := 28) (by decide +kernel), List.mem_of_getElem? (i := 521) (by decide +kernel), List.mem_of_getElem? (i := 522) (by decide +kernel)⟩
theorem lw_p5 : lw_okq (⟨"LearnLoans$Run", "planIn", "(II)I"⟩, 18) := ⟨⟨by decide +kernel, by decide +kernel⟩, List.mem_of_getElem? (i := 28) (by decide +kernel), List.mem_of_getElem? (i := 525) (by decide +kernel), List.mem_of_getElem? (i := 526) (by decide +kernel)⟩
theorem lw_p6 : lw_okq (⟨"LearnLoans$Run", "grow", "(II)V"⟩, 18) := ⟨⟨by decide +kernel, by decide +kernel⟩, List.mem_of_getElem? (i := 28) (by decide +kernel), List.mem_of_getElem? (i := 554) (by decide +kernel), List.mem_of_getElem? (i := 555) (by decide +kernel)⟩
theorem lw_p7 : lw_okq (⟨"LearnLoans$Run", "draw", "(II)V"⟩, 18) := ⟨⟨by decide +kernel, by decide +kernel⟩, List.mem_of_getElem? (i := 28) (by decide +kernel), List.mem_of_getElem? (i := 560) (by decide +kernel), List.mem_of_getElem? (i := 561) (by decide +kernel)⟩
theorem lw_p8 : lw_okq (⟨"LearnLoans$Run", "lineUp", "(I)V"⟩, 18) := ⟨⟨by decide +kernel, by decide +kernel⟩, List.mem_of_getElem? (i := 28) (by decide +kernel), List.mem_of_getElem? (i := 565) (by decide +kernel), List.mem_of_getElem? (i := 566) (by decide +kernel)⟩
theorem lw_p9 : lw_okq (⟨"LearnLoans$Run", "payAhead", "()V"⟩, 18) := ⟨⟨by decide +kernel, by decide +kernel⟩, List.mem_of_getElem? (i := 28) (by decide +kernel), List.mem_of_getElem? (i := 570) (by decide +kernel), List.mem_of_getElem? (i := 571) (by decide +kernel)⟩
theorem lw_p10 : lw_okq (⟨"LearnLoans$Run", "takeAll", "(I)V"⟩, 18) := ⟨⟨by decide +kernel, by decide +kernel⟩, List.mem_of_getElem? (i := 28) (by decide +kernel), List.mem_of_getElem? (i := 574) (by decide +kernel), List.mem_of_getElem? (i := 575) (by decide +kernel)⟩
theorem lw_p11 : lw_okq (⟨"LearnLoans$Run", "asked", "(I)J"⟩, 18) := ⟨⟨by decide +kernel, by decide +kernel⟩, List.mem_of_getElem? (i := 28) (by decide +kernel), List.mem_of_getElem? (i := 578) (by decide +kernel), List.mem_of_getElem? (i := 579) (by decide +kernel)⟩
theorem lw_p12 : lw_okq (⟨"LearnLoans", "togethe\x72", "(IIII)J"⟩, 4) := ⟨⟨by decide +kernel, by decide +kernel⟩, List.mem_of_getElem? (i := 14) (by decide +kernel), List.mem_of_getElem? (i := 586) (by decide +kernel), List.mem_of_getElem? (i := 587) (by decide +kernel)⟩
theorem lw_p13 : lw_okq (⟨"LearnLoans$Text", "readValue", "(I)V"⟩, 7) := ⟨⟨by decide +kernel, by decide +kernel⟩, List.mem_of_getElem? (i := 106) (by decide +kernel), List.mem_of_getElem? (i := 613) (by decide +kernel), List.mem_of_getElem? (i := 614) (by decide +kernel)⟩
theorem lw_p14 : lw_okq (⟨"LearnLoans$Text", "blame", "(II)V"⟩, 7) := ⟨⟨by decide +kernel, by decide +kernel⟩, List.mem_of_getElem? (i := 106) (by decide +kernel), List.mem_of_getElem? (i := 617) (by decide +kernel), List.mem_of_getElem? (i := 618) (by decide +kernel)⟩
theorem lw_p15 : lw_okq (⟨"LearnLoans$Text", "readChain", "(II)V"⟩, 7) := ⟨⟨by decide +kernel, by decide +kernel⟩, List.mem_of_getElem? (i := 106) (by decide +kernel), List.mem_of_getElem? (i := 621) (by decide +kernel), List.mem_of_getElem? (i := 622) (by decide +kernel)⟩
def lw_privs_1 : List (MethodName × Nat) := [(⟨"LearnLoans", "isPerson", "(I)Z"⟩, 4), (⟨"LearnLoans$Run", "layAct", "(III)V"⟩, 18), (⟨"LearnLoans", "isLoan", "(I)Z"⟩, 4), (⟨"LearnLoans$Run", "isStruck", "(II)Z"⟩, 18), (⟨"LearnLoans$Run", "cellOf", "(II)I"⟩, 18), (⟨"LearnLoans$Run", "planIn", "(II)I"⟩, 18), (⟨"LearnLoans$Run", "grow", "(II)V"⟩, 18), (⟨"LearnLoans$Run", "draw", "(II)V"⟩, 18), (⟨"LearnLoans$Run", "lineUp", "(I)V"⟩, 18), (⟨"LearnLoans$Run", "payAhead", "()V"⟩, 18), (⟨"LearnLoans$Run", "takeAll", "(I)V"⟩, 18), (⟨"LearnLoans$Run", "asked", "(I)J"⟩, 18), (⟨"LearnLoans", "togethe\x72", "(IIII)J"⟩, 4), (⟨"LearnLoans$Text", "readValue", "(I)V"⟩, 7), (⟨"LearnLoans$Text", "blame", "(II)V"⟩, 7), (⟨"LearnLoans$Text", "readChain", "(II)V"⟩, 7)]
theorem lw_r1 : ∀ q ∈ lw_privs_1, lw_okq q := List.forall_mem_cons.mpr ⟨lw_p0, List.forall_mem_cons.mpr ⟨lw_p1, List.forall_mem_cons.mpr ⟨lw_p2, List.forall_mem_cons.mpr ⟨lw_p3, List.forall_mem_cons.mpr ⟨lw_p4, List.forall_mem_cons.mpr ⟨lw_p5, List.forall_mem_cons.mpr ⟨lw_p6, List.forall_mem_cons.mpr ⟨lw_p7, List.forall_mem_cons.mpr ⟨lw_p8, List.forall_mem_cons.mpr ⟨lw_p9, List.forall_mem_cons.mpr ⟨lw_p10, List.forall_mem_cons.mpr ⟨lw_p11, List.forall_mem_cons.mpr ⟨lw_p12, List.forall_mem_cons.mpr ⟨lw_p13, List.forall_mem_cons.mpr ⟨lw_p14, List.forall_mem_cons.mpr ⟨lw_p15, fun _ h => absurd h List.not_mem_nil⟩⟩⟩⟩⟩⟩⟩⟩⟩⟩⟩⟩⟩⟩⟩⟩
theorem lw_p16 : lw_okq (⟨"LearnLoans$Text", "passSigns", "()I"⟩, 7) := ⟨⟨by decide +kernel, by decide +kernel⟩, List.mem_of_getElem? (i := 106) (by decide +kernel), List.mem_of_getElem? (i := 625) (by decide +kernel), List.mem_of_getElem? (i := 626) (by decide +kernel)⟩
theorem lw_p17 : lw_okq (⟨"LearnLoans$Text", "next", "()I"⟩, 7) := ⟨⟨by decide +kernel, by decide +kernel⟩, List.mem_of_getElem? (i := 106) (by decide +kernel), List.mem_of_getElem? (i := 629) (by decide +kernel), List.mem_of_getElem? (i := 630) (by decide +kernel)⟩
theorem lw_p18 : lw_okq (⟨"LearnLoans$Text", "readPlain", "(I)V"⟩, 7) := ⟨⟨by decide +kernel, by decide +kernel⟩, List.mem_of_getElem? (i := 106) (by decide +kernel), List.mem_of_getElem? (i := 633) (by decide +kernel), List.mem_of_getElem? (i := 634) (by decide +kernel)⟩
theorem lw_p19 : lw_okq (⟨"LearnLoans$Text", "readDigits", "()V"⟩, 7) := ⟨⟨by decide +kernel, by decide +kernel⟩, List.mem_of_getElem? (i := 106) (by decide +kernel), List.mem_of_getElem? (i := 640) (by decide +kernel), List.mem_of_getElem? (i := 641) (by decide +kernel)⟩
theorem lw_p20 : lw_okq (⟨"LearnLoans$Text", "emit", "(I)V"⟩, 7) := ⟨⟨by decide +kernel, by decide +kernel⟩, List.mem_of_getElem? (i := 106) (by decide +kernel), List.mem_of_getElem? (i := 644) (by decide +kernel), List.mem_of_getElem? (i := 645) (by decide +kernel)⟩
theorem lw_p21 : lw_okq (⟨"LearnLoans$Text", "pass", "(I)V"⟩, 7) := ⟨⟨by decide +kernel, by decide +kernel⟩, List.mem_of_getElem? (i := 106) (by decide +kernel), List.mem_of_getElem? (i := 648) (by decide +kernel), List.mem_of_getElem? (i := 649) (by decide +kernel)⟩
theorem lw_p22 : lw_okq (⟨"LearnLoans$Text", "emitSigns", "(II)V"⟩, 7) := ⟨⟨by decide +kernel, by decide +kernel⟩, List.mem_of_getElem? (i := 106) (by decide +kernel), List.mem_of_getElem? (i := 652) (by decide +kernel), List.mem_of_getElem? (i := 653) (by decide +kernel)⟩
theorem lw_p23 : lw_okq (⟨"LearnLoans", "runEverybody", "(II)V"⟩, 4) := ⟨⟨by decide +kernel, by decide +kernel⟩, List.mem_of_getElem? (i := 14) (by decide +kernel), List.mem_of_getElem? (i := 684) (by decide +kernel), List.mem_of_getElem? (i := 685) (by decide +kernel)⟩
theorem lw_p24 : lw_okq (⟨"LearnLoans", "takenByLife", "(IIIIII)J"⟩, 4) := ⟨⟨by decide +kernel, by decide +kernel⟩, List.mem_of_getElem? (i := 14) (by decide +kernel), List.mem_of_getElem? (i := 701) (by decide +kernel), List.mem_of_getElem? (i := 702) (by decide +kernel)⟩
theorem lw_p25 : lw_okq (⟨"LearnLoans$Ways", "end", "(JJJ)V"⟩, 9) := ⟨⟨by decide +kernel, by decide +kernel⟩, List.mem_of_getElem? (i := 22) (by decide +kernel), List.mem_of_getElem? (i := 735) (by decide +kernel), List.mem_of_getElem? (i := 736) (by decide +kernel)⟩
theorem lw_p26 : lw_okq (⟨"LearnLoans", "takenIf", "(IIIII)J"⟩, 4) := ⟨⟨by decide +kernel, by decide +kernel⟩, List.mem_of_getElem? (i := 14) (by decide +kernel), List.mem_of_getElem? (i := 745) (by decide +kernel), List.mem_of_getElem? (i := 746) (by decide +kernel)⟩
theorem lw_p27 : lw_okq (⟨"LearnLoansModel", "isPerson", "(I)Z"⟩, 27) := ⟨⟨by decide +kernel, by decide +kernel⟩, List.mem_of_getElem? (i := 830) (by decide +kernel), List.mem_of_getElem? (i := 934) (by decide +kernel), List.mem_of_getElem? (i := 935) (by decide +kernel)⟩
theorem lw_p28 : lw_okq (⟨"LearnLoansModel", "earningsOf", "(III)I"⟩, 27) := ⟨⟨by decide +kernel, by decide +kernel⟩, List.mem_of_getElem? (i := 830) (by decide +kernel), List.mem_of_getElem? (i := 967) (by decide +kernel), List.mem_of_getElem? (i := 968) (by decide +kernel)⟩
theorem lw_p29 : lw_okq (⟨"LearnLoansModel", "inForce", "(IIII)I"⟩, 27) := ⟨⟨by decide +kernel, by decide +kernel⟩, List.mem_of_getElem? (i := 830) (by decide +kernel), List.mem_of_getElem? (i := 994) (by decide +kernel), List.mem_of_getElem? (i := 995) (by decide +kernel)⟩
theorem lw_p30 : lw_okq (⟨"LearnLoansModel", "isLoan", "(I)Z"⟩, 27) := ⟨⟨by decide +kernel, by decide +kernel⟩, List.mem_of_getElem? (i := 830) (by decide +kernel), List.mem_of_getElem? (i := 1010) (by decide +kernel), List.mem_of_getElem? (i := 1011) (by decide +kernel)⟩
theorem lw_p31 : lw_okq (⟨"LearnLoansModel", "given", "(II)I"⟩, 27) := ⟨⟨by decide +kernel, by decide +kernel⟩, List.mem_of_getElem? (i := 830) (by decide +kernel), List.mem_of_getElem? (i := 1014) (by decide +kernel), List.mem_of_getElem? (i := 1015) (by decide +kernel)⟩
def lw_privs_2 : List (MethodName × Nat) := [(⟨"LearnLoans$Text", "passSigns", "()I"⟩, 7), (⟨"LearnLoans$Text", "next", "()I"⟩, 7), (⟨"LearnLoans$Text", "readPlain", "(I)V"⟩, 7), (⟨"LearnLoans$Text", "readDigits", "()V"⟩, 7), (⟨"LearnLoans$Text", "emit", "(I)V"⟩, 7), (⟨"LearnLoans$Text", "pass", "(I)V"⟩, 7), (⟨"LearnLoans$Text", "emitSigns", "(II)V"⟩, 7), (⟨"LearnLoans", "runEverybody", "(II)V"⟩, 4), (⟨"LearnLoans", "takenByLife", "(IIIIII)J"⟩, 4), (⟨"LearnLoans$Ways", "end", "(JJJ)V"⟩, 9), (⟨"LearnLoans", "takenIf", "(IIIII)J"⟩, 4), (⟨"LearnLoansModel", "isPerson", "(I)Z"⟩, 27), (⟨"LearnLoansModel", "earningsOf", "(III)I"⟩, 27), (⟨"LearnLoansModel", "inForce", "(IIII)I"⟩, 27), (⟨"LearnLoansModel", "isLoan", "(I)Z"⟩, 27), (⟨"LearnLoansModel", "given", "(II)I"⟩, 27)]
theorem lw_r2 : ∀ q ∈ lw_privs_2, lw_okq q := List.forall_mem_cons.mpr ⟨lw_p16, List.forall_mem_cons.mpr ⟨lw_p17, List.forall_mem_cons.mpr ⟨lw_p18, List.forall_mem_cons.mpr ⟨lw_p19, List.forall_mem_cons.mpr ⟨lw_p20, List.forall_mem_cons.mpr ⟨lw_p21, List.forall_mem_cons.mpr ⟨lw_p22, List.forall_mem_cons.mpr ⟨lw_p23, List.forall_mem_cons.mpr ⟨lw_p24, List.forall_mem_cons.mpr ⟨lw_p25, List.forall_mem_cons.mpr ⟨lw_p26, List.forall_mem_cons.mpr ⟨lw_p27, List.forall_mem_cons.mpr ⟨lw_p28, List.forall_mem_cons.mpr ⟨lw_p29, List.forall_mem_cons.mpr ⟨lw_p30, List.forall_mem_cons.mpr ⟨lw_p31, fun _ h => absurd h List.not_mem_nil⟩⟩⟩⟩⟩⟩⟩⟩⟩⟩⟩⟩⟩⟩⟩⟩
theorem lw_p32 : lw_okq (⟨"LearnLoansModel", "planAt", "(II)I"⟩, 27) := ⟨⟨by decide +kernel, by decide +kernel⟩, List.mem_of_getElem? (i := 830) (by decide +kernel), List.mem_of_getElem? (i := 1026) (by decide +kernel), List.mem_of_getElem? (i := 1027) (by decide +kernel)⟩
theorem lw_p33 : lw_okq (⟨"LearnLoansModel", "work", "(I)Z"⟩, 27) := ⟨⟨by decide +kernel, by decide +kernel⟩, List.mem_of_getElem? (i := 830) (by decide +kernel), List.mem_of_getElem? (i := 1043) (by decide +kernel), List.mem_of_getElem? (i := 1044) (by decide +kernel)⟩
theorem lw_p34 : lw_okq (⟨"LearnLoansModel", "lay", "(J)V"⟩, 27) := ⟨⟨by decide +kernel, by decide +kernel⟩, List.mem_of_getElem? (i := 830) (by decide +kernel), List.mem_of_getElem? (i := 1050) (by decide +kernel), List.mem_of_getElem? (i := 1051) (by decide +kernel)⟩
theorem lw_p35 : lw_okq (⟨"LearnLoansModel", "top", "()I"⟩, 27) := ⟨⟨by decide +kernel, by decide +kernel⟩, List.mem_of_getElem? (i := 830) (by decide +kernel), List.mem_of_getElem? (i := 1054) (by decide +kernel), List.mem_of_getElem? (i := 1055) (by decide +kernel)⟩
theorem lw_p36 : lw_okq (⟨"LearnLoansModel", "opened", "()I"⟩, 27) := ⟨⟨by decide +kernel, by decide +kernel⟩, List.mem_of_getElem? (i := 830) (by decide +kernel), List.mem_of_getElem? (i := 1064) (by decide +kernel), List.mem_of_getElem? (i := 1065) (by decide +kernel)⟩
theorem lw_p37 : lw_okq (⟨"LearnLoansModel", "wait", "(I)V"⟩, 27) := ⟨⟨by decide +kernel, by decide +kernel⟩, List.mem_of_getElem? (i := 830) (by decide +kernel), List.mem_of_getElem? (i := 1068) (by decide +kernel), List.mem_of_getElem? (i := 1069) (by decide +kernel)⟩
theorem lw_p38 : lw_okq (⟨"LearnLoansModel", "behind", "(I)Z"⟩, 27) := ⟨⟨by decide +kernel, by decide +kernel⟩, List.mem_of_getElem? (i := 830) (by decide +kernel), List.mem_of_getElem? (i := 1072) (by decide +kernel), List.mem_of_getElem? (i := 1073) (by decide +kernel)⟩
theorem lw_p39 : lw_okq (⟨"LearnLoansModel", "reduce", "(I)V"⟩, 27) := ⟨⟨by decide +kernel, by decide +kernel⟩, List.mem_of_getElem? (i := 830) (by decide +kernel), List.mem_of_getElem? (i := 1079) (by decide +kernel), List.mem_of_getElem? (i := 1080) (by decide +kernel)⟩
theorem lw_p40 : lw_okq (⟨"LearnLoansModel", "choose", "()V"⟩, 27) := ⟨⟨by decide +kernel, by decide +kernel⟩, List.mem_of_getElem? (i := 830) (by decide +kernel), List.mem_of_getElem? (i := 1086) (by decide +kernel), List.mem_of_getElem? (i := 1087) (by decide +kernel)⟩
theorem lw_p41 : lw_okq (⟨"LearnLoansModel", "ofLoan", "(II)I"⟩, 27) := ⟨⟨by decide +kernel, by decide +kernel⟩, List.mem_of_getElem? (i := 830) (by decide +kernel), List.mem_of_getElem? (i := 1095) (by decide +kernel), List.mem_of_getElem? (i := 1096) (by decide +kernel)⟩
theorem lw_p42 : lw_okq (⟨"LearnLoansModel", "run", "(III)V"⟩, 27) := ⟨⟨by decide +kernel, by decide +kernel⟩, List.mem_of_getElem? (i := 830) (by decide +kernel), List.mem_of_getElem? (i := 1099) (by decide +kernel), List.mem_of_getElem? (i := 1100) (by decide +kernel)⟩
theorem lw_p43 : lw_okq (⟨"LearnLoansModel", "beginRun", "()V"⟩, 27) := ⟨⟨by decide +kernel, by decide +kernel⟩, List.mem_of_getElem? (i := 830) (by decide +kernel), List.mem_of_getElem? (i := 1103) (by decide +kernel), List.mem_of_getElem? (i := 1104) (by decide +kernel)⟩
theorem lw_p44 : lw_okq (⟨"LearnLoansModel", "stepYea\x72", "(IIIIZJ)V"⟩, 27) := ⟨⟨by decide +kernel, by decide +kernel⟩, List.mem_of_getElem? (i := 830) (by decide +kernel), List.mem_of_getElem? (i := 1107) (by decide +kernel), List.mem_of_getElem? (i := 1108) (by decide +kernel)⟩
theorem lw_p45 : lw_okq (⟨"LearnLoansModel", "begin", "(IIIIZ)V"⟩, 27) := ⟨⟨by decide +kernel, by decide +kernel⟩, List.mem_of_getElem? (i := 830) (by decide +kernel), List.mem_of_getElem? (i := 1111) (by decide +kernel), List.mem_of_getElem? (i := 1112) (by decide +kernel)⟩
theorem lw_p46 : lw_okq (⟨"LearnLoansModel", "rateOf", "(IIII)I"⟩, 27) := ⟨⟨by decide +kernel, by decide +kernel⟩, List.mem_of_getElem? (i := 830) (by decide +kernel), List.mem_of_getElem? (i := 1115) (by decide +kernel), List.mem_of_getElem? (i := 1116) (by decide +kernel)⟩
theorem lw_p47 : lw_okq (⟨"LearnLoansModel", "isIn", "(IIII)Z"⟩, 27) := ⟨⟨by decide +kernel, by decide +kernel⟩, List.mem_of_getElem? (i := 830) (by decide +kernel), List.mem_of_getElem? (i := 1120) (by decide +kernel), List.mem_of_getElem? (i := 1121) (by decide +kernel)⟩
def lw_privs_3 : List (MethodName × Nat) := [(⟨"LearnLoansModel", "planAt", "(II)I"⟩, 27), (⟨"LearnLoansModel", "work", "(I)Z"⟩, 27), (⟨"LearnLoansModel", "lay", "(J)V"⟩, 27), (⟨"LearnLoansModel", "top", "()I"⟩, 27), (⟨"LearnLoansModel", "opened", "()I"⟩, 27), (⟨"LearnLoansModel", "wait", "(I)V"⟩, 27), (⟨"LearnLoansModel", "behind", "(I)Z"⟩, 27), (⟨"LearnLoansModel", "reduce", "(I)V"⟩, 27), (⟨"LearnLoansModel", "choose", "()V"⟩, 27), (⟨"LearnLoansModel", "ofLoan", "(II)I"⟩, 27), (⟨"LearnLoansModel", "run", "(III)V"⟩, 27), (⟨"LearnLoansModel", "beginRun", "()V"⟩, 27), (⟨"LearnLoansModel", "stepYea\x72", "(IIIIZJ)V"⟩, 27), (⟨"LearnLoansModel", "begin", "(IIIIZ)V"⟩, 27), (⟨"LearnLoansModel", "rateOf", "(IIII)I"⟩, 27), (⟨"LearnLoansModel", "isIn", "(IIII)Z"⟩, 27)]
theorem lw_r3 : ∀ q ∈ lw_privs_3, lw_okq q := List.forall_mem_cons.mpr ⟨lw_p32, List.forall_mem_cons.mpr ⟨lw_p33, List.forall_mem_cons.mpr ⟨lw_p34, List.forall_mem_cons.mpr ⟨lw_p35, List.forall_mem_cons.mpr ⟨lw_p36, List.forall_mem_cons.mpr ⟨lw_p37, List.forall_mem_cons.mpr ⟨lw_p38, List.forall_mem_cons.mpr ⟨lw_p39, List.forall_mem_cons.mpr ⟨lw_p40, List.forall_mem_cons.mpr ⟨lw_p41, List.forall_mem_cons.mpr ⟨lw_p42, List.forall_mem_cons.mpr ⟨lw_p43, List.forall_mem_cons.mpr ⟨lw_p44, List.forall_mem_cons.mpr ⟨lw_p45, List.forall_mem_cons.mpr ⟨lw_p46, List.forall_mem_cons.mpr ⟨lw_p47, fun _ h => absurd h List.not_mem_nil⟩⟩⟩⟩⟩⟩⟩⟩⟩⟩⟩⟩⟩⟩⟩⟩
theorem lw_p48 : lw_okq (⟨"LearnLoansModel", "dueOf", "(IIII)J"⟩, 27) := ⟨⟨by decide +kernel, by decide +kernel⟩, List.mem_of_getElem? (i := 830) (by decide +kernel), List.mem_of_getElem? (i := 1124) (by decide +kernel), List.mem_of_getElem? (i := 1125) (by decide +kernel)⟩
theorem lw_p49 : lw_okq (⟨"LearnLoansModel", "runOf", "(II)J"⟩, 27) := ⟨⟨by decide +kernel, by decide +kernel⟩, List.mem_of_getElem? (i := 830) (by decide +kernel), List.mem_of_getElem? (i := 1128) (by decide +kernel), List.mem_of_getElem? (i := 1129) (by decide +kernel)⟩
theorem lw_p50 : lw_okq (⟨"LearnLoansModel", "allOf", "(II)J"⟩, 27) := ⟨⟨by decide +kernel, by decide +kernel⟩, List.mem_of_getElem? (i := 830) (by decide +kernel), List.mem_of_getElem? (i := 1136) (by decide +kernel), List.mem_of_getElem? (i := 1137) (by decide +kernel)⟩
theorem lw_p51 : lw_okq (⟨"LearnLoansModel", "lived", "(IIIIJ)J"⟩, 27) := ⟨⟨by decide +kernel, by decide +kernel⟩, List.mem_of_getElem? (i := 830) (by decide +kernel), List.mem_of_getElem? (i := 1173) (by decide +kernel), List.mem_of_getElem? (i := 1174) (by decide +kernel)⟩
theorem lw_p52 : lw_okq (⟨"LearnLoansModel", "keep", "()V"⟩, 27) := ⟨⟨by decide +kernel, by decide +kernel⟩, List.mem_of_getElem? (i := 830) (by decide +kernel), List.mem_of_getElem? (i := 1190) (by decide +kernel), List.mem_of_getElem? (i := 1191) (by decide +kernel)⟩
theorem lw_p53 : lw_okq (⟨"LearnLoansModel", "goWay", "(IIIIII)J"⟩, 27) := ⟨⟨by decide +kernel, by decide +kernel⟩, List.mem_of_getElem? (i := 830) (by decide +kernel), List.mem_of_getElem? (i := 1195) (by decide +kernel), List.mem_of_getElem? (i := 1196) (by decide +kernel)⟩
theorem lw_p54 : lw_okq (⟨"LearnLoansModel", "back", "()V"⟩, 27) := ⟨⟨by decide +kernel, by decide +kernel⟩, List.mem_of_getElem? (i := 830) (by decide +kernel), List.mem_of_getElem? (i := 1199) (by decide +kernel), List.mem_of_getElem? (i := 1200) (by decide +kernel)⟩
theorem lw_p55 : lw_okq (⟨"LearnLoansModel", "chanceOf", "(II)I"⟩, 27) := ⟨⟨by decide +kernel, by decide +kernel⟩, List.mem_of_getElem? (i := 830) (by decide +kernel), List.mem_of_getElem? (i := 1203) (by decide +kernel), List.mem_of_getElem? (i := 1204) (by decide +kernel)⟩
theorem lw_p56 : lw_okq (⟨"LearnLoansModel", "triedOf", "(IIIII)J"⟩, 27) := ⟨⟨by decide +kernel, by decide +kernel⟩, List.mem_of_getElem? (i := 830) (by decide +kernel), List.mem_of_getElem? (i := 1211) (by decide +kernel), List.mem_of_getElem? (i := 1212) (by decide +kernel)⟩
def lw_privs_4 : List (MethodName × Nat) := [(⟨"LearnLoansModel", "dueOf", "(IIII)J"⟩, 27), (⟨"LearnLoansModel", "runOf", "(II)J"⟩, 27), (⟨"LearnLoansModel", "allOf", "(II)J"⟩, 27), (⟨"LearnLoansModel", "lived", "(IIIIJ)J"⟩, 27), (⟨"LearnLoansModel", "keep", "()V"⟩, 27), (⟨"LearnLoansModel", "goWay", "(IIIIII)J"⟩, 27), (⟨"LearnLoansModel", "back", "()V"⟩, 27), (⟨"LearnLoansModel", "chanceOf", "(II)I"⟩, 27), (⟨"LearnLoansModel", "triedOf", "(IIIII)J"⟩, 27)]
theorem lw_r4 : ∀ q ∈ lw_privs_4, lw_okq q := List.forall_mem_cons.mpr ⟨lw_p48, List.forall_mem_cons.mpr ⟨lw_p49, List.forall_mem_cons.mpr ⟨lw_p50, List.forall_mem_cons.mpr ⟨lw_p51, List.forall_mem_cons.mpr ⟨lw_p52, List.forall_mem_cons.mpr ⟨lw_p53, List.forall_mem_cons.mpr ⟨lw_p54, List.forall_mem_cons.mpr ⟨lw_p55, List.forall_mem_cons.mpr ⟨lw_p56, fun _ h => absurd h List.not_mem_nil⟩⟩⟩⟩⟩⟩⟩⟩⟩
def lw_privs : List (MethodName × Nat) := lw_privs_1 ++ (lw_privs_2 ++ (lw_privs_3 ++ (lw_privs_4)))
def lw_tbl : List Cond := k2_sels lw_privs ++ tables_1
theorem lw_privs_ok : ∀ q ∈ lw_privs, lw_okq q := by
  show ∀ q ∈ lw_privs_1 ++ (lw_privs_2 ++ (lw_privs_3 ++ (lw_privs_4))), lw_okq q
  exact List.forall_mem_append.mpr ⟨lw_r1, List.forall_mem_append.mpr ⟨lw_r2, List.forall_mem_append.mpr ⟨lw_r3, lw_r4⟩⟩⟩

/-! names of the classes and methods, out of the printed names -/
def RX0 : String := "LearnLoans$House"
def TX0 : u_T := fun k => match k with
  | 0 => ("LearnLoans$House", "people", "LLearnLoans$People;", true)
  | 1 => ("LearnLoans$House", "scales", "[I", true)
  | 2 => ("LearnLoans$House", "prices", "[I", true)
  | 3 => ("LearnLoans$House", "acts", "LLearnLoans$Rows;", true)
  | 4 => ("LearnLoans$House", "loans", "LLearnLoans$Rows;", true)
  | 5 => ("LearnLoans$House", "moves", "LLearnLoans$Rows;", true)
  | 6 => ("LearnLoans$House", "planAt", "[I", true)
  | 7 => ("LearnLoans$House", "texts", "[LLearnLoans$Text;", true)
  | 8 => ("LearnLoans$House", "promises", "LLearnLoans$Rows;", true)
  | 9 => ("LearnLoans$House", "lives", "[I", true)
  | 10 => ("LearnLoans$House", "chances", "[I", true)
  | 11 => ("LearnLoans$House", "told", "[I", true)
  | _ => ("LearnLoans$House", "toldSize", "I", false)
def tyX0 : Nat → FieldType := fun k => match k with
  | 0 => .object "LearnLoans$People"
  | 1 => .array .int
  | 2 => .array .int
  | 3 => .object "LearnLoans$Rows"
  | 4 => .object "LearnLoans$Rows"
  | 5 => .object "LearnLoans$Rows"
  | 6 => .array .int
  | 7 => .array (.object "LearnLoans$Text")
  | 8 => .object "LearnLoans$Rows"
  | 9 => .array .int
  | 10 => .array .int
  | 11 => .array .int
  | _ => .int
theorem nmX0 : ∀ a, a < 13 → ∀ b, b < 13 → a ≠ b → (TX0 a).2.1 ≠ (TX0 b).2.1 := by decide +kernel
theorem tyX0_ok : ∀ k, k < 13 → parseFieldDescriptor (TX0 k).2.2.1 = some (tyX0 k) := by decide +kernel
abbrev cX0_init : ByteArray := prog_2_method_1_code
def yX0_init : MethodName := ⟨RX0, "<init>", "()V"⟩
abbrev cX0_addAct : ByteArray := prog_2_method_2_code
def yX0_addAct : MethodName := ⟨RX0, "addAct", "(IIIIII)I"⟩
abbrev cX0_givenBack : ByteArray := prog_2_method_3_code
def yX0_givenBack : MethodName := ⟨RX0, "givenBack", "(I)J"⟩
abbrev cX0_promised : ByteArray := prog_2_method_4_code
def yX0_promised : MethodName := ⟨RX0, "promised", "(II)J"⟩
abbrev cX0_takeOver : ByteArray := prog_2_method_5_code
def yX0_takeOver : MethodName := ⟨RX0, "takeOve\x72", "(LLearnLoans$House;)V"⟩
def RX1 : String := "LearnLoans$Letters"
def TX1 : u_T := fun k => match k with
  | 0 => ("LearnLoans$Letters", "rate", "J", false)
  | 1 => ("LearnLoans$Letters", "prices", "J", false)
  | 2 => ("LearnLoans$Letters", "earned", "J", false)
  | 3 => ("LearnLoans$Letters", "line", "J", false)
  | 4 => ("LearnLoans$Letters", "years", "J", false)
  | 5 => ("LearnLoans$Letters", "owed", "J", false)
  | _ => ("LearnLoans$Letters", "land", "J", false)
def tyX1 : Nat → FieldType := fun k => match k with
  | 0 => .long
  | 1 => .long
  | 2 => .long
  | 3 => .long
  | 4 => .long
  | 5 => .long
  | _ => .long
theorem nmX1 : ∀ a, a < 7 → ∀ b, b < 7 → a ≠ b → (TX1 a).2.1 ≠ (TX1 b).2.1 := by decide +kernel
theorem tyX1_ok : ∀ k, k < 7 → parseFieldDescriptor (TX1 k).2.2.1 = some (tyX1 k) := by decide +kernel
abbrev cX1_init : ByteArray := prog_3_method_1_code
def yX1_init : MethodName := ⟨RX1, "<init>", "()V"⟩
abbrev cX1_valueOf : ByteArray := prog_3_method_2_code
def yX1_valueOf : MethodName := ⟨RX1, "valueOf", "(I)J"⟩
def RX2 : String := "LearnLoans$People"
def TX2 : u_T := fun k => match k with
  | 0 => ("LearnLoans$People", "began", "[I", true)
  | 1 => ("LearnLoans$People", "died", "[I", true)
  | 2 => ("LearnLoans$People", "lands", "[I", true)
  | 3 => ("LearnLoans$People", "first", "[I", true)
  | 4 => ("LearnLoans$People", "firstKnown", "[I", true)
  | 5 => ("LearnLoans$People", "second", "[I", true)
  | 6 => ("LearnLoans$People", "secondKnown", "[I", true)
  | _ => ("LearnLoans$People", "size", "I", false)
def tyX2 : Nat → FieldType := fun k => match k with
  | 0 => .array .int
  | 1 => .array .int
  | 2 => .array .int
  | 3 => .array .int
  | 4 => .array .int
  | 5 => .array .int
  | 6 => .array .int
  | _ => .int
theorem nmX2 : ∀ a, a < 8 → ∀ b, b < 8 → a ≠ b → (TX2 a).2.1 ≠ (TX2 b).2.1 := by decide +kernel
theorem tyX2_ok : ∀ k, k < 8 → parseFieldDescriptor (TX2 k).2.2.1 = some (tyX2 k) := by decide +kernel
abbrev cX2_init : ByteArray := prog_4_method_1_code
def yX2_init : MethodName := ⟨RX2, "<init>", "()V"⟩
abbrev cX2_earned : ByteArray := prog_4_method_2_code
def yX2_earned : MethodName := ⟨RX2, "earned", "(III)I"⟩
abbrev cX2_isDead : ByteArray := prog_4_method_3_code
def yX2_isDead : MethodName := ⟨RX2, "isDead", "(II)Z"⟩
abbrev cX2_takeOver : ByteArray := prog_4_method_4_code
def yX2_takeOver : MethodName := ⟨RX2, "takeOve\x72", "(LLearnLoans$People;)V"⟩
abbrev cX2_mixed : ByteArray := prog_4_method_5_code
def yX2_mixed : MethodName := ⟨RX2, "mixed", "(J)J"⟩
def RX3 : String := "LearnLoans$Rows"
def TX3 : u_T := fun k => match k with
  | 0 => ("LearnLoans$Rows", "cells", "[I", true)
  | 1 => ("LearnLoans$Rows", "wide", "I", true)
  | _ => ("LearnLoans$Rows", "size", "I", false)
def tyX3 : Nat → FieldType := fun k => match k with
  | 0 => .array .int
  | 1 => .int
  | _ => .int
theorem nmX3 : ∀ a, a < 3 → ∀ b, b < 3 → a ≠ b → (TX3 a).2.1 ≠ (TX3 b).2.1 := by decide +kernel
theorem tyX3_ok : ∀ k, k < 3 → parseFieldDescriptor (TX3 k).2.2.1 = some (tyX3 k) := by decide +kernel
abbrev cX3_init : ByteArray := prog_5_method_1_code
def yX3_init : MethodName := ⟨RX3, "<init>", "([II)V"⟩
abbrev cX3_at : ByteArray := prog_5_method_2_code
def yX3_at : MethodName := ⟨RX3, "at", "(II)I"⟩
abbrev cX3_put : ByteArray := prog_5_method_3_code
def yX3_put : MethodName := ⟨RX3, "put", "(III)V"⟩
abbrev cX3_add : ByteArray := prog_5_method_4_code
def yX3_add : MethodName := ⟨RX3, "add", "(III)I"⟩
abbrev cX3_dropLast : ByteArray := prog_5_method_5_code
def yX3_dropLast : MethodName := ⟨RX3, "dropLast", "()V"⟩
abbrev cX3_takeOver : ByteArray := prog_5_method_6_code
def yX3_takeOver : MethodName := ⟨RX3, "takeOve\x72", "(LLearnLoans$Rows;)V"⟩
abbrev cX3_mixed : ByteArray := prog_5_method_7_code
def yX3_mixed : MethodName := ⟨RX3, "mixed", "(J)J"⟩
def RX4 : String := "LearnLoans$Run"
def TX4 : u_T := fun k => match k with
  | 0 => ("LearnLoans$Run", "house", "LLearnLoans$House;", true)
  | 1 => ("LearnLoans$Run", "numbers", "[I", true)
  | 2 => ("LearnLoans$Run", "sums", "[J", true)
  | 3 => ("LearnLoans$Run", "mine", "[I", true)
  | 4 => ("LearnLoans$Run", "queue", "[I", true)
  | 5 => ("LearnLoans$Run", "letters", "LLearnLoans$Letters;", true)
  | 6 => ("LearnLoans$Run", "stack", "[J", true)
  | 7 => ("LearnLoans$Run", "size", "I", false)
  | 8 => ("LearnLoans$Run", "person", "I", false)
  | 9 => ("LearnLoans$Run", "known", "I", false)
  | 10 => ("LearnLoans$Run", "nextYea\x72", "I", false)
  | 11 => ("LearnLoans$Run", "life", "I", false)
  | 12 => ("LearnLoans$Run", "plan", "I", false)
  | 13 => ("LearnLoans$Run", "due", "J", false)
  | 14 => ("LearnLoans$Run", "paid", "J", false)
  | 15 => ("LearnLoans$Run", "earned", "I", false)
  | 16 => ("LearnLoans$Run", "land", "I", false)
  | _ => ("LearnLoans$Run", "dead", "Z", false)
def tyX4 : Nat → FieldType := fun k => match k with
  | 0 => .object "LearnLoans$House"
  | 1 => .array .int
  | 2 => .array .long
  | 3 => .array .int
  | 4 => .array .int
  | 5 => .object "LearnLoans$Letters"
  | 6 => .array .long
  | 7 => .int
  | 8 => .int
  | 9 => .int
  | 10 => .int
  | 11 => .int
  | 12 => .int
  | 13 => .long
  | 14 => .long
  | 15 => .int
  | 16 => .int
  | _ => .boolean
theorem nmX4 : ∀ a, a < 18 → ∀ b, b < 18 → a ≠ b → (TX4 a).2.1 ≠ (TX4 b).2.1 := by decide +kernel
theorem tyX4_ok : ∀ k, k < 18 → parseFieldDescriptor (TX4 k).2.2.1 = some (tyX4 k) := by decide +kernel
abbrev cX4_init : ByteArray := prog_6_method_1_code
def yX4_init : MethodName := ⟨RX4, "<init>", "()V"⟩
abbrev cX4_begin : ByteArray := prog_6_method_2_code
def yX4_begin : MethodName := ⟨RX4, "begin", "(II)V"⟩
abbrev cX4_turnTo : ByteArray := prog_6_method_3_code
def yX4_turnTo : MethodName := ⟨RX4, "turnTo", "(IIJ)V"⟩
abbrev cX4_go : ByteArray := prog_6_method_4_code
def yX4_go : MethodName := ⟨RX4, "go", "(I)V"⟩
abbrev cX4_layNumbers : ByteArray := prog_6_method_5_code
def yX4_layNumbers : MethodName := ⟨RX4, "layNumbers", "(I)V"⟩
abbrev cX4_layAct : ByteArray := prog_6_method_6_code
def yX4_layAct : MethodName := ⟨RX4, "layAct", "(III)V"⟩
abbrev cX4_look : ByteArray := prog_6_method_7_code
def yX4_look : MethodName := ⟨RX4, "look", "(I)V"⟩
abbrev cX4_suppose : ByteArray := prog_6_method_8_code
def yX4_suppose : MethodName := ⟨RX4, "suppose", "(IIZ)V"⟩
abbrev cX4_turn : ByteArray := prog_6_method_9_code
def yX4_turn : MethodName := ⟨RX4, "turn", "(I)V"⟩
abbrev cX4_isStruck : ByteArray := prog_6_method_10_code
def yX4_isStruck : MethodName := ⟨RX4, "isStruck", "(II)Z"⟩
abbrev cX4_grow : ByteArray := prog_6_method_11_code
def yX4_grow : MethodName := ⟨RX4, "grow", "(II)V"⟩
abbrev cX4_draw : ByteArray := prog_6_method_12_code
def yX4_draw : MethodName := ⟨RX4, "draw", "(II)V"⟩
abbrev cX4_planIn : ByteArray := prog_6_method_13_code
def yX4_planIn : MethodName := ⟨RX4, "planIn", "(II)I"⟩
abbrev cX4_cellOf : ByteArray := prog_6_method_14_code
def yX4_cellOf : MethodName := ⟨RX4, "cellOf", "(II)I"⟩
abbrev cX4_rateOf : ByteArray := prog_6_method_15_code
def yX4_rateOf : MethodName := ⟨RX4, "rateOf", "(II)I"⟩
abbrev cX4_lineUp : ByteArray := prog_6_method_16_code
def yX4_lineUp : MethodName := ⟨RX4, "lineUp", "(I)V"⟩
abbrev cX4_payAhead : ByteArray := prog_6_method_17_code
def yX4_payAhead : MethodName := ⟨RX4, "payAhead", "()V"⟩
abbrev cX4_takeAll : ByteArray := prog_6_method_18_code
def yX4_takeAll : MethodName := ⟨RX4, "takeAll", "(I)V"⟩
abbrev cX4_asked : ByteArray := prog_6_method_19_code
def yX4_asked : MethodName := ⟨RX4, "asked", "(I)J"⟩
abbrev cX4_together : ByteArray := prog_6_method_20_code
def yX4_together : MethodName := ⟨RX4, "togethe\x72", "(I)J"⟩
def RX5 : String := "LearnLoans$Text"
def TX5 : u_T := fun k => match k with
  | 0 => ("LearnLoans$Text", "signs", "[I", true)
  | 1 => ("LearnLoans$Text", "code", "[I", true)
  | 2 => ("LearnLoans$Text", "codes", "I", false)
  | 3 => ("LearnLoans$Text", "place", "I", false)
  | 4 => ("LearnLoans$Text", "open", "I", false)
  | 5 => ("LearnLoans$Text", "size", "I", false)
  | _ => ("LearnLoans$Text", "wrong", "I", false)
def tyX5 : Nat → FieldType := fun k => match k with
  | 0 => .array .int
  | 1 => .array .int
  | 2 => .int
  | 3 => .int
  | 4 => .int
  | 5 => .int
  | _ => .int
theorem nmX5 : ∀ a, a < 7 → ∀ b, b < 7 → a ≠ b → (TX5 a).2.1 ≠ (TX5 b).2.1 := by decide +kernel
theorem tyX5_ok : ∀ k, k < 7 → parseFieldDescriptor (TX5 k).2.2.1 = some (tyX5 k) := by decide +kernel
abbrev cX5_init : ByteArray := prog_7_method_1_code
def yX5_init : MethodName := ⟨RX5, "<init>", "()V"⟩
abbrev cX5_add : ByteArray := prog_7_method_2_code
def yX5_add : MethodName := ⟨RX5, "add", "(I)V"⟩
abbrev cX5_clear : ByteArray := prog_7_method_3_code
def yX5_clear : MethodName := ⟨RX5, "clea\x72", "()V"⟩
abbrev cX5_takeOver : ByteArray := prog_7_method_4_code
def yX5_takeOver : MethodName := ⟨RX5, "takeOve\x72", "(LLearnLoans$Text;)V"⟩
abbrev cX5_mixed : ByteArray := prog_7_method_5_code
def yX5_mixed : MethodName := ⟨RX5, "mixed", "(J)J"⟩
abbrev cX5_blame : ByteArray := prog_7_method_6_code
def yX5_blame : MethodName := ⟨RX5, "blame", "(II)V"⟩
abbrev cX5_emit : ByteArray := prog_7_method_7_code
def yX5_emit : MethodName := ⟨RX5, "emit", "(I)V"⟩
abbrev cX5_next : ByteArray := prog_7_method_8_code
def yX5_next : MethodName := ⟨RX5, "next", "()I"⟩
abbrev cX5_pass : ByteArray := prog_7_method_9_code
def yX5_pass : MethodName := ⟨RX5, "pass", "(I)V"⟩
abbrev cX5_readValue : ByteArray := prog_7_method_10_code
def yX5_readValue : MethodName := ⟨RX5, "readValue", "(I)V"⟩
abbrev cX5_readChain : ByteArray := prog_7_method_11_code
def yX5_readChain : MethodName := ⟨RX5, "readChain", "(II)V"⟩
abbrev cX5_levelOf : ByteArray := prog_7_method_12_code
def yX5_levelOf : MethodName := ⟨RX5, "levelOf", "(I)I"⟩
abbrev cX5_passSigns : ByteArray := prog_7_method_13_code
def yX5_passSigns : MethodName := ⟨RX5, "passSigns", "()I"⟩
abbrev cX5_emitSigns : ByteArray := prog_7_method_14_code
def yX5_emitSigns : MethodName := ⟨RX5, "emitSigns", "(II)V"⟩
abbrev cX5_readPlain : ByteArray := prog_7_method_15_code
def yX5_readPlain : MethodName := ⟨RX5, "readPlain", "(I)V"⟩
abbrev cX5_readDigits : ByteArray := prog_7_method_16_code
def yX5_readDigits : MethodName := ⟨RX5, "readDigits", "()V"⟩
abbrev cX5_isDigit : ByteArray := prog_7_method_17_code
def yX5_isDigit : MethodName := ⟨RX5, "isDigit", "(I)Z"⟩
abbrev cX5_worked : ByteArray := prog_7_method_18_code
def yX5_worked : MethodName := ⟨RX5, "worked", "(LLearnLoans$Letters;[J)J"⟩
abbrev cX5_operands : ByteArray := prog_7_method_19_code
def yX5_operands : MethodName := ⟨RX5, "operands", "(I)I"⟩
abbrev cX5_joined : ByteArray := prog_7_method_20_code
def yX5_joined : MethodName := ⟨RX5, "joined", "(IJJ)J"⟩
def RX6 : String := "LearnLoans$Ways"
def TX6 : u_T := fun k => match k with
  | 0 => ("LearnLoans$Ways", "run", "LLearnLoans$Run;", true)
  | 1 => ("LearnLoans$Ways", "owedAhead", "[J", true)
  | 2 => ("LearnLoans$Ways", "yea\x72", "I", false)
  | 3 => ("LearnLoans$Ways", "years", "I", false)
  | 4 => ("LearnLoans$Ways", "pence", "I", false)
  | 5 => ("LearnLoans$Ways", "mean", "J", false)
  | 6 => ("LearnLoans$Ways", "least", "J", false)
  | 7 => ("LearnLoans$Ways", "greatest", "J", false)
  | _ => ("LearnLoans$Ways", "neve\x72", "J", false)
def tyX6 : Nat → FieldType := fun k => match k with
  | 0 => .object "LearnLoans$Run"
  | 1 => .array .long
  | 2 => .int
  | 3 => .int
  | 4 => .int
  | 5 => .long
  | 6 => .long
  | 7 => .long
  | _ => .long
theorem nmX6 : ∀ a, a < 9 → ∀ b, b < 9 → a ≠ b → (TX6 a).2.1 ≠ (TX6 b).2.1 := by decide +kernel
theorem tyX6_ok : ∀ k, k < 9 → parseFieldDescriptor (TX6 k).2.2.1 = some (tyX6 k) := by decide +kernel
abbrev cX6_init : ByteArray := prog_8_method_1_code
def yX6_init : MethodName := ⟨RX6, "<init>", "()V"⟩
abbrev cX6_follow : ByteArray := prog_8_method_2_code
def yX6_follow : MethodName := ⟨RX6, "follow", "(IIIII)V"⟩
abbrev cX6_walk : ByteArray := prog_8_method_3_code
def yX6_walk : MethodName := ⟨RX6, "walk", "(LLearnLoans$Ways;IIJJJ)V"⟩
abbrev cX6_end : ByteArray := prog_8_method_4_code
def yX6_end : MethodName := ⟨RX6, "end", "(JJJ)V"⟩
def RX7 : String := "LearnLoans"
def TX7 : u_T := fun k => match k with
  | 0 => ("LearnLoans", "house", "LLearnLoans$House;", true)
  | 1 => ("LearnLoans", "images", "[LLearnLoans$House;", true)
  | 2 => ("LearnLoans", "run", "LLearnLoans$Run;", true)
  | _ => ("LearnLoans", "ways", "LLearnLoans$Ways;", true)
def tyX7 : Nat → FieldType := fun k => match k with
  | 0 => .object "LearnLoans$House"
  | 1 => .array (.object "LearnLoans$House")
  | 2 => .object "LearnLoans$Run"
  | _ => .object "LearnLoans$Ways"
theorem nmX7 : ∀ a, a < 4 → ∀ b, b < 4 → a ≠ b → (TX7 a).2.1 ≠ (TX7 b).2.1 := by decide +kernel
theorem tyX7_ok : ∀ k, k < 4 → parseFieldDescriptor (TX7 k).2.2.1 = some (tyX7 k) := by decide +kernel
abbrev cX7_init : ByteArray := prog_1_method_1_code
def yX7_init : MethodName := ⟨RX7, "<init>", "()V"⟩
abbrev cX7_person : ByteArray := prog_1_method_2_code
def yX7_person : MethodName := ⟨RX7, "person", "(I)I"⟩
abbrev cX7_land : ByteArray := prog_1_method_3_code
def yX7_land : MethodName := ⟨RX7, "land", "(IIII)I"⟩
abbrev cX7_scale : ByteArray := prog_1_method_4_code
def yX7_scale : MethodName := ⟨RX7, "scale", "(II)I"⟩
abbrev cX7_prices : ByteArray := prog_1_method_5_code
def yX7_prices : MethodName := ⟨RX7, "prices", "(II)I"⟩
abbrev cX7_dies : ByteArray := prog_1_method_6_code
def yX7_dies : MethodName := ⟨RX7, "dies", "(II)I"⟩
abbrev cX7_earn : ByteArray := prog_1_method_7_code
def yX7_earn : MethodName := ⟨RX7, "earn", "(IIII)I"⟩
abbrev cX7_right : ByteArray := prog_1_method_8_code
def yX7_right : MethodName := ⟨RX7, "right", "(IIII)I"⟩
abbrev cX7_earnings : ByteArray := prog_1_method_9_code
def yX7_earnings : MethodName := ⟨RX7, "earnings", "(III)I"⟩
abbrev cX7_act : ByteArray := prog_1_method_10_code
def yX7_act : MethodName := ⟨RX7, "act", "(IIIIII)I"⟩
abbrev cX7_force : ByteArray := prog_1_method_11_code
def yX7_force : MethodName := ⟨RX7, "force", "(IIII)I"⟩
abbrev cX7_loan : ByteArray := prog_1_method_12_code
def yX7_loan : MethodName := ⟨RX7, "loan", "(IIIIZ)I"⟩
abbrev cX7_leave : ByteArray := prog_1_method_13_code
def yX7_leave : MethodName := ⟨RX7, "leave", "(II)I"⟩
abbrev cX7_move : ByteArray := prog_1_method_14_code
def yX7_move : MethodName := ⟨RX7, "move", "(III)I"⟩
abbrev cX7_planOf : ByteArray := prog_1_method_15_code
def yX7_planOf : MethodName := ⟨RX7, "planOf", "(II)I"⟩
abbrev cX7_owes : ByteArray := prog_1_method_16_code
def yX7_owes : MethodName := ⟨RX7, "owes", "(IIII)J"⟩
abbrev cX7_all : ByteArray := prog_1_method_17_code
def yX7_all : MethodName := ⟨RX7, "all", "(IIII)J"⟩
abbrev cX7_rate : ByteArray := prog_1_method_18_code
def yX7_rate : MethodName := ⟨RX7, "rate", "(III)I"⟩
abbrev cX7_over : ByteArray := prog_1_method_19_code
def yX7_over : MethodName := ⟨RX7, "ove\x72", "(III)J"⟩
abbrev cX7_write : ByteArray := prog_1_method_20_code
def yX7_write : MethodName := ⟨RX7, "write", "(II)I"⟩
abbrev cX7_erase : ByteArray := prog_1_method_21_code
def yX7_erase : MethodName := ⟨RX7, "erase", "(I)I"⟩
abbrev cX7_fault : ByteArray := prog_1_method_22_code
def yX7_fault : MethodName := ⟨RX7, "fault", "(I)I"⟩
abbrev cX7_sell : ByteArray := prog_1_method_23_code
def yX7_sell : MethodName := ⟨RX7, "sell", "(III)I"⟩
abbrev cX7_promise : ByteArray := prog_1_method_24_code
def yX7_promise : MethodName := ⟨RX7, "promise", "(III)I"⟩
abbrev cX7_book : ByteArray := prog_1_method_25_code
def yX7_book : MethodName := ⟨RX7, "book", "(IIII)J"⟩
abbrev cX7_live : ByteArray := prog_1_method_26_code
def yX7_live : MethodName := ⟨RX7, "live", "(IIII)I"⟩
abbrev cX7_early : ByteArray := prog_1_method_27_code
def yX7_early : MethodName := ⟨RX7, "early", "(IIII)I"⟩
abbrev cX7_choice : ByteArray := prog_1_method_28_code
def yX7_choice : MethodName := ⟨RX7, "choice", "(IIIII)J"⟩
abbrev cX7_chances : ByteArray := prog_1_method_29_code
def yX7_chances : MethodName := ⟨RX7, "chances", "(IIIII)I"⟩
abbrev cX7_foretold : ByteArray := prog_1_method_30_code
def yX7_foretold : MethodName := ⟨RX7, "foretold", "(IIIIII)J"⟩
abbrev cX7_tried : ByteArray := prog_1_method_31_code
def yX7_tried : MethodName := ⟨RX7, "tried", "(IIIII)J"⟩
abbrev cX7_tell : ByteArray := prog_1_method_32_code
def yX7_tell : MethodName := ⟨RX7, "tell", "(I)I"⟩
abbrev cX7_untell : ByteArray := prog_1_method_33_code
def yX7_untell : MethodName := ⟨RX7, "untell", "()I"⟩
abbrev cX7_best : ByteArray := prog_1_method_34_code
def yX7_best : MethodName := ⟨RX7, "best", "(IIIIIJ)I"⟩
abbrev cX7_image : ByteArray := prog_1_method_35_code
def yX7_image : MethodName := ⟨RX7, "image", "(I)I"⟩
abbrev cX7_from : ByteArray := prog_1_method_36_code
def yX7_from : MethodName := ⟨RX7, "from", "(I)I"⟩
abbrev cX7_count : ByteArray := prog_1_method_37_code
def yX7_count : MethodName := ⟨RX7, "count", "(I)I"⟩
abbrev cX7_digest : ByteArray := prog_1_method_38_code
def yX7_digest : MethodName := ⟨RX7, "digest", "()J"⟩
abbrev cX7_within : ByteArray := prog_1_method_39_code
def yX7_within : MethodName := ⟨RX7, "within", "(III)Z"⟩
abbrev cX7_isYear : ByteArray := prog_1_method_40_code
def yX7_isYear : MethodName := ⟨RX7, "isYea\x72", "(I)Z"⟩
abbrev cX7_isSpan : ByteArray := prog_1_method_41_code
def yX7_isSpan : MethodName := ⟨RX7, "isSpan", "(II)Z"⟩
abbrev cX7_isPence : ByteArray := prog_1_method_42_code
def yX7_isPence : MethodName := ⟨RX7, "isPence", "(I)Z"⟩
abbrev cX7_isPlan : ByteArray := prog_1_method_43_code
def yX7_isPlan : MethodName := ⟨RX7, "isPlan", "(I)Z"⟩
abbrev cX7_isNumber : ByteArray := prog_1_method_44_code
def yX7_isNumber : MethodName := ⟨RX7, "isNumbe\x72", "(II)Z"⟩
abbrev cX7_isChance : ByteArray := prog_1_method_45_code
def yX7_isChance : MethodName := ⟨RX7, "isChance", "(I)Z"⟩
abbrev cX7_isPerson : ByteArray := prog_1_method_46_code
def yX7_isPerson : MethodName := ⟨RX7, "isPerson", "(I)Z"⟩
abbrev cX7_isLoan : ByteArray := prog_1_method_47_code
def yX7_isLoan : MethodName := ⟨RX7, "isLoan", "(I)Z"⟩
abbrev cX7_lay : ByteArray := prog_1_method_48_code
def yX7_lay : MethodName := ⟨RX7, "lay", "([IIII)V"⟩
abbrev cX7_together : ByteArray := prog_1_method_49_code
def yX7_together : MethodName := ⟨RX7, "togethe\x72", "(IIII)J"⟩
abbrev cX7_runEverybody : ByteArray := prog_1_method_50_code
def yX7_runEverybody : MethodName := ⟨RX7, "runEverybody", "(II)V"⟩
abbrev cX7_takenByLife : ByteArray := prog_1_method_51_code
def yX7_takenByLife : MethodName := ⟨RX7, "takenByLife", "(IIIIII)J"⟩
abbrev cX7_takenIf : ByteArray := prog_1_method_52_code
def yX7_takenIf : MethodName := ⟨RX7, "takenIf", "(IIIII)J"⟩
abbrev cX7_isNearer : ByteArray := prog_1_method_53_code
def yX7_isNearer : MethodName := ⟨RX7, "isNeare\x72", "(III)Z"⟩
def RX8 : String := "LearnLoansModel"
def TX8 : u_T := fun k => match k with
  | 0 => ("LearnLoansModel", "cells", "[I", true)
  | 1 => ("LearnLoansModel", "images", "[I", true)
  | 2 => ("LearnLoansModel", "hasImage", "[Z", true)
  | 3 => ("LearnLoansModel", "tryPlan", "I", false)
  | 4 => ("LearnLoansModel", "tryWhat", "I", false)
  | 5 => ("LearnLoansModel", "tryIs", "I", false)
  | 6 => ("LearnLoansModel", "tryFrom", "I", false)
  | 7 => ("LearnLoansModel", "leadPlan", "I", false)
  | 8 => ("LearnLoansModel", "leadFrom", "I", false)
  | 9 => ("LearnLoansModel", "waits", "[I", true)
  | 10 => ("LearnLoansModel", "worked", "[J", true)
  | 11 => ("LearnLoansModel", "waitMany", "I", false)
  | 12 => ("LearnLoansModel", "workedMany", "I", false)
  | 13 => ("LearnLoansModel", "facts", "[J", true)
  | 14 => ("LearnLoansModel", "faultAt", "I", false)
  | 15 => ("LearnLoansModel", "owed", "[J", true)
  | 16 => ("LearnLoansModel", "taken", "[J", true)
  | 17 => ("LearnLoansModel", "takenAll", "[J", true)
  | 18 => ("LearnLoansModel", "takenSold", "[J", true)
  | 19 => ("LearnLoansModel", "struck", "[J", true)
  | 20 => ("LearnLoansModel", "grown", "[J", true)
  | 21 => ("LearnLoansModel", "isStruck", "[Z", true)
  | 22 => ("LearnLoansModel", "paid", "J", false)
  | 23 => ("LearnLoansModel", "owedThen", "[J", true)
  | 24 => ("LearnLoansModel", "struckThen", "[Z", true)
  | 25 => ("LearnLoansModel", "takenWay", "J", false)
  | _ => ("LearnLoansModel", "neverWay", "J", false)
def tyX8 : Nat → FieldType := fun k => match k with
  | 0 => .array .int
  | 1 => .array .int
  | 2 => .array .boolean
  | 3 => .int
  | 4 => .int
  | 5 => .int
  | 6 => .int
  | 7 => .int
  | 8 => .int
  | 9 => .array .int
  | 10 => .array .long
  | 11 => .int
  | 12 => .int
  | 13 => .array .long
  | 14 => .int
  | 15 => .array .long
  | 16 => .array .long
  | 17 => .array .long
  | 18 => .array .long
  | 19 => .array .long
  | 20 => .array .long
  | 21 => .array .boolean
  | 22 => .long
  | 23 => .array .long
  | 24 => .array .boolean
  | 25 => .long
  | _ => .long
theorem nmX8 : ∀ a, a < 27 → ∀ b, b < 27 → a ≠ b → (TX8 a).2.1 ≠ (TX8 b).2.1 := by decide +kernel
theorem tyX8_ok : ∀ k, k < 27 → parseFieldDescriptor (TX8 k).2.2.1 = some (tyX8 k) := by decide +kernel
abbrev cX8_init : ByteArray := prog_10_method_1_code
def yX8_init : MethodName := ⟨RX8, "<init>", "()V"⟩
abbrev cX8_in : ByteArray := prog_10_method_3_code
def yX8_in : MethodName := ⟨RX8, "in", "(JJJ)Z"⟩
abbrev cX8_isYear : ByteArray := prog_10_method_4_code
def yX8_isYear : MethodName := ⟨RX8, "isYea\x72", "(I)Z"⟩
abbrev cX8_isPerson : ByteArray := prog_10_method_5_code
def yX8_isPerson : MethodName := ⟨RX8, "isPerson", "(I)Z"⟩
abbrev cX8_isLoan : ByteArray := prog_10_method_6_code
def yX8_isLoan : MethodName := ⟨RX8, "isLoan", "(I)Z"⟩
abbrev cX8_isPlan : ByteArray := prog_10_method_7_code
def yX8_isPlan : MethodName := ⟨RX8, "isPlan", "(I)Z"⟩
abbrev cX8_person : ByteArray := prog_10_method_8_code
def yX8_person : MethodName := ⟨RX8, "person", "(I)I"⟩
abbrev cX8_land : ByteArray := prog_10_method_9_code
def yX8_land : MethodName := ⟨RX8, "land", "(IIII)I"⟩
abbrev cX8_scale : ByteArray := prog_10_method_10_code
def yX8_scale : MethodName := ⟨RX8, "scale", "(II)I"⟩
abbrev cX8_prices : ByteArray := prog_10_method_11_code
def yX8_prices : MethodName := ⟨RX8, "prices", "(II)I"⟩
abbrev cX8_dies : ByteArray := prog_10_method_12_code
def yX8_dies : MethodName := ⟨RX8, "dies", "(II)I"⟩
abbrev cX8_earn : ByteArray := prog_10_method_13_code
def yX8_earn : MethodName := ⟨RX8, "earn", "(IIII)I"⟩
abbrev cX8_right : ByteArray := prog_10_method_14_code
def yX8_right : MethodName := ⟨RX8, "right", "(IIII)I"⟩
abbrev cX8_earningsOf : ByteArray := prog_10_method_15_code
def yX8_earningsOf : MethodName := ⟨RX8, "earningsOf", "(III)I"⟩
abbrev cX8_earnings : ByteArray := prog_10_method_16_code
def yX8_earnings : MethodName := ⟨RX8, "earnings", "(III)I"⟩
abbrev cX8_atFirst : ByteArray := prog_10_method_17_code
def yX8_atFirst : MethodName := ⟨RX8, "atFirst", "(I)I"⟩
abbrev cX8_mayBe : ByteArray := prog_10_method_18_code
def yX8_mayBe : MethodName := ⟨RX8, "mayBe", "(II)Z"⟩
abbrev cX8_isWhat : ByteArray := prog_10_method_19_code
def yX8_isWhat : MethodName := ⟨RX8, "isWhat", "(I)Z"⟩
abbrev cX8_act : ByteArray := prog_10_method_20_code
def yX8_act : MethodName := ⟨RX8, "act", "(IIIIII)I"⟩
abbrev cX8_inForce : ByteArray := prog_10_method_21_code
def yX8_inForce : MethodName := ⟨RX8, "inForce", "(IIII)I"⟩
abbrev cX8_force : ByteArray := prog_10_method_22_code
def yX8_force : MethodName := ⟨RX8, "force", "(IIII)I"⟩
abbrev cX8_loan : ByteArray := prog_10_method_23_code
def yX8_loan : MethodName := ⟨RX8, "loan", "(IIIIZ)I"⟩
abbrev cX8_given : ByteArray := prog_10_method_24_code
def yX8_given : MethodName := ⟨RX8, "given", "(II)I"⟩
abbrev cX8_leave : ByteArray := prog_10_method_25_code
def yX8_leave : MethodName := ⟨RX8, "leave", "(II)I"⟩
abbrev cX8_move : ByteArray := prog_10_method_26_code
def yX8_move : MethodName := ⟨RX8, "move", "(III)I"⟩
abbrev cX8_planAt : ByteArray := prog_10_method_27_code
def yX8_planAt : MethodName := ⟨RX8, "planAt", "(II)I"⟩
abbrev cX8_planOf : ByteArray := prog_10_method_28_code
def yX8_planOf : MethodName := ⟨RX8, "planOf", "(II)I"⟩
abbrev cX8_write : ByteArray := prog_10_method_29_code
def yX8_write : MethodName := ⟨RX8, "write", "(II)I"⟩
abbrev cX8_erase : ByteArray := prog_10_method_30_code
def yX8_erase : MethodName := ⟨RX8, "erase", "(I)I"⟩
abbrev cX8_factOf : ByteArray := prog_10_method_31_code
def yX8_factOf : MethodName := ⟨RX8, "factOf", "(I)I"⟩
abbrev cX8_closeness : ByteArray := prog_10_method_32_code
def yX8_closeness : MethodName := ⟨RX8, "closeness", "(I)I"⟩
abbrev cX8_told : ByteArray := prog_10_method_33_code
def yX8_told : MethodName := ⟨RX8, "told", "(Z)J"⟩
abbrev cX8_between : ByteArray := prog_10_method_34_code
def yX8_between : MethodName := ⟨RX8, "between", "(IJJ)J"⟩
abbrev cX8_top : ByteArray := prog_10_method_35_code
def yX8_top : MethodName := ⟨RX8, "top", "()I"⟩
abbrev cX8_lay : ByteArray := prog_10_method_36_code
def yX8_lay : MethodName := ⟨RX8, "lay", "(J)V"⟩
abbrev cX8_reduce : ByteArray := prog_10_method_37_code
def yX8_reduce : MethodName := ⟨RX8, "reduce", "(I)V"⟩
abbrev cX8_choose : ByteArray := prog_10_method_38_code
def yX8_choose : MethodName := ⟨RX8, "choose", "()V"⟩
abbrev cX8_wait : ByteArray := prog_10_method_39_code
def yX8_wait : MethodName := ⟨RX8, "wait", "(I)V"⟩
abbrev cX8_opened : ByteArray := prog_10_method_40_code
def yX8_opened : MethodName := ⟨RX8, "opened", "()I"⟩
abbrev cX8_behind : ByteArray := prog_10_method_41_code
def yX8_behind : MethodName := ⟨RX8, "behind", "(I)Z"⟩
abbrev cX8_work : ByteArray := prog_10_method_42_code
def yX8_work : MethodName := ⟨RX8, "work", "(I)Z"⟩
abbrev cX8_fault : ByteArray := prog_10_method_43_code
def yX8_fault : MethodName := ⟨RX8, "fault", "(I)I"⟩
abbrev cX8_ofLoan : ByteArray := prog_10_method_44_code
def yX8_ofLoan : MethodName := ⟨RX8, "ofLoan", "(II)I"⟩
abbrev cX8_rateOf : ByteArray := prog_10_method_45_code
def yX8_rateOf : MethodName := ⟨RX8, "rateOf", "(IIII)I"⟩
abbrev cX8_beginRun : ByteArray := prog_10_method_46_code
def yX8_beginRun : MethodName := ⟨RX8, "beginRun", "()V"⟩
abbrev cX8_begin : ByteArray := prog_10_method_47_code
def yX8_begin : MethodName := ⟨RX8, "begin", "(IIIIZ)V"⟩
abbrev cX8_dueOf : ByteArray := prog_10_method_48_code
def yX8_dueOf : MethodName := ⟨RX8, "dueOf", "(IIII)J"⟩
abbrev cX8_isIn : ByteArray := prog_10_method_49_code
def yX8_isIn : MethodName := ⟨RX8, "isIn", "(IIII)Z"⟩
abbrev cX8_stepYear : ByteArray := prog_10_method_50_code
def yX8_stepYear : MethodName := ⟨RX8, "stepYea\x72", "(IIIIZJ)V"⟩
abbrev cX8_run : ByteArray := prog_10_method_51_code
def yX8_run : MethodName := ⟨RX8, "run", "(III)V"⟩
abbrev cX8_runOf : ByteArray := prog_10_method_52_code
def yX8_runOf : MethodName := ⟨RX8, "runOf", "(II)J"⟩
abbrev cX8_allOf : ByteArray := prog_10_method_53_code
def yX8_allOf : MethodName := ⟨RX8, "allOf", "(II)J"⟩
abbrev cX8_owes : ByteArray := prog_10_method_54_code
def yX8_owes : MethodName := ⟨RX8, "owes", "(IIII)J"⟩
abbrev cX8_all : ByteArray := prog_10_method_55_code
def yX8_all : MethodName := ⟨RX8, "all", "(IIII)J"⟩
abbrev cX8_rate : ByteArray := prog_10_method_56_code
def yX8_rate : MethodName := ⟨RX8, "rate", "(III)I"⟩
abbrev cX8_over : ByteArray := prog_10_method_57_code
def yX8_over : MethodName := ⟨RX8, "ove\x72", "(III)J"⟩
abbrev cX8_sell : ByteArray := prog_10_method_58_code
def yX8_sell : MethodName := ⟨RX8, "sell", "(III)I"⟩
abbrev cX8_promise : ByteArray := prog_10_method_59_code
def yX8_promise : MethodName := ⟨RX8, "promise", "(III)I"⟩
abbrev cX8_book : ByteArray := prog_10_method_60_code
def yX8_book : MethodName := ⟨RX8, "book", "(IIII)J"⟩
abbrev cX8_isLife : ByteArray := prog_10_method_61_code
def yX8_isLife : MethodName := ⟨RX8, "isLife", "(I)Z"⟩
abbrev cX8_live : ByteArray := prog_10_method_62_code
def yX8_live : MethodName := ⟨RX8, "live", "(IIII)I"⟩
abbrev cX8_lived : ByteArray := prog_10_method_63_code
def yX8_lived : MethodName := ⟨RX8, "lived", "(IIIIJ)J"⟩
abbrev cX8_early : ByteArray := prog_10_method_64_code
def yX8_early : MethodName := ⟨RX8, "early", "(IIII)I"⟩
abbrev cX8_choice : ByteArray := prog_10_method_65_code
def yX8_choice : MethodName := ⟨RX8, "choice", "(IIIII)J"⟩
abbrev cX8_chances : ByteArray := prog_10_method_66_code
def yX8_chances : MethodName := ⟨RX8, "chances", "(IIIII)I"⟩
abbrev cX8_chanceOf : ByteArray := prog_10_method_67_code
def yX8_chanceOf : MethodName := ⟨RX8, "chanceOf", "(II)I"⟩
abbrev cX8_keep : ByteArray := prog_10_method_68_code
def yX8_keep : MethodName := ⟨RX8, "keep", "()V"⟩
abbrev cX8_back : ByteArray := prog_10_method_69_code
def yX8_back : MethodName := ⟨RX8, "back", "()V"⟩
abbrev cX8_goWay : ByteArray := prog_10_method_70_code
def yX8_goWay : MethodName := ⟨RX8, "goWay", "(IIIIII)J"⟩
abbrev cX8_foretold : ByteArray := prog_10_method_71_code
def yX8_foretold : MethodName := ⟨RX8, "foretold", "(IIIIII)J"⟩
abbrev cX8_triedOf : ByteArray := prog_10_method_72_code
def yX8_triedOf : MethodName := ⟨RX8, "triedOf", "(IIIII)J"⟩
abbrev cX8_tried : ByteArray := prog_10_method_73_code
def yX8_tried : MethodName := ⟨RX8, "tried", "(IIIII)J"⟩
abbrev cX8_tell : ByteArray := prog_10_method_74_code
def yX8_tell : MethodName := ⟨RX8, "tell", "(I)I"⟩
abbrev cX8_untell : ByteArray := prog_10_method_75_code
def yX8_untell : MethodName := ⟨RX8, "untell", "()I"⟩
abbrev cX8_far : ByteArray := prog_10_method_76_code
def yX8_far : MethodName := ⟨RX8, "fa\x72", "(II)I"⟩
abbrev cX8_best : ByteArray := prog_10_method_77_code
def yX8_best : MethodName := ⟨RX8, "best", "(IIIIIJ)I"⟩
abbrev cX8_image : ByteArray := prog_10_method_78_code
def yX8_image : MethodName := ⟨RX8, "image", "(I)I"⟩
abbrev cX8_from : ByteArray := prog_10_method_79_code
def yX8_from : MethodName := ⟨RX8, "from", "(I)I"⟩
abbrev cX8_count : ByteArray := prog_10_method_80_code
def yX8_count : MethodName := ⟨RX8, "count", "(I)I"⟩
abbrev cX8_digest : ByteArray := prog_10_method_81_code
def yX8_digest : MethodName := ⟨RX8, "digest", "()J"⟩
def RJ9 : String := "java/lang/Math"
abbrev cJ9_abs_0f7a4 : ByteArray := prog_11_method_59_code
def yJ9_abs_0f7a4 : MethodName := ⟨RJ9, "abs", "(I)I"⟩
abbrev cJ9_max_7cf53 : ByteArray := prog_11_method_65_code
def yJ9_max_7cf53 : MethodName := ⟨RJ9, "max", "(II)I"⟩
abbrev cJ9_max_f86c9 : ByteArray := prog_11_method_66_code
def yJ9_max_f86c9 : MethodName := ⟨RJ9, "max", "(JJ)J"⟩
abbrev cJ9_min_7cf53 : ByteArray := prog_11_method_69_code
def yJ9_min_7cf53 : MethodName := ⟨RJ9, "min", "(II)I"⟩
abbrev cJ9_min_f86c9 : ByteArray := prog_11_method_70_code
def yJ9_min_f86c9 : MethodName := ⟨RJ9, "min", "(JJ)J"⟩
def RJ10 : String := "java/lang/System"
def RJ7 : String := "java/util/Arrays"
abbrev cJ7_fill_53178 : ByteArray := prog_13_method_103_code
def yJ7_fill_53178 : MethodName := ⟨RJ7, "fill", "([II)V"⟩
def RL : String := "LearnLoansLaw"
abbrev cL_law : ByteArray := code
def yL_law : MethodName := ⟨RL, "law", "([I)Z"⟩
end
section
/-! the shape of the cells: what each name is -/
abbrev am_cl : List vw_C := [(RX0, TX0, 13), (RX1, TX1, 7), (RX2, TX2, 8), (RX3, TX3, 3), (RX4, TX4, 18), (RX5, TX5, 7), (RX6, TX6, 9), (RX7, TX7, 4), (RX8, TX8, 27)]
def am_nfl : List Nat := [13, 7, 8, 3, 18, 7, 9, 4, 27]
def am_nf (ci : Nat) : Nat := am_nfl.getD ci 0
def am_ftl : List (List Nat) := [[2, 2, 2, 2, 2, 2, 2, 2, 2, 2, 2, 2, 0], [1, 1, 1, 1, 1, 1, 1], [2, 2, 2, 2, 2, 2, 2, 0], [2, 0, 0], [2, 2, 2, 2, 2, 2, 2, 0, 0, 0, 0, 0, 0, 1, 1, 0, 0, 0], [2, 2, 0, 0, 0, 0, 0], [2, 2, 0, 0, 0, 1, 1, 1, 1], [2, 2, 2, 2], [2, 2, 2, 0, 0, 0, 0, 0, 0, 2, 2, 0, 0, 2, 0, 2, 2, 2, 2, 2, 2, 2, 1, 2, 2, 1, 1]]
def am_ft (ci k : Nat) : Nat := (am_ftl.getD ci []).getD k 0
abbrev am_tys (cA : Nat → ClassId) : List (ClassId × FieldType) := [(cA 0, .int), (cA 1, .long), (cA 2, .boolean), (cA 3, .object "LearnLoans$Text"), (cA 4, .object "LearnLoans$House")]
def am_tk (t : Nat) : Nat := match t with
  | 0 => 0
  | 1 => 1
  | 2 => 0
  | _ => 2
def am_sh0 : List (Nat ⊕ (Nat × Nat)) := [.inl 7, .inr (4, 2), .inl 6, .inr (1, 150), .inl 4, .inr (0, 1200), .inr (1, 180), .inr (0, 30), .inr (0, 30), .inl 1, .inr (1, 50)]
def am_sh1 : List (Nat ⊕ (Nat × Nat)) := [.inl 0, .inl 2, .inr (0, 12), .inr (0, 12), .inr (0, 480), .inr (0, 480), .inr (0, 480), .inr (0, 480), .inr (0, 480), .inr (0, 4), .inr (0, 40), .inl 3, .inr (0, 366), .inl 3, .inr (0, 240), .inl 3, .inr (0, 180), .inr (0, 1200), .inr (3, 5), .inl 5, .inr (0, 50), .inr (0, 50), .inl 5, .inr (0, 50), .inr (0, 50), .inl 5, .inr (0, 50), .inr (0, 50), .inl 5, .inr (0, 50), .inr (0, 50), .inl 5, .inr (0, 50), .inr (0, 50), .inl 3, .inr (0, 60), .inr (0, 160), .inr (0, 16), .inr (0, 9)]
def am_sh2 : List (Nat ⊕ (Nat × Nat)) := [.inl 8, .inr (0, 3760), .inr (0, 7520), .inr (2, 2), .inr (0, 120), .inr (1, 120), .inr (1, 7), .inr (1, 30), .inr (1, 30), .inr (1, 30), .inr (1, 30), .inr (1, 30), .inr (1, 30), .inr (2, 30), .inr (1, 30), .inr (2, 30)]
def am_sh (n : Nat) : Nat ⊕ (Nat × Nat) := match Nat.ble n 19 with
  | true => am_sh0.getD n (.inl 99)
  | false => match Nat.ble n 139 with
    | true => am_sh1.getD ((n - 20) % 40) (.inl 99)
    | false => am_sh2.getD (n - 200) (.inl 99)
def am_ns : Nat := 3
def am_sC (k : Nat) : String × String × String := match k with
  | 0 => ("LearnLoans", "AT_FIRST", "[I")
  | 1 => ("LearnLoans", "LEAST", "[I")
  | _ => ("LearnLoans", "MOST", "[I")
def am_sN (k : Nat) : Nat := 6
def am_sfl : List (List Int32) := [[2000000, 90, 30, 30, 0, 10000], [0, 0, 0, 1, 0, 0], [10000000, 1000, 500, 60, 9, 1000000]]
def am_sf (k j : Nat) : Int32 := (am_sfl.getD k []).getD j 0
def am_nest : List (String × Nat × String × String × String × String) := [("LearnLoans$Run", 93, "LearnLoans", "AT_FIRST", "[I", "LearnLoans"), ("LearnLoans$Run", 229, "LearnLoans", "MOST", "[I", "LearnLoans")]
def am_top : Nat := 216
def am_q8 : List (List (Option Nat)) := [[some 201, some 202, some 203, none, none, none, none, none, none, some 204, some 205, none, none, some 206, none, some 207, some 208, some 209, some 210, some 211, some 212, some 213, none, some 214, some 215, none, none]]
def am_nestM : List (String × Nat × MethodName × String) := [("LearnLoans", 11, yX6_init, "LearnLoans"), ("LearnLoans$House", 66, yX5_init, "LearnLoans"), ("LearnLoans$Run", 34, yX1_init, "LearnLoans"), ("LearnLoans$Ways", 11, yX4_init, "LearnLoans")]
def am_over : List String := ["LearnLoans$House", "LearnLoans$Text"]
def am_q0 : List (List (Option Nat)) := [[some 20, some 1, some 4, some 2], [], [some 4, some 3], [], [some 20, some 5, some 6, some 7, some 8, some 9, some 10], [], [], [], [], [], [], [], [], [], [], [], [], [], [], []]
def am_q1 : List (List (Option Nat)) := [[some 21, some 29, some 30, some 31, some 33, some 35, some 37, some 38, some 54, some 56, some 57, some 58], [some 22, some 23, some 24, some 25, some 26, some 27, some 28], [], [], [], [], [], [], [], [], [], [some 32], [], [some 34], [], [some 36], [], [], [some 39, some 42, some 45, some 48, some 51], [some 40, some 41], [], [], [some 43, some 44], [], [], [some 46, some 47], [], [], [some 49, some 50], [], [], [some 52, some 53], [], [], [some 55], [], [], [], [], []]
def am_q2 : List (List (Option Nat)) := [[some 61, some 69, some 70, some 71, some 73, some 75, some 77, some 78, some 94, some 96, some 97, some 98], [some 62, some 63, some 64, some 65, some 66, some 67, some 68], [], [], [], [], [], [], [], [], [], [some 72], [], [some 74], [], [some 76], [], [], [some 79, some 82, some 85, some 88, some 91], [some 80, some 81], [], [], [some 83, some 84], [], [], [some 86, some 87], [], [], [some 89, some 90], [], [], [some 92, some 93], [], [], [some 95], [], [], [], [], []]
def am_q3 : List (List (Option Nat)) := [[some 101, some 109, some 110, some 111, some 113, some 115, some 117, some 118, some 134, some 136, some 137, some 138], [some 102, some 103, some 104, some 105, some 106, some 107, some 108], [], [], [], [], [], [], [], [], [], [some 112], [], [some 114], [], [some 116], [], [], [some 119, some 122, some 125, some 128, some 131], [some 120, some 121], [], [], [some 123, some 124], [], [], [some 126, some 127], [], [], [some 129, some 130], [], [], [some 132, some 133], [], [], [some 135], [], [], [], [], []]
def am_qs (n : Nat) : List (Option Nat) := match Nat.blt n 20 with
  | true => am_q0.getD n []
  | false => match Nat.blt n 60 with
    | true => am_q1.getD (n - 20) []
    | false => match Nat.blt n 100 with
      | true => am_q2.getD (n - 60) []
      | false => match Nat.blt n 140 with
        | true => am_q3.getD (n - 100) []
        | false => am_q8.getD (n - 200) []
/-- what the references hold: all is fixed but the images -/
def am_q (i1 i2 : Bool) (n k : Nat) : Option Nat := match Nat.beq n 1 with
  | true => (match k with
    | 0 => (match i1 with | true => some 60 | false => none)
    | 1 => (match i2 with | true => some 100 | false => none)
    | _ => none)
  | false => (am_qs n).getD k none
/-- which names stand for cells -/
def am_lv (i1 i2 : Bool) (n : Nat) : Bool := match Nat.blt n 20 with
  | true => Nat.blt n 11
  | false => match Nat.blt n 60 with
    | true => Nat.blt n 59
    | false => match Nat.blt n 100 with
      | true => i1 && Nat.blt n 99
      | false => match Nat.blt n 140 with
        | true => i2 && Nat.blt n 139
        | false => Nat.ble 200 n && Nat.blt n am_top
end
section
/-! AM: a machine of names over the kit's rows. A name stands for a cell; the memory holds int-like, long and reference contents by name and place. -/
/-- the words that every method of ours is given -/
def am_ws : List Cond := lw_tbl.filter goodWord
theorem am_wsi {w : Cond} (h : w ∈ lw_tbl) (hg : goodWord w = true) : w ∈ am_ws := List.mem_filter.mpr ⟨h, hg⟩
theorem am_wsg {w : Cond} (h : w ∈ am_ws) : goodWord w = true := (List.mem_filter.mp h).2
def am_N (s : State) : Prop := (∀ q ∈ am_nest, va_Nw (.fieldLinkNest q.1 q.2.1 q.2.2.1 q.2.2.2.1 q.2.2.2.2.1 q.2.2.2.2.2) s) ∧ (∀ q ∈ am_nestM, va_Nw (.methodLinkNest q.1 q.2.1 q.2.2.1 q.2.2.2) s) ∧ ∀ C ∈ am_over, va_AO C s
theorem am_N.vm {s U : State} (h : s.vm = U.vm) (hN : am_N s) : am_N U := ⟨fun q hq => va_Nw.same rfl h (hN.1 q hq), fun q hq => va_Nw.same rfl h (hN.2.1 q hq), fun C hC => va_AO.moved (by rw [h]; exact Vm.Alike.refl U.vm) (hN.2.2 C hC)⟩
theorem am_N.warm {s U : State} (hW : s.WarmedH U.vm) (hN : am_N s) : am_N U := ⟨fun q hq => va_Nw.warmF hW (hN.1 q hq), fun q hq => va_Nw.warmM hW (hN.2.1 q hq), fun C hC => va_AO.moved hW.alike (hN.2.2 C hC)⟩
abbrev am_M : Type := (Nat → Nat → Int32) × (Nat → Nat → Int64)
/-- which names stand for cells, and what the references hold -/
abbrev am_E : Type := (Nat → Bool) × (Nat → Nat → Option Nat)
abbrev am_L : Type := List (Nat × Value)
abbrev am_K : Type := Nat → am_L → List Value → am_M → Prop
abbrev am_S : Type := am_L → List Value → am_M → am_K → Prop
abbrev am_R : Type := Option Value → am_M → Prop
abbrev am_T : Type := am_E → List Value → am_M → am_R → Prop
def am_wI (M : am_M) (n k : Nat) (v : Int32) : am_M := (fun a b => if a = n ∧ b = k then v else M.1 a b, M.2)
def am_wJ (M : am_M) (n k : Nat) (v : Int64) : am_M := (M.1, fun a b => if a = n ∧ b = k then v else M.2 a b)
def am_cI (M : am_M) (n : Nat) (f : Nat → Int32) : am_M := (fun a b => if a = n then f b else M.1 a b, M.2)
def am_cJ (M : am_M) (n : Nat) (f : Nat → Int64) : am_M := (M.1, fun a b => if a = n then f b else M.2 a b)
def am_cv (al : Nat → Nat) (v : Value) : Value := match v with
  | .ref n => .ref (al n)
  | w => w
theorem am_cv_cat (al : Nat → Nat) (v : Value) : (am_cv al v).category = v.category := by cases v <;> rfl
def am_g : am_L → Nat → Option Value
  | [], _ => none
  | q :: r, i => match Nat.beq q.1 i with
    | true => some q.2
    | false => am_g r i
theorem am_g_mem : ∀ {L : am_L} {i : Nat} {v : Value}, am_g L i = some v → (i, v) ∈ L
  | [], _, _, h => by cases h
  | q :: r, i, v, h => by
    unfold am_g at h
    cases hb : Nat.beq q.1 i with
    | true =>
      rw [hb] at h
      have e : q.1 = i := Nat.eq_of_beq_eq_true hb
      have e2 : q.2 = v := Option.some.inj h
      rw [← e, ← e2]
      exact List.mem_cons_self
    | false =>
      rw [hb] at h
      exact List.mem_cons_of_mem _ (am_g_mem h)
def am_lc (al : Nat → Nat) (L : am_L) : am_L := L.map (fun q => (q.1, am_cv al q.2))
theorem am_lc_mem {al : Nat → Nat} {L : am_L} {i : Nat} {v : Value} (h : (i, v) ∈ L) : (i, am_cv al v) ∈ am_lc al L := List.mem_map.mpr ⟨(i, v), h, rfl⟩
theorem am_lc_at {al : Nat → Nat} {L : am_L} {i : Nat} {v : Value} {ls : Array Slot} {nL : Nat} (hl : lv_has ls nL (am_lc al L)) (h : am_g L i = some v) : ls[i]? = some (.val (am_cv al v)) := hl.2.2 (i, am_cv al v) (am_lc_mem (am_g_mem h))
theorem am_lc_pl {al : Nat → Nat} {L : am_L} {i : Nat} {v : Value} (h : am_g L i = some v) : ∃ k : Nat, (am_lc al L)[k]? = some (i, am_cv al v) := List.getElem?_of_mem (am_lc_mem (am_g_mem h))
def am_s1 (i : Nat) (v : Value) (L : am_L) : am_L := (i, v) :: L.filter (fun q => !(q.1 == i) && !(q.1 + 1 == i && q.2.category == 2))
def am_s2 (i : Nat) (v : Value) (L : am_L) : am_L := (i, v) :: L.filter (fun q => !(q.1 == i) && (!(q.1 == i + 1) && !(q.1 + 1 == i && q.2.category == 2)))
theorem am_lc_s1 (al : Nat → Nat) (i : Nat) (v : Value) (L : am_L) : (i, am_cv al v) :: (am_lc al L).filter (fun q => !(q.1 == i) && !(q.1 + 1 == i && q.2.category == 2)) = am_lc al (am_s1 i v L) := by
  unfold am_s1 am_lc
  rw [List.map_cons, List.filter_map]
  refine congrArg _ (congrArg _ (congrArg (fun f => List.filter f L) ?_))
  funext q
  simp [Function.comp, am_cv_cat]
theorem am_lc_s2 (al : Nat → Nat) (i : Nat) (v : Value) (L : am_L) : (i, am_cv al v) :: (am_lc al L).filter (fun q => !(q.1 == i) && (!(q.1 == i + 1) && !(q.1 + 1 == i && q.2.category == 2))) = am_lc al (am_s2 i v L) := by
  unfold am_s2 am_lc
  rw [List.map_cons, List.filter_map]
  refine congrArg _ (congrArg _ (congrArg (fun f => List.filter f L) ?_))
  funext q
  simp [Function.comp, am_cv_cat]
def am_force : am_L → (am_L → Prop) → Prop
  | [], K => K []
  | q :: r, K => am_force r (fun r' => K (q :: r'))
theorem am_force_iff : ∀ (L : am_L) (K : am_L → Prop), am_force L K ↔ K L
  | [], _ => Iff.rfl
  | q :: r, K => am_force_iff r (fun r' => K (q :: r'))
def am_if (b : Bool) (P : Prop) : Prop := b = true ∧ P
theorem am_if_mp {b : Bool} {P : Prop} (h : am_if b P) : b = true ∧ P := h
theorem am_if_in {b : Bool} {P : Prop} (h : b = true) (k : P) : am_if b P := ⟨h, k⟩
def am_ex (o : Option Nat) (P : Nat → Prop) : Prop := ∃ q, o = some q ∧ P q
theorem am_qm {q : Option Nat} {P : Nat → Prop} (h : am_ex q P) : ∃ x, q = some x ∧ P x := h
def am_swc (x : Int32) : List (Int32 × Nat) → Nat → (Nat → Prop) → Prop
  | [], d, K => K d
  | q :: cs, d, K => (x = q.1 → K q.2) ∧ (¬ x = q.1 → am_swc x cs d K)
/-! the cells that names stand for -/
def am_fv (Q : Nat → Nat → Option Nat) (al : Nat → Nat) (M : am_M) (n ci k : Nat) : Value := match am_ft ci k with
  | 0 => .int (M.1 n k)
  | 1 => .long (M.2 n k)
  | _ => va_rf ((Q n k).map al)
def am_ae (Q : Nat → Nat → Option Nat) (al : Nat → Nat) (M : am_M) (n t : Nat) : (Nat → Int32) ⊕ (Nat → Int64) ⊕ (Nat → UInt32) ⊕ (Nat → UInt64) ⊕ (Nat → Option Nat) := match am_tk t with
  | 0 => .inl (M.1 n)
  | 1 => .inr (.inl (M.2 n))
  | _ => .inr (.inr (.inr (.inr (fun k => (Q n k).map al))))
def am_ce (Q : Nat → Nat → Option Nat) (cA : Nat → ClassId) (al : Nat → Nat) (M : am_M) (n : Nat) : va_E := match am_sh n with
  | .inl ci => .inr (ci, (List.range (am_nf ci)).map (am_fv Q al M n ci))
  | .inr q => .inl (cA q.1, q.2, am_ae Q al M n q.1)
def am_P (D : va_G) (cA : Nat → ClassId) (al : Nat → Nat) (B : Nat) (live : am_E) (M : am_M) (H : Heap) : Prop :=
  (∀ n, live.1 n = true → va_at D am_cl (al n, am_ce live.2 cA al M n) H) ∧ (∀ n m, live.1 n = true → live.1 m = true → al n = al m → n = m) ∧ (∀ n, live.1 n = true → B ≤ al n) ∧ (∀ n, live.1 n = true → n < 400)
theorem am_P.put {D : va_G} {cA : Nat → ClassId} {al : Nat → Nat} {B : Nat} {live : am_E} {M M' : am_M} {H H1 : Heap} {n : Nat} (h : am_P D cA al B live M H) (hn : live.1 n = true) (he : va_at D am_cl (al n, am_ce live.2 cA al M' n) H1)
    (ho : ∀ m, m ≠ n → am_ce live.2 cA al M' m = am_ce live.2 cA al M m) (oq : ∀ q : Nat, q ≠ al n → H1[q]? = H[q]?) : am_P D cA al B live M' H1 := by
  refine ⟨fun m hm => ?_, h.2.1, h.2.2⟩
  by_cases e : m = n
  · subst e; exact he
  · rw [ho m e]
    exact (h.1 m hm).kept (oq _ (fun q => e (h.2.1 m n hm hn q)))
def am_isO (live : am_E) (ci n : Nat) : Bool := live.1 n && (match am_sh n with
  | .inl c => Nat.beq c ci
  | .inr _ => false)
def am_isA (live : am_E) (t n : Nat) : Bool := live.1 n && (match am_sh n with
  | .inl _ => false
  | .inr q => Nat.beq q.1 t)
def am_len (n : Nat) : Nat := match am_sh n with
  | .inl _ => 0
  | .inr q => q.2
theorem am_isO_spec {live : am_E} {ci n : Nat} (h : am_isO live ci n = true) : live.1 n = true ∧ am_sh n = .inl ci := by
  unfold am_isO at h
  rw [Bool.and_eq_true] at h
  refine ⟨h.1, ?_⟩
  have h2 := h.2
  revert h2
  cases am_sh n with
  | inl c => intro h2; exact congrArg Sum.inl (Nat.eq_of_beq_eq_true h2)
  | inr q => intro h2; cases h2
theorem am_isA_spec {live : am_E} {t n : Nat} (h : am_isA live t n = true) : live.1 n = true ∧ am_sh n = .inr (t, am_len n) := by
  unfold am_isA at h
  rw [Bool.and_eq_true] at h
  refine ⟨h.1, ?_⟩
  have h2 := h.2
  revert h2
  unfold am_len
  cases am_sh n with
  | inl c => intro h2; cases h2
  | inr q => intro h2; rw [← Nat.eq_of_beq_eq_true h2]
/-- the static arrays, by their names from 1000 on -/
def am_Z (al : Nat → Nat) (B : Nat) (s : State) : Prop := ∀ k, k < am_ns → va_Z (am_sC k).1 (am_sC k).2.1 (am_sC k).2.2 (.ref (al (1000 + k))) (fun q => B ≤ q) s s.heap ∧ va_T .int (al (1000 + k)) (am_sN k) (fun j => .int (am_sf k j)) (fun q => B ≤ q) s s.heap
def am_C (p : Program) (s : State) (m : MethodId) (args : Array Value) (meth : Method) (c : Code) (D : va_G) (cA : Nat → ClassId) (al : Nat → Nat) (B : Nat) (own : String) (cc : ByteArray) (nL : Nat) (rt : Option FieldType) : Prop :=
  p.tables.exec = Jvm.exec ∧ c.code = cc ∧ c.maxLocals = nL ∧ s.vm.findClass own = some m.cls ∧ (∀ w ∈ am_ws, w.before args s = true) ∧ meth.locks = false ∧ meth.sig.returnType = rt ∧ va_K D am_cl (am_tys cA) s ∧ B ≤ s.heap.size ∧ am_Z al B s ∧ am_N s
def am_Qc (D : va_G) (cA : Nat → ClassId) (al : Nat → Nat) (B : Nat) (live : am_E) (Ret : am_R) : Array Value → State → Outcome → State → Prop := fun _ st o t =>
  ∃ (r : Option Value) (M' : am_M), Ret r M' ∧ o = .returned (r.map (am_cv al)) ∧ am_P D cA al B live M' t.heap ∧ va_F (fun q => B ≤ q) st t
def am_Pc (D : va_G) (cA : Nat → ClassId) (al : Nat → Nat) (B : Nat) (live : am_E) (as : List Value) (M : am_M) : Array Value → State → Prop := fun v U =>
  v = (as.map (am_cv al)).toArray ∧ B ≤ U.heap.size ∧ am_P D cA al B live M U.heap ∧ va_K D am_cl (am_tys cA) U ∧ am_Z al B U ∧ am_N U
def am_rm (rf rl : Nat) : Room := { frames := rf, cells := 0, slots := 0, locals := rl }
/-- room, cells and slots made so far, aim -/
abbrev am_Y : Type := Room × Nat × Nat × (State → Prop)
def am_W (p : Program) (l : Launch) (e : Env) (Y : am_Y) (s : State) (m : MethodId) (args : Array Value) (below : List Frame) (meth : Method) (c : Code) (D : va_G) (cA : Nat → ClassId) (al : Nat → Nat) (B : Nat) (live : am_E) (nL : Nat) : am_K := fun pc L st M =>
  ∀ (H : Heap) (locs : List Loc) (ls : Array Slot), am_P D cA al B live M H → va_S (fun q => B ≤ q) s.heap H locs → lv_has ls nL (am_lc al L) →
    W p l e Y.1 s m args below meth c H locs Y.2.1 Y.2.2.1 Y.2.2.2 (F0 m pc ls (st.map (am_cv al)))
def am_Yk (s : State) (args : Array Value) (below : List Frame) (D : va_G) (cA : Nat → ClassId) (al : Nat → Nat) (B : Nat) (live : am_E) (Ret : am_R) (rf rl : Nat) (Y : am_Y) : Prop :=
  rf ≤ Y.1.frames ∧ rl ≤ Y.1.locals ∧ Y.2.1 ≤ Y.1.cells ∧ Y.2.2.1 ≤ Y.1.slots ∧ ((Y.2.1 = 0 ∧ Y.2.2.1 = 0 ∧ Y.2.2.2 = MQ below (am_Qc D cA al B live Ret) args s 0 0 (fun q => B ≤ q)) ∨ ∀ r M', ¬ Ret r M')
def am_ok (own : String) (cc : ByteArray) (nL : Nat) (rt : Option FieldType) (rf rl : Nat) (live : am_E) (Ret : am_R) (pc : Nat) (sem : am_S) : Prop :=
  ∀ (p : Program) (l : Launch) (e : Env) (s : State) (m : MethodId) (args : Array Value) (below : List Frame) (meth : Method) (c : Code) (D : va_G) (cA : Nat → ClassId) (al : Nat → Nat) (B : Nat), am_C p s m args meth c D cA al B own cc nL rt →
    ∀ (Y : am_Y), am_Yk s args below D cA al B live Ret rf rl Y → ∀ (L : am_L) (st : List Value) (M : am_M) (K : am_K), (∀ pc' L' st' M', K pc' L' st' M' → am_W p l e Y s m args below meth c D cA al B live nL pc' L' st' M') → sem L st M K → am_W p l e Y s m args below meth c D cA al B live nL pc L st M
/-! a method as a list of what its instructions do; its run with cuts -/
abbrev am_code : Type := List (Nat × am_S)
def am_go : am_code → Nat → am_code
  | [], _ => []
  | q :: r, pc => match Nat.beq q.1 pc with
    | true => q :: r
    | false => am_go r pc
def am_nxt (code rest : am_code) (pc : Nat) : am_code := match rest with
  | [] => am_go code pc
  | r :: rs => match Nat.beq r.1 pc with
    | true => r :: rs
    | false => am_go code pc
abbrev am_cut : Type := Nat → Option (am_L → List Value → am_M → Prop)
/-- by the recursor itself: so the kernel unfolds it step by step -/
noncomputable def am_wp (code : am_code) (cut : am_cut) (n : Nat) : am_code → am_L → List Value → am_M → Prop :=
  @Nat.rec (fun _ => am_code → am_L → List Value → am_M → Prop) (fun _ _ _ _ => False) (fun _ ih cs L st M => match cs with
    | [] => False
    | q :: rest => q.2 L st M (fun pc' L' st' M' => match cut pc' with
      | some I => I L' st' M'
      | none => ih (am_nxt code rest pc') L' st' M')) n
theorem am_go_hd : ∀ (code : am_code) (pc : Nat) (q : Nat × am_S) (r : am_code), am_go code pc = q :: r → q.1 = pc
  | [], _, _, _, h => by cases h
  | a :: rs, pc, q, r, h => by
    unfold am_go at h
    cases hb : Nat.beq a.1 pc with
    | true =>
      rw [hb] at h
      have e : a :: rs = q :: r := h
      cases e
      exact Nat.eq_of_beq_eq_true hb
    | false =>
      rw [hb] at h
      exact am_go_hd rs pc q r h
theorem am_go_in : ∀ (code : am_code) (pc : Nat) (q : Nat × am_S), q ∈ am_go code pc → q ∈ code
  | [], _, _, h => by cases h
  | a :: rs, pc, q, h => by
    unfold am_go at h
    cases hb : Nat.beq a.1 pc with
    | true => rw [hb] at h; exact h
    | false => rw [hb] at h; exact List.mem_cons_of_mem _ (am_go_in rs pc q h)
theorem am_nxt_hd {code rest : am_code} {pc : Nat} {q : Nat × am_S} {r : am_code} (h : am_nxt code rest pc = q :: r) : q.1 = pc := by
  unfold am_nxt at h
  cases rest with
  | nil => exact am_go_hd _ _ _ _ h
  | cons a rs =>
    cases hb : Nat.beq a.1 pc with
    | true =>
      simp only [hb] at h
      cases h
      exact Nat.eq_of_beq_eq_true hb
    | false =>
      simp only [hb] at h
      exact am_go_hd _ _ _ _ h
theorem am_nxt_in {code rest : am_code} {pc : Nat} {q : Nat × am_S} (hr : ∀ x ∈ rest, x ∈ code) (h : q ∈ am_nxt code rest pc) : q ∈ code := by
  unfold am_nxt at h
  cases rest with
  | nil => exact am_go_in _ _ _ h
  | cons a rs =>
    cases hb : Nat.beq a.1 pc with
    | true =>
      simp only [hb] at h
      exact hr _ h
    | false =>
      simp only [hb] at h
      exact am_go_in _ _ _ h
section AMW
variable {own : String} {cc : ByteArray} {nL : Nat} {rt : Option FieldType} {rf rl : Nat} {live : am_E} {Ret : am_R} {p : Program} {l : Launch} {e : Env} {s : State} {m : MethodId} {args : Array Value} {below : List Frame} {meth : Method} {c : Code} {D : va_G} {cA : Nat → ClassId} {al : Nat → Nat} {B : Nat} {Y : am_Y}
theorem am_wp_ok {code : am_code} {cut : am_cut} (hok : ∀ q ∈ code, am_ok own cc nL rt rf rl live Ret q.1 q.2) (hC : am_C p s m args meth c D cA al B own cc nL rt) (hY : am_Yk s args below D cA al B live Ret rf rl Y)
    (hcut : ∀ pc I, cut pc = some I → ∀ L st M, I L st M → am_W p l e Y s m args below meth c D cA al B live nL pc L st M) :
    ∀ (n : Nat) (cs : am_code) (L : am_L) (st : List Value) (M : am_M), (∀ q ∈ cs, q ∈ code) → am_wp code cut n cs L st M → ∃ pc, (∃ q r, cs = q :: r ∧ q.1 = pc) ∧ am_W p l e Y s m args below meth c D cA al B live nL pc L st M
  | 0, _, _, _, _, _, h => h.elim
  | n + 1, [], _, _, _, _, h => h.elim
  | n + 1, q :: rest, L, st, M, hin, h => by
    refine ⟨q.1, ⟨q, rest, rfl, rfl⟩, ?_⟩
    refine hok q (hin q List.mem_cons_self) p l e s m args below meth c D cA al B hC Y hY L st M _ (fun pc' L' st' M' hk => ?_) h
    cases hc : cut pc' with
    | some I =>
      simp only [hc] at hk
      exact hcut pc' I hc L' st' M' hk
    | none =>
      simp only [hc] at hk
      obtain ⟨pc2, ⟨q2, r2, e1, e2⟩, hw⟩ := am_wp_ok hok hC hY hcut n _ L' st' M' (fun x hx => am_nxt_in (fun y hy => hin y (List.mem_cons_of_mem _ hy)) hx) hk
      have e3 := am_nxt_hd e1
      rw [← e3, e2]
      exact hw
/-- loops: invariants with a pair that falls -/
def am_lt (a b : Nat × Nat) : Prop := a.1 < b.1 ∨ (a.1 = b.1 ∧ a.2 < b.2)
abbrev am_inv : Type := Nat → Option (List Nat × (Nat × Nat → am_L → List Value → am_M → Prop))
def am_nm (ks : List Nat) (L : am_L) : am_L := ks.filterMap (fun k => (am_g L k).map (fun v => (k, v)))
theorem am_nm_mem {ks : List Nat} {L : am_L} {q : Nat × Value} (h : q ∈ am_nm ks L) : q ∈ L := by
  obtain ⟨k, -, hk⟩ := List.mem_filterMap.mp h
  cases hg : am_g L k with
  | none => rw [hg] at hk; cases hk
  | some v =>
    rw [hg] at hk
    cases hk
    exact am_g_mem hg
theorem am_W_nm {ks : List Nat} {pc : Nat} {L : am_L} {st : List Value} {M : am_M} (h : am_W p l e Y s m args below meth c D cA al B live nL pc (am_nm ks L) st M) : am_W p l e Y s m args below meth c D cA al B live nL pc L st M := by
  intro H locs ls hP hS hl
  refine h H locs ls hP hS ⟨hl.1, hl.2.1, fun q hq => ?_⟩
  obtain ⟨x, hx, rfl⟩ := List.mem_map.mp hq
  exact hl.2.2 _ (List.mem_map.mpr ⟨x, am_nm_mem hx, rfl⟩)
def am_cutl (inv : am_inv) (k : Nat × Nat) : am_cut := fun pc => match inv pc with
  | some I => some (fun L st M => ∃ k', am_lt k' k ∧ I.2 k' (am_nm I.1 L) st M)
  | none => none
def am_cut0 (inv : am_inv) : am_cut := fun pc => match inv pc with
  | some I => some (fun L st M => ∃ k', I.2 k' (am_nm I.1 L) st M)
  | none => none
theorem am_loops {code : am_code} {inv : am_inv} (hok : ∀ q ∈ code, am_ok own cc nL rt rf rl live Ret q.1 q.2) (hC : am_C p s m args meth c D cA al B own cc nL rt) (hY : am_Yk s args below D cA al B live Ret rf rl Y)
    (N : Nat) (h : ∀ (k : Nat × Nat) (pc : Nat) I, inv pc = some I → ∀ L st M, I.2 k L st M → am_wp code (am_cutl inv k) N (am_go code pc) L st M) :
    ∀ (a b : Nat) (pc : Nat) I, inv pc = some I → ∀ L st M, I.2 (a, b) L st M → am_W p l e Y s m args below meth c D cA al B live nL pc L st M := by
  intro a
  induction a using Nat.strongRecOn with
  | ind a iha =>
    intro b
    induction b using Nat.strongRecOn with
    | ind b ihb =>
      intro pc I hI L st M hi
      have hw := h (a, b) pc I hI L st M hi
      obtain ⟨pc2, ⟨q, r, e1, e2⟩, w⟩ := am_wp_ok (l := l) (e := e) (below := below) hok hC hY (cut := am_cutl inv (a, b)) (fun pc' I' hc L' st' M' hh => by
        unfold am_cutl at hc
        cases hi' : inv pc' with
        | none => rw [hi'] at hc; cases hc
        | some J =>
          rw [hi'] at hc
          cases hc
          obtain ⟨⟨a', b'⟩, hlt, hj⟩ := hh
          refine am_W_nm (ks := J.1) ?_
          rcases hlt with hlt | ⟨e, hlt⟩
          · exact iha a' hlt b' pc' J hi' _ st' M' hj
          · have e' : a' = a := e
            subst e'
            exact ihb b' hlt pc' J hi' _ st' M' hj) N _ L st M (fun x hx => am_go_in _ _ _ hx) hw
      rw [← am_go_hd _ _ _ _ e1, e2]
      exact w
end AMW
/-- a method's contract -/
def am_Met (y : MethodName) (cc : ByteArray) (nL : Nat) (rt : Option FieldType) (rf rl : Nat) (T : am_T) : Prop :=
  ∀ (l : Launch) (D : va_G) (cA : Nat → ClassId) (al : Nat → Nat) (B : Nat) (live : am_E) (as : List Value) (M : am_M) (Ret : am_R), T live as M Ret →
    Met l y (.code y cc nL rt :: am_ws) (am_rm rf rl) (am_Pc D cA al B live as M) (am_Qc D cA al B live Ret) 0 0 (fun q => B ≤ q)
theorem am_args : ∀ (al : Nat → Nat) (i : Nat) (vs : List Value), lv_args i (vs.map (am_cv al)) = am_lc al (lv_args i vs)
  | _, _, [] => rfl
  | al, i, v :: vs => by
    show (i, am_cv al v) :: lv_args (if (am_cv al v).category = 2 then i + 2 else i + 1) (vs.map (am_cv al)) = _
    rw [am_cv_cat, am_args al _ vs]
    rfl
theorem am_slen (al : Nat → Nat) : ∀ vs : List Value, (lg_sl (vs.map (am_cv al))).length = (lg_sl vs).length
  | [] => rfl
  | v :: vs => by
    show (lg_sl (am_cv al v :: vs.map (am_cv al))).length = (lg_sl (v :: vs)).length
    have ih := am_slen al vs
    unfold lg_sl at ih ⊢
    rw [List.flatMap_cons, List.flatMap_cons, List.length_append, List.length_append, ih, am_cv_cat]
    split <;> rfl
theorem am_met {y : MethodName} {own : String} {cc : ByteArray} {nL : Nat} {rt : Option FieldType} {rf rl : Nat} {T : am_T} (hy : plainName y.cls = true) (hown : y.cls = own) (code : am_E → am_R → am_code)
    (hok : ∀ live Ret, ∀ q ∈ code live Ret, am_ok own cc nL rt rf rl live Ret q.1 q.2) (N : Nat) (inv : am_E → List Value → am_M → am_R → am_inv)
    (hin : ∀ live as M Ret, T live as M Ret → (lg_sl as).length ≤ nL ∧ am_wp (code live Ret) (am_cut0 (inv live as M Ret)) N (am_go (code live Ret) 0) (lv_args 0 as) [] M)
    (hl : ∀ live as M0 Ret, T live as M0 Ret → ∀ (k : Nat × Nat) (pc : Nat) I, inv live as M0 Ret pc = some I → ∀ L st M, I.2 k L st M → am_wp (code live Ret) (am_cutl (inv live as M0 Ret) k) N (am_go (code live Ret) pc) L st M) :
    am_Met y cc nL rt rf rl T := by
  intro l D cA al B live as M Ret hT
  refine Met.ofW (cc := cc) (maxL := nL) (ret := rt) hy rfl ?_
  intro p e s m args below meth c s₁ Bd hml hv
  obtain ⟨rfl, hsz, hP, hK, hZ, hN⟩ := hv
  have hts0 := atoms_spec (ws := Cond.code y cc nL rt :: am_ws) Bd.pre
  have hC : am_C p s m (as.map (am_cv al)).toArray meth c D cA al B own cc nL rt := ⟨Bd.exec, Bd.bytes, hml, hown ▸ findClass_of_methodNamed Bd.named, fun w hw => hts0 w (List.mem_cons_of_mem _ hw), Bd.notSynchronized, Bd.returns, hK, hsz, hZ, hN⟩
  have hY : am_Yk s (as.map (am_cv al)).toArray below D cA al B live Ret rf rl (am_rm rf rl, 0, 0, MQ below (am_Qc D cA al B live Ret) (as.map (am_cv al)).toArray s 0 0 (fun q => B ≤ q)) := ⟨Nat.le_refl _, Nat.le_refl _, Nat.le_refl _, Nat.le_refl _, Or.inl ⟨rfl, rfl, rfl⟩⟩
  obtain ⟨hlen, hwp⟩ := hin live as M Ret hT
  obtain ⟨pc2, ⟨q, r, e1, e2⟩, w⟩ := am_wp_ok (l := l) (e := e) (below := below) (hok live Ret) hC hY (cut := am_cut0 (inv live as M Ret)) (fun pc' I' hc L' st' M' hh => by
    unfold am_cut0 at hc
    cases hi' : inv live as M Ret pc' with
    | none => rw [hi'] at hc; cases hc
    | some J =>
      rw [hi'] at hc
      cases hc
      obtain ⟨⟨a', b'⟩, hj⟩ := hh
      exact am_W_nm (ks := J.1) (am_loops (hok live Ret) hC hY N (hl live as M Ret hT) a' b' pc' J hi' _ st' M' hj)) N _ _ _ _ (fun x hx => am_go_in _ _ _ hx) hwp
  have e3 := am_go_hd _ _ _ _ e1
  have e4 : pc2 = 0 := by rw [← e2, e3]
  subst e4
  have hle := lv_entry (as.map (am_cv al)) (n := nL) (by rw [am_slen]; exact hlen)
  rw [am_args] at hle
  rw [lg_entry_eq]
  exact w s.heap [] _ hP va_S.rf hle
theorem am_met0 {y : MethodName} {own : String} {cc : ByteArray} {nL : Nat} {rt : Option FieldType} {rf rl : Nat} {T : am_T} (hy : plainName y.cls = true) (hown : y.cls = own) (code : am_E → am_R → am_code)
    (hok : ∀ live Ret, ∀ q ∈ code live Ret, am_ok own cc nL rt rf rl live Ret q.1 q.2) (N : Nat) (inv : am_E → List Value → am_M → am_R → am_inv)
    (hin : ∀ live as M Ret, T live as M Ret → (lg_sl as).length ≤ nL ∧ ∃ I k, inv live as M Ret 0 = some I ∧ I.2 k (am_nm I.1 (lv_args 0 as)) [] M)
    (hl : ∀ live as M0 Ret, T live as M0 Ret → ∀ (k : Nat × Nat) (pc : Nat) I, inv live as M0 Ret pc = some I → ∀ L st M, I.2 k L st M → am_wp (code live Ret) (am_cutl (inv live as M0 Ret) k) N (am_go (code live Ret) pc) L st M) :
    am_Met y cc nL rt rf rl T := by
  intro l D cA al B live as M Ret hT
  refine Met.ofW (cc := cc) (maxL := nL) (ret := rt) hy rfl ?_
  intro p e s m args below meth c s₁ Bd hml hv
  obtain ⟨rfl, hsz, hP, hK, hZ, hN⟩ := hv
  have hts0 := atoms_spec (ws := Cond.code y cc nL rt :: am_ws) Bd.pre
  have hC : am_C p s m (as.map (am_cv al)).toArray meth c D cA al B own cc nL rt := ⟨Bd.exec, Bd.bytes, hml, hown ▸ findClass_of_methodNamed Bd.named, fun w hw => hts0 w (List.mem_cons_of_mem _ hw), Bd.notSynchronized, Bd.returns, hK, hsz, hZ, hN⟩
  have hY : am_Yk s (as.map (am_cv al)).toArray below D cA al B live Ret rf rl (am_rm rf rl, 0, 0, MQ below (am_Qc D cA al B live Ret) (as.map (am_cv al)).toArray s 0 0 (fun q => B ≤ q)) := ⟨Nat.le_refl _, Nat.le_refl _, Nat.le_refl _, Nat.le_refl _, Or.inl ⟨rfl, rfl, rfl⟩⟩
  obtain ⟨hlen, J, ⟨a', b'⟩, hi', hj⟩ := hin live as M Ret hT
  have w := am_W_nm (ks := J.1) (am_loops (l := l) (e := e) (below := below) (hok live Ret) hC hY N (hl live as M Ret hT) a' b' 0 J hi' _ [] M hj)
  have hle := lv_entry (as.map (am_cv al)) (n := nL) (by rw [am_slen]; exact hlen)
  rw [am_args] at hle
  rw [lg_entry_eq]
  exact w s.heap [] _ hP va_S.rf hle
end
section
/-! what each instruction does to names, and that the machine does so -/
def am_const (v : Value) (nx : Nat) : am_S := fun L st M K => K nx L (v :: st) M
def am_iload (i nx : Nat) : am_S := fun L st M K => match am_g L i with
  | some (.int x) => K nx L (.int x :: st) M
  | _ => False
def am_lload (i nx : Nat) : am_S := fun L st M K => match am_g L i with
  | some (.long x) => K nx L (.long x :: st) M
  | _ => False
def am_aload (i nx : Nat) : am_S := fun L st M K => match am_g L i with
  | some (.ref x) => K nx L (.ref x :: st) M
  | _ => False
def am_istore (i nL nx : Nat) : am_S := fun L st M K => match st with
  | .int x :: r => am_if (Nat.blt i nL) (am_force (am_s1 i (.int x) L) (fun L' => K nx L' r M))
  | _ => False
def am_astore (i nL nx : Nat) : am_S := fun L st M K => match st with
  | .ref x :: r => am_if (Nat.blt i nL) (am_force (am_s1 i (.ref x) L) (fun L' => K nx L' r M))
  | _ => False
def am_lstore (i nL nx : Nat) : am_S := fun L st M K => match st with
  | .long x :: r => am_if (Nat.blt (i + 1) nL) (am_force (am_s2 i (.long x) L) (fun L' => K nx L' r M))
  | _ => False
def am_iinc (i nL : Nat) (d : Int32) (nx : Nat) : am_S := fun L st M K => match am_g L i with
  | some (.int x) => am_if (Nat.blt i nL) (am_force (am_s1 i (.int (x + d)) L) (fun L' => K nx L' st M))
  | _ => False
def am_i2 (f : Int32 → Int32 → Int32) (nx : Nat) : am_S := fun L st M K => match st with
  | .int y :: .int x :: r => K nx L (.int (f x y) :: r) M
  | _ => False
def am_i2z (f : Int32 → Int32 → Int32) (nx : Nat) : am_S := fun L st M K => match st with
  | .int y :: .int x :: r => (¬ y = 0) ∧ K nx L (.int (f x y) :: r) M
  | _ => False
def am_i1 (f : Int32 → Int32) (nx : Nat) : am_S := fun L st M K => match st with
  | .int x :: r => K nx L (.int (f x) :: r) M
  | _ => False
def am_l2 (f : Int64 → Int64 → Int64) (nx : Nat) : am_S := fun L st M K => match st with
  | .long y :: .long x :: r => K nx L (.long (f x y) :: r) M
  | _ => False
def am_l2z (f : Int64 → Int64 → Int64) (nx : Nat) : am_S := fun L st M K => match st with
  | .long y :: .long x :: r => (¬ y = 0) ∧ K nx L (.long (f x y) :: r) M
  | _ => False
def am_l1 (f : Int64 → Int64) (nx : Nat) : am_S := fun L st M K => match st with
  | .long x :: r => K nx L (.long (f x) :: r) M
  | _ => False
def am_lsh (f : Int64 → Int32 → Int64) (nx : Nat) : am_S := fun L st M K => match st with
  | .int y :: .long x :: r => K nx L (.long (f x y) :: r) M
  | _ => False
def am_i2l (nx : Nat) : am_S := fun L st M K => match st with
  | .int x :: r => K nx L (.long x.toInt64 :: r) M
  | _ => False
def am_l2i (nx : Nat) : am_S := fun L st M K => match st with
  | .long x :: r => K nx L (.int x.toInt32 :: r) M
  | _ => False
def am_lcmp (nx : Nat) : am_S := fun L st M K => match st with
  | .long y :: .long x :: r => K nx L (.int (lg_cmp x y) :: r) M
  | _ => False
def am_dup (nx : Nat) : am_S := fun L st M K => match st with
  | v :: r => am_if (Nat.beq v.category 1) (K nx L (v :: v :: r) M)
  | _ => False
def am_dup2 (nx : Nat) : am_S := fun L st M K => match st with
  | .long x :: r => K nx L (.long x :: .long x :: r) M
  | v :: w :: r => am_if (Nat.beq v.category 1 && Nat.beq w.category 1) (K nx L (v :: w :: v :: w :: r) M)
  | _ => False
def am_pop (nx : Nat) : am_S := fun L st M K => match st with
  | v :: r => am_if (Nat.beq v.category 1) (K nx L r M)
  | _ => False
def am_pop2 (nx : Nat) : am_S := fun L st M K => match st with
  | .long _ :: r => K nx L r M
  | _ => False
def am_if1 (cd : Int32 → Prop) (tg nx : Nat) : am_S := fun L st M K => match st with
  | .int x :: r => (cd x → K tg L r M) ∧ (¬ cd x → K nx L r M)
  | _ => False
def am_if2 (cd : Int32 → Int32 → Prop) (tg nx : Nat) : am_S := fun L st M K => match st with
  | .int y :: .int x :: r => (cd x y → K tg L r M) ∧ (¬ cd x y → K nx L r M)
  | _ => False
def am_goto (tg : Nat) : am_S := fun L st M K => K tg L st M
def am_switch (cs : List (Int32 × Nat)) (d : Nat) : am_S := fun L st M K => match st with
  | .int x :: r => am_swc x cs d (fun t => K t L r M)
  | _ => False
def am_getI (live : am_E) (ci k nx : Nat) : am_S := fun L st M K => match st with
  | .ref n :: r => am_if (am_isO live ci n) (K nx L (.int (M.1 n k) :: r) M)
  | _ => False
def am_getJ (live : am_E) (ci k nx : Nat) : am_S := fun L st M K => match st with
  | .ref n :: r => am_if (am_isO live ci n) (K nx L (.long (M.2 n k) :: r) M)
  | _ => False
def am_getR (live : am_E) (ci k nx : Nat) : am_S := fun L st M K => match st with
  | .ref n :: r => am_if (am_isO live ci n) (am_ex (live.2 n k) (fun q => K nx L (.ref q :: r) M))
  | _ => False
def am_putI (live : am_E) (ci k nx : Nat) : am_S := fun L st M K => match st with
  | .int x :: .ref n :: r => am_if (am_isO live ci n) (K nx L r (am_wI M n k x))
  | _ => False
def am_putZ (live : am_E) (ci k nx : Nat) : am_S := fun L st M K => match st with
  | .int x :: .ref n :: r => am_if (am_isO live ci n) ((x = 0 ∨ x = 1) ∧ K nx L r (am_wI M n k x))
  | _ => False
def am_putJ (live : am_E) (ci k nx : Nat) : am_S := fun L st M K => match st with
  | .long x :: .ref n :: r => am_if (am_isO live ci n) (K nx L r (am_wJ M n k x))
  | _ => False
def am_in (j : Int32) (N : Nat) : Prop := 0 ≤ j.toInt ∧ j.toInt < (N : Int)
def am_ald (live : am_E) (t nx : Nat) : am_S := fun L st M K => match st with
  | .int j :: .ref n :: r => am_if (am_isA live t n) (am_in j (am_len n) ∧ K nx L (.int (M.1 n j.toNatClampNeg) :: r) M)
  | _ => False
def am_sld (k nx : Nat) : am_S := fun L st M K => match st with
  | .int j :: .ref n :: r => am_if (Nat.beq n (1000 + k)) (am_in j (am_sN k) ∧ K nx L (.int (am_sf k j.toNatClampNeg) :: r) M)
  | _ => False
def am_lald (live : am_E) (t nx : Nat) : am_S := fun L st M K => match st with
  | .int j :: .ref n :: r => am_if (am_isA live t n) (am_in j (am_len n) ∧ K nx L (.long (M.2 n j.toNatClampNeg) :: r) M)
  | _ => False
def am_aald (live : am_E) (t nx : Nat) : am_S := fun L st M K => match st with
  | .int j :: .ref n :: r => am_if (am_isA live t n) (am_in j (am_len n) ∧ (am_ex (live.2 n j.toNatClampNeg) (fun q => K nx L (.ref q :: r) M)))
  | _ => False
def am_ast (live : am_E) (t nx : Nat) : am_S := fun L st M K => match st with
  | .int x :: .int j :: .ref n :: r => am_if (am_isA live t n) (am_in j (am_len n) ∧ K nx L r (am_wI M n j.toNatClampNeg x))
  | _ => False
def am_zst (live : am_E) (t nx : Nat) : am_S := fun L st M K => match st with
  | .int x :: .int j :: .ref n :: r => am_if (am_isA live t n) (am_in j (am_len n) ∧ K nx L r (am_wI M n j.toNatClampNeg (vp_nar .boolean x)))
  | _ => False
def am_last (live : am_E) (t nx : Nat) : am_S := fun L st M K => match st with
  | .long x :: .int j :: .ref n :: r => am_if (am_isA live t n) (am_in j (am_len n) ∧ K nx L r (am_wJ M n j.toNatClampNeg x))
  | _ => False
def am_alen (live : am_E) (t nx : Nat) : am_S := fun L st M K => match st with
  | .ref n :: r => am_if (am_isA live t n) (K nx L (.int (Int32.ofNat (am_len n)) :: r) M)
  | _ => False
def am_retI (Ret : am_R) : am_S := fun L st M K => match st with
  | [.int v] => Ret (some (.int v)) M
  | _ => False
def am_retZ (Ret : am_R) : am_S := fun L st M K => match st with
  | [.int v] => (v = 0 ∨ v = 1) ∧ Ret (some (.int v)) M
  | _ => False
def am_retL (Ret : am_R) : am_S := fun L st M K => match st with
  | [.long v] => Ret (some (.long v)) M
  | _ => False
def am_retV (Ret : am_R) : am_S := fun L st M K => match st with
  | [] => Ret none M
  | _ => False
def am_cats (st : List Value) : Nat := (st.map fun v => v.category).sum
def am_callV (live : am_E) (ci n : Nat) (T : am_T) (nx : Nat) : am_S := fun L st M K => match st.drop n with
  | .ref q :: r => am_if (am_isO live ci q && Nat.beq (st.take n).length n && Nat.ble (am_cats r) 8) (T live (.ref q :: (st.take n).reverse) M (fun v M' => K nx L (v.toList ++ r) M'))
  | _ => False
def am_callS (live : am_E) (n : Nat) (T : am_T) (nx : Nat) : am_S := fun L st M K => am_if (Nat.beq (st.take n).length n && Nat.ble (am_cats (st.drop n)) 8) (T live (st.take n).reverse M (fun v M' => K nx L (v.toList ++ st.drop n) M'))
def am_math2 (f : Int32 → Int32 → Int32) (rl nx : Nat) : am_S := fun L st M K => match st with
  | .int y :: .int x :: r => am_if (Nat.ble (am_cats r + 13) rl) (K nx L (.int (f x y) :: r) M)
  | _ => False
def am_math1 (f : Int32 → Int32) (rl nx : Nat) : am_S := fun L st M K => match st with
  | .int x :: r => am_if (Nat.ble (am_cats r + 13) rl) (K nx L (.int (f x) :: r) M)
  | _ => False
def am_mathl (f : Int64 → Int64 → Int64) (rl nx : Nat) : am_S := fun L st M K => match st with
  | .long y :: .long x :: r => am_if (Nat.ble (am_cats r + 15) rl) (K nx L (.long (f x y) :: r) M)
  | _ => False
theorem am_in_vp {j : Int32} {N : Nat} (h : am_in j N) : vp_in j N := vp_in_iff.mpr h
theorem am_cats_cv (al : Nat → Nat) : ∀ st : List Value, ((st.map (am_cv al)).map fun v => v.category).sum = am_cats st
  | [] => rfl
  | v :: r => by
    show (am_cv al v).category + _ = v.category + am_cats r
    rw [am_cv_cat]
    exact congrArg (v.category + ·) (am_cats_cv al r)
section AK
variable {own : String} {cc : ByteArray} {nL : Nat} {rt : Option FieldType} {rf rl : Nat} {live : am_E} {Ret : am_R} {pc nx : Nat}
theorem ak_iconst {n : Int} {v : Int32} (hd : decode cc pc = .ok (.iconst n, 1)) (hv : Int32.ofInt n = v) (hn : pc + 1 = nx) : am_ok own cc nL rt rf rl live Ret pc (am_const (.int v) nx) := by
  subst hn
  intro p l e s m args below meth c D cA al B hC Y hY L st M K hK h H locs ls hP hS hl
  exact lv_iconst hC.1 hC.2.1 hd hv (hK _ _ _ _ h H locs ls hP hS hl)
theorem ak_bipush {n : Int} {v : Int32} (hd : decode cc pc = .ok (.bipush n, 2)) (hv : (Int8.ofInt n).toInt32 = v) (hn : pc + 2 = nx) : am_ok own cc nL rt rf rl live Ret pc (am_const (.int v) nx) := by
  subst hn
  intro p l e s m args below meth c D cA al B hC Y hY L st M K hK h H locs ls hP hS hl
  exact lv_bipush hC.1 hC.2.1 hd hv (hK _ _ _ _ h H locs ls hP hS hl)
theorem ak_sipush {n : Int} {v : Int32} (hd : decode cc pc = .ok (.sipush n, 3)) (hv : (Int16.ofInt n).toInt32 = v) (hn : pc + 3 = nx) : am_ok own cc nL rt rf rl live Ret pc (am_const (.int v) nx) := by
  subst hn
  intro p l e s m args below meth c D cA al B hC Y hY L st M K hK h H locs ls hP hS hl
  exact lv_sipush hC.1 hC.2.1 hd hv (hK _ _ _ _ h H locs ls hP hS hl)
theorem ak_lconst {n : Fin 2} {v : Int64} (hd : decode cc pc = .ok (.lconst n, 1)) (hv : Int64.ofNat (n : Nat) = v) (hn : pc + 1 = nx) : am_ok own cc nL rt rf rl live Ret pc (am_const (.long v) nx) := by
  subst hn
  intro p l e s m args below meth c D cA al B hC Y hY L st M K hK h H locs ls hP hS hl
  exact lv_lconst hC.1 hC.2.1 hd hv (hK _ _ _ _ h H locs ls hP hS hl)
theorem ak_ldc {idx : Nat} {v : Int32} (hw : Jvm.Cond.constant own idx v ∈ am_ws) (hd : decode cc pc = .ok (.ldc idx, 2)) (hn : pc + 2 = nx) : am_ok own cc nL rt rf rl live Ret pc (am_const (.int v) nx) := by
  subst hn
  intro p l e s m args below meth c D cA al B hC Y hY L st M K hK h H locs ls hP hS hl
  exact lv_ldc hC.1 hC.2.1 hC.2.2.2.1 (hC.2.2.2.2.1 _ hw) hd (hK _ _ _ _ h H locs ls hP hS hl)
theorem ak_ldcw {idx : Nat} {v : Int32} (hw : Jvm.Cond.constant own idx v ∈ am_ws) (hd : decode cc pc = .ok (.ldc_w idx, 3)) (hn : pc + 3 = nx) : am_ok own cc nL rt rf rl live Ret pc (am_const (.int v) nx) := by
  subst hn
  intro p l e s m args below meth c D cA al B hC Y hY L st M K hK h H locs ls hP hS hl
  exact lv_ldcw hC.1 hC.2.1 hC.2.2.2.1 (hC.2.2.2.2.1 _ hw) hd (hK _ _ _ _ h H locs ls hP hS hl)
theorem ak_ldc2 {idx : Nat} {v : Int64} (hw : Jvm.Cond.constantLong own idx v ∈ am_ws) (hd : decode cc pc = .ok (.ldc2_w idx, 3)) (hn : pc + 3 = nx) : am_ok own cc nL rt rf rl live Ret pc (am_const (.long v) nx) := by
  subst hn
  intro p l e s m args below meth c D cA al B hC Y hY L st M K hK h H locs ls hP hS hl
  exact lv_ldc2 hC.1 hC.2.1 hC.2.2.2.1 (hC.2.2.2.2.1 _ hw) hd (hK _ _ _ _ h H locs ls hP hS hl)
theorem am_ild {L : am_L} {i : Nat} {P : Int32 → Prop} (h : match am_g L i with | some (.int x) => P x | _ => False) : ∃ x, am_g L i = some (.int x) ∧ P x := by
  split at h
  · next x hx => exact ⟨x, hx, h⟩
  · exact h.elim
theorem am_lld {L : am_L} {i : Nat} {P : Int64 → Prop} (h : match am_g L i with | some (.long x) => P x | _ => False) : ∃ x, am_g L i = some (.long x) ∧ P x := by
  split at h
  · next x hx => exact ⟨x, hx, h⟩
  · exact h.elim
theorem am_all {L : am_L} {i : Nat} {P : Nat → Prop} (h : match am_g L i with | some (.ref x) => P x | _ => False) : ∃ x, am_g L i = some (.ref x) ∧ P x := by
  split at h
  · next x hx => exact ⟨x, hx, h⟩
  · exact h.elim
theorem ak_iload_n {k : Fin 4} {i : Nat} (hd : decode cc pc = .ok (.iload_n k, 1)) (hi : (k : Nat) = i) (hn : pc + 1 = nx) : am_ok own cc nL rt rf rl live Ret pc (am_iload i nx) := by
  subst hn
  intro p l e s m args below meth c D cA al B hC Y hY L st M K hK h H locs ls hP hS hl
  obtain ⟨x, hx, h⟩ := am_ild (P := fun x => K (pc + 1) L (.int x :: st) M) h
  exact lv_iload_n hC.1 hC.2.1 hd hi (am_lc_at hl hx) (hK _ _ _ _ h H locs ls hP hS hl)
theorem ak_iload {i : Nat} (hd : decode cc pc = .ok (.iload i, 2)) (hn : pc + 2 = nx) : am_ok own cc nL rt rf rl live Ret pc (am_iload i nx) := by
  subst hn
  intro p l e s m args below meth c D cA al B hC Y hY L st M K hK h H locs ls hP hS hl
  obtain ⟨x, hx, h⟩ := am_ild (P := fun x => K (pc + 2) L (.int x :: st) M) h
  exact lv_iload hC.1 hC.2.1 hd (am_lc_at hl hx) (hK _ _ _ _ h H locs ls hP hS hl)
theorem ak_lload_n {k : Fin 4} {i : Nat} (hd : decode cc pc = .ok (.lload_n k, 1)) (hi : (k : Nat) = i) (hn : pc + 1 = nx) : am_ok own cc nL rt rf rl live Ret pc (am_lload i nx) := by
  subst hn
  intro p l e s m args below meth c D cA al B hC Y hY L st M K hK h H locs ls hP hS hl
  obtain ⟨x, hx, h⟩ := am_lld (P := fun x => K (pc + 1) L (.long x :: st) M) h
  exact lv_lload_n hC.1 hC.2.1 hd hi (am_lc_at hl hx) (hK _ _ _ _ h H locs ls hP hS hl)
theorem ak_lload {i : Nat} (hd : decode cc pc = .ok (.lload i, 2)) (hn : pc + 2 = nx) : am_ok own cc nL rt rf rl live Ret pc (am_lload i nx) := by
  subst hn
  intro p l e s m args below meth c D cA al B hC Y hY L st M K hK h H locs ls hP hS hl
  obtain ⟨x, hx, h⟩ := am_lld (P := fun x => K (pc + 2) L (.long x :: st) M) h
  exact lv_lload hC.1 hC.2.1 hd (am_lc_at hl hx) (hK _ _ _ _ h H locs ls hP hS hl)
theorem ak_aload_n {k : Fin 4} {i : Nat} (hd : decode cc pc = .ok (.aload_n k, 1)) (hi : (k : Nat) = i) (hn : pc + 1 = nx) : am_ok own cc nL rt rf rl live Ret pc (am_aload i nx) := by
  subst hn
  intro p l e s m args below meth c D cA al B hC Y hY L st M K hK h H locs ls hP hS hl
  obtain ⟨x, hx, h⟩ := am_all (P := fun x => K (pc + 1) L (.ref x :: st) M) h
  exact lv_aload_n hC.1 hC.2.1 hd hi (am_lc_at hl hx) (hK _ _ _ _ h H locs ls hP hS hl)
theorem ak_aload {i : Nat} (hd : decode cc pc = .ok (.aload i, 2)) (hn : pc + 2 = nx) : am_ok own cc nL rt rf rl live Ret pc (am_aload i nx) := by
  subst hn
  intro p l e s m args below meth c D cA al B hC Y hY L st M K hK h H locs ls hP hS hl
  obtain ⟨x, hx, h⟩ := am_all (P := fun x => K (pc + 2) L (.ref x :: st) M) h
  exact lv_aload hC.1 hC.2.1 hd (am_lc_at hl hx) (hK _ _ _ _ h H locs ls hP hS hl)
theorem ak_istore_n {k : Fin 4} {i : Nat} (hd : decode cc pc = .ok (.istore_n k, 1)) (hi : (k : Nat) = i) (hn : pc + 1 = nx) : am_ok own cc nL rt rf rl live Ret pc (am_istore i nL nx) := by
  subst hn
  intro p l e s m args below meth c D cA al B hC Y hY L st M K hK h H locs ls hP hS hl
  unfold am_istore at h
  split at h
  · next x r =>
    obtain ⟨hb, h⟩ := am_if_mp h
    rw [am_force_iff] at h
    exact lv_istore_n hC.1 hC.2.1 hd hi hl (Nat.le_of_ble_eq_true hb) (am_lc_s1 al i (.int x) L) (fun ls' hl' => hK _ _ _ _ h H locs ls' hP hS hl')
  · exact h.elim
theorem ak_istore {i : Nat} (hd : decode cc pc = .ok (.istore i, 2)) (hn : pc + 2 = nx) : am_ok own cc nL rt rf rl live Ret pc (am_istore i nL nx) := by
  subst hn
  intro p l e s m args below meth c D cA al B hC Y hY L st M K hK h H locs ls hP hS hl
  unfold am_istore at h
  split at h
  · next x r =>
    obtain ⟨hb, h⟩ := am_if_mp h
    rw [am_force_iff] at h
    exact lv_istore hC.1 hC.2.1 hd hl (Nat.le_of_ble_eq_true hb) (am_lc_s1 al i (.int x) L) (fun ls' hl' => hK _ _ _ _ h H locs ls' hP hS hl')
  · exact h.elim
theorem ak_astore_n {k : Fin 4} {i : Nat} (hd : decode cc pc = .ok (.astore_n k, 1)) (hi : (k : Nat) = i) (hn : pc + 1 = nx) : am_ok own cc nL rt rf rl live Ret pc (am_astore i nL nx) := by
  subst hn
  intro p l e s m args below meth c D cA al B hC Y hY L st M K hK h H locs ls hP hS hl
  unfold am_astore at h
  split at h
  · next x r =>
    obtain ⟨hb, h⟩ := am_if_mp h
    rw [am_force_iff] at h
    exact lv_astore_n hC.1 hC.2.1 hd hi hl (Nat.le_of_ble_eq_true hb) (am_lc_s1 al i (.ref x) L) (fun ls' hl' => hK _ _ _ _ h H locs ls' hP hS hl')
  · exact h.elim
theorem ak_astore {i : Nat} (hd : decode cc pc = .ok (.astore i, 2)) (hn : pc + 2 = nx) : am_ok own cc nL rt rf rl live Ret pc (am_astore i nL nx) := by
  subst hn
  intro p l e s m args below meth c D cA al B hC Y hY L st M K hK h H locs ls hP hS hl
  unfold am_astore at h
  split at h
  · next x r =>
    obtain ⟨hb, h⟩ := am_if_mp h
    rw [am_force_iff] at h
    exact lv_astore hC.1 hC.2.1 hd hl (Nat.le_of_ble_eq_true hb) (am_lc_s1 al i (.ref x) L) (fun ls' hl' => hK _ _ _ _ h H locs ls' hP hS hl')
  · exact h.elim
theorem ak_lstore_n {k : Fin 4} {i : Nat} (hd : decode cc pc = .ok (.lstore_n k, 1)) (hi : (k : Nat) = i) (hn : pc + 1 = nx) : am_ok own cc nL rt rf rl live Ret pc (am_lstore i nL nx) := by
  subst hn
  intro p l e s m args below meth c D cA al B hC Y hY L st M K hK h H locs ls hP hS hl
  unfold am_lstore at h
  split at h
  · next x r =>
    obtain ⟨hb, h⟩ := am_if_mp h
    rw [am_force_iff] at h
    exact lv_lstore_n hC.1 hC.2.1 hd hi hl (Nat.le_of_ble_eq_true hb) (am_lc_s2 al i (.long x) L) (fun ls' hl' => hK _ _ _ _ h H locs ls' hP hS hl')
  · exact h.elim
theorem ak_lstore {i : Nat} (hd : decode cc pc = .ok (.lstore i, 2)) (hn : pc + 2 = nx) : am_ok own cc nL rt rf rl live Ret pc (am_lstore i nL nx) := by
  subst hn
  intro p l e s m args below meth c D cA al B hC Y hY L st M K hK h H locs ls hP hS hl
  unfold am_lstore at h
  split at h
  · next x r =>
    obtain ⟨hb, h⟩ := am_if_mp h
    rw [am_force_iff] at h
    exact lv_lstore hC.1 hC.2.1 hd hl (Nat.le_of_ble_eq_true hb) (am_lc_s2 al i (.long x) L) (fun ls' hl' => hK _ _ _ _ h H locs ls' hP hS hl')
  · exact h.elim
theorem ak_iinc {i : Nat} {n : Int} {d : Int32} (hd : decode cc pc = .ok (.iinc i n, 3)) (hv : Int32.ofInt n = d) (hn : pc + 3 = nx) : am_ok own cc nL rt rf rl live Ret pc (am_iinc i nL d nx) := by
  subst hn
  subst hv
  intro p l e s m args below meth c D cA al B hC Y hY L st M K hK h H locs ls hP hS hl
  obtain ⟨x, hx, h⟩ := am_ild (P := fun x => am_if (Nat.blt i nL) (am_force (am_s1 i (.int (x + Int32.ofInt n)) L) (fun L' => K (pc + 3) L' st M))) h
  obtain ⟨hb, h⟩ := am_if_mp h
  rw [am_force_iff] at h
  obtain ⟨k, hk⟩ := am_lc_pl (al := al) hx
  exact lv_iinc hC.1 hC.2.1 hd hl hk rfl (Nat.le_of_ble_eq_true hb) (am_lc_s1 al i (.int (x + Int32.ofInt n)) L) (fun ls' hl' => hK _ _ _ _ h H locs ls' hP hS hl')
theorem ak_iadd (hd : decode cc pc = .ok (.iadd, 1)) (hn : pc + 1 = nx) : am_ok own cc nL rt rf rl live Ret pc (am_i2 (fun x y => x + y) nx) := by
  subst hn
  intro p l e s m args below meth c D cA al B hC Y hY L st M K hK h H locs ls hP hS hl
  unfold am_i2 at h
  split at h
  · exact lv_iadd hC.1 hC.2.1 hd (hK _ _ _ _ h H locs ls hP hS hl)
  · exact h.elim
theorem ak_isub (hd : decode cc pc = .ok (.isub, 1)) (hn : pc + 1 = nx) : am_ok own cc nL rt rf rl live Ret pc (am_i2 (fun x y => x - y) nx) := by
  subst hn
  intro p l e s m args below meth c D cA al B hC Y hY L st M K hK h H locs ls hP hS hl
  unfold am_i2 at h
  split at h
  · exact lv_isub hC.1 hC.2.1 hd (hK _ _ _ _ h H locs ls hP hS hl)
  · exact h.elim
theorem ak_imul (hd : decode cc pc = .ok (.imul, 1)) (hn : pc + 1 = nx) : am_ok own cc nL rt rf rl live Ret pc (am_i2 (fun x y => x * y) nx) := by
  subst hn
  intro p l e s m args below meth c D cA al B hC Y hY L st M K hK h H locs ls hP hS hl
  unfold am_i2 at h
  split at h
  · exact lv_imul hC.1 hC.2.1 hd (hK _ _ _ _ h H locs ls hP hS hl)
  · exact h.elim
theorem ak_iand (hd : decode cc pc = .ok (.iand, 1)) (hn : pc + 1 = nx) : am_ok own cc nL rt rf rl live Ret pc (am_i2 (fun x y => x &&& y) nx) := by
  subst hn
  intro p l e s m args below meth c D cA al B hC Y hY L st M K hK h H locs ls hP hS hl
  unfold am_i2 at h
  split at h
  · exact lv_iand hC.1 hC.2.1 hd (hK _ _ _ _ h H locs ls hP hS hl)
  · exact h.elim
theorem ak_ior (hd : decode cc pc = .ok (.ior, 1)) (hn : pc + 1 = nx) : am_ok own cc nL rt rf rl live Ret pc (am_i2 (fun x y => x ||| y) nx) := by
  subst hn
  intro p l e s m args below meth c D cA al B hC Y hY L st M K hK h H locs ls hP hS hl
  unfold am_i2 at h
  split at h
  · exact lv_ior hC.1 hC.2.1 hd (hK _ _ _ _ h H locs ls hP hS hl)
  · exact h.elim
theorem ak_ixor (hd : decode cc pc = .ok (.ixor, 1)) (hn : pc + 1 = nx) : am_ok own cc nL rt rf rl live Ret pc (am_i2 (fun x y => x ^^^ y) nx) := by
  subst hn
  intro p l e s m args below meth c D cA al B hC Y hY L st M K hK h H locs ls hP hS hl
  unfold am_i2 at h
  split at h
  · exact lv_ixor hC.1 hC.2.1 hd (hK _ _ _ _ h H locs ls hP hS hl)
  · exact h.elim
theorem ak_ishl (hd : decode cc pc = .ok (.ishl, 1)) (hn : pc + 1 = nx) : am_ok own cc nL rt rf rl live Ret pc (am_i2 (fun x y => x <<< (y &&& 31)) nx) := by
  subst hn
  intro p l e s m args below meth c D cA al B hC Y hY L st M K hK h H locs ls hP hS hl
  unfold am_i2 at h
  split at h
  · exact lv_ishl hC.1 hC.2.1 hd (hK _ _ _ _ h H locs ls hP hS hl)
  · exact h.elim
theorem ak_idiv (hd : decode cc pc = .ok (.idiv, 1)) (hn : pc + 1 = nx) : am_ok own cc nL rt rf rl live Ret pc (am_i2z (fun x y => x / y) nx) := by
  subst hn
  intro p l e s m args below meth c D cA al B hC Y hY L st M K hK h H locs ls hP hS hl
  unfold am_i2z at h
  split at h
  · exact lv_idiv hC.1 hC.2.1 hd h.1 (hK _ _ _ _ h.2 H locs ls hP hS hl)
  · exact h.elim
theorem ak_irem (hd : decode cc pc = .ok (.irem, 1)) (hn : pc + 1 = nx) : am_ok own cc nL rt rf rl live Ret pc (am_i2z (fun x y => x - x / y * y) nx) := by
  subst hn
  intro p l e s m args below meth c D cA al B hC Y hY L st M K hK h H locs ls hP hS hl
  unfold am_i2z at h
  split at h
  · exact lv_irem hC.1 hC.2.1 hd h.1 (hK _ _ _ _ h.2 H locs ls hP hS hl)
  · exact h.elim
theorem ak_ladd (hd : decode cc pc = .ok (.ladd, 1)) (hn : pc + 1 = nx) : am_ok own cc nL rt rf rl live Ret pc (am_l2 (fun x y => x + y) nx) := by
  subst hn
  intro p l e s m args below meth c D cA al B hC Y hY L st M K hK h H locs ls hP hS hl
  unfold am_l2 at h
  split at h
  · exact lv_ladd hC.1 hC.2.1 hd (hK _ _ _ _ h H locs ls hP hS hl)
  · exact h.elim
theorem ak_lsub (hd : decode cc pc = .ok (.lsub, 1)) (hn : pc + 1 = nx) : am_ok own cc nL rt rf rl live Ret pc (am_l2 (fun x y => x - y) nx) := by
  subst hn
  intro p l e s m args below meth c D cA al B hC Y hY L st M K hK h H locs ls hP hS hl
  unfold am_l2 at h
  split at h
  · exact lv_lsub hC.1 hC.2.1 hd (hK _ _ _ _ h H locs ls hP hS hl)
  · exact h.elim
theorem ak_lmul (hd : decode cc pc = .ok (.lmul, 1)) (hn : pc + 1 = nx) : am_ok own cc nL rt rf rl live Ret pc (am_l2 (fun x y => x * y) nx) := by
  subst hn
  intro p l e s m args below meth c D cA al B hC Y hY L st M K hK h H locs ls hP hS hl
  unfold am_l2 at h
  split at h
  · exact lv_lmul hC.1 hC.2.1 hd (hK _ _ _ _ h H locs ls hP hS hl)
  · exact h.elim
theorem ak_land (hd : decode cc pc = .ok (.land, 1)) (hn : pc + 1 = nx) : am_ok own cc nL rt rf rl live Ret pc (am_l2 (fun x y => x &&& y) nx) := by
  subst hn
  intro p l e s m args below meth c D cA al B hC Y hY L st M K hK h H locs ls hP hS hl
  unfold am_l2 at h
  split at h
  · exact lv_land hC.1 hC.2.1 hd (hK _ _ _ _ h H locs ls hP hS hl)
  · exact h.elim
theorem ak_lor (hd : decode cc pc = .ok (.lor, 1)) (hn : pc + 1 = nx) : am_ok own cc nL rt rf rl live Ret pc (am_l2 (fun x y => x ||| y) nx) := by
  subst hn
  intro p l e s m args below meth c D cA al B hC Y hY L st M K hK h H locs ls hP hS hl
  unfold am_l2 at h
  split at h
  · exact lv_lor hC.1 hC.2.1 hd (hK _ _ _ _ h H locs ls hP hS hl)
  · exact h.elim
theorem ak_lxor (hd : decode cc pc = .ok (.lxor, 1)) (hn : pc + 1 = nx) : am_ok own cc nL rt rf rl live Ret pc (am_l2 (fun x y => x ^^^ y) nx) := by
  subst hn
  intro p l e s m args below meth c D cA al B hC Y hY L st M K hK h H locs ls hP hS hl
  unfold am_l2 at h
  split at h
  · exact lv_lxor hC.1 hC.2.1 hd (hK _ _ _ _ h H locs ls hP hS hl)
  · exact h.elim
theorem ak_ldiv (hd : decode cc pc = .ok (.ldiv, 1)) (hn : pc + 1 = nx) : am_ok own cc nL rt rf rl live Ret pc (am_l2z (fun x y => x / y) nx) := by
  subst hn
  intro p l e s m args below meth c D cA al B hC Y hY L st M K hK h H locs ls hP hS hl
  unfold am_l2z at h
  split at h
  · exact lv_ldiv hC.1 hC.2.1 hd h.1 (hK _ _ _ _ h.2 H locs ls hP hS hl)
  · exact h.elim
theorem ak_lrem (hd : decode cc pc = .ok (.lrem, 1)) (hn : pc + 1 = nx) : am_ok own cc nL rt rf rl live Ret pc (am_l2z (fun x y => x - x / y * y) nx) := by
  subst hn
  intro p l e s m args below meth c D cA al B hC Y hY L st M K hK h H locs ls hP hS hl
  unfold am_l2z at h
  split at h
  · exact lv_lrem hC.1 hC.2.1 hd h.1 (hK _ _ _ _ h.2 H locs ls hP hS hl)
  · exact h.elim
theorem ak_ineg (hd : decode cc pc = .ok (.ineg, 1)) (hn : pc + 1 = nx) : am_ok own cc nL rt rf rl live Ret pc (am_i1 (fun x => -x) nx) := by
  subst hn
  intro p l e s m args below meth c D cA al B hC Y hY L st M K hK h H locs ls hP hS hl
  unfold am_i1 at h
  split at h
  · exact lv_ineg hC.1 hC.2.1 hd (hK _ _ _ _ h H locs ls hP hS hl)
  · exact h.elim
theorem ak_lneg (hd : decode cc pc = .ok (.lneg, 1)) (hn : pc + 1 = nx) : am_ok own cc nL rt rf rl live Ret pc (am_l1 (fun x => -x) nx) := by
  subst hn
  intro p l e s m args below meth c D cA al B hC Y hY L st M K hK h H locs ls hP hS hl
  unfold am_l1 at h
  split at h
  · exact lv_lneg hC.1 hC.2.1 hd (hK _ _ _ _ h H locs ls hP hS hl)
  · exact h.elim
theorem ak_i2l (hd : decode cc pc = .ok (.i2l, 1)) (hn : pc + 1 = nx) : am_ok own cc nL rt rf rl live Ret pc (am_i2l nx) := by
  subst hn
  intro p l e s m args below meth c D cA al B hC Y hY L st M K hK h H locs ls hP hS hl
  unfold am_i2l at h
  split at h
  · exact lv_i2l hC.1 hC.2.1 hd rfl (hK _ _ _ _ h H locs ls hP hS hl)
  · exact h.elim
theorem ak_l2i (hd : decode cc pc = .ok (.l2i, 1)) (hn : pc + 1 = nx) : am_ok own cc nL rt rf rl live Ret pc (am_l2i nx) := by
  subst hn
  intro p l e s m args below meth c D cA al B hC Y hY L st M K hK h H locs ls hP hS hl
  unfold am_l2i at h
  split at h
  · exact lv_l2i hC.1 hC.2.1 hd rfl (hK _ _ _ _ h H locs ls hP hS hl)
  · exact h.elim
theorem ak_lcmp (hd : decode cc pc = .ok (.lcmp, 1)) (hn : pc + 1 = nx) : am_ok own cc nL rt rf rl live Ret pc (am_lcmp nx) := by
  subst hn
  intro p l e s m args below meth c D cA al B hC Y hY L st M K hK h H locs ls hP hS hl
  unfold am_lcmp at h
  split at h
  · exact W.lcmp hC.1 hC.2.1 hd (hK _ _ _ _ h H locs ls hP hS hl)
  · exact h.elim
theorem ak_lshl (hd : decode cc pc = .ok (.lshl, 1)) (hn : pc + 1 = nx) : am_ok own cc nL rt rf rl live Ret pc (am_lsh (fun x y => x <<< (y.toInt64 &&& 63)) nx) := by
  subst hn
  intro p l e s m args below meth c D cA al B hC Y hY L st M K hK h H locs ls hP hS hl
  unfold am_lsh at h
  split at h
  · exact lv_lshl hC.1 hC.2.1 hd rfl (hK _ _ _ _ h H locs ls hP hS hl)
  · exact h.elim
theorem ak_dup (hd : decode cc pc = .ok (.dup, 1)) (hn : pc + 1 = nx) : am_ok own cc nL rt rf rl live Ret pc (am_dup nx) := by
  subst hn
  intro p l e s m args below meth c D cA al B hC Y hY L st M K hK h H locs ls hP hS hl
  unfold am_dup at h
  split at h
  · obtain ⟨hb, h⟩ := am_if_mp h
    exact lv_dup hC.1 hC.2.1 hd (by rw [am_cv_cat]; exact Nat.eq_of_beq_eq_true hb) (hK _ _ _ _ h H locs ls hP hS hl)
  · exact h.elim
theorem ak_pop (hd : decode cc pc = .ok (.pop, 1)) (hn : pc + 1 = nx) : am_ok own cc nL rt rf rl live Ret pc (am_pop nx) := by
  subst hn
  intro p l e s m args below meth c D cA al B hC Y hY L st M K hK h H locs ls hP hS hl
  unfold am_pop at h
  split at h
  · obtain ⟨hb, h⟩ := am_if_mp h
    exact lv_pop hC.1 hC.2.1 hd (by rw [am_cv_cat]; exact Nat.eq_of_beq_eq_true hb) (hK _ _ _ _ h H locs ls hP hS hl)
  · exact h.elim
theorem ak_pop2 (hd : decode cc pc = .ok (.pop2, 1)) (hn : pc + 1 = nx) : am_ok own cc nL rt rf rl live Ret pc (am_pop2 nx) := by
  subst hn
  intro p l e s m args below meth c D cA al B hC Y hY L st M K hK h H locs ls hP hS hl
  unfold am_pop2 at h
  split at h
  · exact lv_pop2_2 hC.1 hC.2.1 hd rfl (hK _ _ _ _ h H locs ls hP hS hl)
  · exact h.elim
theorem ak_dup2 (hd : decode cc pc = .ok (.dup2, 1)) (hn : pc + 1 = nx) : am_ok own cc nL rt rf rl live Ret pc (am_dup2 nx) := by
  subst hn
  intro p l e s m args below meth c D cA al B hC Y hY L st M K hK h H locs ls hP hS hl
  unfold am_dup2 at h
  split at h
  · exact lv_dup2_2 hC.1 hC.2.1 hd rfl (hK _ _ _ _ h H locs ls hP hS hl)
  · obtain ⟨hb, h⟩ := am_if_mp h
    rw [Bool.and_eq_true] at hb
    exact lv_dup2_11 hC.1 hC.2.1 hd (by rw [am_cv_cat]; exact Nat.eq_of_beq_eq_true hb.1) (by rw [am_cv_cat]; exact Nat.eq_of_beq_eq_true hb.2) (hK _ _ _ _ h H locs ls hP hS hl)
  · exact h.elim
theorem ak_goto {off : Int} {tg : Nat} (hd : decode cc pc = .ok (.goto off, 3)) (ht : (pc : Int) + off = (tg : Int)) : am_ok own cc nL rt rf rl live Ret pc (am_goto tg) := by
  intro p l e s m args below meth c D cA al B hC Y hY L st M K hK h H locs ls hP hS hl
  exact lv_goto hC.1 hC.2.1 hd ht (hK _ _ _ _ h H locs ls hP hS hl)
theorem ak_if_eq {off : Int} {tg : Nat} (hd : decode cc pc = .ok (.ifCond .eq off, 3)) (ht : (pc : Int) + off = (tg : Int)) (hn : pc + 3 = nx) : am_ok own cc nL rt rf rl live Ret pc (am_if1 (fun x => x = 0) tg nx) := by
  subst hn
  intro p l e s m args below meth c D cA al B hC Y hY L st M K hK h H locs ls hP hS hl
  unfold am_if1 at h
  split at h
  · exact lv_if_eq hC.1 hC.2.1 hd ht (fun z => hK _ _ _ _ (h.1 z) H locs ls hP hS hl) (fun z => hK _ _ _ _ (h.2 z) H locs ls hP hS hl)
  · exact h.elim
theorem ak_icmp_eq {off : Int} {tg : Nat} (hd : decode cc pc = .ok (.if_icmp .eq off, 3)) (ht : (pc : Int) + off = (tg : Int)) (hn : pc + 3 = nx) : am_ok own cc nL rt rf rl live Ret pc (am_if2 (fun x y => x = y) tg nx) := by
  subst hn
  intro p l e s m args below meth c D cA al B hC Y hY L st M K hK h H locs ls hP hS hl
  unfold am_if2 at h
  split at h
  · exact lv_icmp_eq hC.1 hC.2.1 hd ht (fun z => hK _ _ _ _ (h.1 z) H locs ls hP hS hl) (fun z => hK _ _ _ _ (h.2 z) H locs ls hP hS hl)
  · exact h.elim
theorem ak_if_ne {off : Int} {tg : Nat} (hd : decode cc pc = .ok (.ifCond .ne off, 3)) (ht : (pc : Int) + off = (tg : Int)) (hn : pc + 3 = nx) : am_ok own cc nL rt rf rl live Ret pc (am_if1 (fun x => x = 0) nx tg) := by
  subst hn
  intro p l e s m args below meth c D cA al B hC Y hY L st M K hK h H locs ls hP hS hl
  unfold am_if1 at h
  split at h
  · exact lv_if_ne hC.1 hC.2.1 hd ht (fun z => hK _ _ _ _ (h.2 z) H locs ls hP hS hl) (fun z => hK _ _ _ _ (h.1 z) H locs ls hP hS hl)
  · exact h.elim
theorem ak_icmp_ne {off : Int} {tg : Nat} (hd : decode cc pc = .ok (.if_icmp .ne off, 3)) (ht : (pc : Int) + off = (tg : Int)) (hn : pc + 3 = nx) : am_ok own cc nL rt rf rl live Ret pc (am_if2 (fun x y => x = y) nx tg) := by
  subst hn
  intro p l e s m args below meth c D cA al B hC Y hY L st M K hK h H locs ls hP hS hl
  unfold am_if2 at h
  split at h
  · exact lv_icmp_ne hC.1 hC.2.1 hd ht (fun z => hK _ _ _ _ (h.2 z) H locs ls hP hS hl) (fun z => hK _ _ _ _ (h.1 z) H locs ls hP hS hl)
  · exact h.elim
theorem ak_if_lt {off : Int} {tg : Nat} (hd : decode cc pc = .ok (.ifCond .lt off, 3)) (ht : (pc : Int) + off = (tg : Int)) (hn : pc + 3 = nx) : am_ok own cc nL rt rf rl live Ret pc (am_if1 (fun x => x < 0) tg nx) := by
  subst hn
  intro p l e s m args below meth c D cA al B hC Y hY L st M K hK h H locs ls hP hS hl
  unfold am_if1 at h
  split at h
  · exact lv_if_lt hC.1 hC.2.1 hd ht (fun z => hK _ _ _ _ (h.1 z) H locs ls hP hS hl) (fun z => hK _ _ _ _ (h.2 z) H locs ls hP hS hl)
  · exact h.elim
theorem ak_icmp_lt {off : Int} {tg : Nat} (hd : decode cc pc = .ok (.if_icmp .lt off, 3)) (ht : (pc : Int) + off = (tg : Int)) (hn : pc + 3 = nx) : am_ok own cc nL rt rf rl live Ret pc (am_if2 (fun x y => x < y) tg nx) := by
  subst hn
  intro p l e s m args below meth c D cA al B hC Y hY L st M K hK h H locs ls hP hS hl
  unfold am_if2 at h
  split at h
  · exact lv_icmp_lt hC.1 hC.2.1 hd ht (fun z => hK _ _ _ _ (h.1 z) H locs ls hP hS hl) (fun z => hK _ _ _ _ (h.2 z) H locs ls hP hS hl)
  · exact h.elim
theorem ak_if_ge {off : Int} {tg : Nat} (hd : decode cc pc = .ok (.ifCond .ge off, 3)) (ht : (pc : Int) + off = (tg : Int)) (hn : pc + 3 = nx) : am_ok own cc nL rt rf rl live Ret pc (am_if1 (fun x => 0 ≤ x) tg nx) := by
  subst hn
  intro p l e s m args below meth c D cA al B hC Y hY L st M K hK h H locs ls hP hS hl
  unfold am_if1 at h
  split at h
  · exact lv_if_ge hC.1 hC.2.1 hd ht (fun z => hK _ _ _ _ (h.1 z) H locs ls hP hS hl) (fun z => hK _ _ _ _ (h.2 z) H locs ls hP hS hl)
  · exact h.elim
theorem ak_icmp_ge {off : Int} {tg : Nat} (hd : decode cc pc = .ok (.if_icmp .ge off, 3)) (ht : (pc : Int) + off = (tg : Int)) (hn : pc + 3 = nx) : am_ok own cc nL rt rf rl live Ret pc (am_if2 (fun x y => y ≤ x) tg nx) := by
  subst hn
  intro p l e s m args below meth c D cA al B hC Y hY L st M K hK h H locs ls hP hS hl
  unfold am_if2 at h
  split at h
  · exact lv_icmp_ge hC.1 hC.2.1 hd ht (fun z => hK _ _ _ _ (h.1 z) H locs ls hP hS hl) (fun z => hK _ _ _ _ (h.2 z) H locs ls hP hS hl)
  · exact h.elim
theorem ak_if_gt {off : Int} {tg : Nat} (hd : decode cc pc = .ok (.ifCond .gt off, 3)) (ht : (pc : Int) + off = (tg : Int)) (hn : pc + 3 = nx) : am_ok own cc nL rt rf rl live Ret pc (am_if1 (fun x => 0 < x) tg nx) := by
  subst hn
  intro p l e s m args below meth c D cA al B hC Y hY L st M K hK h H locs ls hP hS hl
  unfold am_if1 at h
  split at h
  · exact lv_if_gt hC.1 hC.2.1 hd ht (fun z => hK _ _ _ _ (h.1 z) H locs ls hP hS hl) (fun z => hK _ _ _ _ (h.2 z) H locs ls hP hS hl)
  · exact h.elim
theorem ak_icmp_gt {off : Int} {tg : Nat} (hd : decode cc pc = .ok (.if_icmp .gt off, 3)) (ht : (pc : Int) + off = (tg : Int)) (hn : pc + 3 = nx) : am_ok own cc nL rt rf rl live Ret pc (am_if2 (fun x y => y < x) tg nx) := by
  subst hn
  intro p l e s m args below meth c D cA al B hC Y hY L st M K hK h H locs ls hP hS hl
  unfold am_if2 at h
  split at h
  · exact lv_icmp_gt hC.1 hC.2.1 hd ht (fun z => hK _ _ _ _ (h.1 z) H locs ls hP hS hl) (fun z => hK _ _ _ _ (h.2 z) H locs ls hP hS hl)
  · exact h.elim
theorem ak_if_le {off : Int} {tg : Nat} (hd : decode cc pc = .ok (.ifCond .le off, 3)) (ht : (pc : Int) + off = (tg : Int)) (hn : pc + 3 = nx) : am_ok own cc nL rt rf rl live Ret pc (am_if1 (fun x => x ≤ 0) tg nx) := by
  subst hn
  intro p l e s m args below meth c D cA al B hC Y hY L st M K hK h H locs ls hP hS hl
  unfold am_if1 at h
  split at h
  · exact lv_if_le hC.1 hC.2.1 hd ht (fun z => hK _ _ _ _ (h.1 z) H locs ls hP hS hl) (fun z => hK _ _ _ _ (h.2 z) H locs ls hP hS hl)
  · exact h.elim
theorem ak_icmp_le {off : Int} {tg : Nat} (hd : decode cc pc = .ok (.if_icmp .le off, 3)) (ht : (pc : Int) + off = (tg : Int)) (hn : pc + 3 = nx) : am_ok own cc nL rt rf rl live Ret pc (am_if2 (fun x y => x ≤ y) tg nx) := by
  subst hn
  intro p l e s m args below meth c D cA al B hC Y hY L st M K hK h H locs ls hP hS hl
  unfold am_if2 at h
  split at h
  · exact lv_icmp_le hC.1 hC.2.1 hd ht (fun z => hK _ _ _ _ (h.1 z) H locs ls hP hS hl) (fun z => hK _ _ _ _ (h.2 z) H locs ls hP hS hl)
  · exact h.elim
end AK
end
section
/-! fields, arrays, statics, returns -/
theorem am_P1 {D : va_G} {cl : List vw_C} {q : Nat × va_E} {H : Heap} (h : va_at D cl q H) : va_P D cl [q] H := by
  intro k r hr
  cases k with
  | zero => cases hr; exact h
  | succ k => simp at hr
theorem am_V {N j : Nat} (f : Nat → Value) (h : j < N) : vp_V ((List.range N).map f) j = f j := by
  unfold vp_V
  rw [List.getD_eq_getElem?_getD, List.getElem?_map, List.getElem?_range h]
  rfl
theorem am_fvO {Q : Nat → Nat → Option Nat} {al : Nat → Nat} {M M' : am_M} {n ci : Nat} (h1 : ∀ k, M'.1 n k = M.1 n k) (h2 : ∀ k, M'.2 n k = M.2 n k) : am_fv Q al M' n ci = am_fv Q al M n ci := by
  funext k
  unfold am_fv
  rw [h1, h2]
theorem am_ceO {Q : Nat → Nat → Option Nat} {cA : Nat → ClassId} {al : Nat → Nat} {M M' : am_M} {n : Nat} (h1 : M'.1 n = M.1 n) (h2 : M'.2 n = M.2 n) : am_ce Q cA al M' n = am_ce Q cA al M n := by
  unfold am_ce
  cases am_sh n with
  | inl ci => exact congrArg (fun f => Sum.inr (ci, (List.range (am_nf ci)).map f)) (am_fvO (M := M) (M' := M') (fun k => congrFun h1 k) (fun k => congrFun h2 k))
  | inr q =>
    refine congrArg (fun f => Sum.inl (cA q.1, q.2, f)) ?_
    unfold am_ae
    rw [h1, h2]
theorem am_ce_wI {Q : Nat → Nat → Option Nat} {cA : Nat → ClassId} {al : Nat → Nat} {M : am_M} {n k m : Nat} {x : Int32} (h : m ≠ n) : am_ce Q cA al (am_wI M n k x) m = am_ce Q cA al M m := by
  refine am_ceO ?_ rfl
  funext j
  show (if m = n ∧ j = k then x else M.1 m j) = _
  rw [if_neg (fun q => h q.1)]
theorem am_ce_wJ {Q : Nat → Nat → Option Nat} {cA : Nat → ClassId} {al : Nat → Nat} {M : am_M} {n k m : Nat} {x : Int64} (h : m ≠ n) : am_ce Q cA al (am_wJ M n k x) m = am_ce Q cA al M m := by
  refine am_ceO rfl ?_
  funext j
  show (if m = n ∧ j = k then x else M.2 m j) = _
  rw [if_neg (fun q => h q.1)]
theorem am_ceA {Q : Nat → Nat → Option Nat} {cA : Nat → ClassId} {al : Nat → Nat} {M : am_M} {n t len : Nat} (hsh : am_sh n = .inr (t, len)) : am_ce Q cA al M n = .inl (cA t, len, am_ae Q al M n t) := by
  unfold am_ce; rw [hsh]
theorem am_ceF {Q : Nat → Nat → Option Nat} {cA : Nat → ClassId} {al : Nat → Nat} {M : am_M} {n ci : Nat} (hsh : am_sh n = .inl ci) : am_ce Q cA al M n = .inr (ci, (List.range (am_nf ci)).map (am_fv Q al M n ci)) := by
  unfold am_ce; rw [hsh]
theorem am_ae0 {Q : Nat → Nat → Option Nat} {al : Nat → Nat} {M : am_M} {n t : Nat} (h : am_tk t = 0) : am_ae Q al M n t = .inl (M.1 n) := by unfold am_ae; rw [h]; rfl
theorem am_ae1 {Q : Nat → Nat → Option Nat} {al : Nat → Nat} {M : am_M} {n t : Nat} (h : am_tk t = 1) : am_ae Q al M n t = .inr (.inl (M.2 n)) := by unfold am_ae; rw [h]; rfl
theorem am_ae2 {Q : Nat → Nat → Option Nat} {al : Nat → Nat} {M : am_M} {n t : Nat} (h : am_tk t = 2) : am_ae Q al M n t = .inr (.inr (.inr (.inr (fun k => (Q n k).map al)))) := by unfold am_ae; rw [h]; rfl
theorem am_fv0 {Q : Nat → Nat → Option Nat} {al : Nat → Nat} {M : am_M} {n ci k : Nat} (h : am_ft ci k = 0) : am_fv Q al M n ci k = .int (M.1 n k) := by unfold am_fv; rw [h]; rfl
theorem am_fv1 {Q : Nat → Nat → Option Nat} {al : Nat → Nat} {M : am_M} {n ci k : Nat} (h : am_ft ci k = 1) : am_fv Q al M n ci k = .long (M.2 n k) := by unfold am_fv; rw [h]; rfl
theorem am_fv2 {Q : Nat → Nat → Option Nat} {al : Nat → Nat} {M : am_M} {n ci k : Nat} (h : am_ft ci k = 2) : am_fv Q al M n ci k = va_rf ((Q n k).map al) := by unfold am_fv; rw [h]; rfl
theorem am_wI_row (M : am_M) (n k : Nat) (x : Int32) : (am_wI M n k x).1 n = upd (M.1 n) k x := by
  funext j
  show (if n = n ∧ j = k then x else M.1 n j) = if j = k then x else M.1 n j
  by_cases h : j = k
  · rw [if_pos ⟨rfl, h⟩, if_pos h]
  · rw [if_neg (fun q => h q.2), if_neg h]
theorem am_wJ_row (M : am_M) (n k : Nat) (x : Int64) : (am_wJ M n k x).2 n = vp_updL (M.2 n) k x := by
  funext j
  show (if n = n ∧ j = k then x else M.2 n j) = if j = k then x else M.2 n j
  by_cases h : j = k
  · rw [if_pos ⟨rfl, h⟩, if_pos h]
  · rw [if_neg (fun q => h q.2), if_neg h]
theorem am_arr_i (cA : ClassId) (n k : Nat) (f : Nat → Int32) (x : Int32) : (vp_cell cA (n, .inl f)).setSlot k (.int x) = vp_cell cA (n, .inl (upd f k x)) := by
  rw [vp_cell_i, vp_cell_i, arrV_store]
  congr 1
  funext q
  by_cases hq : q = k
  · subst hq
    simp [updV, upd]
  · simp [updV, upd, hq]
theorem am_arr_l (cA : ClassId) (n k : Nat) (f : Nat → Int64) (x : Int64) : (vp_cell cA (n, .inr (.inl f))).setSlot k (.long x) = vp_cell cA (n, .inr (.inl (vp_updL f k x))) := by
  rw [vp_cell_l, vp_cell_l, arrV_store]
  congr 1
  funext q
  by_cases hq : q = k
  · subst hq
    simp [updV, vp_updL]
  · simp [updV, vp_updL, hq]
section AKM
variable {own : String} {cc : ByteArray} {nL : Nat} {rt : Option FieldType} {rf rl : Nat} {live : am_E} {Ret : am_R} {pc nx : Nat}
theorem ak_iald {t : Nat} (ht : ∀ cA : Nat → ClassId, (am_tys cA)[t]? = some (cA t, .int)) (hk : am_tk t = 0) (hd : decode cc pc = .ok (.iaload, 1)) (hn : pc + 1 = nx) : am_ok own cc nL rt rf rl live Ret pc (am_ald live t nx) := by
  subst hn
  intro p l e s m args below meth c D cA al B hC Y hY L st M K hKK h H locs ls hP hS hl
  obtain ⟨hx, hb, hml, hown, hts, hlk, hr, hK, hB, hZ, hN⟩ := hC
  unfold am_ald at h
  split at h
  · next j n r =>
    obtain ⟨hbb, hin, h⟩ := am_if_mp h
    obtain ⟨hlv, hsh⟩ := am_isA_spec hbb
    have hcell := hP.1 n hlv
    rw [am_ceA hsh, am_ae0 hk] at hcell
    exact va_iald (D := D) (cl := am_cl) (tys := am_tys cA) hx hb hK (am_P1 hcell) 0 t rfl (ht cA) (am_in_vp hin) hd (hKK _ _ _ _ h H locs ls hP hS hl)
  · exact h.elim
theorem ak_zald {t : Nat} (ht : ∀ cA : Nat → ClassId, (am_tys cA)[t]? = some (cA t, .boolean)) (hk : am_tk t = 0) (hd : decode cc pc = .ok (.baload, 1)) (hn : pc + 1 = nx) : am_ok own cc nL rt rf rl live Ret pc (am_ald live t nx) := by
  subst hn
  intro p l e s m args below meth c D cA al B hC Y hY L st M K hKK h H locs ls hP hS hl
  obtain ⟨hx, hb, hml, hown, hts, hlk, hr, hK, hB, hZ, hN⟩ := hC
  unfold am_ald at h
  split at h
  · next j n r =>
    obtain ⟨hbb, hin, h⟩ := am_if_mp h
    obtain ⟨hlv, hsh⟩ := am_isA_spec hbb
    have hcell := hP.1 n hlv
    rw [am_ceA hsh, am_ae0 hk] at hcell
    exact va_zald (D := D) (cl := am_cl) (tys := am_tys cA) hx hb hK (am_P1 hcell) 0 t rfl (ht cA) (am_in_vp hin) hd (hKK _ _ _ _ h H locs ls hP hS hl)
  · exact h.elim
theorem ak_lald {t : Nat} (ht : ∀ cA : Nat → ClassId, (am_tys cA)[t]? = some (cA t, .long)) (hk : am_tk t = 1) (hd : decode cc pc = .ok (.laload, 1)) (hn : pc + 1 = nx) : am_ok own cc nL rt rf rl live Ret pc (am_lald live t nx) := by
  subst hn
  intro p l e s m args below meth c D cA al B hC Y hY L st M K hKK h H locs ls hP hS hl
  obtain ⟨hx, hb, hml, hown, hts, hlk, hr, hK, hB, hZ, hN⟩ := hC
  unfold am_lald at h
  split at h
  · next j n r =>
    obtain ⟨hbb, hin, h⟩ := am_if_mp h
    obtain ⟨hlv, hsh⟩ := am_isA_spec hbb
    have hcell := hP.1 n hlv
    rw [am_ceA hsh, am_ae1 hk] at hcell
    exact va_lald (D := D) (cl := am_cl) (tys := am_tys cA) hx hb hK (am_P1 hcell) 0 t rfl (ht cA) (am_in_vp hin) hd (hKK _ _ _ _ h H locs ls hP hS hl)
  · exact h.elim
theorem ak_aald {t : Nat} {C : String} (ht : ∀ cA : Nat → ClassId, (am_tys cA)[t]? = some (cA t, .object C)) (hk : am_tk t = 2) (hd : decode cc pc = .ok (.aaload, 1)) (hn : pc + 1 = nx) : am_ok own cc nL rt rf rl live Ret pc (am_aald live t nx) := by
  subst hn
  intro p l e s m args below meth c D cA al B hC Y hY L st M K hKK h H locs ls hP hS hl
  obtain ⟨hx, hb, hml, hown, hts, hlk, hr, hK, hB, hZ, hN⟩ := hC
  unfold am_aald at h
  split at h
  · next j n r =>
    obtain ⟨hbb, hin, h⟩ := am_if_mp h
    obtain ⟨hlv, hsh⟩ := am_isA_spec hbb
    have hcell := hP.1 n hlv
    rw [am_ceA hsh, am_ae2 hk] at hcell
    obtain ⟨q, hq, h⟩ := am_qm (P := fun q => K (pc + 1) L (.ref q :: r) M) h
    refine va_aldq (D := D) (cl := am_cl) (tys := am_tys cA) hx hb hK (am_P1 hcell) 0 t rfl (ht cA) (am_in_vp hin) hd ?_
    show W p l e _ s m args below meth c H locs Y.2.1 Y.2.2.1 _ (F0 m (pc + 1) ls (va_rf ((live.2 n j.toNatClampNeg).map al) :: r.map (am_cv al)))
    rw [hq]
    exact hKK _ _ _ _ h H locs ls hP hS hl
  · exact h.elim
theorem ak_iast {t : Nat} (ht : ∀ cA : Nat → ClassId, (am_tys cA)[t]? = some (cA t, .int)) (hk : am_tk t = 0) (hd : decode cc pc = .ok (.iastore, 1)) (hn : pc + 1 = nx) : am_ok own cc nL rt rf rl live Ret pc (am_ast live t nx) := by
  subst hn
  intro p l e s m args below meth c D cA al B hC Y hY L st M K hKK h H locs ls hP hS hl
  obtain ⟨hx, hb, hml, hown, hts, hlk, hr, hK, hB, hZ, hN⟩ := hC
  unfold am_ast at h
  split at h
  · next x j n r =>
    obtain ⟨hbb, hin, h⟩ := am_if_mp h
    obtain ⟨hlv, hsh⟩ := am_isA_spec hbb
    have hcell := hP.1 n hlv
    rw [am_ceA hsh, am_ae0 hk] at hcell
    refine W.iast hx hb (cell := vp_cell (cA t) (am_len n, .inl (M.1 n))) hcell ((hK.2 t _ (ht cA)).1 (am_len n) (fun j => .int (M.1 n j))) (fun q => by cases q) (by show ¬ (j < 0 ∨ (arrV _ _ _).slots.size ≤ _); rw [arrV_size]; exact am_in_vp hin) rfl rfl hd fun H1 e1 z oq => ?_
    refine hKK _ _ _ _ h H1 _ ls (hP.put hlv ?_ (fun m hm => am_ce_wI hm) oq) (hS.put z oq (hP.2.2.1 n hlv)) hl
    rw [am_ceA hsh, am_ae0 hk, am_wI_row]
    show H1[al n]? = some (vp_cell _ _)
    rw [e1, am_arr_i]
  · exact h.elim
theorem ak_zast {t : Nat} (ht : ∀ cA : Nat → ClassId, (am_tys cA)[t]? = some (cA t, .boolean)) (hk : am_tk t = 0) (hd : decode cc pc = .ok (.bastore, 1)) (hn : pc + 1 = nx) : am_ok own cc nL rt rf rl live Ret pc (am_zst live t nx) := by
  subst hn
  intro p l e s m args below meth c D cA al B hC Y hY L st M K hKK h H locs ls hP hS hl
  obtain ⟨hx, hb, hml, hown, hts, hlk, hr, hK, hB, hZ, hN⟩ := hC
  unfold am_zst at h
  split at h
  · next x j n r =>
    obtain ⟨hbb, hin, h⟩ := am_if_mp h
    obtain ⟨hlv, hsh⟩ := am_isA_spec hbb
    have hcell := hP.1 n hlv
    rw [am_ceA hsh, am_ae0 hk] at hcell
    refine W.zast hx hb (cell := vp_cell (cA t) (am_len n, .inl (M.1 n))) hcell ((hK.2 t _ (ht cA)).1 (am_len n) (fun j => .int (M.1 n j))) (fun q => by cases q) (by show ¬ (j < 0 ∨ (arrV _ _ _).slots.size ≤ _); rw [arrV_size]; exact am_in_vp hin) rfl rfl hd fun H1 e1 z oq => ?_
    refine hKK _ _ _ _ h H1 _ ls (hP.put hlv ?_ (fun m hm => am_ce_wI hm) oq) (hS.put z oq (hP.2.2.1 n hlv)) hl
    rw [am_ceA hsh, am_ae0 hk, am_wI_row]
    show H1[al n]? = some (vp_cell _ _)
    rw [e1]
    exact congrArg some (am_arr_i _ _ _ _ (vp_nar .boolean x))
  · exact h.elim
theorem ak_last {t : Nat} (ht : ∀ cA : Nat → ClassId, (am_tys cA)[t]? = some (cA t, .long)) (hk : am_tk t = 1) (hd : decode cc pc = .ok (.lastore, 1)) (hn : pc + 1 = nx) : am_ok own cc nL rt rf rl live Ret pc (am_last live t nx) := by
  subst hn
  intro p l e s m args below meth c D cA al B hC Y hY L st M K hKK h H locs ls hP hS hl
  obtain ⟨hx, hb, hml, hown, hts, hlk, hr, hK, hB, hZ, hN⟩ := hC
  unfold am_last at h
  split at h
  · next x j n r =>
    obtain ⟨hbb, hin, h⟩ := am_if_mp h
    obtain ⟨hlv, hsh⟩ := am_isA_spec hbb
    have hcell := hP.1 n hlv
    rw [am_ceA hsh, am_ae1 hk] at hcell
    refine W.last hx hb (cell := vp_cell (cA t) (am_len n, .inr (.inl (M.2 n)))) hcell ((hK.2 t _ (ht cA)).1 (am_len n) (fun j => .long (M.2 n j))) (fun q => by cases q) (by show ¬ (j < 0 ∨ (arrV _ _ _).slots.size ≤ _); rw [arrV_size]; exact am_in_vp hin) rfl rfl hd fun H1 e1 z oq => ?_
    refine hKK _ _ _ _ h H1 _ ls (hP.put hlv ?_ (fun m hm => am_ce_wJ hm) oq) (hS.put z oq (hP.2.2.1 n hlv)) hl
    rw [am_ceA hsh, am_ae1 hk, am_wJ_row]
    show H1[al n]? = some (vp_cell _ _)
    rw [e1, am_arr_l]
  · exact h.elim
theorem ak_alen {t : Nat} {ty : FieldType} (ht : ∀ cA : Nat → ClassId, (am_tys cA)[t]? = some (cA t, ty)) (hd : decode cc pc = .ok (.arraylength, 1)) (hn : pc + 1 = nx) : am_ok own cc nL rt rf rl live Ret pc (am_alen live t nx) := by
  subst hn
  intro p l e s m args below meth c D cA al B hC Y hY L st M K hKK h H locs ls hP hS hl
  obtain ⟨hx, hb, hml, hown, hts, hlk, hr, hK, hB, hZ, hN⟩ := hC
  unfold am_alen at h
  split at h
  · next n r =>
    obtain ⟨hbb, h⟩ := am_if_mp h
    obtain ⟨hlv, hsh⟩ := am_isA_spec hbb
    have hcell := hP.1 n hlv
    rw [am_ceA hsh] at hcell
    exact va_alen (D := D) (cl := am_cl) (tys := am_tys cA) hx hb hK (am_P1 hcell) 0 t rfl (ht cA) rfl hd (hKK _ _ _ _ h H locs ls hP hS hl)
  · exact h.elim
theorem ak_getI {ci k N idx : Nat} {C : String} {T : u_T} (hc : am_cl[ci]? = some (C, T, N)) (hin : ∀ w ∈ u_ws C T N, w ∈ am_ws) (hk : k < N) (hnf : am_nf ci = N) (hft : am_ft ci k = 0) (hdc : (T k).1 = C) (hw : Cond.fieldLink own idx C (T k).2.1 (T k).2.2.1 ∈ am_ws) (hd : decode cc pc = .ok (.getfield idx, 3)) (hn : pc + 3 = nx) : am_ok own cc nL rt rf rl live Ret pc (am_getI live ci k nx) := by
  subst hn
  intro p l e s m args below meth c D cA al B hC Y hY L st M K hKK h H locs ls hP hS hl
  obtain ⟨hx, hb, hml, hown, hts, hlk, hr, hK, hB, hZ, hN⟩ := hC
  unfold am_getI at h
  split at h
  · next n r =>
    obtain ⟨hbb, h⟩ := am_if_mp h
    obtain ⟨hlv, hsh⟩ := am_isO_spec hbb
    have hcell := hP.1 n hlv
    rw [am_ceF hsh] at hcell
    exact va_get (D := D) (cl := am_cl) (tys := am_tys cA) hx hb hts hin hown hK (am_P1 hcell) 0 rfl hc k hk (hts _ hw) (fun x hx => by rw [hdc] at hx; exact hx) (by rw [hnf, List.getElem?_map, List.getElem?_range hk]; exact congrArg some (am_fv0 hft)) hd (hKK _ _ _ _ h H locs ls hP hS hl)
  · exact h.elim
theorem ak_getJ {ci k N idx : Nat} {C : String} {T : u_T} (hc : am_cl[ci]? = some (C, T, N)) (hin : ∀ w ∈ u_ws C T N, w ∈ am_ws) (hk : k < N) (hnf : am_nf ci = N) (hft : am_ft ci k = 1) (hdc : (T k).1 = C) (hw : Cond.fieldLink own idx C (T k).2.1 (T k).2.2.1 ∈ am_ws) (hd : decode cc pc = .ok (.getfield idx, 3)) (hn : pc + 3 = nx) : am_ok own cc nL rt rf rl live Ret pc (am_getJ live ci k nx) := by
  subst hn
  intro p l e s m args below meth c D cA al B hC Y hY L st M K hKK h H locs ls hP hS hl
  obtain ⟨hx, hb, hml, hown, hts, hlk, hr, hK, hB, hZ, hN⟩ := hC
  unfold am_getJ at h
  split at h
  · next n r =>
    obtain ⟨hbb, h⟩ := am_if_mp h
    obtain ⟨hlv, hsh⟩ := am_isO_spec hbb
    have hcell := hP.1 n hlv
    rw [am_ceF hsh] at hcell
    exact va_get (D := D) (cl := am_cl) (tys := am_tys cA) hx hb hts hin hown hK (am_P1 hcell) 0 rfl hc k hk (hts _ hw) (fun x hx => by rw [hdc] at hx; exact hx) (by rw [hnf, List.getElem?_map, List.getElem?_range hk]; exact congrArg some (am_fv1 hft)) hd (hKK _ _ _ _ h H locs ls hP hS hl)
  · exact h.elim
theorem ak_getR {ci k N idx : Nat} {C : String} {T : u_T} (hc : am_cl[ci]? = some (C, T, N)) (hin : ∀ w ∈ u_ws C T N, w ∈ am_ws) (hk : k < N) (hnf : am_nf ci = N) (hft : am_ft ci k = 2) (hdc : (T k).1 = C) (hw : Cond.fieldLink own idx C (T k).2.1 (T k).2.2.1 ∈ am_ws) (hd : decode cc pc = .ok (.getfield idx, 3)) (hn : pc + 3 = nx) : am_ok own cc nL rt rf rl live Ret pc (am_getR live ci k nx) := by
  subst hn
  intro p l e s m args below meth c D cA al B hC Y hY L st M K hKK h H locs ls hP hS hl
  obtain ⟨hx, hb, hml, hown, hts, hlk, hr, hK, hB, hZ, hN⟩ := hC
  unfold am_getR at h
  split at h
  · next n r =>
    obtain ⟨hbb, h⟩ := am_if_mp h
    obtain ⟨hlv, hsh⟩ := am_isO_spec hbb
    have hcell := hP.1 n hlv
    rw [am_ceF hsh] at hcell
    obtain ⟨q, hq, h⟩ := am_qm (P := fun q => K (pc + 3) L (.ref q :: r) M) h
    exact va_get (D := D) (cl := am_cl) (tys := am_tys cA) (v := .ref (al q)) hx hb hts hin hown hK (am_P1 hcell) 0 rfl hc k hk (hts _ hw) (fun x hx => by rw [hdc] at hx; exact hx) (by rw [hnf, List.getElem?_map, List.getElem?_range hk]; exact congrArg some ((am_fv2 hft).trans (by rw [hq]; rfl))) hd (hKK _ _ _ _ h H locs ls hP hS hl)
  · exact h.elim
/-- a store into a field of a kind -/
theorem am_pf {p : Program} {l : Launch} {e : Env} {R : Room} {s : State} {m : MethodId} {args : Array Value} {below : List Frame} {meth : Method} {c : Code} {H : Heap} {locs : List Loc} {Q : State → Prop} {kc kn : Nat} {ls : Array Slot} {D : va_G} {cA : Nat → ClassId} {al : Nat → Nat} {B n : Nat} {M M' : am_M} {rest : List Value} {v : Value}
    {ci k N idx : Nat} {C : String} {T : u_T} {ty0 : Nat → FieldType} {ty : FieldType} (hx : p.tables.exec = Jvm.exec) (hb : c.code = cc) (hown : s.vm.findClass own = some m.cls) (hts : ∀ w ∈ am_ws, w.before args s = true) (hK : va_K D am_cl (am_tys cA) s) (hP : am_P D cA al B live M H) (hlv : live.1 n = true) (hsh : am_sh n = .inl ci)
    (hc : am_cl[ci]? = some (C, T, N)) (hin : ∀ w ∈ u_ws C T N, w ∈ am_ws) (hty : ∀ k, k < N → parseFieldDescriptor (T k).2.2.1 = some (ty0 k)) (hnm : ∀ a, a < N → ∀ b, b < N → a ≠ b → (T a).2.1 ≠ (T b).2.1) (hk : k < N) (hnf : am_nf ci = N) (hdc : (T k).1 = C) (hfin : (T k).2.2.2 = false) (hd0 : parseFieldDescriptor (T k).2.2.1 = some ty) (hnr : narrow ty v = v) (hfit : fits ty v = true) (hw : Cond.fieldLink own idx C (T k).2.1 (T k).2.2.1 ∈ am_ws) (hd : decode cc pc = .ok (.putfield idx, 3))
    (hm1 : am_fv live.2 al M' n ci k = v) (hm2 : ∀ j, j ≠ k → am_fv live.2 al M' n ci j = am_fv live.2 al M n ci j) (hm3 : ∀ m, m ≠ n → am_ce live.2 cA al M' m = am_ce live.2 cA al M m)
    (kk : ∀ (H1 : Heap) (k2 : Nat), am_P D cA al B live M' H1 → H1.size = H.size → (∀ q : Nat, q ≠ al n → H1[q]? = H[q]?) → W p l e R s m args below meth c H1 (locs ++ [⟨al n, k2⟩]) kc kn Q (F0 m (pc + 3) ls rest)) : W p l e R s m args below meth c H locs kc kn Q (F0 m pc ls (v :: .ref (al n) :: rest)) := by
  have hap := va_apart (own := own) (D := D) (s := s) (args := args) hts hin ty0 hty hnm hK hc
  have hcell := hP.1 n hlv
  rw [am_ceF hsh] at hcell
  obtain ⟨r, h1, cell, q1, q2, q3, q4⟩ := hcell
  have hr : r = (C, T, N) := Option.some.inj (h1.symm.trans hc)
  subst hr
  obtain ⟨hS, hfc, kC, hkC, hkind⟩ := hK.1 ci _ hc
  obtain ⟨cf, kf, fi, f, hi, hsl⟩ := hS k hk
  have hlay := hts _ (hin _ (u_in_lay hk))
  unfold u_lay at hlay
  rw [if_neg (by rw [hfin]; decide)] at hlay
  have hst := (u_facts hfc hkC (u_lays hts hin hk) hi).1
  have h6 := u_store hfc hkC hkind hlay hi hd0 hnr hfit
  have hi2 : s.fieldFound? C (T k).2.1 (T k).2.2.1 = some (cf, kf, fi, f) := by rw [← hdc]; exact hi
  refine W.putK hx hb (f := f) ⟨hown, hts _ hw, ⟨_, _, _, hi2⟩, hst⟩ (by rw [q2]; exact h6) q1 q3 (by rw [hsl]; exact k2_hasslot (q4 k hk)) rfl rfl hd fun H' e1 e2 e3 => ?_
  rw [hsl] at e1 ⊢
  refine kk H' _ (hP.put hlv ?_ hm3 e3) e2 e3
  rw [am_ceF hsh]
  refine ⟨(C, T, N), hc, t_OB.to (V := updV (vp_V ((List.range (am_nf ci)).map (am_fv live.2 al M n ci))) k v) ⟨_, e1, q2, q3, t_set q4 hap hk v⟩ (fun j hj => ?_)⟩
  rw [hnf, am_V _ hj]
  unfold updV
  by_cases hjk : j = k
  · subst hjk
    rw [if_pos rfl, hm1]
  · rw [if_neg hjk, am_V _ hj, hm2 j hjk]
theorem ak_putI {ci k N idx : Nat} {C : String} {T : u_T} {ty0 : Nat → FieldType} (hc : am_cl[ci]? = some (C, T, N)) (hin : ∀ w ∈ u_ws C T N, w ∈ am_ws) (hty : ∀ k, k < N → parseFieldDescriptor (T k).2.2.1 = some (ty0 k)) (hnm : ∀ a, a < N → ∀ b, b < N → a ≠ b → (T a).2.1 ≠ (T b).2.1) (hk : k < N) (hnf : am_nf ci = N) (hft : am_ft ci k = 0) (hdc : (T k).1 = C) (hfin : (T k).2.2.2 = false) (hd0 : parseFieldDescriptor (T k).2.2.1 = some .int) (hw : Cond.fieldLink own idx C (T k).2.1 (T k).2.2.1 ∈ am_ws) (hd : decode cc pc = .ok (.putfield idx, 3)) (hn : pc + 3 = nx) : am_ok own cc nL rt rf rl live Ret pc (am_putI live ci k nx) := by
  subst hn
  intro p l e s m args below meth c D cA al B hC Y hY L st M K hKK h H locs ls hP hS hl
  obtain ⟨hx, hb, hml, hown, hts, hlk, hr, hK, hB, hZ, hN⟩ := hC
  unfold am_putI at h
  split at h
  · next x n r =>
    obtain ⟨hbb, h⟩ := am_if_mp h
    obtain ⟨hlv, hsh⟩ := am_isO_spec hbb
    refine am_pf (M' := am_wI M n k x) (v := .int x) hx hb hown hts hK hP hlv hsh hc hin hty hnm hk hnf hdc hfin hd0 rfl rfl hw hd ?_ (fun j hj => ?_) (fun m hm => am_ce_wI hm) (fun H1 k2 hP1 z oq => hKK _ _ _ _ h H1 _ ls hP1 (hS.put z oq (hP.2.2.1 n hlv)) hl)
    · rw [am_fv0 hft]
      exact congrArg Value.int (if_pos ⟨rfl, rfl⟩)
    · unfold am_fv
      rw [show (am_wI M n k x).1 n j = M.1 n j from if_neg (fun q => hj q.2)]
      rfl
  · exact h.elim
theorem ak_putZ {ci k N idx : Nat} {C : String} {T : u_T} {ty0 : Nat → FieldType} (hc : am_cl[ci]? = some (C, T, N)) (hin : ∀ w ∈ u_ws C T N, w ∈ am_ws) (hty : ∀ k, k < N → parseFieldDescriptor (T k).2.2.1 = some (ty0 k)) (hnm : ∀ a, a < N → ∀ b, b < N → a ≠ b → (T a).2.1 ≠ (T b).2.1) (hk : k < N) (hnf : am_nf ci = N) (hft : am_ft ci k = 0) (hdc : (T k).1 = C) (hfin : (T k).2.2.2 = false) (hd0 : parseFieldDescriptor (T k).2.2.1 = some .boolean) (hw : Cond.fieldLink own idx C (T k).2.1 (T k).2.2.1 ∈ am_ws) (hd : decode cc pc = .ok (.putfield idx, 3)) (hn : pc + 3 = nx) : am_ok own cc nL rt rf rl live Ret pc (am_putZ live ci k nx) := by
  subst hn
  intro p l e s m args below meth c D cA al B hC Y hY L st M K hKK h H locs ls hP hS hl
  obtain ⟨hx, hb, hml, hown, hts, hlk, hr, hK, hB, hZ, hN⟩ := hC
  unfold am_putZ at h
  split at h
  · next x n r =>
    obtain ⟨hbb, h01, h⟩ := am_if_mp h
    obtain ⟨hlv, hsh⟩ := am_isO_spec hbb
    have hnr : narrow .boolean (.int x) = .int x := by rcases h01 with rfl | rfl <;> rfl
    have hfi : fits .boolean (.int x) = true := by rcases h01 with rfl | rfl <;> rfl
    refine am_pf (M' := am_wI M n k x) (v := .int x) hx hb hown hts hK hP hlv hsh hc hin hty hnm hk hnf hdc hfin hd0 hnr hfi hw hd ?_ (fun j hj => ?_) (fun m hm => am_ce_wI hm) (fun H1 k2 hP1 z oq => hKK _ _ _ _ h H1 _ ls hP1 (hS.put z oq (hP.2.2.1 n hlv)) hl)
    · rw [am_fv0 hft]
      exact congrArg Value.int (if_pos ⟨rfl, rfl⟩)
    · unfold am_fv
      rw [show (am_wI M n k x).1 n j = M.1 n j from if_neg (fun q => hj q.2)]
      rfl
  · exact h.elim
theorem ak_putJ {ci k N idx : Nat} {C : String} {T : u_T} {ty0 : Nat → FieldType} (hc : am_cl[ci]? = some (C, T, N)) (hin : ∀ w ∈ u_ws C T N, w ∈ am_ws) (hty : ∀ k, k < N → parseFieldDescriptor (T k).2.2.1 = some (ty0 k)) (hnm : ∀ a, a < N → ∀ b, b < N → a ≠ b → (T a).2.1 ≠ (T b).2.1) (hk : k < N) (hnf : am_nf ci = N) (hft : am_ft ci k = 1) (hdc : (T k).1 = C) (hfin : (T k).2.2.2 = false) (hd0 : parseFieldDescriptor (T k).2.2.1 = some .long) (hw : Cond.fieldLink own idx C (T k).2.1 (T k).2.2.1 ∈ am_ws) (hd : decode cc pc = .ok (.putfield idx, 3)) (hn : pc + 3 = nx) : am_ok own cc nL rt rf rl live Ret pc (am_putJ live ci k nx) := by
  subst hn
  intro p l e s m args below meth c D cA al B hC Y hY L st M K hKK h H locs ls hP hS hl
  obtain ⟨hx, hb, hml, hown, hts, hlk, hr, hK, hB, hZ, hN⟩ := hC
  unfold am_putJ at h
  split at h
  · next x n r =>
    obtain ⟨hbb, h⟩ := am_if_mp h
    obtain ⟨hlv, hsh⟩ := am_isO_spec hbb
    refine am_pf (M' := am_wJ M n k x) (v := .long x) hx hb hown hts hK hP hlv hsh hc hin hty hnm hk hnf hdc hfin hd0 rfl rfl hw hd ?_ (fun j hj => ?_) (fun m hm => am_ce_wJ hm) (fun H1 k2 hP1 z oq => hKK _ _ _ _ h H1 _ ls hP1 (hS.put z oq (hP.2.2.1 n hlv)) hl)
    · rw [am_fv1 hft]
      exact congrArg Value.long (if_pos ⟨rfl, rfl⟩)
    · unfold am_fv
      rw [show (am_wJ M n k x).2 n j = M.2 n j from if_neg (fun q => hj q.2)]
      rfl
  · exact h.elim
theorem ak_gets {k idx : Nat} {C n d : String} (hk : k < am_ns) (hs : am_sC k = (C, n, d)) (hw : Cond.fieldLink own idx C n d ∈ am_ws) (hd : decode cc pc = .ok (.getstatic idx, 3)) (hn : pc + 3 = nx) : am_ok own cc nL rt rf rl live Ret pc (am_const (.ref (1000 + k)) nx) := by
  subst hn
  intro p l e s m args below meth c D cA al B hC Y hY L st M K hKK h H locs ls hP hS hl
  obtain ⟨hx, hb, hml, hown, hts, hlk, hr, hK, hB, hZ, hN⟩ := hC
  have hz := (hZ k hk).1
  rw [hs] at hz
  exact va_gets hx hb hz hS hown (hts _ hw) (fun _ h => h) hd (hKK _ _ _ _ h H locs ls hP hS hl)
theorem ak_getsN {k idx : Nat} {C n d host : String} (hk : k < am_ns) (hs : am_sC k = (C, n, d)) (hw : (own, idx, C, n, d, host) ∈ am_nest) (hd : decode cc pc = .ok (.getstatic idx, 3)) (hn : pc + 3 = nx) : am_ok own cc nL rt rf rl live Ret pc (am_const (.ref (1000 + k)) nx) := by
  subst hn
  intro p l e s m args below meth c D cA al B hC Y hY L st M K hKK h H locs ls hP hS hl
  obtain ⟨hx, hb, hml, hown, hts, hlk, hr, hK, hB, hZ, hN⟩ := hC
  have hz := (hZ k hk).1
  rw [hs] at hz
  exact va_getsN hx hb hz hS hown (va_Nw.use rfl (hN.1 _ hw)) (fun _ h => h) hd (hKK _ _ _ _ h H locs ls hP hS hl)
theorem ak_sld {k : Nat} (hk : k < am_ns) (hd : decode cc pc = .ok (.iaload, 1)) (hn : pc + 1 = nx) : am_ok own cc nL rt rf rl live Ret pc (am_sld k nx) := by
  subst hn
  intro p l e s m args below meth c D cA al B hC Y hY L st M K hKK h H locs ls hP hS hl
  obtain ⟨hx, hb, hml, hown, hts, hlk, hr, hK, hB, hZ, hN⟩ := hC
  unfold am_sld at h
  split at h
  · next j n r =>
    obtain ⟨hbb, hin, h2⟩ := am_if_mp h
    clear h
    have hn := Nat.eq_of_beq_eq_true hbb
    subst hn
    exact va_ti hx hb (hZ k hk).2 hS (am_in_vp hin) rfl hd (hKK _ _ _ _ h2 H locs ls hP hS hl)
  · exact h.elim
theorem am_ro {p : Program} {s : State} {m : MethodId} {args : Array Value} {meth : Method} {c : Code} {D : va_G} {cA : Nat → ClassId} {al : Nat → Nat} {B : Nat} {H : Heap} {locs : List Loc} {M : am_M} {r : Option Value} (hC : am_C p s m args meth c D cA al B own cc nL rt) (hP : am_P D cA al B live M H) (hS : va_S (fun q => B ≤ q) s.heap H locs) (h : Ret r M) :
    ∀ t : State, t.heap = H → s.WarmedH t.vm → am_Qc D cA al B live Ret args s (.returned (r.map (am_cv al))) t := fun t ht _ => ⟨r, M, h, rfl, by rw [ht]; exact hP, hS.F ht⟩
theorem am_rt {s : State} {args : Array Value} {below : List Frame} {D : va_G} {cA : Nat → ClassId} {al : Nat → Nat} {B : Nat} {Y : am_Y} {r : Option Value} {M : am_M} {P : Prop} (hY : am_Yk s args below D cA al B live Ret rf rl Y) (h : Ret r M) (k : Y.2.1 = 0 → Y.2.2.1 = 0 → Y.2.2.2 = MQ below (am_Qc D cA al B live Ret) args s 0 0 (fun q => B ≤ q) → P) : P := by
  rcases hY.2.2.2.2 with ⟨e1, e2, e3⟩ | hn
  · exact k e1 e2 e3
  · exact absurd h (hn r M)
theorem ak_retI (hd : decode cc pc = .ok (.ireturn, 1)) : am_ok own cc nL (some .int) rf rl live Ret pc (am_retI Ret) := by
  intro p l e s m args below meth c D cA al B hC Y hY L st M K hKK h H locs ls hP hS hl
  unfold am_retI at h
  split at h
  · next v => exact am_rt hY h (fun e1 e2 e3 => by rw [e1, e2, e3]; exact W.iret hC.1 hC.2.1 hC.2.2.2.2.2.2.1 (am_ro (r := some (.int v)) hC hP hS h) hS.2.2 hd (hlocks := hC.2.2.2.2.2.1))
  · exact h.elim
theorem ak_retZ (hd : decode cc pc = .ok (.ireturn, 1)) : am_ok own cc nL (some .boolean) rf rl live Ret pc (am_retZ Ret) := by
  intro p l e s m args below meth c D cA al B hC Y hY L st M K hKK h H locs ls hP hS hl
  unfold am_retZ at h
  split at h
  · next v => exact am_rt hY h.2 (fun e1 e2 e3 => by rw [e1, e2, e3]; exact W.zret hC.1 hC.2.1 hC.2.2.2.2.2.2.1 (by rcases h.1 with rfl | rfl <;> rfl) (am_ro (r := some (.int v)) hC hP hS h.2) hS.2.2 hd (hlocks := hC.2.2.2.2.2.1))
  · exact h.elim
theorem ak_retL (hd : decode cc pc = .ok (.lreturn, 1)) : am_ok own cc nL (some .long) rf rl live Ret pc (am_retL Ret) := by
  intro p l e s m args below meth c D cA al B hC Y hY L st M K hKK h H locs ls hP hS hl
  unfold am_retL at h
  split at h
  · next v => exact am_rt hY h (fun e1 e2 e3 => by rw [e1, e2, e3]; exact W.lret hC.1 hC.2.1 hC.2.2.2.2.2.2.1 (am_ro (r := some (.long v)) hC hP hS h) hS.2.2 hd (hlocks := hC.2.2.2.2.2.1))
  · exact h.elim
theorem ak_retV (hd : decode cc pc = .ok (.return_, 1)) : am_ok own cc nL none rf rl live Ret pc (am_retV Ret) := by
  intro p l e s m args below meth c D cA al B hC Y hY L st M K hKK h H locs ls hP hS hl
  unfold am_retV at h
  split at h
  · exact am_rt hY h (fun e1 e2 e3 => by rw [e1, e2, e3]; exact W.vret hC.1 hC.2.1 hC.2.2.2.2.2.2.1 (am_ro (r := none) hC hP hS h) hS.2.2 hd (hlocks := hC.2.2.2.2.2.1))
  · exact h.elim
end AKM
end
section
/-! calls by contract, Math, arraycopy, switches -/
theorem am_good_all {big : List Cond} (ws : List Cond) (h1 : ∀ w ∈ ws, w ∈ am_ws) (hb : big = am_ws) : GoodIn big ws := fun w hw => ⟨by rw [hb]; exact h1 w hw, good_of_word (am_wsg (h1 w hw))⟩
theorem am_Z.moved {al : Nat → Nat} {B : Nat} {s U : State} (h : am_Z al B s) (hvm : s.vm.Alike U.vm) (hS : ∀ q : Nat, q < s.heap.size → ¬ B ≤ q → U.heap[q]? = s.heap[q]?) : am_Z al B U := fun k hk =>
  ⟨((h k hk).1.moved hvm).kept (fun a h1 h2 => hS a h1 h2), ((h k hk).2.moved hvm).kept (fun a h1 h2 => hS a h1 h2)⟩
theorem am_blind {D : va_G} {cA : Nat → ClassId} {al : Nat → Nat} {B : Nat} {live : am_E} {as : List Value} {M : am_M} : FrameBlind (am_Pc D cA al B live as M) := by
  intro a U g mk q
  obtain ⟨q1, q2, q3, q4, q5, q6⟩ := q
  exact ⟨q1, q2, q3, va_K.moved (u := U) (U := U.calling g mk a) (Vm.Alike.refl U.vm) q4, q5.moved (U := U.calling g mk a) (Vm.Alike.refl U.vm) (fun _ _ _ => rfl), q6.vm rfl⟩
section AKC
variable {own : String} {cc : ByteArray} {nL : Nat} {rt : Option FieldType} {rf rl : Nat} {live : am_E} {Ret : am_R} {pc nx : Nat}
theorem am_frm {s : State} {args : Array Value} {below : List Frame} {D : va_G} {cA : Nat → ClassId} {al : Nat → Nat} {B : Nat} {Y : am_Y} {a b : Nat} (hY : am_Yk s args below D cA al B live Ret rf rl Y) (h : a ≤ rf ∧ b ≤ rl) : a ≤ Y.1.frames ∧ b ≤ Y.1.locals := ⟨Nat.le_trans h.1 hY.1, Nat.le_trans h.2 hY.2.1⟩
theorem am_pcU {p : Program} {s : State} {m : MethodId} {args : Array Value} {meth : Method} {c : Code} {D : va_G} {cA : Nat → ClassId} {al : Nat → Nat} {B : Nat} {H : Heap} {locs : List Loc} {M : am_M} {as : List Value} (hC : am_C p s m args meth c D cA al B own cc nL rt) (hP : am_P D cA al B live M H) (hS : va_S (fun q => B ≤ q) s.heap H locs) :
    ∀ U : State, U.heap = H → s.WarmedH U.vm → am_Pc D cA al B live as M (as.map (am_cv al)).toArray U := by
  intro U hU hW
  obtain ⟨hx, hb, hml, hown, hts, hlk, hr, hK, hB, hZ, hN⟩ := hC
  exact ⟨rfl, by rw [hU]; exact Nat.le_trans hB hS.1, by rw [hU]; exact hP, va_K.moved hW.alike hK, hZ.moved hW.alike (fun q h1 h2 => by rw [hU]; exact hS.2.1 q h1 h2), hN.warm hW⟩
theorem am_after {p : Program} {l : Launch} {e : Env} {s : State} {m : MethodId} {args a : Array Value} {below : List Frame} {meth : Method} {c : Code} {H : Heap} {locs : List Loc} {ls : Array Slot} {D : va_G} {cA : Nat → ClassId} {al : Nat → Nat} {B : Nat} {L : am_L} {st0 : List Value} {rest : List Value} {K : am_K} {R2 : am_R} {Y : am_Y}
    (hr : va_Run p l e Y.1 s m args below meth c H locs Y.2.1 Y.2.2.1 0 0 (F0 m pc ls st0) (rest.map (am_cv al)) (am_Qc D cA al B live R2 a) (fun q => B ≤ q)) (hS : va_S (fun q => B ≤ q) s.heap H locs) (hl : lv_has ls nL (am_lc al L))
    (hKK : ∀ pc' L' st' M', K pc' L' st' M' → am_W p l e Y s m args below meth c D cA al B live nL pc' L' st' M') (hR2 : ∀ v M', R2 v M' → K (pc + 3) L (v.toList ++ rest) M') :
    W p l e Y.1 s m args below meth c H locs Y.2.1 Y.2.2.1 Y.2.2.2 (F0 m pc ls st0) := by
  intro T hT X
  obtain ⟨v, st₀, t, T', L2, h0, X', hL, e1, e2, ⟨r, M', hk, hv, hP', hz, hkp⟩, st⟩ := hr T hT X
  have hv2 : v = r.map (am_cv al) := by injection hv
  subst hv2
  rw [h0] at hz hkp
  obtain ⟨t2, a1, b1⟩ := hKK _ _ _ _ (hR2 r M' hk) T'.heap (locs ++ L2) ls (by rw [e1]; exact hP')
    ⟨Nat.le_trans hS.1 (by rw [e1]; exact hz), fun q h1 h2 => by rw [e1, hkp q (Nat.lt_of_lt_of_le h1 hS.1) h2]; exact hS.2.1 q h1 h2, fun q hq => by
      rcases List.mem_append.mp hq with h | h
      · exact hS.2.2 q h
      · exact hL q h⟩ hl T' rfl X'
  refine ⟨t2, st t2 ?_, b1⟩
  cases r with
  | none => exact a1
  | some w => exact a1
theorem ak_callV {ci n idx maxL rf' rl' N : Nat} {y : MethodName} {bytes : ByteArray} {ret' : Option FieldType} {C : String} {F : u_T} {T : am_T} (hM : am_Met y bytes maxL ret' rf' rl' T) (hc : am_cl[ci]? = some (C, F, N)) (hy : y.cls = C ∧ y.cls ≠ "java/lang/invoke/MethodHandle" ∧ y.cls ≠ "java/lang/invoke/VarHandle" ∧ (parseMethodDescriptor y.desc).map (fun d => d.parameters.length) = some n)
    (hw : ∀ w ∈ ([.methodLink own idx y, .instanceMethod y, .selects C y y, .initialized C, .code y bytes maxL ret'] : List Cond), w ∈ am_ws) (hfr : rf' + 1 ≤ rf ∧ 8 + (maxL + 11) + rl' ≤ rl) (hd : decode cc pc = .ok (.invokevirtual idx, 3)) (hn : pc + 3 = nx) :
    am_ok own cc nL rt rf rl live Ret pc (am_callV live ci n T nx) := by
  subst hn
  intro p l e s m args below meth c D cA al B hC Y hY L st M K hKK h H locs ls hP hS hl
  unfold am_callV at h
  split at h
  · next q r hst =>
    obtain ⟨hbb, h⟩ := am_if_mp h
    rw [Bool.and_eq_true, Bool.and_eq_true] at hbb
    obtain ⟨⟨hO, hln⟩, hle⟩ := hbb
    obtain ⟨hlv, hsh⟩ := am_isO_spec hO
    have hln := Nat.eq_of_beq_eq_true hln
    have hle := Nat.le_of_ble_eq_true hle
    have hcell := hP.1 q hlv
    rw [am_ceF hsh] at hcell
    have hstk : st.map (am_cv al) = ((st.take n).reverse.map (am_cv al)).reverse ++ .ref (al q) :: r.map (am_cv al) := by
      rw [List.map_reverse, List.reverse_reverse]
      have e1 : st = st.take n ++ .ref q :: r := by rw [← hst]; exact (List.take_append_drop n st).symm
      conv => lhs; rw [e1]
      rw [List.map_append]
      rfl
    have hG : GoodIn am_ws (wsV own idx C y (.code y bytes maxL ret' :: am_ws)) := am_good_all _ (fun w hh => by
      rcases List.mem_append.mp hh with h1 | h1
      · exact hw w (by
          simp only [List.mem_cons, List.not_mem_nil, or_false] at h1 ⊢
          rcases h1 with h1 | h1 | h1 | h1
          · exact Or.inl h1
          · exact Or.inr (Or.inl h1)
          · exact Or.inr (Or.inr (Or.inl h1))
          · exact Or.inr (Or.inr (Or.inr (Or.inl h1))))
      · rcases List.mem_cons.mp h1 with h2 | h2
        · exact hw w (by rw [h2]; simp)
        · exact h2) rfl
    obtain ⟨hx, hb, hml, hown, hts, hlk, hr, hK, hB, hZ, hN⟩ := id hC
    have hrun := va_runV (p := p) (l := l) (e := e) (R := Y.1) (s := s) (m := m) (args := args) (below := below) (meth := meth) (c := c) (H := H) (locs := locs) (cells := Y.2.1) (slots := Y.2.2.1) (g := F0 m pc ls (st.map (am_cv al))) (As := (st.take n).reverse.map (am_cv al)) (rest := r.map (am_cv al)) (b := al q)
      ⟨hx, hb, hml, hown, hts⟩ (hM l D cA al B live (.ref q :: (st.take n).reverse) M _ h) (cwV n hts hG rfl rfl rfl hy (am_frm hY hfr)) ⟨am_blind, va_recv hK (am_P1 hcell) (ci := ci) (q0 := 0) hc rfl, am_pcU hC hP hS⟩ rfl (by rw [List.length_map, List.length_reverse]; exact hln) hl.1 hstk (lv_room (by rw [am_cats_cv]; exact hle)) hd ⟨hY.2.2.1, hY.2.2.2.1⟩
    exact am_after hrun hS hl hKK (fun v M' hk => hk)
  · exact h.elim
theorem ak_callS {n idx maxL rf' rl' : Nat} {y : MethodName} {bytes : ByteArray} {ret' : Option FieldType} {T : am_T} (hM : am_Met y bytes maxL ret' rf' rl' T) (hy : y.cls = own ∧ y.cls ≠ "java/lang/invoke/MethodHandle" ∧ y.cls ≠ "java/lang/invoke/VarHandle" ∧ (parseMethodDescriptor y.desc).map (fun d => d.parameters.length) = some n)
    (hw : ∀ w ∈ ([.methodLink own idx y, .static y, .initialized own, .code y bytes maxL ret'] : List Cond), w ∈ am_ws) (hfr : rf' + 1 ≤ rf ∧ 8 + (maxL + 11) + rl' ≤ rl) (hd : decode cc pc = .ok (.invokestatic idx, 3)) (hn : pc + 3 = nx) :
    am_ok own cc nL rt rf rl live Ret pc (am_callS live n T nx) := by
  subst hn
  intro p l e s m args below meth c D cA al B hC Y hY L st M K hKK h H locs ls hP hS hl
  unfold am_callS at h
  obtain ⟨hbb, h⟩ := am_if_mp h
  rw [Bool.and_eq_true] at hbb
  obtain ⟨hln, hle⟩ := hbb
  have hln := Nat.eq_of_beq_eq_true hln
  have hle := Nat.le_of_ble_eq_true hle
  have hstk : st.map (am_cv al) = ((st.take n).reverse.map (am_cv al)).reverse ++ (st.drop n).map (am_cv al) := by
    rw [List.map_reverse, List.reverse_reverse, ← List.map_append, List.take_append_drop]
  have hG : GoodIn am_ws (wsS own idx y (.code y bytes maxL ret' :: am_ws)) := am_good_all _ (fun w hh => by
    rcases List.mem_append.mp hh with h1 | h1
    · exact hw w (by
        simp only [List.mem_cons, List.not_mem_nil, or_false] at h1 ⊢
        rcases h1 with h1 | h1 | h1
        · exact Or.inl h1
        · exact Or.inr (Or.inl h1)
        · exact Or.inr (Or.inr (Or.inl h1)))
    · rcases List.mem_cons.mp h1 with h2 | h2
      · exact hw w (by rw [h2]; simp)
      · exact h2) rfl
  obtain ⟨hx, hb, hml, hown, hts, hlk, hr, hK, hB, hZ, hN⟩ := id hC
  have hrun := va_runS (p := p) (l := l) (e := e) (R := Y.1) (s := s) (m := m) (args := args) (below := below) (meth := meth) (c := c) (H := H) (locs := locs) (cells := Y.2.1) (slots := Y.2.2.1) (g := F0 m pc ls (st.map (am_cv al))) (As := (st.take n).reverse.map (am_cv al)) (rest := (st.drop n).map (am_cv al))
    ⟨hx, hb, hml, hown, hts⟩ (hM l D cA al B live (st.take n).reverse M _ h) (cwS n hts hG rfl rfl rfl hy (am_frm hY hfr)) ⟨am_blind, am_pcU hC hP hS⟩ rfl (by rw [List.length_map, List.length_reverse]; exact hln) hl.1 hstk (lv_room (by rw [am_cats_cv]; exact hle)) hd ⟨hY.2.2.1, hY.2.2.2.1⟩
  exact am_after hrun hS hl hKK (fun v M' hk => hk)
theorem ak_imax {idx : Nat} (hw : ∀ w ∈ ([.methodLink own idx Lib.Math.max.name, .static Lib.Math.max.name, .initialized "java/lang/Math", .code Lib.Math.max.name Lib.Math.max.code 2 (some .int)] : List Cond), w ∈ am_ws) (hfr : 1 ≤ rf) (hd : decode cc pc = .ok (.invokestatic idx, 3)) (hn : pc + 3 = nx) : am_ok own cc nL rt rf rl live Ret pc (am_math2 (fun x y => if x < y then y else x) rl nx) := by
  subst hn
  intro p l e s m args below meth c D cA al B hC Y hY L st M K hKK h H locs ls hP hS hl
  obtain ⟨hx, hb, hml, hown, hts, hlk, hr, hK, hB, hZ, hN⟩ := id hC
  unfold am_math2 at h
  split at h
  · obtain ⟨hbb, h⟩ := am_if_mp h
    have hle := Nat.le_of_ble_eq_true hbb
    exact va_mmax hx hb (by rw [hml]; exact hl.1.symm) hown (hts _ (hw _ (by simp))) (hts _ (hw _ (by simp))) (hts _ (hw _ (by simp))) (hts _ (hw _ (by simp))) (Nat.le_trans hfr hY.1) (by rw [am_cats_cv]; exact Nat.le_trans hle hY.2.1) hY.2.2.1 hY.2.2.2.1 hd (hKK _ _ _ _ h H locs ls hP hS hl)
  · exact h.elim
theorem ak_imin {idx : Nat} (hw : ∀ w ∈ ([.methodLink own idx Lib.Math.min.name, .static Lib.Math.min.name, .initialized "java/lang/Math", .code Lib.Math.min.name Lib.Math.min.code 2 (some .int)] : List Cond), w ∈ am_ws) (hfr : 1 ≤ rf) (hd : decode cc pc = .ok (.invokestatic idx, 3)) (hn : pc + 3 = nx) : am_ok own cc nL rt rf rl live Ret pc (am_math2 (fun x y => if y < x then y else x) rl nx) := by
  subst hn
  intro p l e s m args below meth c D cA al B hC Y hY L st M K hKK h H locs ls hP hS hl
  obtain ⟨hx, hb, hml, hown, hts, hlk, hr, hK, hB, hZ, hN⟩ := id hC
  unfold am_math2 at h
  split at h
  · obtain ⟨hbb, h⟩ := am_if_mp h
    have hle := Nat.le_of_ble_eq_true hbb
    exact va_mmin hx hb (by rw [hml]; exact hl.1.symm) hown (hts _ (hw _ (by simp))) (hts _ (hw _ (by simp))) (hts _ (hw _ (by simp))) (hts _ (hw _ (by simp))) (Nat.le_trans hfr hY.1) (by rw [am_cats_cv]; exact Nat.le_trans hle hY.2.1) hY.2.2.1 hY.2.2.2.1 hd (hKK _ _ _ _ h H locs ls hP hS hl)
  · exact h.elim
theorem ak_iabs {idx : Nat} (hw : ∀ w ∈ ([.methodLink own idx Lib.Math.abs.name, .static Lib.Math.abs.name, .initialized "java/lang/Math", .code Lib.Math.abs.name Lib.Math.abs.code 1 (some .int)] : List Cond), w ∈ am_ws) (hfr : 1 ≤ rf) (hd : decode cc pc = .ok (.invokestatic idx, 3)) (hn : pc + 3 = nx) : am_ok own cc nL rt rf rl live Ret pc (am_math1 (fun x => if 0 ≤ x then x else 0 - x) rl nx) := by
  subst hn
  intro p l e s m args below meth c D cA al B hC Y hY L st M K hKK h H locs ls hP hS hl
  obtain ⟨hx, hb, hml, hown, hts, hlk, hr, hK, hB, hZ, hN⟩ := id hC
  unfold am_math1 at h
  split at h
  · obtain ⟨hbb, h⟩ := am_if_mp h
    have hle := Nat.le_of_ble_eq_true hbb
    exact va_mabs hx hb (by rw [hml]; exact hl.1.symm) hown (hts _ (hw _ (by simp))) (hts _ (hw _ (by simp))) (hts _ (hw _ (by simp))) (hts _ (hw _ (by simp))) (Nat.le_trans hfr hY.1) (by rw [am_cats_cv]; exact Nat.le_trans hle hY.2.1) hY.2.2.1 hY.2.2.2.1 hd (hKK _ _ _ _ h H locs ls hP hS hl)
  · exact h.elim
theorem ak_lmax {idx : Nat} (hw : ∀ w ∈ ([.methodLink own idx Lib.MathLoose.max_long.x, .static Lib.MathLoose.max_long.x, .initialized "java/lang/Math", .code Lib.MathLoose.max_long.x Lib.MathLoose.max_long.code 4 (some .long)] : List Cond), w ∈ am_ws) (hfr : 1 ≤ rf) (hd : decode cc pc = .ok (.invokestatic idx, 3)) (hn : pc + 3 = nx) : am_ok own cc nL rt rf rl live Ret pc (am_mathl (fun x y => if y < x then x else y) rl nx) := by
  subst hn
  intro p l e s m args below meth c D cA al B hC Y hY L st M K hKK h H locs ls hP hS hl
  obtain ⟨hx, hb, hml, hown, hts, hlk, hr, hK, hB, hZ, hN⟩ := id hC
  unfold am_mathl at h
  split at h
  · obtain ⟨hbb, h⟩ := am_if_mp h
    have hle := Nat.le_of_ble_eq_true hbb
    exact va_mmax_long hx hb (by rw [hml]; exact hl.1.symm) hown (hts _ (hw _ (by simp))) (hts _ (hw _ (by simp))) (hts _ (hw _ (by simp))) (hts _ (hw _ (by simp))) (Nat.le_trans hfr hY.1) (by rw [am_cats_cv]; exact Nat.le_trans hle hY.2.1) hY.2.2.1 hY.2.2.2.1 hd (hKK _ _ _ _ h H locs ls hP hS hl)
  · exact h.elim
theorem ak_lmin {idx : Nat} (hw : ∀ w ∈ ([.methodLink own idx Lib.MathLoose.min_long.x, .static Lib.MathLoose.min_long.x, .initialized "java/lang/Math", .code Lib.MathLoose.min_long.x Lib.MathLoose.min_long.code 4 (some .long)] : List Cond), w ∈ am_ws) (hfr : 1 ≤ rf) (hd : decode cc pc = .ok (.invokestatic idx, 3)) (hn : pc + 3 = nx) : am_ok own cc nL rt rf rl live Ret pc (am_mathl (fun x y => if y < x then y else x) rl nx) := by
  subst hn
  intro p l e s m args below meth c D cA al B hC Y hY L st M K hKK h H locs ls hP hS hl
  obtain ⟨hx, hb, hml, hown, hts, hlk, hr, hK, hB, hZ, hN⟩ := id hC
  unfold am_mathl at h
  split at h
  · obtain ⟨hbb, h⟩ := am_if_mp h
    have hle := Nat.le_of_ble_eq_true hbb
    exact va_mmin_long hx hb (by rw [hml]; exact hl.1.symm) hown (hts _ (hw _ (by simp))) (hts _ (hw _ (by simp))) (hts _ (hw _ (by simp))) (hts _ (hw _ (by simp))) (Nat.le_trans hfr hY.1) (by rw [am_cats_cv]; exact Nat.le_trans hle hY.2.1) hY.2.2.1 hY.2.2.2.1 hd (hKK _ _ _ _ h H locs ls hP hS hl)
  · exact h.elim
/-- switches: what the bytes say, as a list of values and targets -/
def am_tsc (pc : Nat) (lo : Int) : List Int → List (Int32 × Nat)
  | [] => []
  | o :: os => (Int32.ofInt lo, ((pc : Int) + o).toNat) :: am_tsc pc (lo + 1) os
theorem ak_tswitch {dflt lo hi : Int} {offs : Array Int} {len d : Nat} {cs : List (Int32 × Nat)} (hd : decode cc pc = .ok (.tableswitch dflt lo hi offs, len)) (hcs : cs.map Prod.fst = (List.range offs.size).map (fun i : Nat => Int32.ofInt (lo + (i : Int)))) (htg : cs.map (fun q => (q.2 : Int)) = offs.toList.map (fun o => (pc : Int) + o)) (hdf : (pc : Int) + dflt = (d : Int))
    (hb1 : (-2147483648) ≤ lo) (hb2 : hi < 2147483648) (hsz : hi = lo + (offs.size : Int) - 1) : am_ok own cc nL rt rf rl live Ret pc (am_switch cs d) := by
  intro p l e s m args below meth c D cA al B hC Y hY L st M K hKK h H locs ls hP hS hl
  unfold am_switch at h
  split at h
  · next x r =>
    have key : ∀ (cs : List (Int32 × Nat)) (P : Nat → Prop), am_swc x cs d P → (∃ (i : Nat) (q : Int32 × Nat), cs[i]? = some q ∧ x = q.1 ∧ P q.2) ∨ ((∀ (i : Nat) (q : Int32 × Nat), cs[i]? = some q → x ≠ q.1) ∧ P d) := by
      intro cs
      induction cs with
      | nil => intro P hp; exact Or.inr ⟨fun i q hq => by simp at hq, hp⟩
      | cons a cs ih =>
        intro P hp
        by_cases hx : x = a.1
        · exact Or.inl ⟨0, a, rfl, hx, hp.1 hx⟩
        · rcases ih P (hp.2 hx) with ⟨i, q, h1, h2, h3⟩ | ⟨h1, h2⟩
          · exact Or.inl ⟨i + 1, q, h1, h2, h3⟩
          · refine Or.inr ⟨fun i q hq => ?_, h2⟩
            cases i with
            | zero => cases hq; exact hx
            | succ i => exact h1 i q hq
    have hsz2 : cs.length = offs.size := by
      have := congrArg List.length hcs
      simpa using this
    have hfst : ∀ (i : Nat) (q : Int32 × Nat), cs[i]? = some q → i < offs.size ∧ q.1 = Int32.ofInt (lo + (i : Int)) := by
      intro i q hq
      have hi : i < offs.size := by rw [← hsz2]; exact (List.getElem?_eq_some_iff.mp hq).1
      have h1 : (cs.map Prod.fst)[i]? = some q.1 := by rw [List.getElem?_map, hq]; rfl
      rw [hcs, List.getElem?_map, List.getElem?_range hi] at h1
      exact ⟨hi, (Option.some.inj h1).symm⟩
    have htoi : ∀ i : Nat, i < offs.size → (Int32.ofInt (lo + (i : Int))).toInt = lo + (i : Int) := by
      intro i hi
      exact Int32.toInt_ofInt_of_le (by omega) (by omega)
    rcases key cs _ h with ⟨i, q, h1, h2, h3⟩ | ⟨h1, h2⟩
    · obtain ⟨hi, hq⟩ := hfst i q h1
      have hxi : x.toInt = lo + (i : Int) := by rw [h2, hq]; exact htoi i hi
      have ho : (cs.map (fun q => (q.2 : Int)))[i]? = some (q.2 : Int) := by rw [List.getElem?_map, h1]; rfl
      rw [htg, List.getElem?_map] at ho
      cases hoo : offs.toList[i]? with
      | none => rw [hoo] at ho; cases ho
      | some off =>
        rw [hoo] at ho
        exact lv_tableIn hC.1 hC.2.1 hd (by omega) (by omega) (off := off) (by rw [show (x.toInt - lo).toNat = i by omega, ← Array.getElem?_toList]; exact hoo) (Option.some.inj ho) (hKK _ _ _ _ h3 H locs ls hP hS hl)
    · refine lv_tableOut hC.1 hC.2.1 hd ?_ hdf (hKK _ _ _ _ h2 H locs ls hP hS hl)
      rcases Int.lt_or_le x.toInt lo with h3 | h3
      · exact Or.inl h3
      · refine Or.inr ?_
        rcases Int.lt_or_le hi x.toInt with h4 | h4
        · exact h4
        · exfalso
          have hi2 : (x.toInt - lo).toNat < offs.size := by omega
          have hi3 : (x.toInt - lo).toNat < cs.length := by omega
          have h5 := List.getElem?_eq_getElem hi3
          have h6 := (hfst _ _ h5).2
          refine h1 _ _ h5 ?_
          rw [h6]
          apply Int32.toInt_inj.mp
          rw [htoi _ hi2]
          omega
  · exact h.elim
theorem ak_lswitch {dflt : Int} {ps : Array (Int × Int)} {len d : Nat} {cs : List (Int32 × Nat)} (hd : decode cc pc = .ok (.lookupswitch dflt ps, len)) (hp : (ps.toList.zip (ps.toList.drop 1)).all (fun (a, next) => a.1 < next.1) = true) (hcs : cs.map (fun q => (q.1.toInt, (q.2 : Int))) = ps.toList.map (fun q => (q.1, (pc : Int) + q.2))) (hdf : (pc : Int) + dflt = (d : Int)) : am_ok own cc nL rt rf rl live Ret pc (am_switch cs d) := by
  intro p l e s m args below meth c D cA al B hC Y hY L st M K hKK h H locs ls hP hS hl
  unfold am_switch at h
  split at h
  · next x r =>
    have key : ∀ (cs : List (Int32 × Nat)) (qs : List (Int × Int)) (P : Nat → Prop), cs.map (fun q => (q.1.toInt, (q.2 : Int))) = qs.map (fun q => (q.1, (pc : Int) + q.2)) → am_swc x cs d P → ∃ (off : Int) (tg : Nat), Op.lookupswitch.offset qs dflt x.toInt = off ∧ (pc : Int) + off = (tg : Int) ∧ P tg := by
      intro cs
      induction cs with
      | nil =>
        intro qs P he hp
        cases qs with
        | nil => exact ⟨dflt, d, rfl, hdf, hp⟩
        | cons b qs => simp at he
      | cons a cs ih =>
        intro qs P he hp
        cases qs with
        | nil => simp at he
        | cons b qs =>
          rw [List.map_cons, List.map_cons] at he
          injection he with he1 he2
          have e1 : a.1.toInt = b.1 := congrArg Prod.fst he1
          have e2 : (a.2 : Int) = (pc : Int) + b.2 := congrArg Prod.snd he1
          obtain ⟨b1, b2⟩ := b
          by_cases hx : x = a.1
          · refine ⟨b2, a.2, ?_, e2.symm, hp.1 hx⟩
            have e3 : x.toInt = b1 := by rw [hx]; exact e1
            simp [Op.lookupswitch.offset, e3]
          · obtain ⟨off, tg, h1, h2, h3⟩ := ih qs P he2 (hp.2 hx)
            refine ⟨off, tg, ?_, h2, h3⟩
            rw [lv_osw hx e1]
            exact h1
    obtain ⟨off, tg, h1, h2, h3⟩ := key cs ps.toList _ hcs h
    exact lv_lookup hC.1 hC.2.1 hd hp h1 h2 (hKK _ _ _ _ h3 H locs ls hP hS hl)
  · exact h.elim
end AKC
end
section
/-! System.arraycopy: the whole memory as one world of the kit's -/
def am_wl (live : am_E) : List Nat := (List.range 400).filter live.1
def am_ws0 (cA : Nat → ClassId) (al : Nat → Nat) (live : am_E) (M : am_M) : va_W := (am_wl live).map (fun n => (al n, am_ce live.2 cA al M n))
theorem am_wl_nd (live : am_E) : (am_wl live).Pairwise (fun a b => a ≠ b) := List.Pairwise.filter _ List.nodup_range
theorem am_wl_at {live : am_E} {n : Nat} (h : live.1 n = true) (hb : n < 400) : ∃ k : Nat, (am_wl live)[k]? = some n := List.getElem?_of_mem (List.mem_filter.mpr ⟨List.mem_range.mpr hb, h⟩)
theorem am_wl_live {live : am_E} {k n : Nat} (h : (am_wl live)[k]? = some n) : live.1 n = true := (List.mem_filter.mp (List.mem_of_getElem? h)).2
theorem am_ws0_at {cA : Nat → ClassId} {al : Nat → Nat} {live : am_E} {M : am_M} {k n : Nat} (h : (am_wl live)[k]? = some n) : (am_ws0 cA al live M)[k]? = some (al n, am_ce live.2 cA al M n) := by
  unfold am_ws0
  rw [List.getElem?_map, h]
  rfl
theorem am_ws0_of {cA : Nat → ClassId} {al : Nat → Nat} {live : am_E} {M : am_M} {k : Nat} {q : Nat × va_E} (h : (am_ws0 cA al live M)[k]? = some q) : ∃ n, (am_wl live)[k]? = some n ∧ q = (al n, am_ce live.2 cA al M n) := by
  unfold am_ws0 at h
  rw [List.getElem?_map] at h
  cases hn : (am_wl live)[k]? with
  | none => rw [hn] at h; cases h
  | some n => rw [hn] at h; exact ⟨n, rfl, (Option.some.inj h).symm⟩
theorem am_wl_inj {live : am_E} {i j n : Nat} (hi : (am_wl live)[i]? = some n) (hj : (am_wl live)[j]? = some n) : i = j := by
  obtain ⟨h1, e1⟩ := List.getElem?_eq_some_iff.mp hi
  obtain ⟨h2, e2⟩ := List.getElem?_eq_some_iff.mp hj
  have hp := List.pairwise_iff_getElem.mp (am_wl_nd live)
  rcases Nat.lt_trichotomy i j with h | h | h
  · exact absurd (e1.trans e2.symm) (hp i j h1 h2 h)
  · exact h
  · exact absurd (e2.trans e1.symm) (hp j i h2 h1 h)
theorem am_P_ws {D : va_G} {cA : Nat → ClassId} {al : Nat → Nat} {B : Nat} {live : am_E} {M : am_M} {H : Heap} (h : am_P D cA al B live M H) : va_P D am_cl (am_ws0 cA al live M) H ∧ va_D (fun q => B ≤ q) (am_ws0 cA al live M) := by
  refine ⟨fun k q hq => ?_, fun i j x y hx hy hxy => ?_, fun k q hq => ?_⟩
  · obtain ⟨n, hn, rfl⟩ := am_ws0_of hq
    exact h.1 n (am_wl_live hn)
  · obtain ⟨n, hn, rfl⟩ := am_ws0_of hx
    obtain ⟨m, hm, rfl⟩ := am_ws0_of hy
    have e := h.2.1 n m (am_wl_live hn) (am_wl_live hm) hxy
    subst e
    exact am_wl_inj hn hm
  · obtain ⟨n, hn, rfl⟩ := am_ws0_of hq
    exact h.2.2.1 n (am_wl_live hn)
theorem am_ws_P {D : va_G} {cA : Nat → ClassId} {al : Nat → Nat} {B : Nat} {live : am_E} {M M' : am_M} {H H1 : Heap} {d k : Nat} {e : va_E} (h : am_P D cA al B live M H) (hk : (am_wl live)[k]? = some d) (hP1 : va_P D am_cl ((am_ws0 cA al live M).set k (al d, e)) H1) (he : am_ce live.2 cA al M' d = e) (ho : ∀ m, m ≠ d → am_ce live.2 cA al M' m = am_ce live.2 cA al M m) : am_P D cA al B live M' H1 := by
  refine ⟨fun n hn => ?_, h.2⟩
  obtain ⟨j, hj⟩ := am_wl_at hn (h.2.2.2 n hn)
  have hlt : j < (am_ws0 cA al live M).length := by
    unfold am_ws0
    rw [List.length_map]
    exact (List.getElem?_eq_some_iff.mp hj).1
  by_cases hd : n = d
  · subst hd
    have hjk := am_wl_inj hj hk
    subst hjk
    have := hP1 j (al n, e) (by rw [List.getElem?_set_self hlt])
    rw [he]
    exact this
  · have hjk : k ≠ j := fun q => by
      subst q
      rw [hj] at hk
      exact hd (Option.some.inj hk)
    rw [ho n hd]
    exact hP1 j _ (by rw [List.getElem?_set_ne hjk]; exact am_ws0_at hj)
def am_cpw : Nat := nativeFrameWords "java/lang/System" "arraycopy" 5 + 11
def am_cpin (sp dp n : Int32) (ls ld : Nat) : Prop := 0 ≤ sp.toInt ∧ 0 ≤ dp.toInt ∧ 0 ≤ n.toInt ∧ sp.toInt + n.toInt ≤ (ls : Int) ∧ dp.toInt + n.toInt ≤ (ld : Int)
def am_copyI (live : am_E) (rl nx : Nat) : am_S := fun L st M K => match st with
  | .int n :: .int dp :: .ref d :: .int sp :: .ref q :: r => am_if (am_isA live 0 q && am_isA live 0 d && Nat.ble (am_cats r + 23) rl) (am_cpin sp dp n (am_len q) (am_len d) ∧ K nx L r (am_cI M d (va_cpy (M.1 q) (M.1 d) sp.toNatClampNeg dp.toNatClampNeg n.toNatClampNeg)))
  | _ => False
def am_copyJ (live : am_E) (rl nx : Nat) : am_S := fun L st M K => match st with
  | .int n :: .int dp :: .ref d :: .int sp :: .ref q :: r => am_if (am_isA live 1 q && am_isA live 1 d && Nat.ble (am_cats r + 23) rl) (am_cpin sp dp n (am_len q) (am_len d) ∧ K nx L r (am_cJ M d (va_cpy (M.2 q) (M.2 d) sp.toNatClampNeg dp.toNatClampNeg n.toNatClampNeg)))
  | _ => False
theorem am_cpw_le : am_cpw ≤ 23 := by decide +kernel
theorem am_nneg {z : Int32} (h : 0 ≤ z.toInt) : ¬ z < 0 ∧ (z.toNatClampNeg : Int) = z.toInt := by
  refine ⟨fun q => ?_, ?_⟩
  · have := Int32.lt_iff_toInt_lt.mp q
    rw [Int32.toInt_zero] at this
    omega
  · show ((z.toInt.toNat : Nat) : Int) = z.toInt
    omega
theorem ak_copyI {own : String} {cc : ByteArray} {nL : Nat} {rt : Option FieldType} {rf rl : Nat} {live : am_E} {Ret : am_R} {pc nx idx : Nat} (hw : ∀ w ∈ ([.methodLink own idx arraycopyName, .native arraycopyName, .static arraycopyName, .initialized "java/lang/System"] : List Cond), w ∈ am_ws) (hfr : 1 ≤ rf) (hd : decode cc pc = .ok (.invokestatic idx, 3)) (hn : pc + 3 = nx) : am_ok own cc nL rt rf rl live Ret pc (am_copyI live rl nx) := by
  subst hn
  intro p l e s m args below meth c D cA al B hC Y hY L st M K hKK h H locs ls hP hS hl
  obtain ⟨hx, hb, hml, hown, hts, hlk, hr, hK, hB, hZ, hN⟩ := id hC
  unfold am_copyI at h
  split at h
  · next n dp d sp q r =>
    obtain ⟨hbb, ⟨c1, c2, c3, c4, c5⟩, h⟩ := am_if_mp h
    rw [Bool.and_eq_true, Bool.and_eq_true] at hbb
    obtain ⟨⟨hq, hd2⟩, hle⟩ := hbb
    have hle := Nat.le_of_ble_eq_true hle
    obtain ⟨hlq, hsq⟩ := am_isA_spec hq
    obtain ⟨hld, hsd⟩ := am_isA_spec hd2
    obtain ⟨kq, hkq⟩ := am_wl_at hlq (hP.2.2.2 q hlq)
    obtain ⟨kd, hkd⟩ := am_wl_at hld (hP.2.2.2 d hld)
    obtain ⟨hP0, hD0⟩ := am_P_ws hP
    have e0 := am_ws0_at (cA := cA) (al := al) (M := M) hkq
    have e1 := am_ws0_at (cA := cA) (al := al) (M := M) hkd
    rw [am_ceA hsq, am_ae0 (t := 0) rfl] at e0
    rw [am_ceA hsd, am_ae0 (t := 0) rfl] at e1
    obtain ⟨n1, m1⟩ := am_nneg c1
    obtain ⟨n2, m2⟩ := am_nneg c2
    obtain ⟨n3, m3⟩ := am_nneg c3
    refine va_copyi (D := D) (cl := am_cl) (tys := am_tys cA) (ty := .int) hx hb (by rw [hml]; exact hl.1.symm) hown (hts _ (hw _ (by simp))) (hts _ (hw _ (by simp))) (hts _ (hw _ (by simp))) (hts _ (hw _ (by simp))) hK hP0 hD0 hS kq kd 0 0 e0 e1 rfl rfl rfl n1 n2 n3 (by omega) (by omega) (fun _ _ => rfl) (Nat.le_trans hfr hY.1) (by rw [am_cats_cv]; have := am_cpw_le; unfold am_cpw at this; refine Nat.le_trans ?_ hY.2.1; omega) hd (fun H1 locs1 hP1 hD1 hS1 => ?_)
    refine hKK _ _ _ _ h H1 locs1 ls (am_ws_P hP hkd hP1 ?_ (fun m hm => ?_)) hS1 hl
    · rw [am_ceA hsd, am_ae0 (t := 0) rfl]
      refine congrArg (fun f => Sum.inl (cA 0, am_len d, Sum.inl f)) ?_
      funext j
      exact if_pos rfl
    · refine am_ceO ?_ rfl
      funext j
      exact if_neg hm
  · exact h.elim
theorem ak_copyJ {own : String} {cc : ByteArray} {nL : Nat} {rt : Option FieldType} {rf rl : Nat} {live : am_E} {Ret : am_R} {pc nx idx : Nat} (hw : ∀ w ∈ ([.methodLink own idx arraycopyName, .native arraycopyName, .static arraycopyName, .initialized "java/lang/System"] : List Cond), w ∈ am_ws) (hfr : 1 ≤ rf) (hd : decode cc pc = .ok (.invokestatic idx, 3)) (hn : pc + 3 = nx) : am_ok own cc nL rt rf rl live Ret pc (am_copyJ live rl nx) := by
  subst hn
  intro p l e s m args below meth c D cA al B hC Y hY L st M K hKK h H locs ls hP hS hl
  obtain ⟨hx, hb, hml, hown, hts, hlk, hr, hK, hB, hZ, hN⟩ := id hC
  unfold am_copyJ at h
  split at h
  · next n dp d sp q r =>
    obtain ⟨hbb, ⟨c1, c2, c3, c4, c5⟩, h⟩ := am_if_mp h
    rw [Bool.and_eq_true, Bool.and_eq_true] at hbb
    obtain ⟨⟨hq, hd2⟩, hle⟩ := hbb
    have hle := Nat.le_of_ble_eq_true hle
    obtain ⟨hlq, hsq⟩ := am_isA_spec hq
    obtain ⟨hld, hsd⟩ := am_isA_spec hd2
    obtain ⟨kq, hkq⟩ := am_wl_at hlq (hP.2.2.2 q hlq)
    obtain ⟨kd, hkd⟩ := am_wl_at hld (hP.2.2.2 d hld)
    obtain ⟨hP0, hD0⟩ := am_P_ws hP
    have e0 := am_ws0_at (cA := cA) (al := al) (M := M) hkq
    have e1 := am_ws0_at (cA := cA) (al := al) (M := M) hkd
    rw [am_ceA hsq, am_ae1 (t := 1) rfl] at e0
    rw [am_ceA hsd, am_ae1 (t := 1) rfl] at e1
    obtain ⟨n1, m1⟩ := am_nneg c1
    obtain ⟨n2, m2⟩ := am_nneg c2
    obtain ⟨n3, m3⟩ := am_nneg c3
    refine va_copyl (D := D) (cl := am_cl) (tys := am_tys cA) (ty := .long) hx hb (by rw [hml]; exact hl.1.symm) hown (hts _ (hw _ (by simp))) (hts _ (hw _ (by simp))) (hts _ (hw _ (by simp))) (hts _ (hw _ (by simp))) hK hP0 hD0 hS kq kd 1 1 e0 e1 rfl rfl rfl n1 n2 n3 (by omega) (by omega) (fun _ _ => rfl) (Nat.le_trans hfr hY.1) (by rw [am_cats_cv]; have := am_cpw_le; unfold am_cpw at this; refine Nat.le_trans ?_ hY.2.1; omega) hd (fun H1 locs1 hP1 hD1 hS1 => ?_)
    refine hKK _ _ _ _ h H1 locs1 ls (am_ws_P hP hkd hP1 ?_ (fun m hm => ?_)) hS1 hl
    · rw [am_ceA hsd, am_ae1 (t := 1) rfl]
      refine congrArg (fun f => Sum.inl (cA 1, am_len d, Sum.inr (Sum.inl f))) ?_
      funext j
      exact if_pos rfl
    · refine am_ceO rfl ?_
      funext j
      exact if_neg hm
  · exact h.elim
end
section
/-! words by their places; helpers -/
theorem am_in_r (ws : List Cond) (ps : List Nat) (hp : ws = ps.filterMap (fun i => lw_tbl[i]?)) (h : ws.all goodWord = true) : ∀ w ∈ ws, w ∈ am_ws := by
  intro w hw
  have h1 := List.all_eq_true.mp h w hw
  rw [hp] at hw
  obtain ⟨i, -, hi⟩ := List.mem_filterMap.mp hw
  exact am_wsi (List.mem_of_getElem? hi) h1
theorem am_w4 {a b c d : Cond} (h1 : a ∈ am_ws) (h2 : b ∈ am_ws) (h3 : c ∈ am_ws) (h4 : d ∈ am_ws) : ∀ w ∈ ([a, b, c, d] : List Cond), w ∈ am_ws := by
  intro w hw
  simp only [List.mem_cons, List.not_mem_nil, or_false] at hw
  rcases hw with rfl | rfl | rfl | rfl <;> assumption
theorem am_w5 {a b c d e : Cond} (h1 : a ∈ am_ws) (h2 : b ∈ am_ws) (h3 : c ∈ am_ws) (h4 : d ∈ am_ws) (h5 : e ∈ am_ws) : ∀ w ∈ ([a, b, c, d, e] : List Cond), w ∈ am_ws := by
  intro w hw
  simp only [List.mem_cons, List.not_mem_nil, or_false] at hw
  rcases hw with rfl | rfl | rfl | rfl | rfl <;> assumption
theorem am_kc {P : Nat × am_S → Prop} {a : Nat × am_S} {l : am_code} (h : P a) (hl : ∀ q ∈ l, P q) : ∀ q ∈ a :: l, P q := fun q hq => by
  rcases List.mem_cons.mp hq with rfl | h2
  · exact h
  · exact hl q h2
theorem am_kn {P : Nat × am_S → Prop} : ∀ q ∈ ([] : am_code), P q := fun _ h => absurd h List.not_mem_nil
theorem inX0w : ∀ w ∈ u_ws RX0 TX0 13, w ∈ am_ws := am_in_r _ [228, 230, 232, 234, 236, 238, 240, 242, 244, 246, 248, 250, 252] (by decide +kernel) (by decide +kernel)
theorem inX1w : ∀ w ∈ u_ws RX1 TX1 7, w ∈ am_ws := am_in_r _ [275, 277, 279, 281, 283, 285, 287] (by decide +kernel) (by decide +kernel)
theorem inX2w : ∀ w ∈ u_ws RX2 TX2 8, w ∈ am_ws := am_in_r _ [123, 125, 127, 129, 131, 133, 135, 137] (by decide +kernel) (by decide +kernel)
theorem inX3w : ∀ w ∈ u_ws RX3 TX3 3, w ∈ am_ws := am_in_r _ [153, 155, 157] (by decide +kernel) (by decide +kernel)
theorem inX4w : ∀ w ∈ u_ws RX4 TX4 18, w ∈ am_ws := am_in_r _ [315, 317, 319, 321, 323, 325, 327, 329, 331, 333, 335, 337, 339, 341, 343, 345, 347, 349] (by decide +kernel) (by decide +kernel)
theorem inX5w : ∀ w ∈ u_ws RX5 TX5 7, w ∈ am_ws := am_in_r _ [178, 180, 182, 184, 186, 188, 190] (by decide +kernel) (by decide +kernel)
theorem inX6w : ∀ w ∈ u_ws RX6 TX6 9, w ∈ am_ws := am_in_r _ [366, 368, 370, 372, 374, 376, 378, 380, 382] (by decide +kernel) (by decide +kernel)
theorem inX7w : ∀ w ∈ u_ws RX7 TX7 4, w ∈ am_ws := am_in_r _ [391, 393, 395, 397] (by decide +kernel) (by decide +kernel)
theorem inX8w : ∀ w ∈ u_ws RX8 TX8 27, w ∈ am_ws := am_in_r _ [919, 921, 923, 925, 927, 929, 931, 933, 935, 937, 939, 941, 943, 945, 947, 949, 951, 953, 955, 957, 959, 961, 963, 965, 967, 969, 971] (by decide +kernel) (by decide +kernel)
end
section
/-! helpers for the conditions that come out -/
theorem i_lt (x y : Int32) : x < y ↔ x.toInt < y.toInt := Int32.lt_iff_toInt_lt
theorem i_le (x y : Int32) : x ≤ y ↔ x.toInt ≤ y.toInt := Int32.le_iff_toInt_le
theorem i_eq (x y : Int32) : x = y ↔ x.toInt = y.toInt := Int32.toInt_inj.symm
theorem am_in_of {j : Int32} {n : Nat} (h : n < 100000) (h1 : ¬ j < 0) (h2 : ¬ Int32.ofNat n ≤ j) : am_in j n := by
  have e : (Int32.ofNat n).toInt = (n : Int) := Int32.toInt_ofNat_small (by omega)
  rw [i_lt, Int32.toInt_zero] at h1
  rw [i_le, e] at h2
  exact ⟨by omega, by omega⟩
theorem am_in_no1 {j : Int32} {n : Nat} (h1 : j < 0) : ¬ am_in j n := by
  rw [i_lt, Int32.toInt_zero] at h1
  exact fun q => by have := q.1; omega
theorem am_in_no2 {j : Int32} {n : Nat} (h : n < 100000) (h2 : Int32.ofNat n ≤ j) : ¬ am_in j n := by
  have e : (Int32.ofNat n).toInt = (n : Int) := Int32.toInt_ofNat_small (by omega)
  rw [i_le, e] at h2
  exact fun q => by have := q.2; omega
def am_at (f : Nat → Int32) (n : Nat) (i : Int32) : Int32 := if 0 ≤ i.toInt ∧ i.toInt < (n : Int) then f i.toNatClampNeg else -1
theorem am_at_in {f : Nat → Int32} {n : Nat} {i : Int32} (h : am_in i n) : am_at f n i = f i.toNatClampNeg := if_pos h
theorem am_at_no {f : Nat → Int32} {n : Nat} {i : Int32} (h : ¬ am_in i n) : am_at f n i = -1 := if_neg h
/-- a store that may be left out -/
def am_wIc (q : Prop) [Decidable q] (M : am_M) (n k : Nat) (v : Int32) : am_M := (fun a b => if q ∧ a = n ∧ b = k then v else M.1 a b, M.2)
theorem am_wIc_t {q : Prop} [Decidable q] {M : am_M} {n k : Nat} {v : Int32} (h : q) : am_wIc q M n k v = am_wI M n k v := by
  unfold am_wIc am_wI
  simp only [h, true_and]
theorem am_wIc_f {q : Prop} [Decidable q] {M : am_M} {n k : Nat} {v : Int32} (h : ¬ q) : am_wIc q M n k v = M := by
  unfold am_wIc
  simp only [h, false_and, if_false]
/-- a stretch of an array laid with one number -/
def am_lay (M : am_M) (n : Nat) (lo hi : Int) (v : Int32) : am_M := (fun a b => if a = n ∧ lo ≤ (b : Int) ∧ (b : Int) ≤ hi then v else M.1 a b, M.2)
theorem i_add {x y : Int32} (h1 : -2147483648 ≤ x.toInt + y.toInt) (h2 : x.toInt + y.toInt < 2147483648) : (x + y).toInt = x.toInt + y.toInt := by
  rw [Int32.toInt_add]
  exact Int.bmod_eq_of_le (by omega) (by omega)
theorem i_sub {x y : Int32} (h1 : -2147483648 ≤ x.toInt - y.toInt) (h2 : x.toInt - y.toInt < 2147483648) : (x - y).toInt = x.toInt - y.toInt := by
  rw [Int32.toInt_sub]
  exact Int.bmod_eq_of_le (by omega) (by omega)
theorem i_mul {x y : Int32} (h1 : -2147483648 ≤ x.toInt * y.toInt) (h2 : x.toInt * y.toInt < 2147483648) : (x * y).toInt = x.toInt * y.toInt := by
  rw [Int32.toInt_mul]
  exact Int.bmod_eq_of_le (by omega) (by omega)
theorem i_nat {n : Nat} (h : n < 2147483648) : (Int32.ofNat n).toInt = (n : Int) := Int32.toInt_ofNat_small (by omega)
theorem i_clamp {x : Int32} (h : 0 ≤ x.toInt) : (x.toNatClampNeg : Int) = x.toInt := by
  show ((x.toInt.toNat : Nat) : Int) = x.toInt
  omega
theorem i_lo (x : Int32) : -2147483648 ≤ x.toInt := Int32.le_toInt x
theorem i_hi (x : Int32) : x.toInt < 2147483648 := Int32.toInt_lt x
/-- the main cells stand, the references are as they are made -/
def am_mn (live : am_E) : Prop := ∃ i1 i2 : Bool, live = (am_lv i1 i2, am_q i1 i2)
theorem am_lay_eq {M : am_M} {n : Nat} {lo hi lo' hi' : Int} {v : Int32} (h : ∀ b : Nat, (lo ≤ (b : Int) ∧ (b : Int) ≤ hi) ↔ (lo' ≤ (b : Int) ∧ (b : Int) ≤ hi')) : am_lay M n lo hi v = am_lay M n lo' hi' v := by
  unfold am_lay
  refine Prod.ext ?_ rfl
  funext a b
  simp only [h b]
theorem am_Mext {M M' : am_M} (h : ∀ a b, M.1 a b = M'.1 a b) (h2 : M.2 = M'.2) : M = M' := Prod.ext (funext fun a => funext fun b => h a b) h2
theorem am_lay_1 (M : am_M) (n : Nat) (lo hi : Int) (v : Int32) (a b : Nat) : (am_lay M n lo hi v).1 a b = if a = n ∧ lo ≤ (b : Int) ∧ (b : Int) ≤ hi then v else M.1 a b := rfl
theorem am_wI_1 (M : am_M) (n k : Nat) (v : Int32) (a b : Nat) : (am_wI M n k v).1 a b = if a = n ∧ b = k then v else M.1 a b := rfl
theorem am_wJ_1 (M : am_M) (n k : Nat) (v : Int64) (a b : Nat) : (am_wJ M n k v).2 a b = if a = n ∧ b = k then v else M.2 a b := rfl
theorem am_lay_nil {M : am_M} {n : Nat} {lo hi : Int} {v : Int32} (h : hi < lo) : am_lay M n lo hi v = M := by
  refine am_Mext (fun a b => ?_) rfl
  rw [am_lay_1, if_neg (fun q => by have := q.2; omega)]
theorem am_lay_put {M : am_M} {n k : Nat} {lo i : Int} {v : Int32} (h1 : lo ≤ i) (h2 : (k : Int) = i) : am_wI (am_lay M n lo (i - 1) v) n k v = am_lay M n lo i v := by
  refine am_Mext (fun a b => ?_) rfl
  rw [am_wI_1, am_lay_1, am_lay_1]
  by_cases e : a = n
  · subst e
    by_cases e2 : b = k
    · subst e2
      rw [if_pos ⟨rfl, rfl⟩, if_pos ⟨rfl, by omega, by omega⟩]
    · rw [if_neg (fun q => e2 q.2)]
      have : ((lo ≤ (b : Int) ∧ (b : Int) ≤ i - 1) ↔ (lo ≤ (b : Int) ∧ (b : Int) ≤ i)) := by omega
      simp only [this]
  · rw [if_neg (fun q => e q.1), if_neg (fun q => e q.1), if_neg (fun q => e q.1)]
/-! rows of numbers: the object r, its array c, of len numbers -/
def am_rc (live : am_E) (r c : Nat) : Bool := am_isO live 3 r && am_isA live 0 c && Nat.blt (am_len c) 100000
theorem am_rc_spec {live : am_E} {r c : Nat} (h : am_rc live r c = true) : am_isO live 3 r = true ∧ am_isA live 0 c = true ∧ am_len c < 100000 ∧ r ≠ c := by
  unfold am_rc at h
  rw [Bool.and_eq_true, Bool.and_eq_true] at h
  refine ⟨h.1.1, h.1.2, Nat.le_of_ble_eq_true h.2, fun e => ?_⟩
  subst e
  have h1 := (am_isO_spec h.1.1).2
  have h2 := (am_isA_spec h.1.2).2
  rw [h1] at h2
  cases h2
theorem am_OA {live : am_E} {r c ci t : Nat} (h1 : am_isO live ci r = true) (h2 : am_isA live t c = true) : r ≠ c := by
  intro e
  subst e
  have h1 := (am_isO_spec h1).2
  have h2 := (am_isA_spec h2).2
  rw [h1] at h2
  cases h2
theorem am_cI_1 (M : am_M) (n : Nat) (f : Nat → Int32) (a b : Nat) : (am_cI M n f).1 a b = if a = n then f b else M.1 a b := rfl
def am_ix (i : Int32) (n : Nat) : Prop := 0 ≤ i.toInt ∧ i.toInt < (n : Int)
/-- Rows.put as one store that may be left out -/
def am_rput (M : am_M) (r c : Nat) (a b v : Int32) : am_M := am_wIc (b < M.1 r 1 ∧ 0 ≤ (a * M.1 r 1 + b).toInt ∧ (a * M.1 r 1 + b).toInt < (am_len c : Int)) M c (a * M.1 r 1 + b).toNatClampNeg v
theorem am_rput_ne {M : am_M} {r c n k : Nat} {a b v : Int32} (h : n ≠ c) : (am_rput M r c a b v).1 n k = M.1 n k := by
  show (if _ ∧ n = c ∧ k = _ then v else M.1 n k) = _
  rw [if_neg (fun q => h q.2.1)]
theorem am_rput_t {M : am_M} {r c : Nat} {a b v : Int32} (h : b < M.1 r 1) (h2 : am_in (a * M.1 r 1 + b) (am_len c)) : am_rput M r c a b v = am_wI M c (a * M.1 r 1 + b).toNatClampNeg v := am_wIc_t ⟨h, h2⟩
theorem am_rput_f {M : am_M} {r c : Nat} {a b v : Int32} (h : ¬ (b < M.1 r 1 ∧ am_in (a * M.1 r 1 + b) (am_len c))) : am_rput M r c a b v = M := am_wIc_f h
def am_mixI (f : Nat → Int32) : Nat → Int64 → Int64
  | 0, h => h
  | n + 1, h => 31 * am_mixI f n h + (f n).toInt64
/-! what has changed at most -/
def am_ch (S : Nat → Nat → Prop) (M M' : am_M) : Prop := (∀ a b, ¬ S a b → M'.1 a b = M.1 a b) ∧ (∀ a b, ¬ S a b → M'.2 a b = M.2 a b)
theorem am_ch.rf {S : Nat → Nat → Prop} {M : am_M} : am_ch S M M := ⟨fun _ _ _ => rfl, fun _ _ _ => rfl⟩
theorem am_ch.tr {S : Nat → Nat → Prop} {M M' M'' : am_M} (h : am_ch S M M') (h2 : am_ch S M' M'') : am_ch S M M'' := ⟨fun a b q => (h2.1 a b q).trans (h.1 a b q), fun a b q => (h2.2 a b q).trans (h.2 a b q)⟩
theorem am_ch.mono {S S' : Nat → Nat → Prop} {M M' : am_M} (h : am_ch S M M') (hs : ∀ a b, S a b → S' a b) : am_ch S' M M' := ⟨fun a b q => h.1 a b (fun z => q (hs a b z)), fun a b q => h.2 a b (fun z => q (hs a b z))⟩
theorem am_ch.wI {S : Nat → Nat → Prop} {M M' : am_M} {n k : Nat} {v : Int32} (h : am_ch S M M') (hs : S n k) : am_ch S M (am_wI M' n k v) := by
  refine ⟨fun a b q => ?_, h.2⟩
  rw [am_wI_1, if_neg (fun z => q (by rw [z.1, z.2]; exact hs))]
  exact h.1 a b q
theorem am_ch.wJ {S : Nat → Nat → Prop} {M M' : am_M} {n k : Nat} {v : Int64} (h : am_ch S M M') (hs : S n k) : am_ch S M (am_wJ M' n k v) := by
  refine ⟨h.1, fun a b q => ?_⟩
  rw [am_wJ_1, if_neg (fun z => q (by rw [z.1, z.2]; exact hs))]
  exact h.2 a b q
theorem am_ch.cI {S : Nat → Nat → Prop} {M M' : am_M} {n : Nat} {f : Nat → Int32} (h : am_ch S M M') (hs : ∀ k, S n k) : am_ch S M (am_cI M' n f) := by
  refine ⟨fun a b q => ?_, h.2⟩
  rw [am_cI_1, if_neg (fun z => q (by rw [z]; exact hs b))]
  exact h.1 a b q
/-! texts: the object t, its characters s, its code c -/
def am_tc (live : am_E) (t s c : Nat) : Bool := am_isO live 5 t && am_isA live 0 s && am_isA live 0 c && Nat.beq (am_len s) 50 && Nat.beq (am_len c) 50 && !(Nat.beq s c)
theorem am_tc_spec {live : am_E} {t s c : Nat} (h : am_tc live t s c = true) : am_isO live 5 t = true ∧ am_isA live 0 s = true ∧ am_isA live 0 c = true ∧ am_len s = 50 ∧ am_len c = 50 ∧ s ≠ c ∧ t ≠ s ∧ t ≠ c := by
  unfold am_tc at h
  simp only [Bool.and_eq_true, Bool.not_eq_true'] at h
  obtain ⟨⟨⟨⟨⟨h1, h2⟩, h3⟩, h4⟩, h5⟩, h6⟩ := h
  exact ⟨h1, h2, h3, Nat.eq_of_beq_eq_true h4, Nat.eq_of_beq_eq_true h5, Nat.ne_of_beq_eq_false h6, am_OA h1 h2, am_OA h1 h3⟩
/-- a text's numbers are in their ranges -/
def am_tI (M : am_M) (t : Nat) : Prop := ∃ _ : Unit, (0 ≤ (M.1 t 2).toInt ∧ (M.1 t 2).toInt ≤ 50) ∧ (0 ≤ (M.1 t 3).toInt ∧ (M.1 t 3).toInt ≤ (M.1 t 5).toInt) ∧ (M.1 t 5).toInt ≤ 50
/-- what reading a text may change -/
def am_tS (t c a b : Nat) : Prop := a = c ∨ (a = t ∧ (b = 2 ∨ b = 3 ∨ b = 4 ∨ b = 6))
def am_tP (live : am_E) (t : Nat) (P : Nat → Nat → Prop) : Prop := ∃ s c, live.2 t 0 = some s ∧ live.2 t 1 = some c ∧ am_tc live t s c = true ∧ P s c
theorem am_tP_mp {live : am_E} {t : Nat} {P : Nat → Nat → Prop} (h : am_tP live t P) : ∃ s c, live.2 t 0 = some s ∧ live.2 t 1 = some c ∧ am_tc live t s c = true ∧ am_isO live 5 t = true ∧ am_isA live 0 s = true ∧ am_isA live 0 c = true ∧ am_len s = 50 ∧ am_len c = 50 ∧ s ≠ c ∧ t ≠ s ∧ t ≠ c ∧ P s c := by
  obtain ⟨s, c, h1, h2, hb, h⟩ := h
  obtain ⟨a1, a2, a3, a4, a5, a6, a7, a8⟩ := am_tc_spec hb
  exact ⟨s, c, h1, h2, hb, a1, a2, a3, a4, a5, a6, a7, a8, h⟩
theorem am_tI_of {M : am_M} {t : Nat} (h1 : 0 ≤ (M.1 t 2).toInt) (h2 : (M.1 t 2).toInt ≤ 50) (h3 : 0 ≤ (M.1 t 3).toInt) (h4 : (M.1 t 3).toInt ≤ (M.1 t 5).toInt) (h5 : (M.1 t 5).toInt ≤ 50) : am_tI M t := ⟨(), ⟨h1, h2⟩, ⟨h3, h4⟩, h5⟩
theorem am_tS_c {t c b : Nat} : am_tS t c c b := Or.inl rfl
theorem am_tS_2 {t c : Nat} : am_tS t c t 2 := Or.inr ⟨rfl, Or.inl rfl⟩
theorem am_tS_3 {t c : Nat} : am_tS t c t 3 := Or.inr ⟨rfl, Or.inr (Or.inl rfl)⟩
theorem am_tS_4 {t c : Nat} : am_tS t c t 4 := Or.inr ⟨rfl, Or.inr (Or.inr (Or.inl rfl))⟩
theorem am_tS_6 {t c : Nat} : am_tS t c t 6 := Or.inr ⟨rfl, Or.inr (Or.inr (Or.inr rfl))⟩
theorem am_ch.wIc {S : Nat → Nat → Prop} {M M' : am_M} {n k : Nat} {v : Int32} {q : Prop} [Decidable q] (h : am_ch S M M') (hs : S n k) : am_ch S M (am_wIc q M' n k v) := by
  by_cases hq : q
  · rw [am_wIc_t hq]; exact h.wI hs
  · rw [am_wIc_f hq]; exact h
theorem am_wIc_1 (q : Prop) [Decidable q] (M : am_M) (n k : Nat) (v : Int32) (a b : Nat) : (am_wIc q M n k v).1 a b = if q ∧ a = n ∧ b = k then v else M.1 a b := rfl
/-- the signs and the size stay -/
theorem am_ch_t5 {M M' : am_M} {t c : Nat} (h : am_ch (am_tS t c) M M') (hn : t ≠ c) : M'.1 t 5 = M.1 t 5 := h.1 t 5 (fun q => by
  rcases q with q | ⟨-, q | q | q | q⟩
  · exact hn q
  all_goals exact absurd q (by decide))
theorem am_ch_s {M M' : am_M} {t c s : Nat} (h : am_ch (am_tS t c) M M') (h1 : s ≠ c) (h2 : t ≠ s) (j : Nat) : M'.1 s j = M.1 s j := h.1 s j (fun q => by
  rcases q with q | ⟨q, -⟩
  · exact h1 q
  · exact h2 q.symm)
end
section
/-! AN: births. What is live, what the references hold and how many cells are made are part of the memory. -/
abbrev am_X : Type := am_E × Nat × Nat × am_M
abbrev an_K : Type := Nat → am_L → List Value → am_X → Prop
abbrev an_S : Type := am_L → List Value → am_X → an_K → Prop
abbrev an_R : Type := Option Value → am_E → am_M → Prop
abbrev an_T : Type := am_E → List Value → am_M → an_R → Prop
def an_agree (live0 : am_E) (al0 al : Nat → Nat) : Prop := ∀ q, (live0.1 q = true ∨ 1000 ≤ q) → al q = al0 q
/-- what is referred to is live -/
def an_cl (E : am_E) : Prop := ∀ a k r, E.1 a = true → E.2 a k = some r → E.1 r = true
def an_I (live0 E : am_E) : Prop := (∀ q, live0.1 q = true → E.1 q = true) ∧ an_cl E
def an_W (p : Program) (l : Launch) (e : Env) (R : Room) (Q : State → Prop) (s : State) (m : MethodId) (args : Array Value) (below : List Frame) (meth : Method) (c : Code) (D : va_G) (cA : Nat → ClassId) (al0 : Nat → Nat) (B : Nat) (live0 : am_E) (nL : Nat) : an_K := fun pc L st X =>
  ∀ (al : Nat → Nat), an_agree live0 al0 al → an_I live0 X.1 → X.2.1 ≤ R.cells → X.2.2.1 ≤ R.slots → am_W p l e (R, X.2.1, X.2.2.1, Q) s m args below meth c D cA al B X.1 nL pc L st X.2.2.2
def an_Qc (D : va_G) (cA : Nat → ClassId) (al0 : Nat → Nat) (B : Nat) (live0 : am_E) (Ret : an_R) : Array Value → State → Outcome → State → Prop := fun _ st o t =>
  ∃ (r : Option Value) (E' : am_E) (M' : am_M) (al' : Nat → Nat), an_agree live0 al0 al' ∧ an_I live0 E' ∧ Ret r E' M' ∧ o = .returned (r.map (am_cv al')) ∧ am_P D cA al' B E' M' t.heap ∧ va_F (fun q => B ≤ q) st t
def an_Rk (R : Room) (rf rl mc ms : Nat) : Prop := rf ≤ R.frames ∧ rl ≤ R.locals ∧ R.cells = mc ∧ R.slots = ms
def an_Qk (s : State) (args : Array Value) (below : List Frame) (D : va_G) (cA : Nat → ClassId) (al0 : Nat → Nat) (B : Nat) (live0 : am_E) (mc ms : Nat) (Ret : an_R) (Q : State → Prop) : Prop :=
  Q = MQ below (an_Qc D cA al0 B live0 Ret) args s mc ms (fun q => B ≤ q) ∨ ∀ r E M, ¬ Ret r E M
def an_ok (own : String) (cc : ByteArray) (nL : Nat) (rt : Option FieldType) (rf rl mc ms : Nat) (ini : Bool) (Pp : State → (Nat → Nat) → Nat → Prop) (Ret : an_R) (pc : Nat) (sem : an_S) : Prop :=
  ∀ (p : Program) (l : Launch) (e : Env) (R : Room) (Q : State → Prop) (s : State) (m : MethodId) (args : Array Value) (below : List Frame) (meth : Method) (c : Code) (D : va_G) (cA : Nat → ClassId) (al0 : Nat → Nat) (B : Nat) (live0 : am_E), am_C p s m args meth c D cA al0 B own cc nL rt → an_Rk R rf rl mc ms → an_Qk s args below D cA al0 B live0 mc ms Ret Q → (ini = true → meth.name = "<init>") → Pp s al0 B →
    ∀ (L : am_L) (st : List Value) (X : am_X) (K : an_K), (∀ pc' L' st' X', K pc' L' st' X' → an_W p l e R Q s m args below meth c D cA al0 B live0 nL pc' L' st' X') → sem L st X K → an_W p l e R Q s m args below meth c D cA al0 B live0 nL pc L st X
/-! a method as a list of what its instructions do; its run with cuts -/
abbrev an_code : Type := List (Nat × an_S)
def an_go : an_code → Nat → an_code
  | [], _ => []
  | q :: r, pc => match Nat.beq q.1 pc with
    | true => q :: r
    | false => an_go r pc
def an_nxt (code rest : an_code) (pc : Nat) : an_code := match rest with
  | [] => an_go code pc
  | r :: rs => match Nat.beq r.1 pc with
    | true => r :: rs
    | false => an_go code pc
abbrev an_cut : Type := Nat → Option (am_L → List Value → am_X → Prop)
/-- by the recursor itself: so the kernel unfolds it step by step -/
noncomputable def an_wp (code : an_code) (cut : an_cut) (n : Nat) : an_code → am_L → List Value → am_X → Prop :=
  @Nat.rec (fun _ => an_code → am_L → List Value → am_X → Prop) (fun _ _ _ _ => False) (fun _ ih cs L st M => match cs with
    | [] => False
    | q :: rest => q.2 L st M (fun pc' L' st' M' => match cut pc' with
      | some I => I L' st' M'
      | none => ih (an_nxt code rest pc') L' st' M')) n
theorem an_go_hd : ∀ (code : an_code) (pc : Nat) (q : Nat × an_S) (r : an_code), an_go code pc = q :: r → q.1 = pc
  | [], _, _, _, h => by cases h
  | a :: rs, pc, q, r, h => by
    unfold an_go at h
    cases hb : Nat.beq a.1 pc with
    | true =>
      rw [hb] at h
      have e : a :: rs = q :: r := h
      cases e
      exact Nat.eq_of_beq_eq_true hb
    | false =>
      rw [hb] at h
      exact an_go_hd rs pc q r h
theorem an_go_in : ∀ (code : an_code) (pc : Nat) (q : Nat × an_S), q ∈ an_go code pc → q ∈ code
  | [], _, _, h => by cases h
  | a :: rs, pc, q, h => by
    unfold an_go at h
    cases hb : Nat.beq a.1 pc with
    | true => rw [hb] at h; exact h
    | false => rw [hb] at h; exact List.mem_cons_of_mem _ (an_go_in rs pc q h)
theorem an_nxt_hd {code rest : an_code} {pc : Nat} {q : Nat × an_S} {r : an_code} (h : an_nxt code rest pc = q :: r) : q.1 = pc := by
  unfold an_nxt at h
  cases rest with
  | nil => exact an_go_hd _ _ _ _ h
  | cons a rs =>
    cases hb : Nat.beq a.1 pc with
    | true =>
      simp only [hb] at h
      cases h
      exact Nat.eq_of_beq_eq_true hb
    | false =>
      simp only [hb] at h
      exact an_go_hd _ _ _ _ h
theorem an_nxt_in {code rest : an_code} {pc : Nat} {q : Nat × an_S} (hr : ∀ x ∈ rest, x ∈ code) (h : q ∈ an_nxt code rest pc) : q ∈ code := by
  unfold an_nxt at h
  cases rest with
  | nil => exact an_go_in _ _ _ h
  | cons a rs =>
    cases hb : Nat.beq a.1 pc with
    | true =>
      simp only [hb] at h
      exact hr _ h
    | false =>
      simp only [hb] at h
      exact an_go_in _ _ _ h
section ANW
variable {own : String} {cc : ByteArray} {nL : Nat} {rt : Option FieldType} {rf rl : Nat} {mc ms : Nat} {ini : Bool} {Pp : State → (Nat → Nat) → Nat → Prop} {Ret : an_R} {p : Program} {l : Launch} {e : Env} {s : State} {m : MethodId} {args : Array Value} {below : List Frame} {meth : Method} {c : Code} {D : va_G} {cA : Nat → ClassId} {al0 : Nat → Nat} {B : Nat} {live0 : am_E} {R : Room} {Q : State → Prop}
theorem an_wp_ok {code : an_code} {cut : an_cut} (hok : ∀ q ∈ code, an_ok own cc nL rt rf rl mc ms ini Pp Ret q.1 q.2) (hC : am_C p s m args meth c D cA al0 B own cc nL rt) (hR : an_Rk R rf rl mc ms) (hQ : an_Qk s args below D cA al0 B live0 mc ms Ret Q) (hni : ini = true → meth.name = "<init>") (hPp : Pp s al0 B)
    (hcut : ∀ pc I, cut pc = some I → ∀ L st M, I L st M → an_W p l e R Q s m args below meth c D cA al0 B live0 nL pc L st M) :
    ∀ (n : Nat) (cs : an_code) (L : am_L) (st : List Value) (M : am_X), (∀ q ∈ cs, q ∈ code) → an_wp code cut n cs L st M → ∃ pc, (∃ q r, cs = q :: r ∧ q.1 = pc) ∧ an_W p l e R Q s m args below meth c D cA al0 B live0 nL pc L st M
  | 0, _, _, _, _, _, h => h.elim
  | n + 1, [], _, _, _, _, h => h.elim
  | n + 1, q :: rest, L, st, M, hin, h => by
    refine ⟨q.1, ⟨q, rest, rfl, rfl⟩, ?_⟩
    refine hok q (hin q List.mem_cons_self) p l e R Q s m args below meth c D cA al0 B live0 hC hR hQ hni hPp L st M _ (fun pc' L' st' M' hk => ?_) h
    cases hc : cut pc' with
    | some I =>
      simp only [hc] at hk
      exact hcut pc' I hc L' st' M' hk
    | none =>
      simp only [hc] at hk
      obtain ⟨pc2, ⟨q2, r2, e1, e2⟩, hw⟩ := an_wp_ok hok hC hR hQ hni hPp hcut n _ L' st' M' (fun x hx => an_nxt_in (fun y hy => hin y (List.mem_cons_of_mem _ hy)) hx) hk
      have e3 := an_nxt_hd e1
      rw [← e3, e2]
      exact hw
/-- loops: invariants with a pair that falls -/
abbrev an_inv : Type := Nat → Option (List Nat × (Nat × Nat → am_L → List Value → am_X → Prop))
theorem an_W_nm {ks : List Nat} {pc : Nat} {L : am_L} {st : List Value} {M : am_X} (h : an_W p l e R Q s m args below meth c D cA al0 B live0 nL pc (am_nm ks L) st M) : an_W p l e R Q s m args below meth c D cA al0 B live0 nL pc L st M := by
  intro al hal hI hcc hcn H locs ls hP hS hl
  refine h al hal hI hcc hcn H locs ls hP hS ⟨hl.1, hl.2.1, fun q hq => ?_⟩
  obtain ⟨x, hx, rfl⟩ := List.mem_map.mp hq
  exact hl.2.2 _ (List.mem_map.mpr ⟨x, am_nm_mem hx, rfl⟩)
def an_cutl (inv : an_inv) (k : Nat × Nat) : an_cut := fun pc => match inv pc with
  | some I => some (fun L st M => ∃ k', am_lt k' k ∧ I.2 k' (am_nm I.1 L) st M)
  | none => none
def an_cut0 (inv : an_inv) : an_cut := fun pc => match inv pc with
  | some I => some (fun L st M => ∃ k', I.2 k' (am_nm I.1 L) st M)
  | none => none
theorem an_loops {code : an_code} {inv : an_inv} (hok : ∀ q ∈ code, an_ok own cc nL rt rf rl mc ms ini Pp Ret q.1 q.2) (hC : am_C p s m args meth c D cA al0 B own cc nL rt) (hR : an_Rk R rf rl mc ms) (hQ : an_Qk s args below D cA al0 B live0 mc ms Ret Q) (hni : ini = true → meth.name = "<init>") (hPp : Pp s al0 B)
    (N : Nat) (h : ∀ (k : Nat × Nat) (pc : Nat) I, inv pc = some I → ∀ L st M, I.2 k L st M → an_wp code (an_cutl inv k) N (an_go code pc) L st M) :
    ∀ (a b : Nat) (pc : Nat) I, inv pc = some I → ∀ L st M, I.2 (a, b) L st M → an_W p l e R Q s m args below meth c D cA al0 B live0 nL pc L st M := by
  intro a
  induction a using Nat.strongRecOn with
  | ind a iha =>
    intro b
    induction b using Nat.strongRecOn with
    | ind b ihb =>
      intro pc I hI L st M hi
      have hw := h (a, b) pc I hI L st M hi
      obtain ⟨pc2, ⟨q, r, e1, e2⟩, w⟩ := an_wp_ok (l := l) (e := e) (below := below) hok hC hR hQ hni hPp (cut := an_cutl inv (a, b)) (fun pc' I' hc L' st' M' hh => by
        unfold an_cutl at hc
        cases hi' : inv pc' with
        | none => rw [hi'] at hc; cases hc
        | some J =>
          rw [hi'] at hc
          cases hc
          obtain ⟨⟨a', b'⟩, hlt, hj⟩ := hh
          refine an_W_nm (ks := J.1) ?_
          rcases hlt with hlt | ⟨e, hlt⟩
          · exact iha a' hlt b' pc' J hi' _ st' M' hj
          · have e' : a' = a := e
            subst e'
            exact ihb b' hlt pc' J hi' _ st' M' hj) N _ L st M (fun x hx => an_go_in _ _ _ hx) hw
      rw [← an_go_hd _ _ _ _ e1, e2]
      exact w
end ANW
/-- a method's contract, with births -/
def an_Met (y : MethodName) (cc : ByteArray) (nL : Nat) (rt : Option FieldType) (rf rl mc ms : Nat) (T : an_T) : Prop :=
  ∀ (l : Launch) (D : va_G) (cA : Nat → ClassId) (al : Nat → Nat) (B : Nat) (live : am_E) (as : List Value) (M : am_M) (Ret : an_R), an_cl live → T live as M Ret →
    Met l y (.code y cc nL rt :: am_ws) { frames := rf, cells := mc, slots := ms, locals := rl } (am_Pc D cA al B live as M) (an_Qc D cA al B live Ret) mc ms (fun q => B ≤ q)
theorem an_met {y : MethodName} {own : String} {cc : ByteArray} {nL : Nat} {rt : Option FieldType} {rf rl mc ms : Nat} {ini : Bool} {T : an_T} (hy : plainName y.cls = true) (hown : y.cls = own) (hni : ini = true → y.name = "<init>") (code : an_R → an_code)
    (hok : ∀ Ret, ∀ q ∈ code Ret, an_ok own cc nL rt rf rl mc ms ini (fun _ _ _ => True) Ret q.1 q.2) (N : Nat) (inv : am_E → List Value → am_M → an_R → an_inv)
    (hin : ∀ live as M Ret, T live as M Ret → (lg_sl as).length ≤ nL ∧ an_wp (code Ret) (an_cut0 (inv live as M Ret)) N (an_go (code Ret) 0) (lv_args 0 as) [] (live, 0, 0, M))
    (hl : ∀ live as M0 Ret, T live as M0 Ret → ∀ (k : Nat × Nat) (pc : Nat) I, inv live as M0 Ret pc = some I → ∀ L st M, I.2 k L st M → an_wp (code Ret) (an_cutl (inv live as M0 Ret) k) N (an_go (code Ret) pc) L st M) :
    an_Met y cc nL rt rf rl mc ms T := by
  intro l D cA al B live as M Ret hcl hT
  refine Met.ofW (cc := cc) (maxL := nL) (ret := rt) hy rfl ?_
  intro p e s m args below meth c s₁ Bd hml hv
  obtain ⟨rfl, hsz, hP, hK, hZ, hN⟩ := hv
  have hts0 := atoms_spec (ws := Cond.code y cc nL rt :: am_ws) Bd.pre
  have hC : am_C p s m (as.map (am_cv al)).toArray meth c D cA al B own cc nL rt := ⟨Bd.exec, Bd.bytes, hml, hown ▸ findClass_of_methodNamed Bd.named, fun w hw => hts0 w (List.mem_cons_of_mem _ hw), Bd.notSynchronized, Bd.returns, hK, hsz, hZ, hN⟩
  have hR : an_Rk { frames := rf, cells := mc, slots := ms, locals := rl } rf rl mc ms := ⟨Nat.le_refl _, Nat.le_refl _, rfl, rfl⟩
  have hQ : an_Qk s (as.map (am_cv al)).toArray below D cA al B live mc ms Ret (MQ below (an_Qc D cA al B live Ret) (as.map (am_cv al)).toArray s mc ms (fun q => B ≤ q)) := Or.inl rfl
  have hn2 : ini = true → meth.name = "<init>" := fun h => (name_of_methodNamed Bd.named Bd.method).1.trans (hni h)
  obtain ⟨hlen, hwp⟩ := hin live as M Ret hT
  obtain ⟨pc2, ⟨q, r, e1, e2⟩, w⟩ := an_wp_ok (l := l) (e := e) (below := below) (hok Ret) hC hR hQ hn2 trivial (cut := an_cut0 (inv live as M Ret)) (fun pc' I' hc L' st' M' hh => by
    unfold an_cut0 at hc
    cases hi' : inv live as M Ret pc' with
    | none => rw [hi'] at hc; cases hc
    | some J =>
      rw [hi'] at hc
      cases hc
      obtain ⟨⟨a', b'⟩, hj⟩ := hh
      exact an_W_nm (ks := J.1) (an_loops (hok Ret) hC hR hQ hn2 trivial N (hl live as M Ret hT) a' b' pc' J hi' _ st' M' hj)) N _ _ _ _ (fun x hx => an_go_in _ _ _ hx) hwp
  have e3 := an_go_hd _ _ _ _ e1
  have e4 : pc2 = 0 := by rw [← e2, e3]
  subst e4
  have hle := lv_entry (as.map (am_cv al)) (n := nL) (by rw [am_slen]; exact hlen)
  rw [am_args] at hle
  rw [lg_entry_eq]
  exact w al (fun _ _ => rfl) ⟨fun _ h => h, hcl⟩ (Nat.zero_le _) (Nat.zero_le _) s.heap [] _ hP va_S.rf hle
/-! what births do -/
theorem am_Z.al {al0 al : Nat → Nat} {B : Nat} {s : State} (h : ∀ q, 1000 ≤ q → al q = al0 q) (hZ : am_Z al0 B s) : am_Z al B s := fun k hk => by
  rw [h (1000 + k) (Nat.le_add_right _ _)]; exact hZ k hk
theorem am_C.al {p : Program} {s : State} {m : MethodId} {args : Array Value} {meth : Method} {c : Code} {D : va_G} {cA : Nat → ClassId} {al0 al : Nat → Nat} {B : Nat} {own : String} {cc : ByteArray} {nL : Nat} {rt : Option FieldType} (hC : am_C p s m args meth c D cA al0 B own cc nL rt) (h : ∀ q, 1000 ≤ q → al q = al0 q) : am_C p s m args meth c D cA al B own cc nL rt := by
  obtain ⟨a1, a2, a3, a4, a5, a6, a7, a8, a9, a10, a11⟩ := hC
  exact ⟨a1, a2, a3, a4, a5, a6, a7, a8, a9, a10.al h, a11⟩
def an_lf (f : am_E → am_S) : an_S := fun L st X K => match X with
  | (E, k, n, M) => f E L st M (fun pc' L' st' M' => K pc' L' st' (E, k, n, M'))
def an_no : am_R := fun _ _ => False
theorem an_lift {own : String} {cc : ByteArray} {nL : Nat} {rt : Option FieldType} {rf rl mc ms : Nat} {ini : Bool} {Pp : State → (Nat → Nat) → Nat → Prop} {Ret : an_R} {pc : Nat} {f : am_E → am_S} (h : ∀ live, am_ok own cc nL rt rf rl live an_no pc (f live)) : an_ok own cc nL rt rf rl mc ms ini Pp Ret pc (an_lf f) := by
  intro p l e R Q s m args below meth c D cA al0 B live0 hC hR hQ hni hPp L st X K hK hs al hal hI hc hn
  obtain ⟨E, k0, n0, M⟩ := X
  exact h E p l e s m args below meth c D cA al B (hC.al (fun q hq => hal q (Or.inr hq))) (R, k0, n0, Q) ⟨hR.1, hR.2.1, hc, hn, Or.inr (fun _ _ q => q)⟩ L st M _ (fun pc' L' st' M' k => hK pc' L' st' (E, k0, n0, M') k al hal hI hc hn) hs
def an_bE (E : am_E) (n : Nat) : am_E := (fun q => Nat.beq q n || E.1 q, fun a b => match Nat.beq a n with | true => none | false => E.2 a b)
def an_bM (M : am_M) (n : Nat) : am_M := (fun a b => match Nat.beq a n with | true => 0 | false => M.1 a b, fun a b => match Nat.beq a n with | true => 0 | false => M.2 a b)
def an_up (al : Nat → Nat) (n q : Nat) : Nat → Nat := fun x => if x = n then q else al x
theorem an_ce_cg {Q Q' : Nat → Nat → Option Nat} {cA : Nat → ClassId} {al al' : Nat → Nat} {M M' : am_M} {n : Nat} (h1 : ∀ k, M'.1 n k = M.1 n k) (h2 : ∀ k, M'.2 n k = M.2 n k) (hq : ∀ k, (Q' n k).map al' = (Q n k).map al) : am_ce Q' cA al' M' n = am_ce Q cA al M n := by
  unfold am_ce
  cases am_sh n with
  | inl ci =>
    refine congrArg Sum.inr (Prod.ext rfl ?_)
    refine congrArg (fun f => List.map f (List.range (am_nf ci))) ?_
    funext k
    unfold am_fv
    rw [h1, h2, hq]
  | inr q =>
    refine congrArg Sum.inl (Prod.ext rfl (Prod.ext rfl ?_))
    show am_ae Q' al' M' n q.1 = am_ae Q al M n q.1
    unfold am_ae
    rw [show M'.1 n = M.1 n from funext h1, show M'.2 n = M.2 n from funext h2, show (fun k => (Q' n k).map al') = (fun k => (Q n k).map al) from funext hq]
theorem an_bne {n m : Nat} (h : n ≠ m) : Nat.beq n m = false := by
  cases hb : Nat.beq n m with
  | true => exact absurd (Nat.eq_of_beq_eq_true hb) h
  | false => rfl
theorem an_beq (n : Nat) : Nat.beq n n = true := Nat.beq_refl n
theorem an_bE_new (E : am_E) (n : Nat) : (an_bE E n).1 n = true := by
  show (Nat.beq n n || E.1 n) = true
  rw [an_beq]; rfl
theorem an_bE_old (E : am_E) {n q : Nat} (h : E.1 q = true) : (an_bE E n).1 q = true := by
  show (Nat.beq q n || E.1 q) = true
  rw [h, Bool.or_true]
theorem an_bE_of (E : am_E) {n q : Nat} (h : (an_bE E n).1 q = true) : q = n ∨ E.1 q = true := by
  have h : (Nat.beq q n || E.1 q) = true := h
  rcases Bool.or_eq_true _ _ |>.mp h with h | h
  · exact Or.inl (Nat.eq_of_beq_eq_true h)
  · exact Or.inr h
theorem an_bE_2 (E : am_E) {n a : Nat} (k : Nat) (h : a ≠ n) : (an_bE E n).2 a k = E.2 a k := by
  show (match Nat.beq a n with | true => none | false => E.2 a k) = _
  rw [an_bne h]
theorem an_bE_2n (E : am_E) (n k : Nat) : (an_bE E n).2 n k = none := by
  show (match Nat.beq n n with | true => none | false => E.2 n k) = _
  rw [an_beq]
theorem an_bM_1 (M : am_M) {n a : Nat} (k : Nat) (h : a ≠ n) : (an_bM M n).1 a k = M.1 a k := by
  show (match Nat.beq a n with | true => 0 | false => M.1 a k) = _
  rw [an_bne h]
theorem an_bM_2 (M : am_M) {n a : Nat} (k : Nat) (h : a ≠ n) : (an_bM M n).2 a k = M.2 a k := by
  show (match Nat.beq a n with | true => 0 | false => M.2 a k) = _
  rw [an_bne h]
theorem an_bM_1n (M : am_M) (n k : Nat) : (an_bM M n).1 n k = 0 := by
  show (match Nat.beq n n with | true => 0 | false => M.1 n k) = _
  rw [an_beq]
theorem an_bM_2n (M : am_M) (n k : Nat) : (an_bM M n).2 n k = 0 := by
  show (match Nat.beq n n with | true => 0 | false => M.2 n k) = _
  rw [an_beq]
theorem an_bI {live0 E : am_E} {n : Nat} (h : an_I live0 E) : an_I live0 (an_bE E n) := by
  refine ⟨fun q hq => an_bE_old E (h.1 q hq), fun a k r ha hr => ?_⟩
  by_cases e : a = n
  · subst e
    rw [an_bE_2n] at hr
    cases hr
  · rw [an_bE_2 E k e] at hr
    rcases an_bE_of E ha with h1 | h1
    · exact absurd h1 e
    · exact an_bE_old E (h.2 a k r h1 hr)
theorem an_born {D : va_G} {cA : Nat → ClassId} {al : Nat → Nat} {B : Nat} {E : am_E} {M : am_M} {H H1 : Heap} {n q : Nat} {e : va_E} (hP : am_P D cA al B E M H) (hcl : an_cl E) (hf : E.1 n = false) (h4 : n < 400)
    (hP1 : va_P D am_cl (am_ws0 cA al E M ++ [(q, e)]) H1) (hD1 : va_D (fun q => B ≤ q) (am_ws0 cA al E M ++ [(q, e)])) (he : am_ce (an_bE E n).2 cA (an_up al n q) (an_bM M n) n = e) : am_P D cA (an_up al n q) B (an_bE E n) (an_bM M n) H1 := by
  have hne : ∀ {m : Nat}, E.1 m = true → m ≠ n := fun hm z => by
    rw [z, hf] at hm
    cases hm
  have hlast : (am_ws0 cA al E M ++ [(q, e)])[(am_ws0 cA al E M).length]? = some (q, e) := by
    rw [List.getElem?_append_right (Nat.le_refl _), Nat.sub_self]
    rfl
  have hold : ∀ {m : Nat}, E.1 m = true → ∃ k, k < (am_ws0 cA al E M).length ∧ (am_ws0 cA al E M ++ [(q, e)])[k]? = some (al m, am_ce E.2 cA al M m) := fun {m} hm => by
    obtain ⟨k, hk⟩ := am_wl_at hm (hP.2.2.2 m hm)
    have hk2 := am_ws0_at (cA := cA) (al := al) (M := M) hk
    have hlt := (List.getElem?_eq_some_iff.mp hk2).1
    exact ⟨k, hlt, by rw [List.getElem?_append_left hlt]; exact hk2⟩
  have e1 : an_up al n q n = q := if_pos rfl
  have e2 : ∀ {m : Nat}, m ≠ n → an_up al n q m = al m := fun h => if_neg h
  refine ⟨fun m hm => ?_, fun i j hi hj hij => ?_, fun m hm => ?_, fun m hm => ?_⟩
  · rcases an_bE_of E hm with z | z
    · rw [z, he, e1]
      exact hP1 _ _ hlast
    · obtain ⟨k, -, hk⟩ := hold z
      rw [e2 (hne z), an_ce_cg (M := M) (Q := E.2) (al := al) (fun k => an_bM_1 M k (hne z)) (fun k => an_bM_2 M k (hne z)) (fun k => ?_)]
      · exact hP1 _ _ hk
      · rw [an_bE_2 E k (hne z)]
        cases hr : E.2 m k with
        | none => rfl
        | some r => exact congrArg some (e2 (hne (hcl m k r z hr)))
  · rcases an_bE_of E hi with zi | zi
    · rcases an_bE_of E hj with zj | zj
      · rw [zi, zj]
      · exfalso
        rw [zi, e1, e2 (hne zj)] at hij
        obtain ⟨k, hk1, hk⟩ := hold zj
        have := hD1.1 _ _ _ _ hlast hk hij
        omega
    · rcases an_bE_of E hj with zj | zj
      · exfalso
        rw [zj, e1, e2 (hne zi)] at hij
        obtain ⟨k, hk1, hk⟩ := hold zi
        have := hD1.1 _ _ _ _ hk hlast hij
        omega
      · rw [e2 (hne zi), e2 (hne zj)] at hij
        exact hP.2.1 i j zi zj hij
  · rcases an_bE_of E hm with z | z
    · rw [z, e1]
      exact hD1.2 _ _ hlast
    · rw [e2 (hne z)]
      exact hP.2.2.1 m z
  · rcases an_bE_of E hm with z | z
    · rw [z]; exact h4
    · exact hP.2.2.2 m z
/-- the references at hand are live, or static -/
def an_rk (E : am_E) (v : Value) : Bool := match v with
  | .ref n => E.1 n || Nat.ble 1000 n
  | _ => true
theorem an_rk_cv {E : am_E} {al al' : Nat → Nat} (h : ∀ q, (E.1 q = true ∨ 1000 ≤ q) → al' q = al q) {v : Value} (hv : an_rk E v = true) : am_cv al' v = am_cv al v := by
  cases v with
  | ref n =>
    have hv : (E.1 n || Nat.ble 1000 n) = true := hv
    refine congrArg Value.ref (h n ?_)
    rcases Bool.or_eq_true _ _ |>.mp hv with z | z
    · exact Or.inl z
    · exact Or.inr (Nat.le_of_ble_eq_true z)
  | _ => rfl
theorem an_st_cv {E : am_E} {al al' : Nat → Nat} (h : ∀ q, (E.1 q = true ∨ 1000 ≤ q) → al' q = al q) {st : List Value} (hv : st.all (an_rk E) = true) : st.map (am_cv al') = st.map (am_cv al) :=
  List.map_congr_left (fun v hm => an_rk_cv h (List.all_eq_true.mp hv v hm))
theorem an_lc_cv {E : am_E} {al al' : Nat → Nat} (h : ∀ q, (E.1 q = true ∨ 1000 ≤ q) → al' q = al q) {L : am_L} (hv : L.all (fun q => an_rk E q.2) = true) : am_lc al' L = am_lc al L :=
  List.map_congr_left (fun v hm => Prod.ext rfl (an_rk_cv h (List.all_eq_true.mp hv v hm)))
def an_fr (E : am_E) (kc kn : Nat) (L : am_L) (st : List Value) (n mc ms k j : Nat) : Bool := !(E.1 n) && (Nat.blt n 400 && (Nat.ble (kc + k) mc && (Nat.ble (kn + j) ms && (L.all (fun q => an_rk E q.2) && st.all (an_rk E)))))
theorem an_fr_spec {E : am_E} {kc kn : Nat} {L : am_L} {st : List Value} {n mc ms k j : Nat} (h : an_fr E kc kn L st n mc ms k j = true) : E.1 n = false ∧ n < 400 ∧ kc + k ≤ mc ∧ kn + j ≤ ms ∧ L.all (fun q => an_rk E q.2) = true ∧ st.all (an_rk E) = true := by
  unfold an_fr at h
  simp only [Bool.and_eq_true, Bool.not_eq_true'] at h
  exact ⟨h.1, Nat.le_of_ble_eq_true h.2.1, Nat.le_of_ble_eq_true h.2.2.1, Nat.le_of_ble_eq_true h.2.2.2.1, h.2.2.2.2.1, h.2.2.2.2.2⟩
theorem an_up_old {E : am_E} {al : Nat → Nat} {n q : Nat} (hf : E.1 n = false) (h4 : n < 400) : ∀ x, (E.1 x = true ∨ 1000 ≤ x) → an_up al n q x = al x := fun x hx => if_neg (fun z => by
  subst z
  rcases hx with h | h
  · rw [hf] at h; cases h
  · omega)
theorem an_agree.up {live0 E : am_E} {al0 al : Nat → Nat} {n q : Nat} (h : an_agree live0 al0 al) (hs : ∀ q, live0.1 q = true → E.1 q = true) (hf : E.1 n = false) (h4 : n < 400) : an_agree live0 al0 (an_up al n q) := fun x hx => (an_up_old (E := E) hf h4 x (hx.imp (hs x) (fun z => z))).trans (h x hx)
end
section
/-! births: the rows -/
theorem an_kc {P : Nat × an_S → Prop} {a : Nat × an_S} {l : an_code} (h : P a) (hl : ∀ q ∈ l, P q) : ∀ q ∈ a :: l, P q := fun q hq => by
  rcases List.mem_cons.mp hq with rfl | h2
  · exact h
  · exact hl q h2
theorem an_kn {P : Nat × an_S → Prop} : ∀ q ∈ ([] : an_code), P q := fun _ h => absurd h List.not_mem_nil
def an_isO (E : am_E) (ci n : Nat) : Bool := E.1 n && (match am_sh n with | .inl c => Nat.beq c ci | .inr _ => false)
def an_shO (ci n : Nat) : Bool := match am_sh n with | .inl c => Nat.beq c ci | .inr _ => false
def an_shA (t len n : Nat) : Bool := match am_sh n with | .inl _ => false | .inr q => Nat.beq q.1 t && Nat.beq q.2 len
theorem an_shO_spec {ci n : Nat} (h : an_shO ci n = true) : am_sh n = .inl ci := by
  unfold an_shO at h
  cases hs : am_sh n with
  | inl c => rw [hs] at h; rw [Nat.eq_of_beq_eq_true h]
  | inr q => rw [hs] at h; cases h
theorem an_shA_spec {t len n : Nat} (h : an_shA t len n = true) : am_sh n = .inr (t, len) := by
  unfold an_shA at h
  cases hs : am_sh n with
  | inl c => rw [hs] at h; cases h
  | inr q =>
    rw [hs] at h
    have h : (Nat.beq q.1 t && Nat.beq q.2 len) = true := h
    rw [Bool.and_eq_true] at h
    rw [← Nat.eq_of_beq_eq_true h.1, ← Nat.eq_of_beq_eq_true h.2]
/-- the fields of a new object -/
def an_z (ci k : Nat) : Value := match am_ft ci k with
  | 0 => .int 0
  | 1 => .long 0
  | _ => .null
theorem an_fv_new (E : am_E) (M : am_M) (al : Nat → Nat) (n ci k : Nat) : am_fv (an_bE E n).2 al (an_bM M n) n ci k = an_z ci k := by
  unfold am_fv an_z
  rw [an_bM_1n, an_bM_2n, an_bE_2n]
  rfl
def an_new (ci N : Nat) (f : am_L → Nat) (mc ms nx : Nat) : an_S := fun L st X K => match X with
  | (E, kc, kn, M) => am_if (an_fr E kc kn L st (f L) mc ms 1 N && an_shO ci (f L)) (K nx L (.ref (f L) :: st) (an_bE E (f L), kc + 1, kn + N, an_bM M (f L)))
def an_newa (t len : Nat) (f : am_L → Nat) (mc ms nx : Nat) : an_S := fun L st X K => match X with
  | (E, kc, kn, M) => match st with
    | .int x :: r => am_if (an_fr E kc kn L r (f L) mc ms 1 len && (an_shA t len (f L) && Nat.blt len 100000)) (x = Int32.ofNat len ∧ K nx L (.ref (f L) :: r) (an_bE E (f L), kc + 1, kn + len, an_bM M (f L)))
    | _ => False
/-- a reference is put -/
def an_rE (E : am_E) (n k v : Nat) : am_E := (E.1, fun a b => match Nat.beq a n && Nat.beq b k with | true => some v | false => E.2 a b)
def an_putFI (ci k nx : Nat) : an_S := fun L st X K => match X with
  | (E, kc, kn, M) => match st with
    | .int v :: .ref n :: r => am_if (an_isO E ci n) (K nx L r (E, kc, kn, am_wI M n k v))
    | _ => False
def an_putFR (ci k nx : Nat) : an_S := fun L st X K => match X with
  | (E, kc, kn, M) => match st with
    | .ref v :: .ref n :: r => am_if (an_isO E ci n && E.1 v) (K nx L r (an_rE E n k v, kc, kn, M))
    | _ => False
def an_astR (t ci nx : Nat) : an_S := fun L st X K => match X with
  | (E, kc, kn, M) => match st with
    | .ref v :: .int j :: .ref n :: r => am_if (am_isA E t n && an_isO E ci v) (am_in j (am_len n) ∧ K nx L r (an_rE E n j.toNatClampNeg v, kc, kn, M))
    | _ => False
def an_aldN (t nx : Nat) : an_S := fun L st X K => match X with
  | (E, kc, kn, M) => match st with
    | .int j :: .ref n :: r => am_if (am_isA E t n) (am_in j (am_len n) ∧ ∀ o, E.2 n j.toNatClampNeg = o → K nx L ((match o with | some q => .ref q | none => .null) :: r) (E, kc, kn, M))
    | _ => False
def an_ifnn (tg nx : Nat) : an_S := fun L st X K => match st with
  | .ref _ :: r => K tg L r X
  | .null :: r => K nx L r X
  | _ => False
def an_obj (rl nx : Nat) : an_S := fun L st X K => match st with
  | .ref _ :: r => am_if (Nat.ble (am_cats r + 12) rl) (K nx L r X)
  | _ => False
def an_callI (ci n : Nat) (T : an_T) (mc ms mc' ms' nx : Nat) : an_S := fun L st X K => match X with
  | (E, kc, kn, M) => match st.drop n with
    | .ref q :: r => am_if (an_isO E ci q && (Nat.beq (st.take n).length n && (Nat.ble (am_cats r) 8 && (Nat.ble (kc + mc') mc && (Nat.ble (kn + ms') ms && (L.all (fun q => an_rk E q.2) && r.all (an_rk E))))))) (T E (.ref q :: (st.take n).reverse) M (fun v E2 M2 => K nx L (v.toList ++ r) (E2, kc + mc', kn + ms', M2)))
    | _ => False
def an_retV (Ret : an_R) : an_S := fun _ st X _ => match X with
  | (E, _, _, M) => match st with
    | [] => Ret none E M
    | _ => False
def an_retI (Ret : an_R) : an_S := fun _ st X _ => match X with
  | (E, _, _, M) => match st with
    | [.int v] => Ret (some (.int v)) E M
    | _ => False
theorem an_isO_spec {E : am_E} {ci n : Nat} (h : an_isO E ci n = true) : E.1 n = true ∧ am_sh n = .inl ci := by
  unfold an_isO at h
  rw [Bool.and_eq_true] at h
  exact ⟨h.1, an_shO_spec h.2⟩
theorem an_ws_P {D : va_G} {cA : Nat → ClassId} {al : Nat → Nat} {B : Nat} {E E' : am_E} {M M' : am_M} {H H1 : Heap} {d k : Nat} {e : va_E} (h : am_P D cA al B E M H) (hE : E'.1 = E.1) (hk : (am_wl E)[k]? = some d) (hP1 : va_P D am_cl ((am_ws0 cA al E M).set k (al d, e)) H1) (he : am_ce E'.2 cA al M' d = e) (ho : ∀ m, m ≠ d → am_ce E'.2 cA al M' m = am_ce E.2 cA al M m) : am_P D cA al B E' M' H1 := by
  unfold am_P
  rw [hE]
  refine ⟨fun n hn => ?_, h.2⟩
  obtain ⟨j, hj⟩ := am_wl_at hn (h.2.2.2 n hn)
  have hlt : j < (am_ws0 cA al E M).length := by
    unfold am_ws0
    rw [List.length_map]
    exact (List.getElem?_eq_some_iff.mp hj).1
  by_cases hd : n = d
  · subst hd
    have hjk := am_wl_inj hj hk
    subst hjk
    have := hP1 j (al n, e) (by rw [List.getElem?_set_self hlt])
    rw [he]
    exact this
  · have hjk : k ≠ j := fun q => by
      subst q
      rw [hj] at hk
      exact hd (Option.some.inj hk)
    rw [ho n hd]
    exact hP1 j _ (by rw [List.getElem?_set_ne hjk]; exact am_ws0_at hj)
theorem an_map_set {N k : Nat} (f g : Nat → Value) (h : ∀ j, j ≠ k → g j = f j) : (List.range N).map g = ((List.range N).map f).set k (g k) := by
  apply List.ext_getElem?
  intro j
  rw [List.getElem?_set]
  by_cases e : k = j
  · subst e
    rw [if_pos rfl]
    by_cases hlt : k < N
    · rw [if_pos (by rw [List.length_map, List.length_range]; exact hlt), List.getElem?_map, List.getElem?_range hlt]
      rfl
    · rw [if_neg (by rw [List.length_map, List.length_range]; exact hlt), List.getElem?_map, List.getElem?_eq_none (by rw [List.length_range]; omega)]
      rfl
  · rw [if_neg e, List.getElem?_map, List.getElem?_map]
    by_cases hlt : j < N
    · rw [List.getElem?_range hlt]
      exact congrArg some (h j (fun z => e z.symm))
    · rw [List.getElem?_eq_none (by rw [List.length_range]; omega)]
      rfl
theorem an_rE_n (E : am_E) (n k v : Nat) : (an_rE E n k v).2 n k = some v := by
  show (match Nat.beq n n && Nat.beq k k with | true => some v | false => E.2 n k) = _
  rw [an_beq, an_beq]
  rfl
theorem an_rE_k (E : am_E) (n v : Nat) {k j : Nat} (h : j ≠ k) : (an_rE E n k v).2 n j = E.2 n j := by
  show (match Nat.beq n n && Nat.beq j k with | true => some v | false => E.2 n j) = _
  rw [an_bne h, Bool.and_false]
theorem an_rE_o (E : am_E) (k v j : Nat) {n m : Nat} (h : m ≠ n) : (an_rE E n k v).2 m j = E.2 m j := by
  show (match Nat.beq m n && Nat.beq j k with | true => some v | false => E.2 m j) = _
  rw [an_bne h, Bool.false_and]
theorem an_rI {live0 E : am_E} {n k v : Nat} (h : an_I live0 E) (hv : E.1 v = true) : an_I live0 (an_rE E n k v) := by
  refine ⟨h.1, fun a j r ha hr => ?_⟩
  by_cases e : a = n
  · subst e
    by_cases e2 : j = k
    · subst e2
      rw [an_rE_n] at hr
      cases hr
      exact hv
    · rw [an_rE_k E a v e2] at hr
      exact h.2 a j r ha hr
  · rw [an_rE_o E k v j e] at hr
    exact h.2 a j r ha hr
section ANR
variable {own : String} {cc : ByteArray} {nL : Nat} {rt : Option FieldType} {rf rl mc ms : Nat} {ini : Bool} {Pp : State → (Nat → Nat) → Nat → Prop} {Ret : an_R} {pc nx : Nat}
theorem nk_new {ci N idx : Nat} {C : String} {T : u_T} {f : am_L → Nat} {ty : Nat → FieldType} (hc : am_cl[ci]? = some (C, T, N)) (hin : ∀ w ∈ u_ws C T N, w ∈ am_ws) (hty : ∀ k, k < N → parseFieldDescriptor (T k).2.2.1 = some (ty k)) (hnf : am_nf ci = N) (hz : ∀ j, j < N → defaultValue (ty j) = an_z ci j)
    (hw : ∀ w ∈ ([.classLink own idx C, .instantiable C N, .initialized C] : List Cond), w ∈ am_ws) (hd : decode cc pc = .ok (.new idx, 3)) (hn : pc + 3 = nx) : an_ok own cc nL rt rf rl mc ms ini Pp Ret pc (an_new ci N f mc ms nx) := by
  subst hn
  intro p l e R Q s m args below meth c D cA al0 B live0 hC hR hQ hni hPp L st X K hK h al hal hI hcc hcn H locs ls hP hS hl
  obtain ⟨E, kc, kn, M⟩ := X
  obtain ⟨hbb, h⟩ := am_if_mp h
  rw [Bool.and_eq_true] at hbb
  obtain ⟨f1, f2, f3, f4, f5, f6⟩ := an_fr_spec hbb.1
  have hsh := an_shO_spec hbb.2
  generalize f L = n at h f1 f2 hsh
  obtain ⟨hx, hb, hml, hown, hts, hlk, hr, hKK, hB, hZ, hN⟩ := hC.al (al := al) (fun q hq => hal q (Or.inr hq))
  obtain ⟨w1, w2⟩ := am_P_ws hP
  refine va_new (ci := ci) (fs := (List.range N).map (an_z ci)) (C := C) (T := T) (N := N) hx hb hts hin ty hty hown (hts _ (hw _ (by simp))) (hts _ (hw _ (by simp))) (hts _ (hw _ (by simp))) hKK w1 w2 hS (fun q hq => Nat.le_trans hB hq) hc (fun j hj => by rw [am_V _ hj]; exact hz j hj) (by rw [hR.2.2.1]; exact f3) (by rw [hR.2.2.2]; exact f4) hd (fun q H1 hP1 hD1 hS1 => ?_)
  have hP2 := an_born hP hI.2 f1 f2 hP1 hD1 (by
    rw [am_ceF hsh, hnf]
    exact congrArg (fun z => Sum.inr (ci, List.map z (List.range N))) (funext fun k => an_fv_new E M _ n ci k))
  have hup := an_up_old (E := E) (al := al) (q := q) f1 f2
  have hg := hK _ _ _ _ h (an_up al n q) (hal.up hI.1 f1 f2) (an_bI hI) (by rw [hR.2.2.1]; exact f3) (by rw [hR.2.2.2]; exact f4) H1 locs ls hP2 hS1 (by rw [an_lc_cv hup f5]; exact hl)
  rw [List.map_cons, an_st_cv hup f6, show am_cv (an_up al n q) (.ref n) = .ref q from congrArg Value.ref (if_pos rfl)] at hg
  exact hg
theorem an_ae_new (E : am_E) (M : am_M) (al : Nat → Nat) (n t : Nat) : am_ae (an_bE E n).2 al (an_bM M n) n t = (match am_tk t with | 0 => .inl (fun _ => 0) | 1 => .inr (.inl (fun _ => 0)) | _ => .inr (.inr (.inr (.inr (fun _ => none))))) := by
  unfold am_ae
  rw [show (an_bM M n).1 n = fun _ => 0 from funext (an_bM_1n M n), show (an_bM M n).2 n = fun _ => 0 from funext (an_bM_2n M n), show (fun k => ((an_bE E n).2 n k).map al) = fun _ => none from funext (fun k => by rw [an_bE_2n]; rfl)]
  rfl
theorem nk_newa {t len : Nat} {atype : ArrayType} {ty : FieldType} {f : am_L → Nat} (hty : newarray.typeOf atype = ty) (ht : ∀ cA : Nat → ClassId, (am_tys cA)[t]? = some (cA t, ty)) (hno : ∀ C, ty ≠ .object C) (hcell : ∀ cA : ClassId, vp_cell cA (len, (match am_tk t with | 0 => .inl (fun _ => 0) | 1 => .inr (.inl (fun _ => 0)) | _ => .inr (.inr (.inr (.inr (fun _ => none)))))) = arrV cA len (fun _ => defaultValue ty))
    (hw : Cond.arrayClass (newarray.typeOf atype) ∈ am_ws) (hby : componentBytes ty ≤ 8) (hd : decode cc pc = .ok (.newarray atype, 2)) (hn : pc + 2 = nx) : an_ok own cc nL rt rf rl mc ms ini Pp Ret pc (an_newa t len f mc ms nx) := by
  subst hn
  intro p l e R Q s m args below meth c D cA al0 B live0 hC hR hQ hni hPp L st X K hK h al hal hI hcc hcn H locs ls hP hS hl
  obtain ⟨E, kc, kn, M⟩ := X
  unfold an_newa at h
  dsimp only at h
  split at h
  · next x r =>
    obtain ⟨hbb, hxx, h⟩ := am_if_mp h
    rw [Bool.and_eq_true, Bool.and_eq_true] at hbb
    obtain ⟨f1, f2, f3, f4, f5, f6⟩ := an_fr_spec hbb.1
    have hsh := an_shA_spec hbb.2.1
    have hlen : len < 100000 := Nat.le_of_ble_eq_true hbb.2.2
    generalize f L = n at h f1 f2 hsh
    obtain ⟨hx, hb, hml, hown, hts, hlk, hr, hKK, hB, hZ, hN⟩ := hC.al (al := al) (fun q hq => hal q (Or.inr hq))
    obtain ⟨w1, w2⟩ := am_P_ws hP
    have e1 : x.toInt = (len : Int) := by rw [hxx]; exact Int32.toInt_ofNat_small (by omega)
    have e2 : x.toNatClampNeg = len := by
      show x.toInt.toNat = len
      omega
    refine va_newa (ty := ty) (N' := len) (a0 := (len, (match am_tk t with | 0 => .inl (fun _ => 0) | 1 => .inr (.inl (fun _ => 0)) | _ => .inr (.inr (.inr (.inr (fun _ => none))))))) hx hb (hts _ hw) hty hKK w1 w2 hS (fun q hq => Nat.le_trans hB hq) hcell (fun z => by rw [Int32.lt_iff_toInt_lt, Int32.toInt_zero] at z; omega) e2 (Nat.le_trans (Nat.mul_le_mul (Nat.le_of_lt hlen) hby) (by decide)) (by rw [hR.2.2.1]; exact f3) (by rw [hR.2.2.2]; exact f4) hd (fun q cA' H1 hK1 hP1 hD1 hS1 => ?_)
    have a1 := (hKK.2 t _ (ht cA)).2
    have a2 := (hK1.2 (am_tys cA).length (cA', ty) (by rw [List.getElem?_append_right (Nat.le_refl _), Nat.sub_self]; rfl)).2
    have e3 : cA' = cA t := by
      cases ty with
      | object C => exact absurd rfl (hno C)
      | _ => exact Option.some.inj (a2.symm.trans a1)
    subst e3
    have hP2 := an_born hP hI.2 f1 f2 hP1 hD1 (by rw [am_ceA hsh, an_ae_new])
    have hup := an_up_old (E := E) (al := al) (q := q) f1 f2
    have hg := hK _ _ _ _ h (an_up al n q) (hal.up hI.1 f1 f2) (an_bI hI) (by rw [hR.2.2.1]; exact f3) (by rw [hR.2.2.2]; exact f4) H1 locs ls hP2 hS1 (by rw [an_lc_cv hup f5]; exact hl)
    rw [List.map_cons, an_st_cv hup f6, show am_cv (an_up al n q) (.ref n) = .ref q from congrArg Value.ref (if_pos rfl)] at hg
    exact hg
  · exact h.elim
theorem nk_newq {t len idx : Nat} {C : String} {f : am_L → Nat} (ht : ∀ cA : Nat → ClassId, (am_tys cA)[t]? = some (cA t, .object C)) (htk : am_tk t = 2) (hov : C ∈ am_over) (hw : Cond.classLink own idx C ∈ am_ws) (hd : decode cc pc = .ok (.anewarray idx, 3)) (hn : pc + 3 = nx) : an_ok own cc nL rt rf rl mc ms ini Pp Ret pc (an_newa t len f mc ms nx) := by
  subst hn
  intro p l e R Q s m args below meth c D cA al0 B live0 hC hR hQ hni hPp L st X K hK h al hal hI hcc hcn H locs ls hP hS hl
  obtain ⟨E, kc, kn, M⟩ := X
  unfold an_newa at h
  dsimp only at h
  split at h
  · next x r =>
    obtain ⟨hbb, hxx, h⟩ := am_if_mp h
    rw [Bool.and_eq_true, Bool.and_eq_true] at hbb
    obtain ⟨f1, f2, f3, f4, f5, f6⟩ := an_fr_spec hbb.1
    have hsh := an_shA_spec hbb.2.1
    have hlen : len < 100000 := Nat.le_of_ble_eq_true hbb.2.2
    generalize f L = n at h f1 f2 hsh
    obtain ⟨hx, hb, hml, hown, hts, hlk, hr, hKK, hB, hZ, hN⟩ := hC.al (al := al) (fun q hq => hal q (Or.inr hq))
    obtain ⟨w1, w2⟩ := am_P_ws hP
    have e1 : x.toInt = (len : Int) := by rw [hxx]; exact Int32.toInt_ofNat_small (by omega)
    have e2 : x.toNatClampNeg = len := by
      show x.toInt.toNat = len
      omega
    refine va_newq (C := C) (N' := len) hx hb hown (hts _ hw) (hN.2.2 C hov) hKK w1 w2 hS (fun q hq => Nat.le_trans hB hq) (fun z => by rw [Int32.lt_iff_toInt_lt, Int32.toInt_zero] at z; omega) e2 (by omega) (by rw [hR.2.2.1]; exact f3) (by rw [hR.2.2.2]; exact f4) hd (fun q cA' H1 hK1 hP1 hD1 hS1 => ?_)
    obtain ⟨_, _, -, -, -, a1⟩ := (hKK.2 t _ (ht cA)).2
    obtain ⟨_, _, -, -, -, a2⟩ := (hK1.2 (am_tys cA).length (cA', .object C) (by rw [List.getElem?_append_right (Nat.le_refl _), Nat.sub_self]; rfl)).2
    have e3 : cA' = cA t := Option.some.inj (a2.symm.trans a1)
    subst e3
    have hP2 := an_born hP hI.2 f1 f2 hP1 hD1 (by rw [am_ceA hsh, an_ae_new, htk] <;> rfl)
    have hup := an_up_old (E := E) (al := al) (q := q) f1 f2
    have hg := hK _ _ _ _ h (an_up al n q) (hal.up hI.1 f1 f2) (an_bI hI) (by rw [hR.2.2.1]; exact f3) (by rw [hR.2.2.2]; exact f4) H1 locs ls hP2 hS1 (by rw [an_lc_cv hup f5]; exact hl)
    rw [List.map_cons, an_st_cv hup f6, show am_cv (an_up al n q) (.ref n) = .ref q from congrArg Value.ref (if_pos rfl)] at hg
    exact hg
  · exact h.elim
theorem nk_putFI {ci k N idx : Nat} {C : String} {T : u_T} {ty0 : Nat → FieldType} (hc : am_cl[ci]? = some (C, T, N)) (hin : ∀ w ∈ u_ws C T N, w ∈ am_ws) (hty : ∀ k, k < N → parseFieldDescriptor (T k).2.2.1 = some (ty0 k)) (hnm : ∀ a, a < N → ∀ b, b < N → a ≠ b → (T a).2.1 ≠ (T b).2.1) (hk : k < N) (hnf : am_nf ci = N) (hft : am_ft ci k = 0) (hdc : (T k).1 = C) (hco : C = own) (hfin : (T k).2.2.2 = true) (hd0 : parseFieldDescriptor (T k).2.2.1 = some .int) (hini : ini = true) (hw : Cond.fieldLink own idx C (T k).2.1 (T k).2.2.1 ∈ am_ws) (hd : decode cc pc = .ok (.putfield idx, 3)) (hn : pc + 3 = nx) : an_ok own cc nL rt rf rl mc ms ini Pp Ret pc (an_putFI ci k nx) := by
  subst hn
  intro p l e R Q s m args below meth c D cA al0 B live0 hC hR hQ hni hPp L st X K hK h al hal hI hcc hcn H locs ls hP hS hl
  obtain ⟨E, kc, kn, M⟩ := X
  unfold an_putFI at h
  dsimp only at h
  split at h
  · next v n r =>
    obtain ⟨hbb, h⟩ := am_if_mp h
    obtain ⟨hlv, hsh⟩ := an_isO_spec hbb
    obtain ⟨hx, hb, hml, hown, hts, hlk, hr, hKK, hB, hZ, hN⟩ := hC.al (al := al) (fun q hq => hal q (Or.inr hq))
    obtain ⟨w1, w2⟩ := am_P_ws hP
    obtain ⟨k0, hk0⟩ := am_wl_at hlv (hP.2.2.2 n hlv)
    have he := am_ws0_at (cA := cA) (al := al) (M := M) hk0
    rw [am_ceF hsh] at he
    refine va_putF (ci := ci) (C := C) (T := T) (N := N) (v := .int v) hx hb hts hin ty0 hty hnm hown hKK w1 w2 hS k0 he hc k hk (hts _ hw) (fun x hx => by rw [hdc] at hx; exact hx) hfin (hni hini) (by rw [hdc, hco]) hd0 rfl rfl (by rw [List.length_map, List.length_range, hnf]; exact hk) hd (fun H1 locs1 hP1 hD1 hS1 => ?_)
    have hP2 : am_P D cA al B E (am_wI M n k v) H1 := an_ws_P hP rfl hk0 hP1 (by
      rw [am_ceF hsh]
      refine congrArg (fun z => Sum.inr (ci, z)) ?_
      have e1 : Value.int v = am_fv E.2 al (am_wI M n k v) n ci k := by
        rw [am_fv0 hft]
        exact congrArg Value.int (by rw [am_wI_1, if_pos ⟨rfl, rfl⟩])
      rw [e1]
      refine an_map_set _ _ (fun j hj => ?_)
      unfold am_fv
      rw [am_wI_1, if_neg (fun z => hj z.2)]
      rfl) (fun q hq => an_ce_cg (fun j => by rw [am_wI_1, if_neg (fun z => hq z.1)]) (fun _ => rfl) (fun _ => rfl))
    exact hK _ _ _ _ h al hal hI hcc hcn H1 locs1 ls hP2 hS1 hl
  · exact h.elim
theorem nk_putFR {ci k N idx : Nat} {C C2 : String} {T : u_T} {ty0 : Nat → FieldType} {ty : FieldType} (hc : am_cl[ci]? = some (C, T, N)) (hin : ∀ w ∈ u_ws C T N, w ∈ am_ws) (hty : ∀ k, k < N → parseFieldDescriptor (T k).2.2.1 = some (ty0 k)) (hnm : ∀ a, a < N → ∀ b, b < N → a ≠ b → (T a).2.1 ≠ (T b).2.1) (hk : k < N) (hnf : am_nf ci = N) (hft : am_ft ci k = 2) (hdc : (T k).1 = C) (hco : C = own) (hfin : (T k).2.2.2 = true) (hd0 : parseFieldDescriptor (T k).2.2.1 = some ty) (hnr : ∀ a : Nat, narrow ty (.ref a) = .ref a ∧ fits ty (.ref a) = true) (hini : ini = true) (hw : Cond.fieldLink own idx C (T k).2.1 (T k).2.2.1 ∈ am_ws) (hd : decode cc pc = .ok (.putfield idx, 3)) (hn : pc + 3 = nx) : an_ok own cc nL rt rf rl mc ms ini Pp Ret pc (an_putFR ci k nx) := by
  subst hn
  intro p l e R Q s m args below meth c D cA al0 B live0 hC hR hQ hni hPp L st X K hK h al hal hI hcc hcn H locs ls hP hS hl
  obtain ⟨E, kc, kn, M⟩ := X
  unfold an_putFR at h
  dsimp only at h
  split at h
  · next v n r =>
    obtain ⟨hbb, h⟩ := am_if_mp h
    rw [Bool.and_eq_true] at hbb
    obtain ⟨hlv, hsh⟩ := an_isO_spec hbb.1
    obtain ⟨hx, hb, hml, hown, hts, hlk, hr, hKK, hB, hZ, hN⟩ := hC.al (al := al) (fun q hq => hal q (Or.inr hq))
    obtain ⟨w1, w2⟩ := am_P_ws hP
    obtain ⟨k0, hk0⟩ := am_wl_at hlv (hP.2.2.2 n hlv)
    have he := am_ws0_at (cA := cA) (al := al) (M := M) hk0
    rw [am_ceF hsh] at he
    refine va_putF (ci := ci) (C := C) (T := T) (N := N) (v := .ref (al v)) hx hb hts hin ty0 hty hnm hown hKK w1 w2 hS k0 he hc k hk (hts _ hw) (fun x hx => by rw [hdc] at hx; exact hx) hfin (hni hini) (by rw [hdc, hco]) hd0 (hnr _).1 (hnr _).2 (by rw [List.length_map, List.length_range, hnf]; exact hk) hd (fun H1 locs1 hP1 hD1 hS1 => ?_)
    have hP2 : am_P D cA al B (an_rE E n k v) M H1 := an_ws_P hP rfl hk0 hP1 (by
      rw [am_ceF hsh]
      refine congrArg (fun z => Sum.inr (ci, z)) ?_
      have e1 : Value.ref (al v) = am_fv (an_rE E n k v).2 al M n ci k := by
        rw [am_fv2 hft, an_rE_n]
        rfl
      rw [e1]
      refine an_map_set _ _ (fun j hj => ?_)
      unfold am_fv
      rw [an_rE_k E n v hj]) (fun q hq => an_ce_cg (fun _ => rfl) (fun _ => rfl) (fun j => by rw [an_rE_o E k v j hq]))
    exact hK _ _ _ _ h al hal (an_rI hI hbb.2) hcc hcn H1 locs1 ls hP2 hS1 hl
  · exact h.elim
theorem nk_astR {t ci : Nat} {r0 : vw_C} (ht : ∀ cA : Nat → ClassId, (am_tys cA)[t]? = some (cA t, .object r0.1)) (htk : am_tk t = 2) (hc : am_cl[ci]? = some r0) (hd : decode cc pc = .ok (.aastore, 1)) (hn : pc + 1 = nx) : an_ok own cc nL rt rf rl mc ms ini Pp Ret pc (an_astR t ci nx) := by
  subst hn
  intro p l e R Q s m args below meth c D cA al0 B live0 hC hR hQ hni hPp L st X K hK h al hal hI hcc hcn H locs ls hP hS hl
  obtain ⟨E, kc, kn, M⟩ := X
  unfold an_astR at h
  dsimp only at h
  split at h
  · next v j n r =>
    obtain ⟨hbb, hj, h⟩ := am_if_mp h
    rw [Bool.and_eq_true] at hbb
    obtain ⟨hlv, hsh⟩ := am_isA_spec hbb.1
    obtain ⟨hlo, hso⟩ := an_isO_spec hbb.2
    obtain ⟨hx, hb, hml, hown, hts, hlk, hr, hKK, hB, hZ, hN⟩ := hC.al (al := al) (fun q hq => hal q (Or.inr hq))
    obtain ⟨w1, w2⟩ := am_P_ws hP
    obtain ⟨k0, hk0⟩ := am_wl_at hlv (hP.2.2.2 n hlv)
    obtain ⟨k1, hk1⟩ := am_wl_at hlo (hP.2.2.2 v hlo)
    have he := am_ws0_at (cA := cA) (al := al) (M := M) hk0
    have he1 := am_ws0_at (cA := cA) (al := al) (M := M) hk1
    rw [am_ceA hsh, am_ae2 htk] at he
    rw [am_ceF hso] at he1
    refine va_astq hx hb hKK w1 w2 hS k0 t k1 ci he (ht cA) he1 hc (am_in_vp hj) hd (fun H1 locs1 hP1 hD1 hS1 => ?_)
    have hP2 : am_P D cA al B (an_rE E n j.toNatClampNeg v) M H1 := an_ws_P hP rfl hk0 hP1 (by
      rw [am_ceA hsh, am_ae2 htk]
      refine congrArg (fun z => Sum.inl (cA t, am_len n, Sum.inr (Sum.inr (Sum.inr (Sum.inr z))))) ?_
      funext q
      by_cases e : q = j.toNatClampNeg
      · subst e
        rw [an_rE_n]
        simp [va_up]
      · rw [an_rE_k E n v e]
        simp [va_up, e]) (fun q hq => an_ce_cg (fun _ => rfl) (fun _ => rfl) (fun i => by rw [an_rE_o E j.toNatClampNeg v i hq]))
    exact hK _ _ _ _ h al hal (an_rI hI hlo) hcc hcn H1 locs1 ls hP2 hS1 hl
  · exact h.elim
theorem nk_aldN {t : Nat} {C : String} (ht : ∀ cA : Nat → ClassId, (am_tys cA)[t]? = some (cA t, .object C)) (htk : am_tk t = 2) (hd : decode cc pc = .ok (.aaload, 1)) (hn : pc + 1 = nx) : an_ok own cc nL rt rf rl mc ms ini Pp Ret pc (an_aldN t nx) := by
  subst hn
  intro p l e R Q s m args below meth c D cA al0 B live0 hC hR hQ hni hPp L st X K hK h al hal hI hcc hcn H locs ls hP hS hl
  obtain ⟨E, kc, kn, M⟩ := X
  unfold an_aldN at h
  dsimp only at h
  split at h
  · next j n r =>
    obtain ⟨hbb, hj, h⟩ := am_if_mp h
    obtain ⟨hlv, hsh⟩ := am_isA_spec hbb
    obtain ⟨hx, hb, hml, hown, hts, hlk, hr, hKK, hB, hZ, hN⟩ := hC.al (al := al) (fun q hq => hal q (Or.inr hq))
    obtain ⟨w1, w2⟩ := am_P_ws hP
    obtain ⟨k0, hk0⟩ := am_wl_at hlv (hP.2.2.2 n hlv)
    have he := am_ws0_at (cA := cA) (al := al) (M := M) hk0
    rw [am_ceA hsh, am_ae2 htk] at he
    refine va_aldq hx hb hKK w1 k0 t he (ht cA) (am_in_vp hj) hd ?_
    have hg := hK _ _ _ _ (h _ rfl) al hal hI hcc hcn H locs ls hP hS hl
    cases ho : E.2 n j.toNatClampNeg with
    | none => rw [ho] at hg; exact hg
    | some q => rw [ho] at hg; exact hg
  · exact h.elim
theorem nk_ifnn {off : Int} {tg : Nat} (hd : decode cc pc = .ok (.ifnonnull off, 3)) (ht : (pc : Int) + off = (tg : Int)) (hn : pc + 3 = nx) : an_ok own cc nL rt rf rl mc ms ini Pp Ret pc (an_ifnn tg nx) := by
  subst hn
  intro p l e R Q s m args below meth c D cA al0 B live0 hC hR hQ hni hPp L st X K hK h al hal hI hcc hcn H locs ls hP hS hl
  obtain ⟨E, kc, kn, M⟩ := X
  unfold an_ifnn at h
  split at h
  · exact lv_ifnonnull hC.1 hC.2.1 hd ht (hK _ _ _ _ h al hal hI hcc hcn H locs ls hP hS hl)
  · exact lv_ifnonnullN hC.1 hC.2.1 hd (hK _ _ _ _ h al hal hI hcc hcn H locs ls hP hS hl)
  · exact h.elim
theorem nk_obj {idx : Nat} (hw : ∀ w ∈ ([.methodLink own idx objectInit, .instanceMethod objectInit, .code objectInit ⟨#[0xb1]⟩ 1 none] : List Cond), w ∈ am_ws) (hrf : 1 ≤ rf) (hd : decode cc pc = .ok (.invokespecial idx, 3)) (hn : pc + 3 = nx) : an_ok own cc nL rt rf rl mc ms ini Pp Ret pc (an_obj rl nx) := by
  subst hn
  intro p l e R Q s m args below meth c D cA al0 B live0 hC hR hQ hni hPp L st X K hK h al hal hI hcc hcn H locs ls hP hS hl
  obtain ⟨E, kc, kn, M⟩ := X
  unfold an_obj at h
  split at h
  · next q r =>
    obtain ⟨hbb, h⟩ := am_if_mp h
    have hle := Nat.le_of_ble_eq_true hbb
    obtain ⟨hx, hb, hml, hown, hts, hlk, hr, hKK, hB, hZ, hN⟩ := hC.al (al := al) (fun q hq => hal q (Or.inr hq))
    refine W.objInit hx hb hown (hts _ (hw _ (by simp))) (hts _ (hw _ (by simp))) (hts _ (hw _ (by simp))) rfl (by rw [hml]; exact hl.1) rfl hd (Nat.le_trans hrf hR.1) (by
      show 2 * 0 + ((r.map (am_cv al)).map fun v => v.category).sum + 12 ≤ R.locals
      rw [am_cats_cv]
      have := hR.2.1
      omega) ?_
    exact hK _ _ _ _ h al hal hI hcc hcn H locs ls hP hS hl
  · exact h.elim
theorem nk_retV (hd : decode cc pc = .ok (.return_, 1)) : an_ok own cc nL none rf rl mc ms ini Pp Ret pc (an_retV Ret) := by
  intro p l e R Q s m args below meth c D cA al0 B live0 hC hR hQ hni hPp L st X K hK h al hal hI hcc hcn H locs ls hP hS hl
  obtain ⟨E, kc, kn, M⟩ := X
  unfold an_retV at h
  dsimp only at h
  split at h
  · rcases hQ with rfl | hno
    · refine W.widen (k := mc) (n := ms) (by rw [← hR.2.2.1]; exact hcc) (by rw [← hR.2.2.2]; exact hcn) ?_
      exact W.vret hC.1 hC.2.1 hC.2.2.2.2.2.2.1 (fun t ht hW => ⟨none, E, M, al, hal, hI, h, rfl, by rw [ht]; exact hP, hS.F ht⟩) hS.2.2 hd (hlocks := hC.2.2.2.2.2.1)
    · exact absurd h (hno _ _ _)
  · exact h.elim
theorem nk_retI (hd : decode cc pc = .ok (.ireturn, 1)) : an_ok own cc nL (some .int) rf rl mc ms ini Pp Ret pc (an_retI Ret) := by
  intro p l e R Q s m args below meth c D cA al0 B live0 hC hR hQ hni hPp L st X K hK h al hal hI hcc hcn H locs ls hP hS hl
  obtain ⟨E, kc, kn, M⟩ := X
  unfold an_retI at h
  dsimp only at h
  split at h
  · next v =>
    rcases hQ with rfl | hno
    · refine W.widen (k := mc) (n := ms) (by rw [← hR.2.2.1]; exact hcc) (by rw [← hR.2.2.2]; exact hcn) ?_
      exact W.iret hC.1 hC.2.1 hC.2.2.2.2.2.2.1 (fun t ht hW => ⟨some (.int v), E, M, al, hal, hI, h, rfl, by rw [ht]; exact hP, hS.F ht⟩) hS.2.2 hd (hlocks := hC.2.2.2.2.2.1)
    · exact absurd h (hno _ _ _)
  · exact h.elim
/-- behind a call that may give birth -/
theorem an_after {p : Program} {l : Launch} {e : Env} {R : Room} {Q : State → Prop} {s : State} {m : MethodId} {args a : Array Value} {below : List Frame} {meth : Method} {c : Code} {H : Heap} {locs : List Loc} {ls : Array Slot} {D : va_G} {cA : Nat → ClassId} {al0 al : Nat → Nat} {B : Nat} {live0 : am_E} {L : am_L} {st0 : List Value} {rest : List Value} {K : an_K} {R2 : an_R} {X : am_X} {mc' ms' : Nat}
    (hr : va_Run p l e R s m args below meth c H locs X.2.1 X.2.2.1 mc' ms' (F0 m pc ls st0) (rest.map (am_cv al)) (an_Qc D cA al B X.1 R2 a) (fun q => B ≤ q)) (hal : an_agree live0 al0 al) (hI : an_I live0 X.1) (hcc : X.2.1 + mc' ≤ R.cells) (hcn : X.2.2.1 + ms' ≤ R.slots) (hS : va_S (fun q => B ≤ q) s.heap H locs) (hl : lv_has ls nL (am_lc al L)) (hL : L.all (fun q => an_rk X.1 q.2) = true) (hst : rest.all (an_rk X.1) = true)
    (hKK : ∀ pc' L' st' X', K pc' L' st' X' → an_W p l e R Q s m args below meth c D cA al0 B live0 nL pc' L' st' X') (hR2 : ∀ v E M, R2 v E M → K (pc + 3) L (v.toList ++ rest) (E, X.2.1 + mc', X.2.2.1 + ms', M)) :
    W p l e R s m args below meth c H locs X.2.1 X.2.2.1 Q (F0 m pc ls st0) := by
  intro T hT Y
  obtain ⟨v, st₀, t, T', L2, h0, Y', hL2, e1, e2, ⟨r, E', M', al', ha', hI', hk, hv, hP', hz, hkp⟩, st⟩ := hr T hT Y
  have hv2 : v = r.map (am_cv al') := by injection hv
  subst hv2
  rw [h0] at hz hkp
  have hag : ∀ q, (X.1.1 q = true ∨ 1000 ≤ q) → al' q = al q := ha'
  obtain ⟨t2, a1, b1⟩ := hKK _ _ _ _ (hR2 r E' M' hk) al' (fun q hq => (hag q (hq.imp (hI.1 q) (fun z => z))).trans (hal q hq)) ⟨fun q hq => hI'.1 q (hI.1 q hq), hI'.2⟩ hcc hcn T'.heap (locs ++ L2) ls (by rw [e1]; exact hP')
    ⟨Nat.le_trans hS.1 (by rw [e1]; exact hz), fun q h1 h2 => by rw [e1, hkp q (Nat.lt_of_lt_of_le h1 hS.1) h2]; exact hS.2.1 q h1 h2, fun q hq => by
      rcases List.mem_append.mp hq with h | h
      · exact hS.2.2 q h
      · exact hL2 q h⟩ (by rw [an_lc_cv hag hL]; exact hl) T' rfl Y'
  refine ⟨t2, st t2 ?_, b1⟩
  rw [List.map_append, an_st_cv hag hst] at a1
  cases r with
  | none => exact a1
  | some w => exact a1
theorem an_pcU {p : Program} {s : State} {m : MethodId} {args : Array Value} {meth : Method} {c : Code} {D : va_G} {cA : Nat → ClassId} {al : Nat → Nat} {B : Nat} {H : Heap} {locs : List Loc} {E : am_E} {M : am_M} {as : List Value} (hC : am_C p s m args meth c D cA al B own cc nL rt) (hP : am_P D cA al B E M H) (hS : va_S (fun q => B ≤ q) s.heap H locs) :
    ∀ U : State, U.heap = H → s.WarmedH U.vm → am_Pc D cA al B E as M (as.map (am_cv al)).toArray U := am_pcU (rt := rt) hC hP hS
theorem an_call_spec {E : am_E} {ci q n mc mc' ms ms' k j : Nat} {st r : List Value} {L : am_L} (h : (an_isO E ci q && (Nat.beq (st.take n).length n && (Nat.ble (am_cats r) 8 && (Nat.ble (k + mc') mc && (Nat.ble (j + ms') ms && (L.all (fun q => an_rk E q.2) && r.all (an_rk E))))))) = true) : E.1 q = true ∧ am_sh q = .inl ci ∧ (st.take n).length = n ∧ am_cats r ≤ 8 ∧ k + mc' ≤ mc ∧ j + ms' ≤ ms ∧ L.all (fun q => an_rk E q.2) = true ∧ r.all (an_rk E) = true := by
  simp only [Bool.and_eq_true] at h
  obtain ⟨h1, h2, h3, h4, h5, h6, h7⟩ := h
  exact ⟨(an_isO_spec h1).1, (an_isO_spec h1).2, Nat.eq_of_beq_eq_true h2, Nat.le_of_ble_eq_true h3, Nat.le_of_ble_eq_true h4, Nat.le_of_ble_eq_true h5, h6, h7⟩
theorem an_stk {al : Nat → Nat} {st r : List Value} {q n : Nat} (hst : st.drop n = .ref q :: r) : st.map (am_cv al) = ((st.take n).reverse.map (am_cv al)).reverse ++ .ref (al q) :: r.map (am_cv al) := by
  rw [List.map_reverse, List.reverse_reverse]
  have e1 : st = st.take n ++ .ref q :: r := by rw [← hst]; exact (List.take_append_drop n st).symm
  conv => lhs; rw [e1]
  rw [List.map_append]
  rfl
theorem nk_callI {ci n idx maxL rf' rl' mc' ms' : Nat} {y : MethodName} {bytes : ByteArray} {T : an_T} (hM : an_Met y bytes maxL none rf' rl' mc' ms' T) (hy1 : y.name = "<init>") (hy : y.cls ≠ "java/lang/invoke/MethodHandle" ∧ y.cls ≠ "java/lang/invoke/VarHandle" ∧ (parseMethodDescriptor y.desc).map (fun d => d.parameters.length) = some n)
    (hw : ∀ w ∈ ([.initialized y.cls, .methodLink own idx y, .instanceMethod y, .code y bytes maxL none] : List Cond), w ∈ am_ws) (hfr : rf' + 1 ≤ rf ∧ 8 + (maxL + 11) + rl' ≤ rl) (hd : decode cc pc = .ok (.invokespecial idx, 3)) (hn : pc + 3 = nx) :
    an_ok own cc nL rt rf rl mc ms ini Pp Ret pc (an_callI ci n T mc ms mc' ms' nx) := by
  subst hn
  intro p l e R Q s m args below meth c D cA al0 B live0 hC hR hQ hni hPp L st X K hK h al hal hI hcc hcn H locs ls hP hS hl
  obtain ⟨E, kc, kn, M⟩ := X
  unfold an_callI at h
  dsimp only at h
  split at h
  · next q r hst =>
    obtain ⟨hbb, h⟩ := am_if_mp h
    obtain ⟨hlv, hsh, hln, hle, f3, f4, f5, f6⟩ := an_call_spec hbb
    have hC' := hC.al (al := al) (fun q hq => hal q (Or.inr hq))
    obtain ⟨hx, hb, hml, hown, hts, hlk, hr, hKK, hB, hZ, hN⟩ := id hC'
    have hG : GoodIn am_ws (.code y bytes maxL none :: am_ws) := am_good_all _ (fun w hh => by
      rcases List.mem_cons.mp hh with h2 | h2
      · exact hw w (by rw [h2]; simp)
      · exact h2) rfl
    have f3' : kc + mc' ≤ R.cells := by rw [hR.2.2.1]; exact f3
    have f4' : kn + ms' ≤ R.slots := by rw [hR.2.2.2]; exact f4
    have hrun := va_runI (p := p) (l := l) (e := e) (R := R) (s := s) (m := m) (args := args) (below := below) (meth := meth) (c := c) (H := H) (locs := locs) (cells := kc) (slots := kn) (g := F0 m pc ls (st.map (am_cv al))) (As := (st.take n).reverse.map (am_cv al)) (rest := r.map (am_cv al)) (b := al q)
      ⟨hx, hb, hml, hown, hts⟩ (hM l D cA al B E (.ref q :: (st.take n).reverse) M _ hI.2 h) (cwI n hts hG rfl rfl rfl (hts _ (hw _ (by simp))) (hts _ (hw _ (by simp))) (hts _ (hw _ (by simp))) hy1 hy ⟨Nat.le_trans hfr.1 hR.1, Nat.le_trans hfr.2 hR.2.1⟩) ⟨am_blind, am_pcU (rt := rt) hC' hP hS⟩ rfl (by rw [List.length_map, List.length_reverse]; exact hln) hl.1 (an_stk hst) (lv_room (by rw [am_cats_cv]; exact hle)) hd ⟨f3', f4'⟩
    exact an_after (X := (E, kc, kn, M)) hrun hal hI f3' f4' hS hl f5 f6 hK (fun v E2 M2 hk => hk)
  · exact h.elim
theorem nk_callIN {ci n idx maxL rf' rl' mc' ms' : Nat} {y : MethodName} {host : String} {bytes : ByteArray} {T : an_T} (hM : an_Met y bytes maxL none rf' rl' mc' ms' T) (hy1 : y.name = "<init>") (hy : y.cls ≠ "java/lang/invoke/MethodHandle" ∧ y.cls ≠ "java/lang/invoke/VarHandle" ∧ (parseMethodDescriptor y.desc).map (fun d => d.parameters.length) = some n)
    (hnest : (own, idx, y, host) ∈ am_nestM) (hw : ∀ w ∈ ([.initialized y.cls, .instanceMethod y, .code y bytes maxL none] : List Cond), w ∈ am_ws) (hfr : rf' + 1 ≤ rf ∧ 8 + (maxL + 11) + rl' ≤ rl) (hd : decode cc pc = .ok (.invokespecial idx, 3)) (hn : pc + 3 = nx) :
    an_ok own cc nL rt rf rl mc ms ini Pp Ret pc (an_callI ci n T mc ms mc' ms' nx) := by
  subst hn
  intro p l e R Q s m args below meth c D cA al0 B live0 hC hR hQ hni hPp L st X K hK h al hal hI hcc hcn H locs ls hP hS hl
  obtain ⟨E, kc, kn, M⟩ := X
  unfold an_callI at h
  dsimp only at h
  split at h
  · next q r hst =>
    obtain ⟨hbb, h⟩ := am_if_mp h
    obtain ⟨hlv, hsh, hln, hle, f3, f4, f5, f6⟩ := an_call_spec hbb
    have hC' := hC.al (al := al) (fun q hq => hal q (Or.inr hq))
    obtain ⟨hx, hb, hml, hown, hts, hlk, hr, hKK, hB, hZ, hN⟩ := id hC'
    have hG : GoodIn am_ws (.code y bytes maxL none :: am_ws) := am_good_all _ (fun w hh => by
      rcases List.mem_cons.mp hh with h2 | h2
      · exact hw w (by rw [h2]; simp)
      · exact h2) rfl
    have f3' : kc + mc' ≤ R.cells := by rw [hR.2.2.1]; exact f3
    have f4' : kn + ms' ≤ R.slots := by rw [hR.2.2.2]; exact f4
    have hrun := va_runIN (p := p) (l := l) (e := e) (R := R) (s := s) (m := m) (args := args) (below := below) (meth := meth) (c := c) (H := H) (locs := locs) (cells := kc) (slots := kn) (g := F0 m pc ls (st.map (am_cv al))) (As := (st.take n).reverse.map (am_cv al)) (rest := r.map (am_cv al)) (b := al q)
      ⟨hx, hb, hml, hown, hts⟩ (hM l D cA al B E (.ref q :: (st.take n).reverse) M _ hI.2 h) ⟨va_cnB n hts hG rfl rfl rfl (hN.2.1 _ hnest) (hts _ (hw _ (by simp))) hy ⟨Nat.le_trans hfr.1 hR.1, Nat.le_trans hfr.2 hR.2.1⟩, hy1, hts _ (hw _ (by simp))⟩ ⟨am_blind, am_pcU (rt := rt) hC' hP hS⟩ rfl (by rw [List.length_map, List.length_reverse]; exact hln) hl.1 (an_stk hst) (lv_room (by rw [am_cats_cv]; exact hle)) hd ⟨f3', f4'⟩
    exact an_after (X := (E, kc, kn, M)) hrun hal hI f3' f4' hS hl f5 f6 hK (fun v E2 M2 hk => hk)
  · exact h.elim
theorem nk_callV {ci n idx maxL rf' rl' mc' ms' N : Nat} {y : MethodName} {bytes : ByteArray} {ret' : Option FieldType} {C : String} {F : u_T} {T : an_T} (hM : an_Met y bytes maxL ret' rf' rl' mc' ms' T) (hc : am_cl[ci]? = some (C, F, N)) (hy : y.cls = C ∧ y.cls ≠ "java/lang/invoke/MethodHandle" ∧ y.cls ≠ "java/lang/invoke/VarHandle" ∧ (parseMethodDescriptor y.desc).map (fun d => d.parameters.length) = some n)
    (hw : ∀ w ∈ ([.methodLink own idx y, .instanceMethod y, .selects C y y, .initialized C, .code y bytes maxL ret'] : List Cond), w ∈ am_ws) (hfr : rf' + 1 ≤ rf ∧ 8 + (maxL + 11) + rl' ≤ rl) (hd : decode cc pc = .ok (.invokevirtual idx, 3)) (hn : pc + 3 = nx) :
    an_ok own cc nL rt rf rl mc ms ini Pp Ret pc (an_callI ci n T mc ms mc' ms' nx) := by
  subst hn
  intro p l e R Q s m args below meth c D cA al0 B live0 hC hR hQ hni hPp L st X K hK h al hal hI hcc hcn H locs ls hP hS hl
  obtain ⟨E, kc, kn, M⟩ := X
  unfold an_callI at h
  dsimp only at h
  split at h
  · next q r hst =>
    obtain ⟨hbb, h⟩ := am_if_mp h
    obtain ⟨hlv, hsh, hln, hle, f3, f4, f5, f6⟩ := an_call_spec hbb
    have hC' := hC.al (al := al) (fun q hq => hal q (Or.inr hq))
    obtain ⟨hx, hb, hml, hown, hts, hlk, hr, hKK, hB, hZ, hN⟩ := id hC'
    have hcell := hP.1 q hlv
    rw [am_ceF hsh] at hcell
    have hG : GoodIn am_ws (wsV own idx C y (.code y bytes maxL ret' :: am_ws)) := am_good_all _ (fun w hh => by
      rcases List.mem_append.mp hh with h1 | h1
      · exact hw w (by
          simp only [List.mem_cons, List.not_mem_nil, or_false] at h1 ⊢
          rcases h1 with h1 | h1 | h1 | h1
          · exact Or.inl h1
          · exact Or.inr (Or.inl h1)
          · exact Or.inr (Or.inr (Or.inl h1))
          · exact Or.inr (Or.inr (Or.inr (Or.inl h1))))
      · rcases List.mem_cons.mp h1 with h2 | h2
        · exact hw w (by rw [h2]; simp)
        · exact h2) rfl
    have f3' : kc + mc' ≤ R.cells := by rw [hR.2.2.1]; exact f3
    have f4' : kn + ms' ≤ R.slots := by rw [hR.2.2.2]; exact f4
    have hrun := va_runV (p := p) (l := l) (e := e) (R := R) (s := s) (m := m) (args := args) (below := below) (meth := meth) (c := c) (H := H) (locs := locs) (cells := kc) (slots := kn) (g := F0 m pc ls (st.map (am_cv al))) (As := (st.take n).reverse.map (am_cv al)) (rest := r.map (am_cv al)) (b := al q)
      ⟨hx, hb, hml, hown, hts⟩ (hM l D cA al B E (.ref q :: (st.take n).reverse) M _ hI.2 h) (cwV n hts hG rfl rfl rfl hy ⟨Nat.le_trans hfr.1 hR.1, Nat.le_trans hfr.2 hR.2.1⟩) ⟨am_blind, va_recv hKK (am_P1 hcell) (ci := ci) (q0 := 0) hc rfl, am_pcU (rt := rt) hC' hP hS⟩ rfl (by rw [List.length_map, List.length_reverse]; exact hln) hl.1 (an_stk hst) (lv_room (by rw [am_cats_cv]; exact hle)) hd ⟨f3', f4'⟩
    exact an_after (X := (E, kc, kn, M)) hrun hal hI f3' f4' hS hl f5 f6 hK (fun v E2 M2 hk => hk)
  · exact h.elim
end ANR
section ANS
variable {own : String} {cc : ByteArray} {nL : Nat} {rt : Option FieldType} {rf rl : Nat} {live : am_E} {Ret : am_R} {pc nx : Nat}
/-- a static method of another class -/
theorem ak_callSO {n idx maxL rf' rl' : Nat} {y : MethodName} {bytes : ByteArray} {ret' : Option FieldType} {T : am_T} (hM : am_Met y bytes maxL ret' rf' rl' T) (hy : y.cls ≠ "java/lang/invoke/MethodHandle" ∧ y.cls ≠ "java/lang/invoke/VarHandle" ∧ (parseMethodDescriptor y.desc).map (fun d => d.parameters.length) = some n)
    (hw : ∀ w ∈ ([.methodLink own idx y, .static y, .initialized y.cls, .code y bytes maxL ret'] : List Cond), w ∈ am_ws) (hfr : rf' + 1 ≤ rf ∧ 8 + (maxL + 11) + rl' ≤ rl) (hd : decode cc pc = .ok (.invokestatic idx, 3)) (hn : pc + 3 = nx) :
    am_ok own cc nL rt rf rl live Ret pc (am_callS live n T nx) := by
  subst hn
  intro p l e s m args below meth c D cA al B hC Y hY L st M K hKK h H locs ls hP hS hl
  unfold am_callS at h
  obtain ⟨hbb, h⟩ := am_if_mp h
  rw [Bool.and_eq_true] at hbb
  obtain ⟨hln, hle⟩ := hbb
  have hln := Nat.eq_of_beq_eq_true hln
  have hle := Nat.le_of_ble_eq_true hle
  have hstk : st.map (am_cv al) = ((st.take n).reverse.map (am_cv al)).reverse ++ (st.drop n).map (am_cv al) := by
    rw [List.map_reverse, List.reverse_reverse, ← List.map_append, List.take_append_drop]
  obtain ⟨hx, hb, hml, hown, hts, hlk, hr, hK, hB, hZ, hN⟩ := id hC
  have hG : GoodIn am_ws (.code y bytes maxL ret' :: am_ws) := am_good_all _ (fun w hh => by
    rcases List.mem_cons.mp hh with h2 | h2
    · exact hw w (by rw [h2]; simp)
    · exact h2) rfl
  have hrun := va_runS (p := p) (l := l) (e := e) (R := Y.1) (s := s) (m := m) (args := args) (below := below) (meth := meth) (c := c) (H := H) (locs := locs) (cells := Y.2.1) (slots := Y.2.2.1) (g := F0 m pc ls (st.map (am_cv al))) (As := (st.take n).reverse.map (am_cv al)) (rest := (st.drop n).map (am_cv al))
    ⟨hx, hb, hml, hown, hts⟩ (hM l D cA al B live (st.take n).reverse M _ h) ⟨callB_of n hts hG rfl rfl rfl (hts _ (hw _ (by simp))) (hts _ (hw _ (by simp))) hy (am_frm hY hfr), hts _ (hw _ (by simp))⟩ ⟨am_blind, am_pcU hC hP hS⟩ rfl (by rw [List.length_map, List.length_reverse]; exact hln) hl.1 hstk (lv_room (by rw [am_cats_cv]; exact hle)) hd ⟨hY.2.2.1, hY.2.2.2.1⟩
  exact am_after hrun hS hl hKK (fun v M' hk => hk)
end ANS
end
section
/-! small methods of the class -/
theorem dX7_within_0 : decode cX7_within 0 = .ok (.iload_n 0, 1) := by decide +kernel
theorem dX7_within_1 : decode cX7_within 1 = .ok (.iload_n 1, 1) := by decide +kernel
theorem dX7_within_2 : decode cX7_within 2 = .ok (.if_icmp .lt 12, 3) := by decide +kernel
theorem dX7_within_5 : decode cX7_within 5 = .ok (.iload_n 0, 1) := by decide +kernel
theorem dX7_within_6 : decode cX7_within 6 = .ok (.iload_n 2, 1) := by decide +kernel
theorem dX7_within_7 : decode cX7_within 7 = .ok (.if_icmp .gt 7, 3) := by decide +kernel
theorem dX7_within_10 : decode cX7_within 10 = .ok (.iconst 1, 1) := by decide +kernel
theorem dX7_within_11 : decode cX7_within 11 = .ok (.goto 4, 3) := by decide +kernel
theorem dX7_within_14 : decode cX7_within 14 = .ok (.iconst 0, 1) := by decide +kernel
theorem dX7_within_15 : decode cX7_within 15 = .ok (.ireturn, 1) := by decide +kernel
def kX7_within (live : am_E) (Ret : am_R) : am_code := [(0, am_iload 0 1), (1, am_iload 1 2), (2, am_if2 (fun x y => x < y) 14 5), (5, am_iload 0 6), (6, am_iload 2 7), (7, am_if2 (fun x y => y < x) 14 10), (10, am_const (.int 1) 11), (11, am_goto 15), (14, am_const (.int 0) 15), (15, am_retZ Ret)]
theorem koX7_within (live : am_E) (Ret : am_R) : ∀ q ∈ kX7_within live Ret, am_ok RX7 cX7_within 3 (some .boolean) 0 0 live Ret q.1 q.2 :=
  am_kc (ak_iload_n dX7_within_0 rfl rfl) <|
  am_kc (ak_iload_n dX7_within_1 rfl rfl) <|
  am_kc (ak_icmp_lt dX7_within_2 (by decide +kernel) rfl) <|
  am_kc (ak_iload_n dX7_within_5 rfl rfl) <|
  am_kc (ak_iload_n dX7_within_6 rfl rfl) <|
  am_kc (ak_icmp_gt dX7_within_7 (by decide +kernel) rfl) <|
  am_kc (ak_iconst dX7_within_10 (by decide +kernel) rfl) <|
  am_kc (ak_goto dX7_within_11 (by decide +kernel)) <|
  am_kc (ak_iconst dX7_within_14 (by decide +kernel) rfl) <|
  am_kc (ak_retZ dX7_within_15) <| am_kn
def TX7_within : am_T := fun _ as M R => match as with
  | [.int v, .int a, .int b] => R (some (.int (if a ≤ v ∧ v ≤ b then 1 else 0))) M
  | _ => False
set_option maxRecDepth 100000 in
set_option maxHeartbeats 4000000 in
theorem metX7_within : am_Met yX7_within cX7_within 3 (some .boolean) (0) (0) TX7_within := by
  refine am_met (own := RX7) (by decide +kernel) rfl kX7_within koX7_within 60 (fun _ _ _ _ _ => none) (fun live as M Ret h => ?_) (fun _ _ _ _ _ _ _ _ hI => by cases hI)
  unfold TX7_within at h
  split at h
  · next v a b =>
    refine ⟨Nat.le_of_ble_eq_true rfl, ?_⟩
    change am_wp _ _ _ _ [(0, Value.int v), (1, Value.int a), (2, Value.int b)] _ _
    repeat' (first | exact rfl | apply And.intro | intro hx | (refine Exists.intro _ (And.intro rfl ?_)))
    all_goals try first | (with_reducible change am_tI _ _) | (change Ret _ _) | (change Ret _ _ _) | (change Exists _)
    all_goals try dsimp only at *
    all_goals try exact absurd ‹(1000 : Int64) = 0› (by decide)
    all_goals first | (left; rfl) | (right; rfl) | grind
  · exact h.elim
theorem dX7_isYear_0 : decode cX7_isYear 0 = .ok (.iload_n 0, 1) := by decide +kernel
theorem dX7_isYear_1 : decode cX7_isYear 1 = .ok (.ifCond .lt 13, 3) := by decide +kernel
theorem dX7_isYear_4 : decode cX7_isYear 4 = .ok (.iload_n 0, 1) := by decide +kernel
theorem dX7_isYear_5 : decode cX7_isYear 5 = .ok (.bipush 40, 2) := by decide +kernel
theorem dX7_isYear_7 : decode cX7_isYear 7 = .ok (.if_icmp .ge 7, 3) := by decide +kernel
theorem dX7_isYear_10 : decode cX7_isYear 10 = .ok (.iconst 1, 1) := by decide +kernel
theorem dX7_isYear_11 : decode cX7_isYear 11 = .ok (.goto 4, 3) := by decide +kernel
theorem dX7_isYear_14 : decode cX7_isYear 14 = .ok (.iconst 0, 1) := by decide +kernel
theorem dX7_isYear_15 : decode cX7_isYear 15 = .ok (.ireturn, 1) := by decide +kernel
def kX7_isYear (live : am_E) (Ret : am_R) : am_code := [(0, am_iload 0 1), (1, am_if1 (fun x => x < 0) 14 4), (4, am_iload 0 5), (5, am_const (.int 40) 7), (7, am_if2 (fun x y => y ≤ x) 14 10), (10, am_const (.int 1) 11), (11, am_goto 15), (14, am_const (.int 0) 15), (15, am_retZ Ret)]
theorem koX7_isYear (live : am_E) (Ret : am_R) : ∀ q ∈ kX7_isYear live Ret, am_ok RX7 cX7_isYear 1 (some .boolean) 0 0 live Ret q.1 q.2 :=
  am_kc (ak_iload_n dX7_isYear_0 rfl rfl) <|
  am_kc (ak_if_lt dX7_isYear_1 (by decide +kernel) rfl) <|
  am_kc (ak_iload_n dX7_isYear_4 rfl rfl) <|
  am_kc (ak_bipush dX7_isYear_5 (by decide +kernel) rfl) <|
  am_kc (ak_icmp_ge dX7_isYear_7 (by decide +kernel) rfl) <|
  am_kc (ak_iconst dX7_isYear_10 (by decide +kernel) rfl) <|
  am_kc (ak_goto dX7_isYear_11 (by decide +kernel)) <|
  am_kc (ak_iconst dX7_isYear_14 (by decide +kernel) rfl) <|
  am_kc (ak_retZ dX7_isYear_15) <| am_kn
def TX7_isYear : am_T := fun _ as M R => match as with
  | [.int v] => R (some (.int (if 0 ≤ v ∧ v < 40 then 1 else 0))) M
  | _ => False
set_option maxRecDepth 100000 in
set_option maxHeartbeats 4000000 in
theorem metX7_isYear : am_Met yX7_isYear cX7_isYear 1 (some .boolean) (0) (0) TX7_isYear := by
  refine am_met (own := RX7) (by decide +kernel) rfl kX7_isYear koX7_isYear 60 (fun _ _ _ _ _ => none) (fun live as M Ret h => ?_) (fun _ _ _ _ _ _ _ _ hI => by cases hI)
  unfold TX7_isYear at h
  split at h
  · next v =>
    refine ⟨Nat.le_of_ble_eq_true rfl, ?_⟩
    change am_wp _ _ _ _ [(0, Value.int v)] _ _
    repeat' (first | exact rfl | apply And.intro | intro hx | (refine Exists.intro _ (And.intro rfl ?_)))
    all_goals try first | (with_reducible change am_tI _ _) | (change Ret _ _) | (change Ret _ _ _) | (change Exists _)
    all_goals try dsimp only at *
    all_goals try exact absurd ‹(1000 : Int64) = 0› (by decide)
    all_goals first | (left; rfl) | (right; rfl) | grind
  · exact h.elim
theorem dX7_isSpan_0 : decode cX7_isSpan 0 = .ok (.iload_n 0, 1) := by decide +kernel
theorem dX7_isSpan_1 : decode cX7_isSpan 1 = .ok (.ifCond .lt 18, 3) := by decide +kernel
theorem dX7_isSpan_4 : decode cX7_isSpan 4 = .ok (.iload_n 0, 1) := by decide +kernel
theorem dX7_isSpan_5 : decode cX7_isSpan 5 = .ok (.iload_n 1, 1) := by decide +kernel
theorem dX7_isSpan_6 : decode cX7_isSpan 6 = .ok (.if_icmp .gt 13, 3) := by decide +kernel
theorem dX7_isSpan_9 : decode cX7_isSpan 9 = .ok (.iload_n 1, 1) := by decide +kernel
theorem dX7_isSpan_10 : decode cX7_isSpan 10 = .ok (.bipush 40, 2) := by decide +kernel
theorem dX7_isSpan_12 : decode cX7_isSpan 12 = .ok (.if_icmp .ge 7, 3) := by decide +kernel
theorem dX7_isSpan_15 : decode cX7_isSpan 15 = .ok (.iconst 1, 1) := by decide +kernel
theorem dX7_isSpan_16 : decode cX7_isSpan 16 = .ok (.goto 4, 3) := by decide +kernel
theorem dX7_isSpan_19 : decode cX7_isSpan 19 = .ok (.iconst 0, 1) := by decide +kernel
theorem dX7_isSpan_20 : decode cX7_isSpan 20 = .ok (.ireturn, 1) := by decide +kernel
def kX7_isSpan (live : am_E) (Ret : am_R) : am_code := [(0, am_iload 0 1), (1, am_if1 (fun x => x < 0) 19 4), (4, am_iload 0 5), (5, am_iload 1 6), (6, am_if2 (fun x y => y < x) 19 9), (9, am_iload 1 10), (10, am_const (.int 40) 12), (12, am_if2 (fun x y => y ≤ x) 19 15), (15, am_const (.int 1) 16), (16, am_goto 20), (19, am_const (.int 0) 20), (20, am_retZ Ret)]
theorem koX7_isSpan (live : am_E) (Ret : am_R) : ∀ q ∈ kX7_isSpan live Ret, am_ok RX7 cX7_isSpan 2 (some .boolean) 0 0 live Ret q.1 q.2 :=
  am_kc (ak_iload_n dX7_isSpan_0 rfl rfl) <|
  am_kc (ak_if_lt dX7_isSpan_1 (by decide +kernel) rfl) <|
  am_kc (ak_iload_n dX7_isSpan_4 rfl rfl) <|
  am_kc (ak_iload_n dX7_isSpan_5 rfl rfl) <|
  am_kc (ak_icmp_gt dX7_isSpan_6 (by decide +kernel) rfl) <|
  am_kc (ak_iload_n dX7_isSpan_9 rfl rfl) <|
  am_kc (ak_bipush dX7_isSpan_10 (by decide +kernel) rfl) <|
  am_kc (ak_icmp_ge dX7_isSpan_12 (by decide +kernel) rfl) <|
  am_kc (ak_iconst dX7_isSpan_15 (by decide +kernel) rfl) <|
  am_kc (ak_goto dX7_isSpan_16 (by decide +kernel)) <|
  am_kc (ak_iconst dX7_isSpan_19 (by decide +kernel) rfl) <|
  am_kc (ak_retZ dX7_isSpan_20) <| am_kn
def TX7_isSpan : am_T := fun _ as M R => match as with
  | [.int a, .int b] => R (some (.int (if 0 ≤ a ∧ a ≤ b ∧ b < 40 then 1 else 0))) M
  | _ => False
set_option maxRecDepth 100000 in
set_option maxHeartbeats 4000000 in
theorem metX7_isSpan : am_Met yX7_isSpan cX7_isSpan 2 (some .boolean) (0) (0) TX7_isSpan := by
  refine am_met (own := RX7) (by decide +kernel) rfl kX7_isSpan koX7_isSpan 60 (fun _ _ _ _ _ => none) (fun live as M Ret h => ?_) (fun _ _ _ _ _ _ _ _ hI => by cases hI)
  unfold TX7_isSpan at h
  split at h
  · next a b =>
    refine ⟨Nat.le_of_ble_eq_true rfl, ?_⟩
    change am_wp _ _ _ _ [(0, Value.int a), (1, Value.int b)] _ _
    repeat' (first | exact rfl | apply And.intro | intro hx | (refine Exists.intro _ (And.intro rfl ?_)))
    all_goals try first | (with_reducible change am_tI _ _) | (change Ret _ _) | (change Ret _ _ _) | (change Exists _)
    all_goals try dsimp only at *
    all_goals try exact absurd ‹(1000 : Int64) = 0› (by decide)
    all_goals first | (left; rfl) | (right; rfl) | grind
  · exact h.elim
theorem wd_446 : Cond.constant "LearnLoans" 275 10000000 ∈ am_ws := am_wsi (List.mem_of_getElem? (i := 446) (by decide +kernel)) (by decide +kernel)
theorem dX7_isPence_0 : decode cX7_isPence 0 = .ok (.iload_n 0, 1) := by decide +kernel
theorem dX7_isPence_1 : decode cX7_isPence 1 = .ok (.ifCond .lt 14, 3) := by decide +kernel
theorem dX7_isPence_4 : decode cX7_isPence 4 = .ok (.iload_n 0, 1) := by decide +kernel
theorem dX7_isPence_5 : decode cX7_isPence 5 = .ok (.ldc_w 275, 3) := by decide +kernel
theorem dX7_isPence_8 : decode cX7_isPence 8 = .ok (.if_icmp .gt 7, 3) := by decide +kernel
theorem dX7_isPence_11 : decode cX7_isPence 11 = .ok (.iconst 1, 1) := by decide +kernel
theorem dX7_isPence_12 : decode cX7_isPence 12 = .ok (.goto 4, 3) := by decide +kernel
theorem dX7_isPence_15 : decode cX7_isPence 15 = .ok (.iconst 0, 1) := by decide +kernel
theorem dX7_isPence_16 : decode cX7_isPence 16 = .ok (.ireturn, 1) := by decide +kernel
def kX7_isPence (live : am_E) (Ret : am_R) : am_code := [(0, am_iload 0 1), (1, am_if1 (fun x => x < 0) 15 4), (4, am_iload 0 5), (5, am_const (.int 10000000) 8), (8, am_if2 (fun x y => y < x) 15 11), (11, am_const (.int 1) 12), (12, am_goto 16), (15, am_const (.int 0) 16), (16, am_retZ Ret)]
theorem koX7_isPence (live : am_E) (Ret : am_R) : ∀ q ∈ kX7_isPence live Ret, am_ok RX7 cX7_isPence 1 (some .boolean) 0 0 live Ret q.1 q.2 :=
  am_kc (ak_iload_n dX7_isPence_0 rfl rfl) <|
  am_kc (ak_if_lt dX7_isPence_1 (by decide +kernel) rfl) <|
  am_kc (ak_iload_n dX7_isPence_4 rfl rfl) <|
  am_kc (ak_ldcw wd_446 dX7_isPence_5 rfl) <|
  am_kc (ak_icmp_gt dX7_isPence_8 (by decide +kernel) rfl) <|
  am_kc (ak_iconst dX7_isPence_11 (by decide +kernel) rfl) <|
  am_kc (ak_goto dX7_isPence_12 (by decide +kernel)) <|
  am_kc (ak_iconst dX7_isPence_15 (by decide +kernel) rfl) <|
  am_kc (ak_retZ dX7_isPence_16) <| am_kn
def TX7_isPence : am_T := fun _ as M R => match as with
  | [.int v] => R (some (.int (if 0 ≤ v ∧ v ≤ 10000000 then 1 else 0))) M
  | _ => False
set_option maxRecDepth 100000 in
set_option maxHeartbeats 4000000 in
theorem metX7_isPence : am_Met yX7_isPence cX7_isPence 1 (some .boolean) (0) (0) TX7_isPence := by
  refine am_met (own := RX7) (by decide +kernel) rfl kX7_isPence koX7_isPence 60 (fun _ _ _ _ _ => none) (fun live as M Ret h => ?_) (fun _ _ _ _ _ _ _ _ hI => by cases hI)
  unfold TX7_isPence at h
  split at h
  · next v =>
    refine ⟨Nat.le_of_ble_eq_true rfl, ?_⟩
    change am_wp _ _ _ _ [(0, Value.int v)] _ _
    repeat' (first | exact rfl | apply And.intro | intro hx | (refine Exists.intro _ (And.intro rfl ?_)))
    all_goals try first | (with_reducible change am_tI _ _) | (change Ret _ _) | (change Ret _ _ _) | (change Exists _)
    all_goals try dsimp only at *
    all_goals try exact absurd ‹(1000 : Int64) = 0› (by decide)
    all_goals first | (left; rfl) | (right; rfl) | grind
  · exact h.elim
theorem dX7_isPlan_0 : decode cX7_isPlan 0 = .ok (.iload_n 0, 1) := by decide +kernel
theorem dX7_isPlan_1 : decode cX7_isPlan 1 = .ok (.ifCond .lt 12, 3) := by decide +kernel
theorem dX7_isPlan_4 : decode cX7_isPlan 4 = .ok (.iload_n 0, 1) := by decide +kernel
theorem dX7_isPlan_5 : decode cX7_isPlan 5 = .ok (.iconst 5, 1) := by decide +kernel
theorem dX7_isPlan_6 : decode cX7_isPlan 6 = .ok (.if_icmp .ge 7, 3) := by decide +kernel
theorem dX7_isPlan_9 : decode cX7_isPlan 9 = .ok (.iconst 1, 1) := by decide +kernel
theorem dX7_isPlan_10 : decode cX7_isPlan 10 = .ok (.goto 4, 3) := by decide +kernel
theorem dX7_isPlan_13 : decode cX7_isPlan 13 = .ok (.iconst 0, 1) := by decide +kernel
theorem dX7_isPlan_14 : decode cX7_isPlan 14 = .ok (.ireturn, 1) := by decide +kernel
def kX7_isPlan (live : am_E) (Ret : am_R) : am_code := [(0, am_iload 0 1), (1, am_if1 (fun x => x < 0) 13 4), (4, am_iload 0 5), (5, am_const (.int 5) 6), (6, am_if2 (fun x y => y ≤ x) 13 9), (9, am_const (.int 1) 10), (10, am_goto 14), (13, am_const (.int 0) 14), (14, am_retZ Ret)]
theorem koX7_isPlan (live : am_E) (Ret : am_R) : ∀ q ∈ kX7_isPlan live Ret, am_ok RX7 cX7_isPlan 1 (some .boolean) 0 0 live Ret q.1 q.2 :=
  am_kc (ak_iload_n dX7_isPlan_0 rfl rfl) <|
  am_kc (ak_if_lt dX7_isPlan_1 (by decide +kernel) rfl) <|
  am_kc (ak_iload_n dX7_isPlan_4 rfl rfl) <|
  am_kc (ak_iconst dX7_isPlan_5 (by decide +kernel) rfl) <|
  am_kc (ak_icmp_ge dX7_isPlan_6 (by decide +kernel) rfl) <|
  am_kc (ak_iconst dX7_isPlan_9 (by decide +kernel) rfl) <|
  am_kc (ak_goto dX7_isPlan_10 (by decide +kernel)) <|
  am_kc (ak_iconst dX7_isPlan_13 (by decide +kernel) rfl) <|
  am_kc (ak_retZ dX7_isPlan_14) <| am_kn
def TX7_isPlan : am_T := fun _ as M R => match as with
  | [.int v] => R (some (.int (if 0 ≤ v ∧ v < 5 then 1 else 0))) M
  | _ => False
set_option maxRecDepth 100000 in
set_option maxHeartbeats 4000000 in
theorem metX7_isPlan : am_Met yX7_isPlan cX7_isPlan 1 (some .boolean) (0) (0) TX7_isPlan := by
  refine am_met (own := RX7) (by decide +kernel) rfl kX7_isPlan koX7_isPlan 60 (fun _ _ _ _ _ => none) (fun live as M Ret h => ?_) (fun _ _ _ _ _ _ _ _ hI => by cases hI)
  unfold TX7_isPlan at h
  split at h
  · next v =>
    refine ⟨Nat.le_of_ble_eq_true rfl, ?_⟩
    change am_wp _ _ _ _ [(0, Value.int v)] _ _
    repeat' (first | exact rfl | apply And.intro | intro hx | (refine Exists.intro _ (And.intro rfl ?_)))
    all_goals try first | (with_reducible change am_tI _ _) | (change Ret _ _) | (change Ret _ _ _) | (change Exists _)
    all_goals try dsimp only at *
    all_goals try exact absurd ‹(1000 : Int64) = 0› (by decide)
    all_goals first | (left; rfl) | (right; rfl) | grind
  · exact h.elim
theorem dX7_isChance_0 : decode cX7_isChance 0 = .ok (.iload_n 0, 1) := by decide +kernel
theorem dX7_isChance_1 : decode cX7_isChance 1 = .ok (.ifCond .lt 13, 3) := by decide +kernel
theorem dX7_isChance_4 : decode cX7_isChance 4 = .ok (.iload_n 0, 1) := by decide +kernel
theorem dX7_isChance_5 : decode cX7_isChance 5 = .ok (.bipush 10, 2) := by decide +kernel
theorem dX7_isChance_7 : decode cX7_isChance 7 = .ok (.if_icmp .gt 7, 3) := by decide +kernel
theorem dX7_isChance_10 : decode cX7_isChance 10 = .ok (.iconst 1, 1) := by decide +kernel
theorem dX7_isChance_11 : decode cX7_isChance 11 = .ok (.goto 4, 3) := by decide +kernel
theorem dX7_isChance_14 : decode cX7_isChance 14 = .ok (.iconst 0, 1) := by decide +kernel
theorem dX7_isChance_15 : decode cX7_isChance 15 = .ok (.ireturn, 1) := by decide +kernel
def kX7_isChance (live : am_E) (Ret : am_R) : am_code := [(0, am_iload 0 1), (1, am_if1 (fun x => x < 0) 14 4), (4, am_iload 0 5), (5, am_const (.int 10) 7), (7, am_if2 (fun x y => y < x) 14 10), (10, am_const (.int 1) 11), (11, am_goto 15), (14, am_const (.int 0) 15), (15, am_retZ Ret)]
theorem koX7_isChance (live : am_E) (Ret : am_R) : ∀ q ∈ kX7_isChance live Ret, am_ok RX7 cX7_isChance 1 (some .boolean) 0 0 live Ret q.1 q.2 :=
  am_kc (ak_iload_n dX7_isChance_0 rfl rfl) <|
  am_kc (ak_if_lt dX7_isChance_1 (by decide +kernel) rfl) <|
  am_kc (ak_iload_n dX7_isChance_4 rfl rfl) <|
  am_kc (ak_bipush dX7_isChance_5 (by decide +kernel) rfl) <|
  am_kc (ak_icmp_gt dX7_isChance_7 (by decide +kernel) rfl) <|
  am_kc (ak_iconst dX7_isChance_10 (by decide +kernel) rfl) <|
  am_kc (ak_goto dX7_isChance_11 (by decide +kernel)) <|
  am_kc (ak_iconst dX7_isChance_14 (by decide +kernel) rfl) <|
  am_kc (ak_retZ dX7_isChance_15) <| am_kn
def TX7_isChance : am_T := fun _ as M R => match as with
  | [.int v] => R (some (.int (if 0 ≤ v ∧ v ≤ 10 then 1 else 0))) M
  | _ => False
set_option maxRecDepth 100000 in
set_option maxHeartbeats 4000000 in
theorem metX7_isChance : am_Met yX7_isChance cX7_isChance 1 (some .boolean) (0) (0) TX7_isChance := by
  refine am_met (own := RX7) (by decide +kernel) rfl kX7_isChance koX7_isChance 60 (fun _ _ _ _ _ => none) (fun live as M Ret h => ?_) (fun _ _ _ _ _ _ _ _ hI => by cases hI)
  unfold TX7_isChance at h
  split at h
  · next v =>
    refine ⟨Nat.le_of_ble_eq_true rfl, ?_⟩
    change am_wp _ _ _ _ [(0, Value.int v)] _ _
    repeat' (first | exact rfl | apply And.intro | intro hx | (refine Exists.intro _ (And.intro rfl ?_)))
    all_goals try first | (with_reducible change am_tI _ _) | (change Ret _ _) | (change Ret _ _ _) | (change Exists _)
    all_goals try dsimp only at *
    all_goals try exact absurd ‹(1000 : Int64) = 0› (by decide)
    all_goals first | (left; rfl) | (right; rfl) | grind
  · exact h.elim
theorem wd_148 : Cond.fieldLink "LearnLoans$Rows" 15 "LearnLoans$Rows" "wide" "I" ∈ am_ws := am_wsi (List.mem_of_getElem? (i := 148) (by decide +kernel)) (by decide +kernel)
theorem wd_147 : Cond.fieldLink "LearnLoans$Rows" 9 "LearnLoans$Rows" "cells" "[I" ∈ am_ws := am_wsi (List.mem_of_getElem? (i := 147) (by decide +kernel)) (by decide +kernel)
theorem dX3_at_0 : decode cX3_at 0 = .ok (.iload_n 1, 1) := by decide +kernel
theorem dX3_at_1 : decode cX3_at 1 = .ok (.aload_n 0, 1) := by decide +kernel
theorem dX3_at_2 : decode cX3_at 2 = .ok (.getfield 15, 3) := by decide +kernel
theorem dX3_at_5 : decode cX3_at 5 = .ok (.imul, 1) := by decide +kernel
theorem dX3_at_6 : decode cX3_at 6 = .ok (.iload_n 2, 1) := by decide +kernel
theorem dX3_at_7 : decode cX3_at 7 = .ok (.iadd, 1) := by decide +kernel
theorem dX3_at_8 : decode cX3_at 8 = .ok (.istore_n 3, 1) := by decide +kernel
theorem dX3_at_9 : decode cX3_at 9 = .ok (.iload_n 3, 1) := by decide +kernel
theorem dX3_at_10 : decode cX3_at 10 = .ok (.ifCond .lt 21, 3) := by decide +kernel
theorem dX3_at_13 : decode cX3_at 13 = .ok (.iload_n 3, 1) := by decide +kernel
theorem dX3_at_14 : decode cX3_at 14 = .ok (.aload_n 0, 1) := by decide +kernel
theorem dX3_at_15 : decode cX3_at 15 = .ok (.getfield 9, 3) := by decide +kernel
theorem dX3_at_18 : decode cX3_at 18 = .ok (.arraylength, 1) := by decide +kernel
theorem dX3_at_19 : decode cX3_at 19 = .ok (.if_icmp .ge 12, 3) := by decide +kernel
theorem dX3_at_22 : decode cX3_at 22 = .ok (.aload_n 0, 1) := by decide +kernel
theorem dX3_at_23 : decode cX3_at 23 = .ok (.getfield 9, 3) := by decide +kernel
theorem dX3_at_26 : decode cX3_at 26 = .ok (.iload_n 3, 1) := by decide +kernel
theorem dX3_at_27 : decode cX3_at 27 = .ok (.iaload, 1) := by decide +kernel
theorem dX3_at_28 : decode cX3_at 28 = .ok (.goto 4, 3) := by decide +kernel
theorem dX3_at_31 : decode cX3_at 31 = .ok (.iconst (-1), 1) := by decide +kernel
theorem dX3_at_32 : decode cX3_at 32 = .ok (.ireturn, 1) := by decide +kernel
def kX3_at (live : am_E) (Ret : am_R) : am_code := [(0, am_iload 1 1), (1, am_aload 0 2), (2, am_getI live 3 1 5), (5, am_i2 (fun x y => x * y) 6), (6, am_iload 2 7), (7, am_i2 (fun x y => x + y) 8), (8, am_istore 3 4 9), (9, am_iload 3 10), (10, am_if1 (fun x => x < 0) 31 13), (13, am_iload 3 14), (14, am_aload 0 15), (15, am_getR live 3 0 18), (18, am_alen live 0 19), (19, am_if2 (fun x y => y ≤ x) 31 22), (22, am_aload 0 23), (23, am_getR live 3 0 26), (26, am_iload 3 27), (27, am_ald live 0 28), (28, am_goto 32), (31, am_const (.int (-1)) 32), (32, am_retI Ret)]
theorem koX3_at (live : am_E) (Ret : am_R) : ∀ q ∈ kX3_at live Ret, am_ok RX3 cX3_at 4 (some .int) 0 0 live Ret q.1 q.2 :=
  am_kc (ak_iload_n dX3_at_0 rfl rfl) <|
  am_kc (ak_aload_n dX3_at_1 rfl rfl) <|
  am_kc (ak_getI (C := RX3) (T := TX3) (N := 3) rfl inX3w (by decide) rfl rfl rfl wd_148 dX3_at_2 rfl) <|
  am_kc (ak_imul dX3_at_5 rfl) <|
  am_kc (ak_iload_n dX3_at_6 rfl rfl) <|
  am_kc (ak_iadd dX3_at_7 rfl) <|
  am_kc (ak_istore_n dX3_at_8 rfl rfl) <|
  am_kc (ak_iload_n dX3_at_9 rfl rfl) <|
  am_kc (ak_if_lt dX3_at_10 (by decide +kernel) rfl) <|
  am_kc (ak_iload_n dX3_at_13 rfl rfl) <|
  am_kc (ak_aload_n dX3_at_14 rfl rfl) <|
  am_kc (ak_getR (C := RX3) (T := TX3) (N := 3) rfl inX3w (by decide) rfl rfl rfl wd_147 dX3_at_15 rfl) <|
  am_kc (ak_alen (t := 0) (fun _ => rfl) dX3_at_18 rfl) <|
  am_kc (ak_icmp_ge dX3_at_19 (by decide +kernel) rfl) <|
  am_kc (ak_aload_n dX3_at_22 rfl rfl) <|
  am_kc (ak_getR (C := RX3) (T := TX3) (N := 3) rfl inX3w (by decide) rfl rfl rfl wd_147 dX3_at_23 rfl) <|
  am_kc (ak_iload_n dX3_at_26 rfl rfl) <|
  am_kc (ak_iald (t := 0) (fun _ => rfl) rfl dX3_at_27 rfl) <|
  am_kc (ak_goto dX3_at_28 (by decide +kernel)) <|
  am_kc (ak_iconst dX3_at_31 (by decide +kernel) rfl) <|
  am_kc (ak_retI dX3_at_32) <| am_kn
/-- Rows.at: this at the name r, its numbers at c -/
def TX3_at : am_T := fun live as M R => match as with
  | [.ref r, .int a, .int b] => am_ex (live.2 r 0) (fun c => am_if (am_isO live 3 r && am_isA live 0 c && Nat.blt (am_len c) 100000) (R (some (.int (am_at (M.1 c) (am_len c) (a * M.1 r 1 + b)))) M))
  | _ => False
set_option maxRecDepth 100000 in
set_option maxHeartbeats 4000000 in
theorem metX3_at : am_Met yX3_at cX3_at 4 (some .int) (0) (0) TX3_at := by
  refine am_met (own := RX3) (by decide +kernel) rfl kX3_at koX3_at 60 (fun _ _ _ _ _ => none) (fun live as M Ret h => ?_) (fun _ _ _ _ _ _ _ _ hI => by cases hI)
  unfold TX3_at at h
  split at h
  · next r a b =>
    refine ⟨Nat.le_of_ble_eq_true rfl, ?_⟩
    change am_wp _ _ _ _ [(0, Value.ref r), (1, Value.int a), (2, Value.int b)] _ _
    have hh := am_qm h
    clear h
    obtain ⟨c, h2, h⟩ := hh
    have hh := am_if_mp h
    clear h
    obtain ⟨hb, h⟩ := hh
    rw [Bool.and_eq_true, Bool.and_eq_true] at hb
    obtain ⟨⟨h1, h3⟩, h4⟩ := hb
    have h4 : am_len c < 100000 := Nat.le_of_ble_eq_true h4
    repeat' (first | exact rfl | (with_reducible exact h1) | (with_reducible exact h2) | (with_reducible exact h3) | (refine Exists.intro _ (And.intro h2 ?_)) | apply And.intro | intro hx | (refine Exists.intro _ (And.intro rfl ?_)) | ((with_reducible change _ = true); simp only [h1, h2, h3, Bool.true_and]; rfl))
    all_goals try first | (with_reducible change am_tI _ _) | (change Ret _ _) | (change Ret _ _ _) | (change Exists _)
    all_goals try dsimp only at *
    all_goals try exact absurd ‹(1000 : Int64) = 0› (by decide)
    · rw [am_at_no (am_in_no1 ‹_›)] at h; exact h
    · rw [am_at_no (am_in_no2 h4 ‹_›)] at h; exact h
    · exact (am_in_of h4 ‹_› ‹_›).1
    · exact (am_in_of h4 ‹_› ‹_›).2
    · rw [am_at_in (am_in_of h4 ‹_› ‹_›)] at h; exact h
  · exact h.elim
end
section
/-! the class: whether a person, a loan; a stretch laid; which is nearer -/
theorem wd_387 : Cond.fieldLink "LearnLoans" 27 "LearnLoans" "house" "LLearnLoans$House;" ∈ am_ws := am_wsi (List.mem_of_getElem? (i := 387) (by decide +kernel)) (by decide +kernel)
theorem wd_194 : Cond.fieldLink "LearnLoans" 38 "LearnLoans$House" "people" "LLearnLoans$People;" ∈ am_ws := am_wsi (List.mem_of_getElem? (i := 194) (by decide +kernel)) (by decide +kernel)
theorem wd_121 : Cond.fieldLink "LearnLoans" 42 "LearnLoans$People" "size" "I" ∈ am_ws := am_wsi (List.mem_of_getElem? (i := 121) (by decide +kernel)) (by decide +kernel)
theorem dX7_isPerson_0 : decode cX7_isPerson 0 = .ok (.iload_n 1, 1) := by decide +kernel
theorem dX7_isPerson_1 : decode cX7_isPerson 1 = .ok (.ifCond .lt 21, 3) := by decide +kernel
theorem dX7_isPerson_4 : decode cX7_isPerson 4 = .ok (.iload_n 1, 1) := by decide +kernel
theorem dX7_isPerson_5 : decode cX7_isPerson 5 = .ok (.aload_n 0, 1) := by decide +kernel
theorem dX7_isPerson_6 : decode cX7_isPerson 6 = .ok (.getfield 27, 3) := by decide +kernel
theorem dX7_isPerson_9 : decode cX7_isPerson 9 = .ok (.getfield 38, 3) := by decide +kernel
theorem dX7_isPerson_12 : decode cX7_isPerson 12 = .ok (.getfield 42, 3) := by decide +kernel
theorem dX7_isPerson_15 : decode cX7_isPerson 15 = .ok (.if_icmp .ge 7, 3) := by decide +kernel
theorem dX7_isPerson_18 : decode cX7_isPerson 18 = .ok (.iconst 1, 1) := by decide +kernel
theorem dX7_isPerson_19 : decode cX7_isPerson 19 = .ok (.goto 4, 3) := by decide +kernel
theorem dX7_isPerson_22 : decode cX7_isPerson 22 = .ok (.iconst 0, 1) := by decide +kernel
theorem dX7_isPerson_23 : decode cX7_isPerson 23 = .ok (.ireturn, 1) := by decide +kernel
def kX7_isPerson (live : am_E) (Ret : am_R) : am_code := [(0, am_iload 1 1), (1, am_if1 (fun x => x < 0) 22 4), (4, am_iload 1 5), (5, am_aload 0 6), (6, am_getR live 7 0 9), (9, am_getR live 0 0 12), (12, am_getI live 2 7 15), (15, am_if2 (fun x y => y ≤ x) 22 18), (18, am_const (.int 1) 19), (19, am_goto 23), (22, am_const (.int 0) 23), (23, am_retZ Ret)]
theorem koX7_isPerson (live : am_E) (Ret : am_R) : ∀ q ∈ kX7_isPerson live Ret, am_ok RX7 cX7_isPerson 2 (some .boolean) 0 0 live Ret q.1 q.2 :=
  am_kc (ak_iload_n dX7_isPerson_0 rfl rfl) <|
  am_kc (ak_if_lt dX7_isPerson_1 (by decide +kernel) rfl) <|
  am_kc (ak_iload_n dX7_isPerson_4 rfl rfl) <|
  am_kc (ak_aload_n dX7_isPerson_5 rfl rfl) <|
  am_kc (ak_getR (C := RX7) (T := TX7) (N := 4) rfl inX7w (by decide) rfl rfl rfl wd_387 dX7_isPerson_6 rfl) <|
  am_kc (ak_getR (C := RX0) (T := TX0) (N := 13) rfl inX0w (by decide) rfl rfl rfl wd_194 dX7_isPerson_9 rfl) <|
  am_kc (ak_getI (C := RX2) (T := TX2) (N := 8) rfl inX2w (by decide) rfl rfl rfl wd_121 dX7_isPerson_12 rfl) <|
  am_kc (ak_icmp_ge dX7_isPerson_15 (by decide +kernel) rfl) <|
  am_kc (ak_iconst dX7_isPerson_18 (by decide +kernel) rfl) <|
  am_kc (ak_goto dX7_isPerson_19 (by decide +kernel)) <|
  am_kc (ak_iconst dX7_isPerson_22 (by decide +kernel) rfl) <|
  am_kc (ak_retZ dX7_isPerson_23) <| am_kn
def TX7_isPerson : am_T := fun live as M R => match as with
  | [.ref n, .int v] => am_mn live ∧ n = 0 ∧ R (some (.int (if 0 ≤ v ∧ v < M.1 21 7 then 1 else 0))) M
  | _ => False
set_option maxRecDepth 100000 in
set_option maxHeartbeats 4000000 in
theorem metX7_isPerson : am_Met yX7_isPerson cX7_isPerson 2 (some .boolean) (0) (0) TX7_isPerson := by
  refine am_met (own := RX7) (by decide +kernel) rfl kX7_isPerson koX7_isPerson 60 (fun _ _ _ _ _ => none) (fun live as M Ret h => ?_) (fun _ _ _ _ _ _ _ _ hI => by cases hI)
  unfold TX7_isPerson at h
  split at h
  · next n v =>
    refine ⟨Nat.le_of_ble_eq_true rfl, ?_⟩
    change am_wp _ _ _ _ [(0, Value.ref n), (1, Value.int v)] _ _
    obtain ⟨⟨i1, i2, rfl⟩, rfl, h⟩ := h
    repeat' (first | exact rfl | apply And.intro | intro hx | (refine Exists.intro _ (And.intro rfl ?_)))
    all_goals try first | (with_reducible change am_tI _ _) | (change Ret _ _) | (change Ret _ _ _) | (change Exists _)
    all_goals try dsimp only at *
    all_goals try exact absurd ‹(1000 : Int64) = 0› (by decide)
    all_goals first | (left; rfl) | (right; rfl) | grind
  · exact h.elim
theorem wd_207 : Cond.fieldLink "LearnLoans" 122 "LearnLoans$House" "loans" "LLearnLoans$Rows;" ∈ am_ws := am_wsi (List.mem_of_getElem? (i := 207) (by decide +kernel)) (by decide +kernel)
theorem wd_152 : Cond.fieldLink "LearnLoans" 108 "LearnLoans$Rows" "size" "I" ∈ am_ws := am_wsi (List.mem_of_getElem? (i := 152) (by decide +kernel)) (by decide +kernel)
theorem dX7_isLoan_0 : decode cX7_isLoan 0 = .ok (.iload_n 1, 1) := by decide +kernel
theorem dX7_isLoan_1 : decode cX7_isLoan 1 = .ok (.ifCond .lt 21, 3) := by decide +kernel
theorem dX7_isLoan_4 : decode cX7_isLoan 4 = .ok (.iload_n 1, 1) := by decide +kernel
theorem dX7_isLoan_5 : decode cX7_isLoan 5 = .ok (.aload_n 0, 1) := by decide +kernel
theorem dX7_isLoan_6 : decode cX7_isLoan 6 = .ok (.getfield 27, 3) := by decide +kernel
theorem dX7_isLoan_9 : decode cX7_isLoan 9 = .ok (.getfield 122, 3) := by decide +kernel
theorem dX7_isLoan_12 : decode cX7_isLoan 12 = .ok (.getfield 108, 3) := by decide +kernel
theorem dX7_isLoan_15 : decode cX7_isLoan 15 = .ok (.if_icmp .ge 7, 3) := by decide +kernel
theorem dX7_isLoan_18 : decode cX7_isLoan 18 = .ok (.iconst 1, 1) := by decide +kernel
theorem dX7_isLoan_19 : decode cX7_isLoan 19 = .ok (.goto 4, 3) := by decide +kernel
theorem dX7_isLoan_22 : decode cX7_isLoan 22 = .ok (.iconst 0, 1) := by decide +kernel
theorem dX7_isLoan_23 : decode cX7_isLoan 23 = .ok (.ireturn, 1) := by decide +kernel
def kX7_isLoan (live : am_E) (Ret : am_R) : am_code := [(0, am_iload 1 1), (1, am_if1 (fun x => x < 0) 22 4), (4, am_iload 1 5), (5, am_aload 0 6), (6, am_getR live 7 0 9), (9, am_getR live 0 4 12), (12, am_getI live 3 2 15), (15, am_if2 (fun x y => y ≤ x) 22 18), (18, am_const (.int 1) 19), (19, am_goto 23), (22, am_const (.int 0) 23), (23, am_retZ Ret)]
theorem koX7_isLoan (live : am_E) (Ret : am_R) : ∀ q ∈ kX7_isLoan live Ret, am_ok RX7 cX7_isLoan 2 (some .boolean) 0 0 live Ret q.1 q.2 :=
  am_kc (ak_iload_n dX7_isLoan_0 rfl rfl) <|
  am_kc (ak_if_lt dX7_isLoan_1 (by decide +kernel) rfl) <|
  am_kc (ak_iload_n dX7_isLoan_4 rfl rfl) <|
  am_kc (ak_aload_n dX7_isLoan_5 rfl rfl) <|
  am_kc (ak_getR (C := RX7) (T := TX7) (N := 4) rfl inX7w (by decide) rfl rfl rfl wd_387 dX7_isLoan_6 rfl) <|
  am_kc (ak_getR (C := RX0) (T := TX0) (N := 13) rfl inX0w (by decide) rfl rfl rfl wd_207 dX7_isLoan_9 rfl) <|
  am_kc (ak_getI (C := RX3) (T := TX3) (N := 3) rfl inX3w (by decide) rfl rfl rfl wd_152 dX7_isLoan_12 rfl) <|
  am_kc (ak_icmp_ge dX7_isLoan_15 (by decide +kernel) rfl) <|
  am_kc (ak_iconst dX7_isLoan_18 (by decide +kernel) rfl) <|
  am_kc (ak_goto dX7_isLoan_19 (by decide +kernel)) <|
  am_kc (ak_iconst dX7_isLoan_22 (by decide +kernel) rfl) <|
  am_kc (ak_retZ dX7_isLoan_23) <| am_kn
def TX7_isLoan : am_T := fun live as M R => match as with
  | [.ref n, .int v] => am_mn live ∧ n = 0 ∧ R (some (.int (if 0 ≤ v ∧ v < M.1 33 2 then 1 else 0))) M
  | _ => False
set_option maxRecDepth 100000 in
set_option maxHeartbeats 4000000 in
theorem metX7_isLoan : am_Met yX7_isLoan cX7_isLoan 2 (some .boolean) (0) (0) TX7_isLoan := by
  refine am_met (own := RX7) (by decide +kernel) rfl kX7_isLoan koX7_isLoan 60 (fun _ _ _ _ _ => none) (fun live as M Ret h => ?_) (fun _ _ _ _ _ _ _ _ hI => by cases hI)
  unfold TX7_isLoan at h
  split at h
  · next n v =>
    refine ⟨Nat.le_of_ble_eq_true rfl, ?_⟩
    change am_wp _ _ _ _ [(0, Value.ref n), (1, Value.int v)] _ _
    obtain ⟨⟨i1, i2, rfl⟩, rfl, h⟩ := h
    repeat' (first | exact rfl | apply And.intro | intro hx | (refine Exists.intro _ (And.intro rfl ?_)))
    all_goals try first | (with_reducible change am_tI _ _) | (change Ret _ _) | (change Ret _ _ _) | (change Exists _)
    all_goals try dsimp only at *
    all_goals try exact absurd ‹(1000 : Int64) = 0› (by decide)
    all_goals first | (left; rfl) | (right; rfl) | grind
  · exact h.elim
theorem wd_469 : Cond.fieldLink "LearnLoans" 276 "LearnLoans" "LEAST" "[I" ∈ am_ws := am_wsi (List.mem_of_getElem? (i := 469) (by decide +kernel)) (by decide +kernel)
theorem wd_471 : Cond.fieldLink "LearnLoans" 279 "LearnLoans" "MOST" "[I" ∈ am_ws := am_wsi (List.mem_of_getElem? (i := 471) (by decide +kernel)) (by decide +kernel)
theorem dX7_isNumber_0 : decode cX7_isNumber 0 = .ok (.iload_n 0, 1) := by decide +kernel
theorem dX7_isNumber_1 : decode cX7_isNumber 1 = .ok (.ifCond .lt 31, 3) := by decide +kernel
theorem dX7_isNumber_4 : decode cX7_isNumber 4 = .ok (.iload_n 0, 1) := by decide +kernel
theorem dX7_isNumber_5 : decode cX7_isNumber 5 = .ok (.bipush 6, 2) := by decide +kernel
theorem dX7_isNumber_7 : decode cX7_isNumber 7 = .ok (.if_icmp .ge 25, 3) := by decide +kernel
theorem dX7_isNumber_10 : decode cX7_isNumber 10 = .ok (.iload_n 1, 1) := by decide +kernel
theorem dX7_isNumber_11 : decode cX7_isNumber 11 = .ok (.getstatic 276, 3) := by decide +kernel
theorem dX7_isNumber_14 : decode cX7_isNumber 14 = .ok (.iload_n 0, 1) := by decide +kernel
theorem dX7_isNumber_15 : decode cX7_isNumber 15 = .ok (.iaload, 1) := by decide +kernel
theorem dX7_isNumber_16 : decode cX7_isNumber 16 = .ok (.if_icmp .lt 16, 3) := by decide +kernel
theorem dX7_isNumber_19 : decode cX7_isNumber 19 = .ok (.iload_n 1, 1) := by decide +kernel
theorem dX7_isNumber_20 : decode cX7_isNumber 20 = .ok (.getstatic 279, 3) := by decide +kernel
theorem dX7_isNumber_23 : decode cX7_isNumber 23 = .ok (.iload_n 0, 1) := by decide +kernel
theorem dX7_isNumber_24 : decode cX7_isNumber 24 = .ok (.iaload, 1) := by decide +kernel
theorem dX7_isNumber_25 : decode cX7_isNumber 25 = .ok (.if_icmp .gt 7, 3) := by decide +kernel
theorem dX7_isNumber_28 : decode cX7_isNumber 28 = .ok (.iconst 1, 1) := by decide +kernel
theorem dX7_isNumber_29 : decode cX7_isNumber 29 = .ok (.goto 4, 3) := by decide +kernel
theorem dX7_isNumber_32 : decode cX7_isNumber 32 = .ok (.iconst 0, 1) := by decide +kernel
theorem dX7_isNumber_33 : decode cX7_isNumber 33 = .ok (.ireturn, 1) := by decide +kernel
def kX7_isNumber (live : am_E) (Ret : am_R) : am_code := [(0, am_iload 0 1), (1, am_if1 (fun x => x < 0) 32 4), (4, am_iload 0 5), (5, am_const (.int 6) 7), (7, am_if2 (fun x y => y ≤ x) 32 10), (10, am_iload 1 11), (11, am_const (.ref 1001) 14), (14, am_iload 0 15), (15, am_sld 1 16), (16, am_if2 (fun x y => x < y) 32 19), (19, am_iload 1 20), (20, am_const (.ref 1002) 23), (23, am_iload 0 24), (24, am_sld 2 25), (25, am_if2 (fun x y => y < x) 32 28), (28, am_const (.int 1) 29), (29, am_goto 33), (32, am_const (.int 0) 33), (33, am_retZ Ret)]
theorem koX7_isNumber (live : am_E) (Ret : am_R) : ∀ q ∈ kX7_isNumber live Ret, am_ok RX7 cX7_isNumber 2 (some .boolean) 0 0 live Ret q.1 q.2 :=
  am_kc (ak_iload_n dX7_isNumber_0 rfl rfl) <|
  am_kc (ak_if_lt dX7_isNumber_1 (by decide +kernel) rfl) <|
  am_kc (ak_iload_n dX7_isNumber_4 rfl rfl) <|
  am_kc (ak_bipush dX7_isNumber_5 (by decide +kernel) rfl) <|
  am_kc (ak_icmp_ge dX7_isNumber_7 (by decide +kernel) rfl) <|
  am_kc (ak_iload_n dX7_isNumber_10 rfl rfl) <|
  am_kc (ak_gets (k := 1) (by decide) rfl wd_469 dX7_isNumber_11 rfl) <|
  am_kc (ak_iload_n dX7_isNumber_14 rfl rfl) <|
  am_kc (ak_sld (by decide) dX7_isNumber_15 rfl) <|
  am_kc (ak_icmp_lt dX7_isNumber_16 (by decide +kernel) rfl) <|
  am_kc (ak_iload_n dX7_isNumber_19 rfl rfl) <|
  am_kc (ak_gets (k := 2) (by decide) rfl wd_471 dX7_isNumber_20 rfl) <|
  am_kc (ak_iload_n dX7_isNumber_23 rfl rfl) <|
  am_kc (ak_sld (by decide) dX7_isNumber_24 rfl) <|
  am_kc (ak_icmp_gt dX7_isNumber_25 (by decide +kernel) rfl) <|
  am_kc (ak_iconst dX7_isNumber_28 (by decide +kernel) rfl) <|
  am_kc (ak_goto dX7_isNumber_29 (by decide +kernel)) <|
  am_kc (ak_iconst dX7_isNumber_32 (by decide +kernel) rfl) <|
  am_kc (ak_retZ dX7_isNumber_33) <| am_kn
def am_isNum (w v : Int32) : Prop := (0 ≤ w ∧ w < 6) ∧ am_sf 1 w.toNatClampNeg ≤ v ∧ v ≤ am_sf 2 w.toNatClampNeg
def TX7_isNumber : am_T := fun live as M R => match as with
  | [.int w, .int v] => (am_isNum w v → R (some (.int 1)) M) ∧ (¬ am_isNum w v → R (some (.int 0)) M)
  | _ => False
set_option maxRecDepth 100000 in
set_option maxHeartbeats 4000000 in
theorem metX7_isNumber : am_Met yX7_isNumber cX7_isNumber 2 (some .boolean) (0) (0) TX7_isNumber := by
  refine am_met (own := RX7) (by decide +kernel) rfl kX7_isNumber koX7_isNumber 60 (fun _ _ _ _ _ => none) (fun live as M Ret h => ?_) (fun _ _ _ _ _ _ _ _ hI => by cases hI)
  unfold TX7_isNumber at h
  split at h
  · next w v =>
    refine ⟨Nat.le_of_ble_eq_true rfl, ?_⟩
    change am_wp _ _ _ _ [(0, Value.int w), (1, Value.int v)] _ _
    repeat' (first | exact rfl | apply And.intro | intro hx | (refine Exists.intro _ (And.intro rfl ?_)))
    all_goals try first | (with_reducible change am_tI _ _) | (change Ret _ _) | (change Ret _ _ _) | (change Exists _)
    all_goals try dsimp only at *
    all_goals try exact absurd ‹(1000 : Int64) = 0› (by decide)
    all_goals first | (left; rfl) | (right; rfl) | skip
    all_goals first | grind [am_isNum] | (simp only [i_lt, i_le, am_sN, Int32.reduceToInt] at *; omega)
  · exact h.elim
theorem wd_424 : Cond.methodLink "LearnLoans" 282 Lib.Math.max.name ∈ am_ws := am_wsi (List.mem_of_getElem? (i := 424) (by decide +kernel)) (by decide +kernel)
theorem wd_425 : Cond.static Lib.Math.max.name ∈ am_ws := am_wsi (List.mem_of_getElem? (i := 425) (by decide +kernel)) (by decide +kernel)
theorem wd_68 : Cond.initialized "java/lang/Math" ∈ am_ws := am_wsi (List.mem_of_getElem? (i := 68) (by decide +kernel)) (by decide +kernel)
theorem wd_426 : Cond.code Lib.Math.max.name Lib.Math.max.code 2 (some .int) ∈ am_ws := am_wsi (List.mem_of_getElem? (i := 426) (by decide +kernel)) (by decide +kernel)
theorem dX7_lay_0 : decode cX7_lay 0 = .ok (.iload_n 1, 1) := by decide +kernel
theorem dX7_lay_1 : decode cX7_lay 1 = .ok (.iconst 0, 1) := by decide +kernel
theorem dX7_lay_2 : decode cX7_lay 2 = .ok (.invokestatic 282, 3) := by decide +kernel
theorem dX7_lay_5 : decode cX7_lay 5 = .ok (.istore 4, 2) := by decide +kernel
theorem dX7_lay_7 : decode cX7_lay 7 = .ok (.iload 4, 2) := by decide +kernel
theorem dX7_lay_9 : decode cX7_lay 9 = .ok (.iload_n 2, 1) := by decide +kernel
theorem dX7_lay_10 : decode cX7_lay 10 = .ok (.if_icmp .gt 21, 3) := by decide +kernel
theorem dX7_lay_13 : decode cX7_lay 13 = .ok (.iload 4, 2) := by decide +kernel
theorem dX7_lay_15 : decode cX7_lay 15 = .ok (.aload_n 0, 1) := by decide +kernel
theorem dX7_lay_16 : decode cX7_lay 16 = .ok (.arraylength, 1) := by decide +kernel
theorem dX7_lay_17 : decode cX7_lay 17 = .ok (.if_icmp .ge 14, 3) := by decide +kernel
theorem dX7_lay_20 : decode cX7_lay 20 = .ok (.aload_n 0, 1) := by decide +kernel
theorem dX7_lay_21 : decode cX7_lay 21 = .ok (.iload 4, 2) := by decide +kernel
theorem dX7_lay_23 : decode cX7_lay 23 = .ok (.iload_n 3, 1) := by decide +kernel
theorem dX7_lay_24 : decode cX7_lay 24 = .ok (.iastore, 1) := by decide +kernel
theorem dX7_lay_25 : decode cX7_lay 25 = .ok (.iinc 4 1, 3) := by decide +kernel
theorem dX7_lay_28 : decode cX7_lay 28 = .ok (.goto (-21), 3) := by decide +kernel
theorem dX7_lay_31 : decode cX7_lay 31 = .ok (.return_, 1) := by decide +kernel
def kX7_lay (live : am_E) (Ret : am_R) : am_code := [(0, am_iload 1 1), (1, am_const (.int 0) 2), (2, am_math2 (fun x y => if x < y then y else x) 23 5), (5, am_istore 4 5 7), (7, am_iload 4 9), (9, am_iload 2 10), (10, am_if2 (fun x y => y < x) 31 13), (13, am_iload 4 15), (15, am_aload 0 16), (16, am_alen live 0 17), (17, am_if2 (fun x y => y ≤ x) 31 20), (20, am_aload 0 21), (21, am_iload 4 23), (23, am_iload 3 24), (24, am_ast live 0 25), (25, am_iinc 4 5 1 28), (28, am_goto 7), (31, am_retV Ret)]
theorem koX7_lay (live : am_E) (Ret : am_R) : ∀ q ∈ kX7_lay live Ret, am_ok RX7 cX7_lay 5 none 1 23 live Ret q.1 q.2 :=
  am_kc (ak_iload_n dX7_lay_0 rfl rfl) <|
  am_kc (ak_iconst dX7_lay_1 (by decide +kernel) rfl) <|
  am_kc (ak_imax (am_w4 wd_424 wd_425 wd_68 wd_426) (by decide) dX7_lay_2 rfl) <|
  am_kc (ak_istore dX7_lay_5 rfl) <|
  am_kc (ak_iload dX7_lay_7 rfl) <|
  am_kc (ak_iload_n dX7_lay_9 rfl rfl) <|
  am_kc (ak_icmp_gt dX7_lay_10 (by decide +kernel) rfl) <|
  am_kc (ak_iload dX7_lay_13 rfl) <|
  am_kc (ak_aload_n dX7_lay_15 rfl rfl) <|
  am_kc (ak_alen (t := 0) (fun _ => rfl) dX7_lay_16 rfl) <|
  am_kc (ak_icmp_ge dX7_lay_17 (by decide +kernel) rfl) <|
  am_kc (ak_aload_n dX7_lay_20 rfl rfl) <|
  am_kc (ak_iload dX7_lay_21 rfl) <|
  am_kc (ak_iload_n dX7_lay_23 rfl rfl) <|
  am_kc (ak_iast (t := 0) (fun _ => rfl) rfl dX7_lay_24 rfl) <|
  am_kc (ak_iinc dX7_lay_25 (by decide +kernel) rfl) <|
  am_kc (ak_goto dX7_lay_28 (by decide +kernel)) <|
  am_kc (ak_retV dX7_lay_31) <| am_kn
def TX7_lay : am_T := fun live as M R => match as with
  | [.ref c, .int a, .int b, .int v] => am_if (am_isA live 0 c && Nat.blt (am_len c) 100000) (R none (am_lay M c (max a.toInt 0) (min b.toInt ((am_len c : Int) - 1)) v))
  | _ => False
def JX7_lay : am_E → List Value → am_M → am_R → am_inv := fun live as M0 _ pc => match as with
  | [.ref c, .int a, .int b, .int v] => (match pc with
    | 7 => some ([0, 2, 3, 4], fun k L st M => ∃ i : Int32, L = [(0, .ref c), (2, .int b), (3, .int v), (4, .int i)] ∧ st = [] ∧ k = ((am_len c + 1 - i.toInt).toNat, 0) ∧ max a.toInt 0 ≤ i.toInt ∧ (i.toInt = max a.toInt 0 ∨ i.toInt ≤ min b.toInt ((am_len c : Int) - 1) + 1) ∧ M = am_lay M0 c (max a.toInt 0) (i.toInt - 1) v)
    | _ => none)
  | _ => none
set_option maxRecDepth 100000 in
set_option maxHeartbeats 4000000 in
theorem metX7_lay : am_Met yX7_lay cX7_lay 5 none (1) (23) TX7_lay := by
  refine am_met (own := RX7) (by decide +kernel) rfl kX7_lay koX7_lay 60 JX7_lay ?_ ?_
  · intro live as M Ret h
    unfold TX7_lay at h
    split at h
    · next c a b v =>
      refine ⟨Nat.le_of_ble_eq_true rfl, ?_⟩
      change am_wp _ _ _ _ [(0, Value.ref c), (1, Value.int a), (2, Value.int b), (3, Value.int v)] _ _
      have hh := am_if_mp h
      clear h
      obtain ⟨hb, h⟩ := hh
      rw [Bool.and_eq_true] at hb
      obtain ⟨h1, h4⟩ := hb
      have h4 : am_len c < 100000 := Nat.le_of_ble_eq_true h4
      repeat' (first | exact rfl | (with_reducible exact h1) | apply And.intro | intro hx | (refine Exists.intro _ (And.intro rfl ?_)) | ((with_reducible change _ = true); simp only [h1, Bool.true_and]; rfl))
      all_goals try first | (with_reducible change am_tI _ _) | (change Ret _ _) | (change Ret _ _ _) | (change Exists _)
      all_goals try dsimp only at *
      all_goals try exact absurd ‹(1000 : Int64) = 0› (by decide)
      have hlo := i_lo a
      refine ⟨_, _, rfl, rfl, rfl, ?_, Or.inl ?_, (am_lay_nil ?_).symm⟩
      all_goals
        split
        all_goals
          simp only [i_lt, Int32.reduceToInt] at *
          omega
    · exact h.elim
  · intro live as M0 Ret h k pc I hI L st M hi
    unfold TX7_lay at h
    split at h
    · next c a b v =>
      have hh := am_if_mp h
      clear h
      obtain ⟨hb, h⟩ := hh
      rw [Bool.and_eq_true] at hb
      obtain ⟨h1, h4⟩ := hb
      have h4 : am_len c < 100000 := Nat.le_of_ble_eq_true h4
      change (match pc with | 7 => _ | _ => none) = _ at hI
      split at hI
      · cases hI
        obtain ⟨i, rfl, rfl, rfl, e1, e2, rfl⟩ := hi
        have hn : (Int32.ofNat (am_len c)).toInt = (am_len c : Int) := i_nat (by omega)
        repeat' (first | exact rfl | (with_reducible exact h1) | apply And.intro | intro hx | (refine Exists.intro _ (And.intro rfl ?_)) | ((with_reducible change _ = true); simp only [h1, Bool.true_and]; rfl))
        all_goals try first | (with_reducible change am_tI _ _) | (change Ret _ _) | (change Ret _ _ _) | (change Exists _)
        all_goals try dsimp only at *
        all_goals try exact absurd ‹(1000 : Int64) = 0› (by decide)
        rotate_right
        · refine ⟨_, Or.inl ?_, i + 1, rfl, rfl, rfl, ?_, Or.inr ?_, ?_⟩
          all_goals simp only [i_lt, i_le, hn] at *
          all_goals
            have hi := i_add (x := i) (y := 1) (by simp only [Int32.reduceToInt]; omega) (by simp only [Int32.reduceToInt]; omega)
            simp only [Int32.reduceToInt] at hi
          · simp only [hi]; omega
          · omega
          · omega
          · rw [am_lay_put (by omega) (i_clamp (by omega))]
            exact am_lay_eq (fun q => by omega)
        all_goals simp only [i_lt, i_le, hn] at *
        · rw [am_lay_eq (lo' := max a.toInt 0) (hi' := min b.toInt ((am_len c : Int) - 1)) (fun q => by omega)]; exact h
        · rw [am_lay_eq (lo' := max a.toInt 0) (hi' := min b.toInt ((am_len c : Int) - 1)) (fun q => by omega)]; exact h
        · omega
        · omega
      · cases hI
    · exact h.elim
end
section
/-! Rows -/
theorem dX3_put_0 : decode cX3_put 0 = .ok (.iload_n 1, 1) := by decide +kernel
theorem dX3_put_1 : decode cX3_put 1 = .ok (.aload_n 0, 1) := by decide +kernel
theorem dX3_put_2 : decode cX3_put 2 = .ok (.getfield 15, 3) := by decide +kernel
theorem dX3_put_5 : decode cX3_put 5 = .ok (.imul, 1) := by decide +kernel
theorem dX3_put_6 : decode cX3_put 6 = .ok (.iload_n 2, 1) := by decide +kernel
theorem dX3_put_7 : decode cX3_put 7 = .ok (.iadd, 1) := by decide +kernel
theorem dX3_put_8 : decode cX3_put 8 = .ok (.istore 4, 2) := by decide +kernel
theorem dX3_put_10 : decode cX3_put 10 = .ok (.iload_n 2, 1) := by decide +kernel
theorem dX3_put_11 : decode cX3_put 11 = .ok (.aload_n 0, 1) := by decide +kernel
theorem dX3_put_12 : decode cX3_put 12 = .ok (.getfield 15, 3) := by decide +kernel
theorem dX3_put_15 : decode cX3_put 15 = .ok (.if_icmp .ge 26, 3) := by decide +kernel
theorem dX3_put_18 : decode cX3_put 18 = .ok (.iload 4, 2) := by decide +kernel
theorem dX3_put_20 : decode cX3_put 20 = .ok (.ifCond .lt 21, 3) := by decide +kernel
theorem dX3_put_23 : decode cX3_put 23 = .ok (.iload 4, 2) := by decide +kernel
theorem dX3_put_25 : decode cX3_put 25 = .ok (.aload_n 0, 1) := by decide +kernel
theorem dX3_put_26 : decode cX3_put 26 = .ok (.getfield 9, 3) := by decide +kernel
theorem dX3_put_29 : decode cX3_put 29 = .ok (.arraylength, 1) := by decide +kernel
theorem dX3_put_30 : decode cX3_put 30 = .ok (.if_icmp .ge 11, 3) := by decide +kernel
theorem dX3_put_33 : decode cX3_put 33 = .ok (.aload_n 0, 1) := by decide +kernel
theorem dX3_put_34 : decode cX3_put 34 = .ok (.getfield 9, 3) := by decide +kernel
theorem dX3_put_37 : decode cX3_put 37 = .ok (.iload 4, 2) := by decide +kernel
theorem dX3_put_39 : decode cX3_put 39 = .ok (.iload_n 3, 1) := by decide +kernel
theorem dX3_put_40 : decode cX3_put 40 = .ok (.iastore, 1) := by decide +kernel
theorem dX3_put_41 : decode cX3_put 41 = .ok (.return_, 1) := by decide +kernel
def kX3_put (live : am_E) (Ret : am_R) : am_code := [(0, am_iload 1 1), (1, am_aload 0 2), (2, am_getI live 3 1 5), (5, am_i2 (fun x y => x * y) 6), (6, am_iload 2 7), (7, am_i2 (fun x y => x + y) 8), (8, am_istore 4 5 10), (10, am_iload 2 11), (11, am_aload 0 12), (12, am_getI live 3 1 15), (15, am_if2 (fun x y => y ≤ x) 41 18), (18, am_iload 4 20), (20, am_if1 (fun x => x < 0) 41 23), (23, am_iload 4 25), (25, am_aload 0 26), (26, am_getR live 3 0 29), (29, am_alen live 0 30), (30, am_if2 (fun x y => y ≤ x) 41 33), (33, am_aload 0 34), (34, am_getR live 3 0 37), (37, am_iload 4 39), (39, am_iload 3 40), (40, am_ast live 0 41), (41, am_retV Ret)]
theorem koX3_put (live : am_E) (Ret : am_R) : ∀ q ∈ kX3_put live Ret, am_ok RX3 cX3_put 5 none 0 0 live Ret q.1 q.2 :=
  am_kc (ak_iload_n dX3_put_0 rfl rfl) <|
  am_kc (ak_aload_n dX3_put_1 rfl rfl) <|
  am_kc (ak_getI (C := RX3) (T := TX3) (N := 3) rfl inX3w (by decide) rfl rfl rfl wd_148 dX3_put_2 rfl) <|
  am_kc (ak_imul dX3_put_5 rfl) <|
  am_kc (ak_iload_n dX3_put_6 rfl rfl) <|
  am_kc (ak_iadd dX3_put_7 rfl) <|
  am_kc (ak_istore dX3_put_8 rfl) <|
  am_kc (ak_iload_n dX3_put_10 rfl rfl) <|
  am_kc (ak_aload_n dX3_put_11 rfl rfl) <|
  am_kc (ak_getI (C := RX3) (T := TX3) (N := 3) rfl inX3w (by decide) rfl rfl rfl wd_148 dX3_put_12 rfl) <|
  am_kc (ak_icmp_ge dX3_put_15 (by decide +kernel) rfl) <|
  am_kc (ak_iload dX3_put_18 rfl) <|
  am_kc (ak_if_lt dX3_put_20 (by decide +kernel) rfl) <|
  am_kc (ak_iload dX3_put_23 rfl) <|
  am_kc (ak_aload_n dX3_put_25 rfl rfl) <|
  am_kc (ak_getR (C := RX3) (T := TX3) (N := 3) rfl inX3w (by decide) rfl rfl rfl wd_147 dX3_put_26 rfl) <|
  am_kc (ak_alen (t := 0) (fun _ => rfl) dX3_put_29 rfl) <|
  am_kc (ak_icmp_ge dX3_put_30 (by decide +kernel) rfl) <|
  am_kc (ak_aload_n dX3_put_33 rfl rfl) <|
  am_kc (ak_getR (C := RX3) (T := TX3) (N := 3) rfl inX3w (by decide) rfl rfl rfl wd_147 dX3_put_34 rfl) <|
  am_kc (ak_iload dX3_put_37 rfl) <|
  am_kc (ak_iload_n dX3_put_39 rfl rfl) <|
  am_kc (ak_iast (t := 0) (fun _ => rfl) rfl dX3_put_40 rfl) <|
  am_kc (ak_retV dX3_put_41) <| am_kn
def TX3_put : am_T := fun live as M R => match as with
  | [.ref r, .int a, .int b, .int v] => am_ex (live.2 r 0) (fun c => am_if (am_rc live r c) (R none (am_rput M r c a b v)))
  | _ => False
set_option maxRecDepth 100000 in
set_option maxHeartbeats 4000000 in
theorem metX3_put : am_Met yX3_put cX3_put 5 none (0) (0) TX3_put := by
  refine am_met (own := RX3) (by decide +kernel) rfl kX3_put koX3_put 60 (fun _ _ _ _ _ => none) (fun live as M Ret h => ?_) (fun _ _ _ _ _ _ _ _ hI => by cases hI)
  unfold TX3_put at h
  split at h
  · next r a b v =>
    refine ⟨Nat.le_of_ble_eq_true rfl, ?_⟩
    change am_wp _ _ _ _ [(0, Value.ref r), (1, Value.int a), (2, Value.int b), (3, Value.int v)] _ _
    have hh := am_qm h
    clear h
    obtain ⟨c, h2, h⟩ := hh
    have hh := am_if_mp h
    clear h
    obtain ⟨hb, h⟩ := hh
    obtain ⟨h1, h3, h4, h5⟩ := am_rc_spec hb
    repeat' (first | exact rfl | (with_reducible exact h1) | (with_reducible exact h2) | (with_reducible exact h3) | (refine Exists.intro _ (And.intro h2 ?_)) | apply And.intro | intro hx | (refine Exists.intro _ (And.intro rfl ?_)) | ((with_reducible change _ = true); simp only [h1, h2, h3, Bool.true_and]; rfl))
    all_goals try first | (with_reducible change am_tI _ _) | (change Ret _ _) | (change Ret _ _ _) | (change Exists _)
    all_goals try dsimp only at *
    all_goals try exact absurd ‹(1000 : Int64) = 0› (by decide)
    · rw [am_rput_f (fun q => by have := q.1; simp only [i_lt, i_le] at *; omega)] at h; exact h
    · rw [am_rput_f (fun q => am_in_no1 ‹_› q.2)] at h; exact h
    · rw [am_rput_f (fun q => am_in_no2 h4 ‹_› q.2)] at h; exact h
    · exact (am_in_of h4 ‹_› ‹_›).1
    · exact (am_in_of h4 ‹_› ‹_›).2
    · rw [am_rput_t (by simp only [i_lt, i_le] at *; omega) (am_in_of h4 ‹_› ‹_›)] at h; exact h
  · exact h.elim
theorem wd_150 : Cond.fieldLink "LearnLoans$Rows" 19 "LearnLoans$Rows" "size" "I" ∈ am_ws := am_wsi (List.mem_of_getElem? (i := 150) (by decide +kernel)) (by decide +kernel)
theorem wd_481 : Cond.methodLink "LearnLoans$Rows" 22 yX3_put ∈ am_ws := am_wsi (List.mem_of_getElem? (i := 481) (by decide +kernel)) (by decide +kernel)
theorem wd_482 : Cond.instanceMethod yX3_put ∈ am_ws := am_wsi (List.mem_of_getElem? (i := 482) (by decide +kernel)) (by decide +kernel)
theorem wd_483 : Cond.selects "LearnLoans$Rows" yX3_put yX3_put ∈ am_ws := am_wsi (List.mem_of_getElem? (i := 483) (by decide +kernel)) (by decide +kernel)
theorem wd_64 : Cond.initialized "LearnLoans$Rows" ∈ am_ws := am_wsi (List.mem_of_getElem? (i := 64) (by decide +kernel)) (by decide +kernel)
theorem wd_484 : Cond.code yX3_put cX3_put 5 none ∈ am_ws := am_wsi (List.mem_of_getElem? (i := 484) (by decide +kernel)) (by decide +kernel)
theorem dX3_add_0 : decode cX3_add 0 = .ok (.aload_n 0, 1) := by decide +kernel
theorem dX3_add_1 : decode cX3_add 1 = .ok (.aload_n 0, 1) := by decide +kernel
theorem dX3_add_2 : decode cX3_add 2 = .ok (.getfield 19, 3) := by decide +kernel
theorem dX3_add_5 : decode cX3_add 5 = .ok (.iconst 0, 1) := by decide +kernel
theorem dX3_add_6 : decode cX3_add 6 = .ok (.iload_n 1, 1) := by decide +kernel
theorem dX3_add_7 : decode cX3_add 7 = .ok (.invokevirtual 22, 3) := by decide +kernel
theorem dX3_add_10 : decode cX3_add 10 = .ok (.aload_n 0, 1) := by decide +kernel
theorem dX3_add_11 : decode cX3_add 11 = .ok (.aload_n 0, 1) := by decide +kernel
theorem dX3_add_12 : decode cX3_add 12 = .ok (.getfield 19, 3) := by decide +kernel
theorem dX3_add_15 : decode cX3_add 15 = .ok (.iconst 1, 1) := by decide +kernel
theorem dX3_add_16 : decode cX3_add 16 = .ok (.iload_n 2, 1) := by decide +kernel
theorem dX3_add_17 : decode cX3_add 17 = .ok (.invokevirtual 22, 3) := by decide +kernel
theorem dX3_add_20 : decode cX3_add 20 = .ok (.aload_n 0, 1) := by decide +kernel
theorem dX3_add_21 : decode cX3_add 21 = .ok (.aload_n 0, 1) := by decide +kernel
theorem dX3_add_22 : decode cX3_add 22 = .ok (.getfield 19, 3) := by decide +kernel
theorem dX3_add_25 : decode cX3_add 25 = .ok (.iconst 2, 1) := by decide +kernel
theorem dX3_add_26 : decode cX3_add 26 = .ok (.iload_n 3, 1) := by decide +kernel
theorem dX3_add_27 : decode cX3_add 27 = .ok (.invokevirtual 22, 3) := by decide +kernel
theorem dX3_add_30 : decode cX3_add 30 = .ok (.aload_n 0, 1) := by decide +kernel
theorem dX3_add_31 : decode cX3_add 31 = .ok (.dup, 1) := by decide +kernel
theorem dX3_add_32 : decode cX3_add 32 = .ok (.getfield 19, 3) := by decide +kernel
theorem dX3_add_35 : decode cX3_add 35 = .ok (.iconst 1, 1) := by decide +kernel
theorem dX3_add_36 : decode cX3_add 36 = .ok (.iadd, 1) := by decide +kernel
theorem dX3_add_37 : decode cX3_add 37 = .ok (.putfield 19, 3) := by decide +kernel
theorem dX3_add_40 : decode cX3_add 40 = .ok (.aload_n 0, 1) := by decide +kernel
theorem dX3_add_41 : decode cX3_add 41 = .ok (.getfield 19, 3) := by decide +kernel
theorem dX3_add_44 : decode cX3_add 44 = .ok (.iconst 1, 1) := by decide +kernel
theorem dX3_add_45 : decode cX3_add 45 = .ok (.isub, 1) := by decide +kernel
theorem dX3_add_46 : decode cX3_add 46 = .ok (.ireturn, 1) := by decide +kernel
def kX3_add (live : am_E) (Ret : am_R) : am_code := [(0, am_aload 0 1), (1, am_aload 0 2), (2, am_getI live 3 2 5), (5, am_const (.int 0) 6), (6, am_iload 1 7), (7, am_callV live 3 3 TX3_put 10), (10, am_aload 0 11), (11, am_aload 0 12), (12, am_getI live 3 2 15), (15, am_const (.int 1) 16), (16, am_iload 2 17), (17, am_callV live 3 3 TX3_put 20), (20, am_aload 0 21), (21, am_aload 0 22), (22, am_getI live 3 2 25), (25, am_const (.int 2) 26), (26, am_iload 3 27), (27, am_callV live 3 3 TX3_put 30), (30, am_aload 0 31), (31, am_dup 32), (32, am_getI live 3 2 35), (35, am_const (.int 1) 36), (36, am_i2 (fun x y => x + y) 37), (37, am_putI live 3 2 40), (40, am_aload 0 41), (41, am_getI live 3 2 44), (44, am_const (.int 1) 45), (45, am_i2 (fun x y => x - y) 46), (46, am_retI Ret)]
theorem koX3_add (live : am_E) (Ret : am_R) : ∀ q ∈ kX3_add live Ret, am_ok RX3 cX3_add 4 (some .int) 1 24 live Ret q.1 q.2 :=
  am_kc (ak_aload_n dX3_add_0 rfl rfl) <|
  am_kc (ak_aload_n dX3_add_1 rfl rfl) <|
  am_kc (ak_getI (C := RX3) (T := TX3) (N := 3) rfl inX3w (by decide) rfl rfl rfl wd_150 dX3_add_2 rfl) <|
  am_kc (ak_iconst dX3_add_5 (by decide +kernel) rfl) <|
  am_kc (ak_iload_n dX3_add_6 rfl rfl) <|
  am_kc (ak_callV (C := RX3) (F := TX3) (N := 3) metX3_put rfl ⟨rfl, by decide +kernel, by decide +kernel, by decide +kernel⟩ (am_w5 wd_481 wd_482 wd_483 wd_64 wd_484) (by decide) dX3_add_7 rfl) <|
  am_kc (ak_aload_n dX3_add_10 rfl rfl) <|
  am_kc (ak_aload_n dX3_add_11 rfl rfl) <|
  am_kc (ak_getI (C := RX3) (T := TX3) (N := 3) rfl inX3w (by decide) rfl rfl rfl wd_150 dX3_add_12 rfl) <|
  am_kc (ak_iconst dX3_add_15 (by decide +kernel) rfl) <|
  am_kc (ak_iload_n dX3_add_16 rfl rfl) <|
  am_kc (ak_callV (C := RX3) (F := TX3) (N := 3) metX3_put rfl ⟨rfl, by decide +kernel, by decide +kernel, by decide +kernel⟩ (am_w5 wd_481 wd_482 wd_483 wd_64 wd_484) (by decide) dX3_add_17 rfl) <|
  am_kc (ak_aload_n dX3_add_20 rfl rfl) <|
  am_kc (ak_aload_n dX3_add_21 rfl rfl) <|
  am_kc (ak_getI (C := RX3) (T := TX3) (N := 3) rfl inX3w (by decide) rfl rfl rfl wd_150 dX3_add_22 rfl) <|
  am_kc (ak_iconst dX3_add_25 (by decide +kernel) rfl) <|
  am_kc (ak_iload_n dX3_add_26 rfl rfl) <|
  am_kc (ak_callV (C := RX3) (F := TX3) (N := 3) metX3_put rfl ⟨rfl, by decide +kernel, by decide +kernel, by decide +kernel⟩ (am_w5 wd_481 wd_482 wd_483 wd_64 wd_484) (by decide) dX3_add_27 rfl) <|
  am_kc (ak_aload_n dX3_add_30 rfl rfl) <|
  am_kc (ak_dup dX3_add_31 rfl) <|
  am_kc (ak_getI (C := RX3) (T := TX3) (N := 3) rfl inX3w (by decide) rfl rfl rfl wd_150 dX3_add_32 rfl) <|
  am_kc (ak_iconst dX3_add_35 (by decide +kernel) rfl) <|
  am_kc (ak_iadd dX3_add_36 rfl) <|
  am_kc (ak_putI (C := RX3) (T := TX3) (N := 3) rfl inX3w tyX3_ok nmX3 (by decide) rfl rfl rfl rfl (by decide +kernel) wd_150 dX3_add_37 rfl) <|
  am_kc (ak_aload_n dX3_add_40 rfl rfl) <|
  am_kc (ak_getI (C := RX3) (T := TX3) (N := 3) rfl inX3w (by decide) rfl rfl rfl wd_150 dX3_add_41 rfl) <|
  am_kc (ak_iconst dX3_add_44 (by decide +kernel) rfl) <|
  am_kc (ak_isub dX3_add_45 rfl) <|
  am_kc (ak_retI dX3_add_46) <| am_kn
def am_radd (M : am_M) (r c : Nat) (x y z : Int32) : am_M := am_wI (am_rput (am_rput (am_rput M r c (M.1 r 2) 0 x) r c (M.1 r 2) 1 y) r c (M.1 r 2) 2 z) r 2 (M.1 r 2 + 1)
def TX3_add : am_T := fun live as M R => match as with
  | [.ref r, .int x, .int y, .int z] => am_ex (live.2 r 0) (fun c => am_if (am_rc live r c) (R (some (.int (M.1 r 2 + 1 - 1))) (am_radd M r c x y z)))
  | _ => False
set_option maxRecDepth 100000 in
set_option maxHeartbeats 4000000 in
theorem metX3_add : am_Met yX3_add cX3_add 4 (some .int) (1) (24) TX3_add := by
  refine am_met (own := RX3) (by decide +kernel) rfl kX3_add koX3_add 60 (fun _ _ _ _ _ => none) (fun live as M Ret h => ?_) (fun _ _ _ _ _ _ _ _ hI => by cases hI)
  unfold TX3_add at h
  split at h
  · next r x y z =>
    refine ⟨Nat.le_of_ble_eq_true rfl, ?_⟩
    change am_wp _ _ _ _ [(0, Value.ref r), (1, Value.int x), (2, Value.int y), (3, Value.int z)] _ _
    have hh := am_qm h
    clear h
    obtain ⟨c, h2, h⟩ := hh
    have hh := am_if_mp h
    clear h
    obtain ⟨hb, h⟩ := hh
    obtain ⟨h1, h3, h4, h5⟩ := am_rc_spec hb
    repeat' (first | exact rfl | (with_reducible exact h1) | (with_reducible exact h2) | (with_reducible exact hb) | (refine Exists.intro _ (And.intro h2 ?_)) | apply And.intro | intro hx | (refine Exists.intro _ (And.intro rfl ?_)) | ((with_reducible change _ = true); simp only [h1, h2, hb, Bool.true_and]; rfl))
    all_goals try first | (with_reducible change am_tI _ _) | (change Ret _ _) | (change Ret _ _ _) | (change Exists _)
    all_goals try dsimp only at *
    all_goals try exact absurd ‹(1000 : Int64) = 0› (by decide)
    simp only [am_wI_1, am_rput_ne h5, and_self, if_true]
    exact h
  · exact h.elim
theorem dX3_dropLast_0 : decode cX3_dropLast 0 = .ok (.aload_n 0, 1) := by decide +kernel
theorem dX3_dropLast_1 : decode cX3_dropLast 1 = .ok (.getfield 19, 3) := by decide +kernel
theorem dX3_dropLast_4 : decode cX3_dropLast 4 = .ok (.ifCond .le 13, 3) := by decide +kernel
theorem dX3_dropLast_7 : decode cX3_dropLast 7 = .ok (.aload_n 0, 1) := by decide +kernel
theorem dX3_dropLast_8 : decode cX3_dropLast 8 = .ok (.dup, 1) := by decide +kernel
theorem dX3_dropLast_9 : decode cX3_dropLast 9 = .ok (.getfield 19, 3) := by decide +kernel
theorem dX3_dropLast_12 : decode cX3_dropLast 12 = .ok (.iconst 1, 1) := by decide +kernel
theorem dX3_dropLast_13 : decode cX3_dropLast 13 = .ok (.isub, 1) := by decide +kernel
theorem dX3_dropLast_14 : decode cX3_dropLast 14 = .ok (.putfield 19, 3) := by decide +kernel
theorem dX3_dropLast_17 : decode cX3_dropLast 17 = .ok (.return_, 1) := by decide +kernel
def kX3_dropLast (live : am_E) (Ret : am_R) : am_code := [(0, am_aload 0 1), (1, am_getI live 3 2 4), (4, am_if1 (fun x => x ≤ 0) 17 7), (7, am_aload 0 8), (8, am_dup 9), (9, am_getI live 3 2 12), (12, am_const (.int 1) 13), (13, am_i2 (fun x y => x - y) 14), (14, am_putI live 3 2 17), (17, am_retV Ret)]
theorem koX3_dropLast (live : am_E) (Ret : am_R) : ∀ q ∈ kX3_dropLast live Ret, am_ok RX3 cX3_dropLast 1 none 0 0 live Ret q.1 q.2 :=
  am_kc (ak_aload_n dX3_dropLast_0 rfl rfl) <|
  am_kc (ak_getI (C := RX3) (T := TX3) (N := 3) rfl inX3w (by decide) rfl rfl rfl wd_150 dX3_dropLast_1 rfl) <|
  am_kc (ak_if_le dX3_dropLast_4 (by decide +kernel) rfl) <|
  am_kc (ak_aload_n dX3_dropLast_7 rfl rfl) <|
  am_kc (ak_dup dX3_dropLast_8 rfl) <|
  am_kc (ak_getI (C := RX3) (T := TX3) (N := 3) rfl inX3w (by decide) rfl rfl rfl wd_150 dX3_dropLast_9 rfl) <|
  am_kc (ak_iconst dX3_dropLast_12 (by decide +kernel) rfl) <|
  am_kc (ak_isub dX3_dropLast_13 rfl) <|
  am_kc (ak_putI (C := RX3) (T := TX3) (N := 3) rfl inX3w tyX3_ok nmX3 (by decide) rfl rfl rfl rfl (by decide +kernel) wd_150 dX3_dropLast_14 rfl) <|
  am_kc (ak_retV dX3_dropLast_17) <| am_kn
def TX3_dropLast : am_T := fun live as M R => match as with
  | [.ref r] => am_if (am_isO live 3 r) (R none (am_wIc (0 < M.1 r 2) M r 2 (M.1 r 2 - 1)))
  | _ => False
set_option maxRecDepth 100000 in
set_option maxHeartbeats 4000000 in
theorem metX3_dropLast : am_Met yX3_dropLast cX3_dropLast 1 none (0) (0) TX3_dropLast := by
  refine am_met (own := RX3) (by decide +kernel) rfl kX3_dropLast koX3_dropLast 60 (fun _ _ _ _ _ => none) (fun live as M Ret h => ?_) (fun _ _ _ _ _ _ _ _ hI => by cases hI)
  unfold TX3_dropLast at h
  split at h
  · next r =>
    refine ⟨Nat.le_of_ble_eq_true rfl, ?_⟩
    change am_wp _ _ _ _ [(0, Value.ref r)] _ _
    have hh := am_if_mp h
    clear h
    obtain ⟨h1, h⟩ := hh
    repeat' (first | exact rfl | (with_reducible exact h1) | apply And.intro | intro hx | (refine Exists.intro _ (And.intro rfl ?_)) | ((with_reducible change _ = true); simp only [h1, Bool.true_and]; rfl))
    all_goals try first | (with_reducible change am_tI _ _) | (change Ret _ _) | (change Ret _ _ _) | (change Exists _)
    all_goals try dsimp only at *
    all_goals try exact absurd ‹(1000 : Int64) = 0› (by decide)
    · rw [am_wIc_f (by simp only [i_lt, i_le] at *; omega)] at h; exact h
    · rw [am_wIc_t (by simp only [i_lt, i_le] at *; omega)] at h; exact h
  · exact h.elim
theorem wd_847 : Cond.methodLink "LearnLoans$Rows" 26 Lib.Math.min.name ∈ am_ws := am_wsi (List.mem_of_getElem? (i := 847) (by decide +kernel)) (by decide +kernel)
theorem wd_848 : Cond.static Lib.Math.min.name ∈ am_ws := am_wsi (List.mem_of_getElem? (i := 848) (by decide +kernel)) (by decide +kernel)
theorem wd_849 : Cond.code Lib.Math.min.name Lib.Math.min.code 2 (some .int) ∈ am_ws := am_wsi (List.mem_of_getElem? (i := 849) (by decide +kernel)) (by decide +kernel)
theorem wd_850 : Cond.methodLink "LearnLoans$Rows" 32 arraycopyName ∈ am_ws := am_wsi (List.mem_of_getElem? (i := 850) (by decide +kernel)) (by decide +kernel)
theorem wd_498 : Cond.native arraycopyName ∈ am_ws := am_wsi (List.mem_of_getElem? (i := 498) (by decide +kernel)) (by decide +kernel)
theorem wd_497 : Cond.static arraycopyName ∈ am_ws := am_wsi (List.mem_of_getElem? (i := 497) (by decide +kernel)) (by decide +kernel)
theorem wd_69 : Cond.initialized "java/lang/System" ∈ am_ws := am_wsi (List.mem_of_getElem? (i := 69) (by decide +kernel)) (by decide +kernel)
theorem dX3_takeOver_0 : decode cX3_takeOver 0 = .ok (.aload_n 1, 1) := by decide +kernel
theorem dX3_takeOver_1 : decode cX3_takeOver 1 = .ok (.getfield 9, 3) := by decide +kernel
theorem dX3_takeOver_4 : decode cX3_takeOver 4 = .ok (.iconst 0, 1) := by decide +kernel
theorem dX3_takeOver_5 : decode cX3_takeOver 5 = .ok (.aload_n 0, 1) := by decide +kernel
theorem dX3_takeOver_6 : decode cX3_takeOver 6 = .ok (.getfield 9, 3) := by decide +kernel
theorem dX3_takeOver_9 : decode cX3_takeOver 9 = .ok (.iconst 0, 1) := by decide +kernel
theorem dX3_takeOver_10 : decode cX3_takeOver 10 = .ok (.aload_n 0, 1) := by decide +kernel
theorem dX3_takeOver_11 : decode cX3_takeOver 11 = .ok (.getfield 9, 3) := by decide +kernel
theorem dX3_takeOver_14 : decode cX3_takeOver 14 = .ok (.arraylength, 1) := by decide +kernel
theorem dX3_takeOver_15 : decode cX3_takeOver 15 = .ok (.aload_n 1, 1) := by decide +kernel
theorem dX3_takeOver_16 : decode cX3_takeOver 16 = .ok (.getfield 9, 3) := by decide +kernel
theorem dX3_takeOver_19 : decode cX3_takeOver 19 = .ok (.arraylength, 1) := by decide +kernel
theorem dX3_takeOver_20 : decode cX3_takeOver 20 = .ok (.invokestatic 26, 3) := by decide +kernel
theorem dX3_takeOver_23 : decode cX3_takeOver 23 = .ok (.invokestatic 32, 3) := by decide +kernel
theorem dX3_takeOver_26 : decode cX3_takeOver 26 = .ok (.aload_n 0, 1) := by decide +kernel
theorem dX3_takeOver_27 : decode cX3_takeOver 27 = .ok (.aload_n 1, 1) := by decide +kernel
theorem dX3_takeOver_28 : decode cX3_takeOver 28 = .ok (.getfield 19, 3) := by decide +kernel
theorem dX3_takeOver_31 : decode cX3_takeOver 31 = .ok (.putfield 19, 3) := by decide +kernel
theorem dX3_takeOver_34 : decode cX3_takeOver 34 = .ok (.return_, 1) := by decide +kernel
def kX3_takeOver (live : am_E) (Ret : am_R) : am_code := [(0, am_aload 1 1), (1, am_getR live 3 0 4), (4, am_const (.int 0) 5), (5, am_aload 0 6), (6, am_getR live 3 0 9), (9, am_const (.int 0) 10), (10, am_aload 0 11), (11, am_getR live 3 0 14), (14, am_alen live 0 15), (15, am_aload 1 16), (16, am_getR live 3 0 19), (19, am_alen live 0 20), (20, am_math2 (fun x y => if y < x then y else x) 31 23), (23, am_copyI live 31 26), (26, am_aload 0 27), (27, am_aload 1 28), (28, am_getI live 3 2 31), (31, am_putI live 3 2 34), (34, am_retV Ret)]
theorem koX3_takeOver (live : am_E) (Ret : am_R) : ∀ q ∈ kX3_takeOver live Ret, am_ok RX3 cX3_takeOver 2 none 1 31 live Ret q.1 q.2 :=
  am_kc (ak_aload_n dX3_takeOver_0 rfl rfl) <|
  am_kc (ak_getR (C := RX3) (T := TX3) (N := 3) rfl inX3w (by decide) rfl rfl rfl wd_147 dX3_takeOver_1 rfl) <|
  am_kc (ak_iconst dX3_takeOver_4 (by decide +kernel) rfl) <|
  am_kc (ak_aload_n dX3_takeOver_5 rfl rfl) <|
  am_kc (ak_getR (C := RX3) (T := TX3) (N := 3) rfl inX3w (by decide) rfl rfl rfl wd_147 dX3_takeOver_6 rfl) <|
  am_kc (ak_iconst dX3_takeOver_9 (by decide +kernel) rfl) <|
  am_kc (ak_aload_n dX3_takeOver_10 rfl rfl) <|
  am_kc (ak_getR (C := RX3) (T := TX3) (N := 3) rfl inX3w (by decide) rfl rfl rfl wd_147 dX3_takeOver_11 rfl) <|
  am_kc (ak_alen (t := 0) (fun _ => rfl) dX3_takeOver_14 rfl) <|
  am_kc (ak_aload_n dX3_takeOver_15 rfl rfl) <|
  am_kc (ak_getR (C := RX3) (T := TX3) (N := 3) rfl inX3w (by decide) rfl rfl rfl wd_147 dX3_takeOver_16 rfl) <|
  am_kc (ak_alen (t := 0) (fun _ => rfl) dX3_takeOver_19 rfl) <|
  am_kc (ak_imin (am_w4 wd_847 wd_848 wd_68 wd_849) (by decide) dX3_takeOver_20 rfl) <|
  am_kc (ak_copyI (am_w4 wd_850 wd_498 wd_497 wd_69) (by decide) dX3_takeOver_23 rfl) <|
  am_kc (ak_aload_n dX3_takeOver_26 rfl rfl) <|
  am_kc (ak_aload_n dX3_takeOver_27 rfl rfl) <|
  am_kc (ak_getI (C := RX3) (T := TX3) (N := 3) rfl inX3w (by decide) rfl rfl rfl wd_150 dX3_takeOver_28 rfl) <|
  am_kc (ak_putI (C := RX3) (T := TX3) (N := 3) rfl inX3w tyX3_ok nmX3 (by decide) rfl rfl rfl rfl (by decide +kernel) wd_150 dX3_takeOver_31 rfl) <|
  am_kc (ak_retV dX3_takeOver_34) <| am_kn
def TX3_takeOver : am_T := fun live as M R => match as with
  | [.ref r, .ref r2] => am_ex (live.2 r 0) (fun c => am_ex (live.2 r2 0) (fun c2 => am_if (am_rc live r c && am_rc live r2 c2 && Nat.beq (am_len c) (am_len c2)) (R none (am_wI (am_cI M c (va_cpy (M.1 c2) (M.1 c) 0 0 (am_len c))) r 2 (M.1 r2 2)))))
  | _ => False
set_option maxRecDepth 100000 in
set_option maxHeartbeats 4000000 in
theorem metX3_takeOver : am_Met yX3_takeOver cX3_takeOver 2 none (1) (31) TX3_takeOver := by
  refine am_met (own := RX3) (by decide +kernel) rfl kX3_takeOver koX3_takeOver 60 (fun _ _ _ _ _ => none) (fun live as M Ret h => ?_) (fun _ _ _ _ _ _ _ _ hI => by cases hI)
  unfold TX3_takeOver at h
  split at h
  · next r r2 =>
    refine ⟨Nat.le_of_ble_eq_true rfl, ?_⟩
    change am_wp _ _ _ _ [(0, Value.ref r), (1, Value.ref r2)] _ _
    have hh := am_qm h
    clear h
    obtain ⟨c, h2, h⟩ := hh
    have hh := am_qm h
    clear h
    obtain ⟨c2, h6, h⟩ := hh
    have hh := am_if_mp h
    clear h
    obtain ⟨hb, h⟩ := hh
    simp only [Bool.and_eq_true] at hb
    obtain ⟨⟨hb, hc⟩, he⟩ := hb
    have he := Nat.eq_of_beq_eq_true he
    obtain ⟨h1, h3, h4, h5⟩ := am_rc_spec hb
    obtain ⟨h7, h8, h9, h10⟩ := am_rc_spec hc
    have hne := am_OA h7 h3
    have hn : (Int32.ofNat (am_len c2)).toInt = (am_len c2 : Int) := i_nat (by omega)
    have hn2 : (Int32.ofNat (am_len c2)).toNatClampNeg = am_len c2 := by have := i_clamp (x := Int32.ofNat (am_len c2)) (by omega); omega
    repeat' (first | exact rfl | (with_reducible exact h1) | (with_reducible exact h2) | (with_reducible exact h3) | (with_reducible exact h6) | (with_reducible exact h7) | (with_reducible exact h8) | (refine Exists.intro _ (Exists.intro _ (And.intro h2 (And.intro h6 ?_)))) | (refine Exists.intro _ (And.intro h2 ?_)) | (refine Exists.intro _ (And.intro h6 ?_)) | apply And.intro | intro hx | (refine Exists.intro _ (And.intro rfl ?_)) | ((with_reducible change _ = true); simp only [h1, h2, h3, h6, h7, h8, Bool.true_and]; rfl))
    all_goals try first | (with_reducible change am_tI _ _) | (change Ret _ _) | (change Ret _ _ _) | (change Exists _)
    all_goals try dsimp only at *
    all_goals try exact absurd ‹(1000 : Int64) = 0› (by decide)
    all_goals simp only [he, ite_self, hn, Int32.toInt_zero]
    · omega
    · omega
    · omega
    · omega
    · omega
    · simp only [he, hn2, am_cI_1, hne, if_false] at h ⊢
      exact h
  · exact h.elim
theorem wd_880 : Cond.constantLong "LearnLoans$Rows" 38 31 ∈ am_ws := am_wsi (List.mem_of_getElem? (i := 880) (by decide +kernel)) (by decide +kernel)
theorem dX3_mixed_0 : decode cX3_mixed 0 = .ok (.aload_n 0, 1) := by decide +kernel
theorem dX3_mixed_1 : decode cX3_mixed 1 = .ok (.getfield 19, 3) := by decide +kernel
theorem dX3_mixed_4 : decode cX3_mixed 4 = .ok (.aload_n 0, 1) := by decide +kernel
theorem dX3_mixed_5 : decode cX3_mixed 5 = .ok (.getfield 15, 3) := by decide +kernel
theorem dX3_mixed_8 : decode cX3_mixed 8 = .ok (.imul, 1) := by decide +kernel
theorem dX3_mixed_9 : decode cX3_mixed 9 = .ok (.aload_n 0, 1) := by decide +kernel
theorem dX3_mixed_10 : decode cX3_mixed 10 = .ok (.getfield 9, 3) := by decide +kernel
theorem dX3_mixed_13 : decode cX3_mixed 13 = .ok (.arraylength, 1) := by decide +kernel
theorem dX3_mixed_14 : decode cX3_mixed 14 = .ok (.invokestatic 26, 3) := by decide +kernel
theorem dX3_mixed_17 : decode cX3_mixed 17 = .ok (.istore_n 3, 1) := by decide +kernel
theorem dX3_mixed_18 : decode cX3_mixed 18 = .ok (.iconst 0, 1) := by decide +kernel
theorem dX3_mixed_19 : decode cX3_mixed 19 = .ok (.istore 4, 2) := by decide +kernel
theorem dX3_mixed_21 : decode cX3_mixed 21 = .ok (.iload 4, 2) := by decide +kernel
theorem dX3_mixed_23 : decode cX3_mixed 23 = .ok (.iload_n 3, 1) := by decide +kernel
theorem dX3_mixed_24 : decode cX3_mixed 24 = .ok (.if_icmp .ge 24, 3) := by decide +kernel
theorem dX3_mixed_27 : decode cX3_mixed 27 = .ok (.ldc2_w 38, 3) := by decide +kernel
theorem dX3_mixed_30 : decode cX3_mixed 30 = .ok (.lload_n 1, 1) := by decide +kernel
theorem dX3_mixed_31 : decode cX3_mixed 31 = .ok (.lmul, 1) := by decide +kernel
theorem dX3_mixed_32 : decode cX3_mixed 32 = .ok (.aload_n 0, 1) := by decide +kernel
theorem dX3_mixed_33 : decode cX3_mixed 33 = .ok (.getfield 9, 3) := by decide +kernel
theorem dX3_mixed_36 : decode cX3_mixed 36 = .ok (.iload 4, 2) := by decide +kernel
theorem dX3_mixed_38 : decode cX3_mixed 38 = .ok (.iaload, 1) := by decide +kernel
theorem dX3_mixed_39 : decode cX3_mixed 39 = .ok (.i2l, 1) := by decide +kernel
theorem dX3_mixed_40 : decode cX3_mixed 40 = .ok (.ladd, 1) := by decide +kernel
theorem dX3_mixed_41 : decode cX3_mixed 41 = .ok (.lstore_n 1, 1) := by decide +kernel
theorem dX3_mixed_42 : decode cX3_mixed 42 = .ok (.iinc 4 1, 3) := by decide +kernel
theorem dX3_mixed_45 : decode cX3_mixed 45 = .ok (.goto (-24), 3) := by decide +kernel
theorem dX3_mixed_48 : decode cX3_mixed 48 = .ok (.lload_n 1, 1) := by decide +kernel
theorem dX3_mixed_49 : decode cX3_mixed 49 = .ok (.lreturn, 1) := by decide +kernel
def kX3_mixed (live : am_E) (Ret : am_R) : am_code := [(0, am_aload 0 1), (1, am_getI live 3 2 4), (4, am_aload 0 5), (5, am_getI live 3 1 8), (8, am_i2 (fun x y => x * y) 9), (9, am_aload 0 10), (10, am_getR live 3 0 13), (13, am_alen live 0 14), (14, am_math2 (fun x y => if y < x then y else x) 23 17), (17, am_istore 3 5 18), (18, am_const (.int 0) 19), (19, am_istore 4 5 21), (21, am_iload 4 23), (23, am_iload 3 24), (24, am_if2 (fun x y => y ≤ x) 48 27), (27, am_const (.long 31) 30), (30, am_lload 1 31), (31, am_l2 (fun x y => x * y) 32), (32, am_aload 0 33), (33, am_getR live 3 0 36), (36, am_iload 4 38), (38, am_ald live 0 39), (39, am_i2l 40), (40, am_l2 (fun x y => x + y) 41), (41, am_lstore 1 5 42), (42, am_iinc 4 5 1 45), (45, am_goto 21), (48, am_lload 1 49), (49, am_retL Ret)]
theorem koX3_mixed (live : am_E) (Ret : am_R) : ∀ q ∈ kX3_mixed live Ret, am_ok RX3 cX3_mixed 5 (some .long) 1 23 live Ret q.1 q.2 :=
  am_kc (ak_aload_n dX3_mixed_0 rfl rfl) <|
  am_kc (ak_getI (C := RX3) (T := TX3) (N := 3) rfl inX3w (by decide) rfl rfl rfl wd_150 dX3_mixed_1 rfl) <|
  am_kc (ak_aload_n dX3_mixed_4 rfl rfl) <|
  am_kc (ak_getI (C := RX3) (T := TX3) (N := 3) rfl inX3w (by decide) rfl rfl rfl wd_148 dX3_mixed_5 rfl) <|
  am_kc (ak_imul dX3_mixed_8 rfl) <|
  am_kc (ak_aload_n dX3_mixed_9 rfl rfl) <|
  am_kc (ak_getR (C := RX3) (T := TX3) (N := 3) rfl inX3w (by decide) rfl rfl rfl wd_147 dX3_mixed_10 rfl) <|
  am_kc (ak_alen (t := 0) (fun _ => rfl) dX3_mixed_13 rfl) <|
  am_kc (ak_imin (am_w4 wd_847 wd_848 wd_68 wd_849) (by decide) dX3_mixed_14 rfl) <|
  am_kc (ak_istore_n dX3_mixed_17 rfl rfl) <|
  am_kc (ak_iconst dX3_mixed_18 (by decide +kernel) rfl) <|
  am_kc (ak_istore dX3_mixed_19 rfl) <|
  am_kc (ak_iload dX3_mixed_21 rfl) <|
  am_kc (ak_iload_n dX3_mixed_23 rfl rfl) <|
  am_kc (ak_icmp_ge dX3_mixed_24 (by decide +kernel) rfl) <|
  am_kc (ak_ldc2 wd_880 dX3_mixed_27 rfl) <|
  am_kc (ak_lload_n dX3_mixed_30 rfl rfl) <|
  am_kc (ak_lmul dX3_mixed_31 rfl) <|
  am_kc (ak_aload_n dX3_mixed_32 rfl rfl) <|
  am_kc (ak_getR (C := RX3) (T := TX3) (N := 3) rfl inX3w (by decide) rfl rfl rfl wd_147 dX3_mixed_33 rfl) <|
  am_kc (ak_iload dX3_mixed_36 rfl) <|
  am_kc (ak_iald (t := 0) (fun _ => rfl) rfl dX3_mixed_38 rfl) <|
  am_kc (ak_i2l dX3_mixed_39 rfl) <|
  am_kc (ak_ladd dX3_mixed_40 rfl) <|
  am_kc (ak_lstore_n dX3_mixed_41 rfl rfl) <|
  am_kc (ak_iinc dX3_mixed_42 (by decide +kernel) rfl) <|
  am_kc (ak_goto dX3_mixed_45 (by decide +kernel)) <|
  am_kc (ak_lload_n dX3_mixed_48 rfl rfl) <|
  am_kc (ak_retL dX3_mixed_49) <| am_kn
def TX3_mixed : am_T := fun live as M R => match as with
  | [.ref r, .long x] => am_ex (live.2 r 0) (fun c => am_if (am_rc live r c) (∀ y, R (some (.long y)) M))
  | _ => False
def JX3_mixed : am_E → List Value → am_M → am_R → am_inv := fun live as M0 _ pc => match as with
  | [.ref r, .long x] => (match live.2 r 0 with
    | some c => (match pc with
      | 21 => some ([0, 1, 3, 4], fun k L st M => ∃ (y : Int64) (e i : Int32), L = [(0, .ref r), (1, .long y), (3, .int e), (4, .int i)] ∧ st = [] ∧ k = ((am_len c + 1 - i.toInt).toNat, 0) ∧ 0 ≤ i.toInt ∧ e.toInt ≤ am_len c ∧ M = M0)
      | _ => none)
    | none => none)
  | _ => none
set_option maxRecDepth 100000 in
set_option maxHeartbeats 4000000 in
theorem metX3_mixed : am_Met yX3_mixed cX3_mixed 5 (some .long) (1) (23) TX3_mixed := by
  refine am_met (own := RX3) (by decide +kernel) rfl kX3_mixed koX3_mixed 60 JX3_mixed ?_ ?_
  · intro live as M Ret h
    unfold TX3_mixed at h
    split at h
    · next r x =>
      refine ⟨Nat.le_of_ble_eq_true rfl, ?_⟩
      change am_wp _ _ _ _ [(0, Value.ref r), (1, Value.long x)] _ _
      have hh := am_qm h
      clear h
      obtain ⟨c, h2, h⟩ := hh
      have hh := am_if_mp h
      clear h
      obtain ⟨hb, h⟩ := hh
      obtain ⟨h1, h3, h4, h5⟩ := am_rc_spec hb
      have hn : (Int32.ofNat (am_len c)).toInt = (am_len c : Int) := i_nat (by omega)
      have hJ : ∀ pc, JX3_mixed live [.ref r, .long x] M Ret pc = (match pc with
        | 21 => some ([0, 1, 3, 4], fun k L st M' => ∃ (y : Int64) (e i : Int32), L = [(0, .ref r), (1, .long y), (3, .int e), (4, .int i)] ∧ st = [] ∧ k = ((am_len c + 1 - i.toInt).toNat, 0) ∧ 0 ≤ i.toInt ∧ e.toInt ≤ am_len c ∧ M' = M)
        | _ => none) := fun pc => by unfold JX3_mixed; simp only [h2]
      rw [show JX3_mixed live [.ref r, .long x] M Ret = _ from funext hJ]
      repeat' (first | exact rfl | (with_reducible exact h1) | (with_reducible exact h2) | (with_reducible exact h3) | (refine Exists.intro _ (And.intro h2 ?_)) | apply And.intro | intro hx | (refine Exists.intro _ (And.intro rfl ?_)) | ((with_reducible change _ = true); simp only [h1, h2, h3, Bool.true_and]; rfl))
      all_goals try first | (with_reducible change am_tI _ _) | (change Ret _ _) | (change Ret _ _ _) | (change Exists _)
      all_goals try dsimp only at *
      all_goals try exact absurd ‹(1000 : Int64) = 0› (by decide)
      refine ⟨_, _, _, _, rfl, rfl, rfl, by decide, ?_, rfl⟩
      split
      · omega
      · simp only [i_lt] at *; omega
    · exact h.elim
  · intro live as M0 Ret h k pc I hI L st M hi
    unfold TX3_mixed at h
    split at h
    · next r x =>
      have hh := am_qm h
      clear h
      obtain ⟨c, h2, h⟩ := hh
      have hh := am_if_mp h
      clear h
      obtain ⟨hb, h⟩ := hh
      obtain ⟨h1, h3, h4, h5⟩ := am_rc_spec hb
      have hJ : ∀ pc, JX3_mixed live [.ref r, .long x] M0 Ret pc = (match pc with
        | 21 => some ([0, 1, 3, 4], fun k L st M' => ∃ (y : Int64) (e i : Int32), L = [(0, .ref r), (1, .long y), (3, .int e), (4, .int i)] ∧ st = [] ∧ k = ((am_len c + 1 - i.toInt).toNat, 0) ∧ 0 ≤ i.toInt ∧ e.toInt ≤ am_len c ∧ M' = M0)
        | _ => none) := fun pc => by unfold JX3_mixed; simp only [h2]
      rw [show JX3_mixed live [.ref r, .long x] M0 Ret = _ from funext hJ] at hI ⊢
      change (match pc with | 21 => _ | _ => none) = _ at hI
      split at hI
      · cases hI
        obtain ⟨y, e, i, rfl, rfl, rfl, e1, e2, rfl⟩ := hi
        repeat' (first | exact rfl | (with_reducible exact h1) | (with_reducible exact h2) | (with_reducible exact h3) | (refine Exists.intro _ (And.intro h2 ?_)) | apply And.intro | intro hx | (refine Exists.intro _ (And.intro rfl ?_)) | ((with_reducible change _ = true); simp only [h1, h2, h3, Bool.true_and]; rfl))
        all_goals try first | (with_reducible change am_tI _ _) | (change Ret _ _) | (change Ret _ _ _) | (change Exists _)
        all_goals try dsimp only at *
        all_goals try exact absurd ‹(1000 : Int64) = 0› (by decide)
        · exact h _
        · omega
        · simp only [i_lt, i_le] at *; omega
        · refine ⟨_, Or.inl ?_, _, _, i + 1, rfl, rfl, rfl, ?_, e2, rfl⟩
          all_goals simp only [i_lt, i_le] at *
          all_goals
            have hi := i_add (x := i) (y := 1) (by simp only [Int32.reduceToInt]; omega) (by simp only [Int32.reduceToInt]; omega)
            simp only [Int32.reduceToInt] at hi
            omega
      · cases hI
    · exact h.elim
end
section
/-! People and House: what is read; an act more -/
theorem wd_113 : Cond.fieldLink "LearnLoans$People" 21 "LearnLoans$People" "first" "[I" ∈ am_ws := am_wsi (List.mem_of_getElem? (i := 113) (by decide +kernel)) (by decide +kernel)
theorem wd_119 : Cond.fieldLink "LearnLoans$People" 30 "LearnLoans$People" "secondKnown" "[I" ∈ am_ws := am_wsi (List.mem_of_getElem? (i := 119) (by decide +kernel)) (by decide +kernel)
theorem wd_117 : Cond.fieldLink "LearnLoans$People" 27 "LearnLoans$People" "second" "[I" ∈ am_ws := am_wsi (List.mem_of_getElem? (i := 117) (by decide +kernel)) (by decide +kernel)
theorem wd_115 : Cond.fieldLink "LearnLoans$People" 24 "LearnLoans$People" "firstKnown" "[I" ∈ am_ws := am_wsi (List.mem_of_getElem? (i := 115) (by decide +kernel)) (by decide +kernel)
theorem dX2_earned_0 : decode cX2_earned 0 = .ok (.iload_n 1, 1) := by decide +kernel
theorem dX2_earned_1 : decode cX2_earned 1 = .ok (.bipush 40, 2) := by decide +kernel
theorem dX2_earned_3 : decode cX2_earned 3 = .ok (.imul, 1) := by decide +kernel
theorem dX2_earned_4 : decode cX2_earned 4 = .ok (.iload_n 2, 1) := by decide +kernel
theorem dX2_earned_5 : decode cX2_earned 5 = .ok (.iadd, 1) := by decide +kernel
theorem dX2_earned_6 : decode cX2_earned 6 = .ok (.istore 4, 2) := by decide +kernel
theorem dX2_earned_8 : decode cX2_earned 8 = .ok (.iload 4, 2) := by decide +kernel
theorem dX2_earned_10 : decode cX2_earned 10 = .ok (.ifCond .lt 13, 3) := by decide +kernel
theorem dX2_earned_13 : decode cX2_earned 13 = .ok (.iload 4, 2) := by decide +kernel
theorem dX2_earned_15 : decode cX2_earned 15 = .ok (.aload_n 0, 1) := by decide +kernel
theorem dX2_earned_16 : decode cX2_earned 16 = .ok (.getfield 21, 3) := by decide +kernel
theorem dX2_earned_19 : decode cX2_earned 19 = .ok (.arraylength, 1) := by decide +kernel
theorem dX2_earned_20 : decode cX2_earned 20 = .ok (.if_icmp .lt 5, 3) := by decide +kernel
theorem dX2_earned_23 : decode cX2_earned 23 = .ok (.iconst (-1), 1) := by decide +kernel
theorem dX2_earned_24 : decode cX2_earned 24 = .ok (.ireturn, 1) := by decide +kernel
theorem dX2_earned_25 : decode cX2_earned 25 = .ok (.aload_n 0, 1) := by decide +kernel
theorem dX2_earned_26 : decode cX2_earned 26 = .ok (.getfield 30, 3) := by decide +kernel
theorem dX2_earned_29 : decode cX2_earned 29 = .ok (.iload 4, 2) := by decide +kernel
theorem dX2_earned_31 : decode cX2_earned 31 = .ok (.iaload, 1) := by decide +kernel
theorem dX2_earned_32 : decode cX2_earned 32 = .ok (.iconst (-1), 1) := by decide +kernel
theorem dX2_earned_33 : decode cX2_earned 33 = .ok (.if_icmp .eq 22, 3) := by decide +kernel
theorem dX2_earned_36 : decode cX2_earned 36 = .ok (.aload_n 0, 1) := by decide +kernel
theorem dX2_earned_37 : decode cX2_earned 37 = .ok (.getfield 30, 3) := by decide +kernel
theorem dX2_earned_40 : decode cX2_earned 40 = .ok (.iload 4, 2) := by decide +kernel
theorem dX2_earned_42 : decode cX2_earned 42 = .ok (.iaload, 1) := by decide +kernel
theorem dX2_earned_43 : decode cX2_earned 43 = .ok (.iload_n 3, 1) := by decide +kernel
theorem dX2_earned_44 : decode cX2_earned 44 = .ok (.if_icmp .gt 11, 3) := by decide +kernel
theorem dX2_earned_47 : decode cX2_earned 47 = .ok (.aload_n 0, 1) := by decide +kernel
theorem dX2_earned_48 : decode cX2_earned 48 = .ok (.getfield 27, 3) := by decide +kernel
theorem dX2_earned_51 : decode cX2_earned 51 = .ok (.iload 4, 2) := by decide +kernel
theorem dX2_earned_53 : decode cX2_earned 53 = .ok (.iaload, 1) := by decide +kernel
theorem dX2_earned_54 : decode cX2_earned 54 = .ok (.ireturn, 1) := by decide +kernel
theorem dX2_earned_55 : decode cX2_earned 55 = .ok (.aload_n 0, 1) := by decide +kernel
theorem dX2_earned_56 : decode cX2_earned 56 = .ok (.getfield 24, 3) := by decide +kernel
theorem dX2_earned_59 : decode cX2_earned 59 = .ok (.iload 4, 2) := by decide +kernel
theorem dX2_earned_61 : decode cX2_earned 61 = .ok (.iaload, 1) := by decide +kernel
theorem dX2_earned_62 : decode cX2_earned 62 = .ok (.iconst (-1), 1) := by decide +kernel
theorem dX2_earned_63 : decode cX2_earned 63 = .ok (.if_icmp .eq 24, 3) := by decide +kernel
theorem dX2_earned_66 : decode cX2_earned 66 = .ok (.aload_n 0, 1) := by decide +kernel
theorem dX2_earned_67 : decode cX2_earned 67 = .ok (.getfield 24, 3) := by decide +kernel
theorem dX2_earned_70 : decode cX2_earned 70 = .ok (.iload 4, 2) := by decide +kernel
theorem dX2_earned_72 : decode cX2_earned 72 = .ok (.iaload, 1) := by decide +kernel
theorem dX2_earned_73 : decode cX2_earned 73 = .ok (.iload_n 3, 1) := by decide +kernel
theorem dX2_earned_74 : decode cX2_earned 74 = .ok (.if_icmp .gt 13, 3) := by decide +kernel
theorem dX2_earned_77 : decode cX2_earned 77 = .ok (.aload_n 0, 1) := by decide +kernel
theorem dX2_earned_78 : decode cX2_earned 78 = .ok (.getfield 21, 3) := by decide +kernel
theorem dX2_earned_81 : decode cX2_earned 81 = .ok (.iload 4, 2) := by decide +kernel
theorem dX2_earned_83 : decode cX2_earned 83 = .ok (.iaload, 1) := by decide +kernel
theorem dX2_earned_84 : decode cX2_earned 84 = .ok (.goto 4, 3) := by decide +kernel
theorem dX2_earned_87 : decode cX2_earned 87 = .ok (.iconst (-1), 1) := by decide +kernel
theorem dX2_earned_88 : decode cX2_earned 88 = .ok (.ireturn, 1) := by decide +kernel
def kX2_earned (live : am_E) (Ret : am_R) : am_code := [(0, am_iload 1 1), (1, am_const (.int 40) 3), (3, am_i2 (fun x y => x * y) 4), (4, am_iload 2 5), (5, am_i2 (fun x y => x + y) 6), (6, am_istore 4 5 8), (8, am_iload 4 10), (10, am_if1 (fun x => x < 0) 23 13), (13, am_iload 4 15), (15, am_aload 0 16), (16, am_getR live 2 3 19), (19, am_alen live 0 20), (20, am_if2 (fun x y => x < y) 25 23), (23, am_const (.int (-1)) 24), (24, am_retI Ret), (25, am_aload 0 26), (26, am_getR live 2 6 29), (29, am_iload 4 31), (31, am_ald live 0 32), (32, am_const (.int (-1)) 33), (33, am_if2 (fun x y => x = y) 55 36), (36, am_aload 0 37), (37, am_getR live 2 6 40), (40, am_iload 4 42), (42, am_ald live 0 43), (43, am_iload 3 44), (44, am_if2 (fun x y => y < x) 55 47), (47, am_aload 0 48), (48, am_getR live 2 5 51), (51, am_iload 4 53), (53, am_ald live 0 54), (54, am_retI Ret), (55, am_aload 0 56), (56, am_getR live 2 4 59), (59, am_iload 4 61), (61, am_ald live 0 62), (62, am_const (.int (-1)) 63), (63, am_if2 (fun x y => x = y) 87 66), (66, am_aload 0 67), (67, am_getR live 2 4 70), (70, am_iload 4 72), (72, am_ald live 0 73), (73, am_iload 3 74), (74, am_if2 (fun x y => y < x) 87 77), (77, am_aload 0 78), (78, am_getR live 2 3 81), (81, am_iload 4 83), (83, am_ald live 0 84), (84, am_goto 88), (87, am_const (.int (-1)) 88), (88, am_retI Ret)]
theorem koX2_earned (live : am_E) (Ret : am_R) : ∀ q ∈ kX2_earned live Ret, am_ok RX2 cX2_earned 5 (some .int) 0 0 live Ret q.1 q.2 :=
  am_kc (ak_iload_n dX2_earned_0 rfl rfl) <|
  am_kc (ak_bipush dX2_earned_1 (by decide +kernel) rfl) <|
  am_kc (ak_imul dX2_earned_3 rfl) <|
  am_kc (ak_iload_n dX2_earned_4 rfl rfl) <|
  am_kc (ak_iadd dX2_earned_5 rfl) <|
  am_kc (ak_istore dX2_earned_6 rfl) <|
  am_kc (ak_iload dX2_earned_8 rfl) <|
  am_kc (ak_if_lt dX2_earned_10 (by decide +kernel) rfl) <|
  am_kc (ak_iload dX2_earned_13 rfl) <|
  am_kc (ak_aload_n dX2_earned_15 rfl rfl) <|
  am_kc (ak_getR (C := RX2) (T := TX2) (N := 8) rfl inX2w (by decide) rfl rfl rfl wd_113 dX2_earned_16 rfl) <|
  am_kc (ak_alen (t := 0) (fun _ => rfl) dX2_earned_19 rfl) <|
  am_kc (ak_icmp_lt dX2_earned_20 (by decide +kernel) rfl) <|
  am_kc (ak_iconst dX2_earned_23 (by decide +kernel) rfl) <|
  am_kc (ak_retI dX2_earned_24) <|
  am_kc (ak_aload_n dX2_earned_25 rfl rfl) <|
  am_kc (ak_getR (C := RX2) (T := TX2) (N := 8) rfl inX2w (by decide) rfl rfl rfl wd_119 dX2_earned_26 rfl) <|
  am_kc (ak_iload dX2_earned_29 rfl) <|
  am_kc (ak_iald (t := 0) (fun _ => rfl) rfl dX2_earned_31 rfl) <|
  am_kc (ak_iconst dX2_earned_32 (by decide +kernel) rfl) <|
  am_kc (ak_icmp_eq dX2_earned_33 (by decide +kernel) rfl) <|
  am_kc (ak_aload_n dX2_earned_36 rfl rfl) <|
  am_kc (ak_getR (C := RX2) (T := TX2) (N := 8) rfl inX2w (by decide) rfl rfl rfl wd_119 dX2_earned_37 rfl) <|
  am_kc (ak_iload dX2_earned_40 rfl) <|
  am_kc (ak_iald (t := 0) (fun _ => rfl) rfl dX2_earned_42 rfl) <|
  am_kc (ak_iload_n dX2_earned_43 rfl rfl) <|
  am_kc (ak_icmp_gt dX2_earned_44 (by decide +kernel) rfl) <|
  am_kc (ak_aload_n dX2_earned_47 rfl rfl) <|
  am_kc (ak_getR (C := RX2) (T := TX2) (N := 8) rfl inX2w (by decide) rfl rfl rfl wd_117 dX2_earned_48 rfl) <|
  am_kc (ak_iload dX2_earned_51 rfl) <|
  am_kc (ak_iald (t := 0) (fun _ => rfl) rfl dX2_earned_53 rfl) <|
  am_kc (ak_retI dX2_earned_54) <|
  am_kc (ak_aload_n dX2_earned_55 rfl rfl) <|
  am_kc (ak_getR (C := RX2) (T := TX2) (N := 8) rfl inX2w (by decide) rfl rfl rfl wd_115 dX2_earned_56 rfl) <|
  am_kc (ak_iload dX2_earned_59 rfl) <|
  am_kc (ak_iald (t := 0) (fun _ => rfl) rfl dX2_earned_61 rfl) <|
  am_kc (ak_iconst dX2_earned_62 (by decide +kernel) rfl) <|
  am_kc (ak_icmp_eq dX2_earned_63 (by decide +kernel) rfl) <|
  am_kc (ak_aload_n dX2_earned_66 rfl rfl) <|
  am_kc (ak_getR (C := RX2) (T := TX2) (N := 8) rfl inX2w (by decide) rfl rfl rfl wd_115 dX2_earned_67 rfl) <|
  am_kc (ak_iload dX2_earned_70 rfl) <|
  am_kc (ak_iald (t := 0) (fun _ => rfl) rfl dX2_earned_72 rfl) <|
  am_kc (ak_iload_n dX2_earned_73 rfl rfl) <|
  am_kc (ak_icmp_gt dX2_earned_74 (by decide +kernel) rfl) <|
  am_kc (ak_aload_n dX2_earned_77 rfl rfl) <|
  am_kc (ak_getR (C := RX2) (T := TX2) (N := 8) rfl inX2w (by decide) rfl rfl rfl wd_113 dX2_earned_78 rfl) <|
  am_kc (ak_iload dX2_earned_81 rfl) <|
  am_kc (ak_iald (t := 0) (fun _ => rfl) rfl dX2_earned_83 rfl) <|
  am_kc (ak_goto dX2_earned_84 (by decide +kernel)) <|
  am_kc (ak_iconst dX2_earned_87 (by decide +kernel) rfl) <|
  am_kc (ak_retI dX2_earned_88) <| am_kn
def am_earn (M : am_M) (i k : Int32) : Int32 := if ¬ (0 ≤ i.toInt ∧ i.toInt < 480) then -1 else if M.1 28 i.toNatClampNeg ≠ -1 ∧ M.1 28 i.toNatClampNeg ≤ k then M.1 27 i.toNatClampNeg else if M.1 26 i.toNatClampNeg ≠ -1 ∧ M.1 26 i.toNatClampNeg ≤ k then M.1 25 i.toNatClampNeg else -1
theorem am_earn_no {M : am_M} {i k : Int32} (h : ¬ (0 ≤ i.toInt ∧ i.toInt < 480)) : am_earn M i k = -1 := if_pos h
theorem am_earn_2 {M : am_M} {i k : Int32} (h : 0 ≤ i.toInt ∧ i.toInt < 480) (h2 : ¬ M.1 28 i.toNatClampNeg = -1) (h3 : M.1 28 i.toNatClampNeg ≤ k) : am_earn M i k = M.1 27 i.toNatClampNeg := by
  unfold am_earn
  rw [if_neg (not_not_intro h), if_pos ⟨h2, h3⟩]
theorem am_earn_1 {M : am_M} {i k : Int32} (h : 0 ≤ i.toInt ∧ i.toInt < 480) (h2 : ¬ (M.1 28 i.toNatClampNeg ≠ -1 ∧ M.1 28 i.toNatClampNeg ≤ k)) : am_earn M i k = if M.1 26 i.toNatClampNeg ≠ -1 ∧ M.1 26 i.toNatClampNeg ≤ k then M.1 25 i.toNatClampNeg else -1 := by
  unfold am_earn
  rw [if_neg (not_not_intro h), if_neg h2]
def TX2_earned : am_T := fun live as M R => match as with
  | [.ref n, .int p, .int y, .int k] => am_mn live ∧ n = 21 ∧ R (some (.int (am_earn M (p * 40 + y) k))) M
  | _ => False
set_option maxRecDepth 100000 in
set_option maxHeartbeats 4000000 in
theorem metX2_earned : am_Met yX2_earned cX2_earned 5 (some .int) (0) (0) TX2_earned := by
  refine am_met (own := RX2) (by decide +kernel) rfl kX2_earned koX2_earned 200 (fun _ _ _ _ _ => none) (fun live as M Ret h => ?_) (fun _ _ _ _ _ _ _ _ hI => by cases hI)
  unfold TX2_earned at h
  split at h
  · next n p y k =>
    refine ⟨Nat.le_of_ble_eq_true rfl, ?_⟩
    change am_wp _ _ _ _ [(0, Value.ref n), (1, Value.int p), (2, Value.int y), (3, Value.int k)] _ _
    obtain ⟨⟨i1, i2, rfl⟩, rfl, h⟩ := h
    have hn : (Int32.ofNat (am_len 25)).toInt = 480 := by decide +kernel
    have l25 : am_len 25 = 480 := rfl
    have l26 : am_len 26 = 480 := rfl
    have l27 : am_len 27 = 480 := rfl
    have l28 : am_len 28 = 480 := rfl
    repeat' (first | exact rfl | apply And.intro | intro hx | (refine Exists.intro _ (And.intro rfl ?_)))
    all_goals try first | (with_reducible change am_tI _ _) | (change Ret _ _) | (change Ret _ _ _) | (change Exists _)
    all_goals try dsimp only at *
    all_goals try exact absurd ‹(1000 : Int64) = 0› (by decide)
    all_goals generalize p * 40 + y = i at *
    all_goals simp only [i_lt, i_le, hn, l25, l26, l27, l28, Int32.toInt_zero] at *
    all_goals first | omega | grind [am_earn, i_le]
  · exact h.elim
theorem wd_108 : Cond.fieldLink "LearnLoans$People" 15 "LearnLoans$People" "died" "[I" ∈ am_ws := am_wsi (List.mem_of_getElem? (i := 108) (by decide +kernel)) (by decide +kernel)
theorem dX2_isDead_0 : decode cX2_isDead 0 = .ok (.aload_n 0, 1) := by decide +kernel
theorem dX2_isDead_1 : decode cX2_isDead 1 = .ok (.getfield 15, 3) := by decide +kernel
theorem dX2_isDead_4 : decode cX2_isDead 4 = .ok (.iload_n 1, 1) := by decide +kernel
theorem dX2_isDead_5 : decode cX2_isDead 5 = .ok (.iaload, 1) := by decide +kernel
theorem dX2_isDead_6 : decode cX2_isDead 6 = .ok (.iconst (-1), 1) := by decide +kernel
theorem dX2_isDead_7 : decode cX2_isDead 7 = .ok (.if_icmp .eq 17, 3) := by decide +kernel
theorem dX2_isDead_10 : decode cX2_isDead 10 = .ok (.aload_n 0, 1) := by decide +kernel
theorem dX2_isDead_11 : decode cX2_isDead 11 = .ok (.getfield 15, 3) := by decide +kernel
theorem dX2_isDead_14 : decode cX2_isDead 14 = .ok (.iload_n 1, 1) := by decide +kernel
theorem dX2_isDead_15 : decode cX2_isDead 15 = .ok (.iaload, 1) := by decide +kernel
theorem dX2_isDead_16 : decode cX2_isDead 16 = .ok (.iload_n 2, 1) := by decide +kernel
theorem dX2_isDead_17 : decode cX2_isDead 17 = .ok (.if_icmp .gt 7, 3) := by decide +kernel
theorem dX2_isDead_20 : decode cX2_isDead 20 = .ok (.iconst 1, 1) := by decide +kernel
theorem dX2_isDead_21 : decode cX2_isDead 21 = .ok (.goto 4, 3) := by decide +kernel
theorem dX2_isDead_24 : decode cX2_isDead 24 = .ok (.iconst 0, 1) := by decide +kernel
theorem dX2_isDead_25 : decode cX2_isDead 25 = .ok (.ireturn, 1) := by decide +kernel
def kX2_isDead (live : am_E) (Ret : am_R) : am_code := [(0, am_aload 0 1), (1, am_getR live 2 1 4), (4, am_iload 1 5), (5, am_ald live 0 6), (6, am_const (.int (-1)) 7), (7, am_if2 (fun x y => x = y) 24 10), (10, am_aload 0 11), (11, am_getR live 2 1 14), (14, am_iload 1 15), (15, am_ald live 0 16), (16, am_iload 2 17), (17, am_if2 (fun x y => y < x) 24 20), (20, am_const (.int 1) 21), (21, am_goto 25), (24, am_const (.int 0) 25), (25, am_retZ Ret)]
theorem koX2_isDead (live : am_E) (Ret : am_R) : ∀ q ∈ kX2_isDead live Ret, am_ok RX2 cX2_isDead 3 (some .boolean) 0 0 live Ret q.1 q.2 :=
  am_kc (ak_aload_n dX2_isDead_0 rfl rfl) <|
  am_kc (ak_getR (C := RX2) (T := TX2) (N := 8) rfl inX2w (by decide) rfl rfl rfl wd_108 dX2_isDead_1 rfl) <|
  am_kc (ak_iload_n dX2_isDead_4 rfl rfl) <|
  am_kc (ak_iald (t := 0) (fun _ => rfl) rfl dX2_isDead_5 rfl) <|
  am_kc (ak_iconst dX2_isDead_6 (by decide +kernel) rfl) <|
  am_kc (ak_icmp_eq dX2_isDead_7 (by decide +kernel) rfl) <|
  am_kc (ak_aload_n dX2_isDead_10 rfl rfl) <|
  am_kc (ak_getR (C := RX2) (T := TX2) (N := 8) rfl inX2w (by decide) rfl rfl rfl wd_108 dX2_isDead_11 rfl) <|
  am_kc (ak_iload_n dX2_isDead_14 rfl rfl) <|
  am_kc (ak_iald (t := 0) (fun _ => rfl) rfl dX2_isDead_15 rfl) <|
  am_kc (ak_iload_n dX2_isDead_16 rfl rfl) <|
  am_kc (ak_icmp_gt dX2_isDead_17 (by decide +kernel) rfl) <|
  am_kc (ak_iconst dX2_isDead_20 (by decide +kernel) rfl) <|
  am_kc (ak_goto dX2_isDead_21 (by decide +kernel)) <|
  am_kc (ak_iconst dX2_isDead_24 (by decide +kernel) rfl) <|
  am_kc (ak_retZ dX2_isDead_25) <| am_kn
def TX2_isDead : am_T := fun live as M R => match as with
  | [.ref n, .int p, .int y] => am_mn live ∧ n = 21 ∧ am_in p 12 ∧ R (some (.int (if M.1 23 p.toNatClampNeg ≠ -1 ∧ M.1 23 p.toNatClampNeg ≤ y then 1 else 0))) M
  | _ => False
set_option maxRecDepth 100000 in
set_option maxHeartbeats 4000000 in
theorem metX2_isDead : am_Met yX2_isDead cX2_isDead 3 (some .boolean) (0) (0) TX2_isDead := by
  refine am_met (own := RX2) (by decide +kernel) rfl kX2_isDead koX2_isDead 60 (fun _ _ _ _ _ => none) (fun live as M Ret h => ?_) (fun _ _ _ _ _ _ _ _ hI => by cases hI)
  unfold TX2_isDead at h
  split at h
  · next n p y =>
    refine ⟨Nat.le_of_ble_eq_true rfl, ?_⟩
    change am_wp _ _ _ _ [(0, Value.ref n), (1, Value.int p), (2, Value.int y)] _ _
    obtain ⟨⟨i1, i2, rfl⟩, rfl, hp, h⟩ := h
    have l23 : am_len 23 = 12 := rfl
    repeat' (first | exact rfl | apply And.intro | intro hx | (refine Exists.intro _ (And.intro rfl ?_)))
    all_goals try first | (with_reducible change am_tI _ _) | (change Ret _ _) | (change Ret _ _ _) | (change Exists _)
    all_goals try dsimp only at *
    all_goals try exact absurd ‹(1000 : Int64) = 0› (by decide)
    all_goals first | (left; rfl) | (right; rfl) | exact hp.1 | exact hp.2 | grind
  · exact h.elim
theorem wd_261 : Cond.fieldLink "LearnLoans$Letters" 7 "LearnLoans$Letters" "rate" "J" ∈ am_ws := am_wsi (List.mem_of_getElem? (i := 261) (by decide +kernel)) (by decide +kernel)
theorem wd_263 : Cond.fieldLink "LearnLoans$Letters" 13 "LearnLoans$Letters" "prices" "J" ∈ am_ws := am_wsi (List.mem_of_getElem? (i := 263) (by decide +kernel)) (by decide +kernel)
theorem wd_265 : Cond.fieldLink "LearnLoans$Letters" 16 "LearnLoans$Letters" "earned" "J" ∈ am_ws := am_wsi (List.mem_of_getElem? (i := 265) (by decide +kernel)) (by decide +kernel)
theorem wd_267 : Cond.fieldLink "LearnLoans$Letters" 19 "LearnLoans$Letters" "line" "J" ∈ am_ws := am_wsi (List.mem_of_getElem? (i := 267) (by decide +kernel)) (by decide +kernel)
theorem wd_269 : Cond.fieldLink "LearnLoans$Letters" 22 "LearnLoans$Letters" "years" "J" ∈ am_ws := am_wsi (List.mem_of_getElem? (i := 269) (by decide +kernel)) (by decide +kernel)
theorem wd_271 : Cond.fieldLink "LearnLoans$Letters" 25 "LearnLoans$Letters" "owed" "J" ∈ am_ws := am_wsi (List.mem_of_getElem? (i := 271) (by decide +kernel)) (by decide +kernel)
theorem wd_273 : Cond.fieldLink "LearnLoans$Letters" 28 "LearnLoans$Letters" "land" "J" ∈ am_ws := am_wsi (List.mem_of_getElem? (i := 273) (by decide +kernel)) (by decide +kernel)
theorem dX1_valueOf_0 : decode cX1_valueOf 0 = .ok (.iload_n 1, 1) := by decide +kernel
theorem dX1_valueOf_1 : decode cX1_valueOf 1 = .ok (.lookupswitch 89 #[(101, 69), (108, 74), (111, 84), (112, 64), (114, 59), (121, 79)], 59) := by decide +kernel
theorem dX1_valueOf_60 : decode cX1_valueOf 60 = .ok (.aload_n 0, 1) := by decide +kernel
theorem dX1_valueOf_61 : decode cX1_valueOf 61 = .ok (.getfield 7, 3) := by decide +kernel
theorem dX1_valueOf_64 : decode cX1_valueOf 64 = .ok (.lreturn, 1) := by decide +kernel
theorem dX1_valueOf_65 : decode cX1_valueOf 65 = .ok (.aload_n 0, 1) := by decide +kernel
theorem dX1_valueOf_66 : decode cX1_valueOf 66 = .ok (.getfield 13, 3) := by decide +kernel
theorem dX1_valueOf_69 : decode cX1_valueOf 69 = .ok (.lreturn, 1) := by decide +kernel
theorem dX1_valueOf_70 : decode cX1_valueOf 70 = .ok (.aload_n 0, 1) := by decide +kernel
theorem dX1_valueOf_71 : decode cX1_valueOf 71 = .ok (.getfield 16, 3) := by decide +kernel
theorem dX1_valueOf_74 : decode cX1_valueOf 74 = .ok (.lreturn, 1) := by decide +kernel
theorem dX1_valueOf_75 : decode cX1_valueOf 75 = .ok (.aload_n 0, 1) := by decide +kernel
theorem dX1_valueOf_76 : decode cX1_valueOf 76 = .ok (.getfield 19, 3) := by decide +kernel
theorem dX1_valueOf_79 : decode cX1_valueOf 79 = .ok (.lreturn, 1) := by decide +kernel
theorem dX1_valueOf_80 : decode cX1_valueOf 80 = .ok (.aload_n 0, 1) := by decide +kernel
theorem dX1_valueOf_81 : decode cX1_valueOf 81 = .ok (.getfield 22, 3) := by decide +kernel
theorem dX1_valueOf_84 : decode cX1_valueOf 84 = .ok (.lreturn, 1) := by decide +kernel
theorem dX1_valueOf_85 : decode cX1_valueOf 85 = .ok (.aload_n 0, 1) := by decide +kernel
theorem dX1_valueOf_86 : decode cX1_valueOf 86 = .ok (.getfield 25, 3) := by decide +kernel
theorem dX1_valueOf_89 : decode cX1_valueOf 89 = .ok (.lreturn, 1) := by decide +kernel
theorem dX1_valueOf_90 : decode cX1_valueOf 90 = .ok (.aload_n 0, 1) := by decide +kernel
theorem dX1_valueOf_91 : decode cX1_valueOf 91 = .ok (.getfield 28, 3) := by decide +kernel
theorem dX1_valueOf_94 : decode cX1_valueOf 94 = .ok (.lreturn, 1) := by decide +kernel
def kX1_valueOf (live : am_E) (Ret : am_R) : am_code := [(0, am_iload 1 1), (1, am_switch [(101, 70), (108, 75), (111, 85), (112, 65), (114, 60), (121, 80)] 90), (60, am_aload 0 61), (61, am_getJ live 1 0 64), (64, am_retL Ret), (65, am_aload 0 66), (66, am_getJ live 1 1 69), (69, am_retL Ret), (70, am_aload 0 71), (71, am_getJ live 1 2 74), (74, am_retL Ret), (75, am_aload 0 76), (76, am_getJ live 1 3 79), (79, am_retL Ret), (80, am_aload 0 81), (81, am_getJ live 1 4 84), (84, am_retL Ret), (85, am_aload 0 86), (86, am_getJ live 1 5 89), (89, am_retL Ret), (90, am_aload 0 91), (91, am_getJ live 1 6 94), (94, am_retL Ret)]
theorem koX1_valueOf (live : am_E) (Ret : am_R) : ∀ q ∈ kX1_valueOf live Ret, am_ok RX1 cX1_valueOf 2 (some .long) 0 0 live Ret q.1 q.2 :=
  am_kc (ak_iload_n dX1_valueOf_0 rfl rfl) <|
  am_kc (ak_lswitch dX1_valueOf_1 (by decide +kernel) (by decide +kernel) (by decide +kernel)) <|
  am_kc (ak_aload_n dX1_valueOf_60 rfl rfl) <|
  am_kc (ak_getJ (C := RX1) (T := TX1) (N := 7) rfl inX1w (by decide) rfl rfl rfl wd_261 dX1_valueOf_61 rfl) <|
  am_kc (ak_retL dX1_valueOf_64) <|
  am_kc (ak_aload_n dX1_valueOf_65 rfl rfl) <|
  am_kc (ak_getJ (C := RX1) (T := TX1) (N := 7) rfl inX1w (by decide) rfl rfl rfl wd_263 dX1_valueOf_66 rfl) <|
  am_kc (ak_retL dX1_valueOf_69) <|
  am_kc (ak_aload_n dX1_valueOf_70 rfl rfl) <|
  am_kc (ak_getJ (C := RX1) (T := TX1) (N := 7) rfl inX1w (by decide) rfl rfl rfl wd_265 dX1_valueOf_71 rfl) <|
  am_kc (ak_retL dX1_valueOf_74) <|
  am_kc (ak_aload_n dX1_valueOf_75 rfl rfl) <|
  am_kc (ak_getJ (C := RX1) (T := TX1) (N := 7) rfl inX1w (by decide) rfl rfl rfl wd_267 dX1_valueOf_76 rfl) <|
  am_kc (ak_retL dX1_valueOf_79) <|
  am_kc (ak_aload_n dX1_valueOf_80 rfl rfl) <|
  am_kc (ak_getJ (C := RX1) (T := TX1) (N := 7) rfl inX1w (by decide) rfl rfl rfl wd_269 dX1_valueOf_81 rfl) <|
  am_kc (ak_retL dX1_valueOf_84) <|
  am_kc (ak_aload_n dX1_valueOf_85 rfl rfl) <|
  am_kc (ak_getJ (C := RX1) (T := TX1) (N := 7) rfl inX1w (by decide) rfl rfl rfl wd_271 dX1_valueOf_86 rfl) <|
  am_kc (ak_retL dX1_valueOf_89) <|
  am_kc (ak_aload_n dX1_valueOf_90 rfl rfl) <|
  am_kc (ak_getJ (C := RX1) (T := TX1) (N := 7) rfl inX1w (by decide) rfl rfl rfl wd_273 dX1_valueOf_91 rfl) <|
  am_kc (ak_retL dX1_valueOf_94) <| am_kn
def am_letter (M : am_M) (s : Int32) : Int64 := if s = 114 then M.2 9 0 else if s = 112 then M.2 9 1 else if s = 101 then M.2 9 2 else if s = 108 then M.2 9 3 else if s = 121 then M.2 9 4 else if s = 111 then M.2 9 5 else M.2 9 6
def TX1_valueOf : am_T := fun live as M R => match as with
  | [.ref n, .int s] => am_mn live ∧ n = 9 ∧ R (some (.long (am_letter M s))) M
  | _ => False
set_option maxRecDepth 100000 in
set_option maxHeartbeats 4000000 in
theorem metX1_valueOf : am_Met yX1_valueOf cX1_valueOf 2 (some .long) (0) (0) TX1_valueOf := by
  refine am_met (own := RX1) (by decide +kernel) rfl kX1_valueOf koX1_valueOf 60 (fun _ _ _ _ _ => none) (fun live as M Ret h => ?_) (fun _ _ _ _ _ _ _ _ hI => by cases hI)
  unfold TX1_valueOf at h
  split at h
  · next n s =>
    refine ⟨Nat.le_of_ble_eq_true rfl, ?_⟩
    change am_wp _ _ _ _ [(0, Value.ref n), (1, Value.int s)] _ _
    obtain ⟨⟨i1, i2, rfl⟩, rfl, h⟩ := h
    repeat' (first | exact rfl | apply And.intro | intro hx | (refine Exists.intro _ (And.intro rfl ?_)))
    all_goals try first | (with_reducible change am_tI _ _) | (change Ret _ _) | (change Ret _ _ _) | (change Exists _)
    all_goals try dsimp only at *
    all_goals try exact absurd ‹(1000 : Int64) = 0› (by decide)
    all_goals grind [am_letter]
  · exact h.elim
theorem wd_202 : Cond.fieldLink "LearnLoans$House" 30 "LearnLoans$House" "acts" "LLearnLoans$Rows;" ∈ am_ws := am_wsi (List.mem_of_getElem? (i := 202) (by decide +kernel)) (by decide +kernel)
theorem wd_477 : Cond.methodLink "LearnLoans$House" 67 yX3_add ∈ am_ws := am_wsi (List.mem_of_getElem? (i := 477) (by decide +kernel)) (by decide +kernel)
theorem wd_478 : Cond.instanceMethod yX3_add ∈ am_ws := am_wsi (List.mem_of_getElem? (i := 478) (by decide +kernel)) (by decide +kernel)
theorem wd_479 : Cond.selects "LearnLoans$Rows" yX3_add yX3_add ∈ am_ws := am_wsi (List.mem_of_getElem? (i := 479) (by decide +kernel)) (by decide +kernel)
theorem wd_480 : Cond.code yX3_add cX3_add 4 (some .int) ∈ am_ws := am_wsi (List.mem_of_getElem? (i := 480) (by decide +kernel)) (by decide +kernel)
theorem wd_485 : Cond.methodLink "LearnLoans$House" 71 yX3_put ∈ am_ws := am_wsi (List.mem_of_getElem? (i := 485) (by decide +kernel)) (by decide +kernel)
theorem dX0_addAct_0 : decode cX0_addAct 0 = .ok (.aload_n 0, 1) := by decide +kernel
theorem dX0_addAct_1 : decode cX0_addAct 1 = .ok (.getfield 30, 3) := by decide +kernel
theorem dX0_addAct_4 : decode cX0_addAct 4 = .ok (.iload_n 1, 1) := by decide +kernel
theorem dX0_addAct_5 : decode cX0_addAct 5 = .ok (.iload_n 2, 1) := by decide +kernel
theorem dX0_addAct_6 : decode cX0_addAct 6 = .ok (.iload_n 3, 1) := by decide +kernel
theorem dX0_addAct_7 : decode cX0_addAct 7 = .ok (.invokevirtual 67, 3) := by decide +kernel
theorem dX0_addAct_10 : decode cX0_addAct 10 = .ok (.istore 7, 2) := by decide +kernel
theorem dX0_addAct_12 : decode cX0_addAct 12 = .ok (.aload_n 0, 1) := by decide +kernel
theorem dX0_addAct_13 : decode cX0_addAct 13 = .ok (.getfield 30, 3) := by decide +kernel
theorem dX0_addAct_16 : decode cX0_addAct 16 = .ok (.iload 7, 2) := by decide +kernel
theorem dX0_addAct_18 : decode cX0_addAct 18 = .ok (.iconst 3, 1) := by decide +kernel
theorem dX0_addAct_19 : decode cX0_addAct 19 = .ok (.iload 4, 2) := by decide +kernel
theorem dX0_addAct_21 : decode cX0_addAct 21 = .ok (.invokevirtual 71, 3) := by decide +kernel
theorem dX0_addAct_24 : decode cX0_addAct 24 = .ok (.aload_n 0, 1) := by decide +kernel
theorem dX0_addAct_25 : decode cX0_addAct 25 = .ok (.getfield 30, 3) := by decide +kernel
theorem dX0_addAct_28 : decode cX0_addAct 28 = .ok (.iload 7, 2) := by decide +kernel
theorem dX0_addAct_30 : decode cX0_addAct 30 = .ok (.iconst 4, 1) := by decide +kernel
theorem dX0_addAct_31 : decode cX0_addAct 31 = .ok (.iload 5, 2) := by decide +kernel
theorem dX0_addAct_33 : decode cX0_addAct 33 = .ok (.invokevirtual 71, 3) := by decide +kernel
theorem dX0_addAct_36 : decode cX0_addAct 36 = .ok (.aload_n 0, 1) := by decide +kernel
theorem dX0_addAct_37 : decode cX0_addAct 37 = .ok (.getfield 30, 3) := by decide +kernel
theorem dX0_addAct_40 : decode cX0_addAct 40 = .ok (.iload 7, 2) := by decide +kernel
theorem dX0_addAct_42 : decode cX0_addAct 42 = .ok (.iconst 5, 1) := by decide +kernel
theorem dX0_addAct_43 : decode cX0_addAct 43 = .ok (.iload 6, 2) := by decide +kernel
theorem dX0_addAct_45 : decode cX0_addAct 45 = .ok (.invokevirtual 71, 3) := by decide +kernel
theorem dX0_addAct_48 : decode cX0_addAct 48 = .ok (.iload 7, 2) := by decide +kernel
theorem dX0_addAct_50 : decode cX0_addAct 50 = .ok (.ireturn, 1) := by decide +kernel
def kX0_addAct (live : am_E) (Ret : am_R) : am_code := [(0, am_aload 0 1), (1, am_getR live 0 3 4), (4, am_iload 1 5), (5, am_iload 2 6), (6, am_iload 3 7), (7, am_callV live 3 3 TX3_add 10), (10, am_istore 7 8 12), (12, am_aload 0 13), (13, am_getR live 0 3 16), (16, am_iload 7 18), (18, am_const (.int 3) 19), (19, am_iload 4 21), (21, am_callV live 3 3 TX3_put 24), (24, am_aload 0 25), (25, am_getR live 0 3 28), (28, am_iload 7 30), (30, am_const (.int 4) 31), (31, am_iload 5 33), (33, am_callV live 3 3 TX3_put 36), (36, am_aload 0 37), (37, am_getR live 0 3 40), (40, am_iload 7 42), (42, am_const (.int 5) 43), (43, am_iload 6 45), (45, am_callV live 3 3 TX3_put 48), (48, am_iload 7 50), (50, am_retI Ret)]
theorem koX0_addAct (live : am_E) (Ret : am_R) : ∀ q ∈ kX0_addAct live Ret, am_ok RX0 cX0_addAct 8 (some .int) 2 47 live Ret q.1 q.2 :=
  am_kc (ak_aload_n dX0_addAct_0 rfl rfl) <|
  am_kc (ak_getR (C := RX0) (T := TX0) (N := 13) rfl inX0w (by decide) rfl rfl rfl wd_202 dX0_addAct_1 rfl) <|
  am_kc (ak_iload_n dX0_addAct_4 rfl rfl) <|
  am_kc (ak_iload_n dX0_addAct_5 rfl rfl) <|
  am_kc (ak_iload_n dX0_addAct_6 rfl rfl) <|
  am_kc (ak_callV (C := RX3) (F := TX3) (N := 3) metX3_add rfl ⟨rfl, by decide +kernel, by decide +kernel, by decide +kernel⟩ (am_w5 wd_477 wd_478 wd_479 wd_64 wd_480) (by decide) dX0_addAct_7 rfl) <|
  am_kc (ak_istore dX0_addAct_10 rfl) <|
  am_kc (ak_aload_n dX0_addAct_12 rfl rfl) <|
  am_kc (ak_getR (C := RX0) (T := TX0) (N := 13) rfl inX0w (by decide) rfl rfl rfl wd_202 dX0_addAct_13 rfl) <|
  am_kc (ak_iload dX0_addAct_16 rfl) <|
  am_kc (ak_iconst dX0_addAct_18 (by decide +kernel) rfl) <|
  am_kc (ak_iload dX0_addAct_19 rfl) <|
  am_kc (ak_callV (C := RX3) (F := TX3) (N := 3) metX3_put rfl ⟨rfl, by decide +kernel, by decide +kernel, by decide +kernel⟩ (am_w5 wd_485 wd_482 wd_483 wd_64 wd_484) (by decide) dX0_addAct_21 rfl) <|
  am_kc (ak_aload_n dX0_addAct_24 rfl rfl) <|
  am_kc (ak_getR (C := RX0) (T := TX0) (N := 13) rfl inX0w (by decide) rfl rfl rfl wd_202 dX0_addAct_25 rfl) <|
  am_kc (ak_iload dX0_addAct_28 rfl) <|
  am_kc (ak_iconst dX0_addAct_30 (by decide +kernel) rfl) <|
  am_kc (ak_iload dX0_addAct_31 rfl) <|
  am_kc (ak_callV (C := RX3) (F := TX3) (N := 3) metX3_put rfl ⟨rfl, by decide +kernel, by decide +kernel, by decide +kernel⟩ (am_w5 wd_485 wd_482 wd_483 wd_64 wd_484) (by decide) dX0_addAct_33 rfl) <|
  am_kc (ak_aload_n dX0_addAct_36 rfl rfl) <|
  am_kc (ak_getR (C := RX0) (T := TX0) (N := 13) rfl inX0w (by decide) rfl rfl rfl wd_202 dX0_addAct_37 rfl) <|
  am_kc (ak_iload dX0_addAct_40 rfl) <|
  am_kc (ak_iconst dX0_addAct_42 (by decide +kernel) rfl) <|
  am_kc (ak_iload dX0_addAct_43 rfl) <|
  am_kc (ak_callV (C := RX3) (F := TX3) (N := 3) metX3_put rfl ⟨rfl, by decide +kernel, by decide +kernel, by decide +kernel⟩ (am_w5 wd_485 wd_482 wd_483 wd_64 wd_484) (by decide) dX0_addAct_45 rfl) <|
  am_kc (ak_iload dX0_addAct_48 rfl) <|
  am_kc (ak_retI dX0_addAct_50) <| am_kn
def am_addAct (M : am_M) (p w v f b e : Int32) : am_M := am_rput (am_rput (am_rput (am_radd M 31 32 p w v) 31 32 (M.1 31 2) 3 f) 31 32 (M.1 31 2) 4 b) 31 32 (M.1 31 2) 5 e
def TX0_addAct : am_T := fun live as M R => match as with
  | [.ref n, .int p, .int w, .int v, .int f, .int b, .int e] => am_mn live ∧ n = 20 ∧ R (some (.int (M.1 31 2))) (am_addAct M p w v f b e)
  | _ => False
set_option maxRecDepth 100000 in
set_option maxHeartbeats 4000000 in
theorem metX0_addAct : am_Met yX0_addAct cX0_addAct 8 (some .int) (2) (47) TX0_addAct := by
  refine am_met (own := RX0) (by decide +kernel) rfl kX0_addAct koX0_addAct 120 (fun _ _ _ _ _ => none) (fun live as M Ret h => ?_) (fun _ _ _ _ _ _ _ _ hI => by cases hI)
  unfold TX0_addAct at h
  split at h
  · next n p w v f b e =>
    refine ⟨Nat.le_of_ble_eq_true rfl, ?_⟩
    change am_wp _ _ _ _ [(0, Value.ref n), (1, Value.int p), (2, Value.int w), (3, Value.int v), (4, Value.int f), (5, Value.int b), (6, Value.int e)] _ _
    obtain ⟨⟨i1, i2, rfl⟩, rfl, h⟩ := h
    have e1 : M.1 31 2 + 1 - 1 = M.1 31 2 := by rw [Int32.add_sub_cancel]
    repeat' (first | exact rfl | apply And.intro | intro hx | (refine Exists.intro _ (And.intro rfl ?_)))
    all_goals try first | (with_reducible change am_tI _ _) | (change Ret _ _) | (change Ret _ _ _) | (change Exists _)
    all_goals try dsimp only at *
    all_goals try exact absurd ‹(1000 : Int64) = 0› (by decide)
    simp only [e1]
    exact h
  · exact h.elim
theorem wd_205 : Cond.fieldLink "LearnLoans$House" 34 "LearnLoans$House" "loans" "LLearnLoans$Rows;" ∈ am_ws := am_wsi (List.mem_of_getElem? (i := 205) (by decide +kernel)) (by decide +kernel)
theorem wd_526 : Cond.methodLink "LearnLoans$House" 75 yX3_at ∈ am_ws := am_wsi (List.mem_of_getElem? (i := 526) (by decide +kernel)) (by decide +kernel)
theorem wd_500 : Cond.instanceMethod yX3_at ∈ am_ws := am_wsi (List.mem_of_getElem? (i := 500) (by decide +kernel)) (by decide +kernel)
theorem wd_501 : Cond.selects "LearnLoans$Rows" yX3_at yX3_at ∈ am_ws := am_wsi (List.mem_of_getElem? (i := 501) (by decide +kernel)) (by decide +kernel)
theorem wd_502 : Cond.code yX3_at cX3_at 4 (some .int) ∈ am_ws := am_wsi (List.mem_of_getElem? (i := 502) (by decide +kernel)) (by decide +kernel)
theorem wd_527 : Cond.constantLong "LearnLoans$House" 79 750 ∈ am_ws := am_wsi (List.mem_of_getElem? (i := 527) (by decide +kernel)) (by decide +kernel)
theorem wd_528 : Cond.constantLong "LearnLoans$House" 81 1000 ∈ am_ws := am_wsi (List.mem_of_getElem? (i := 528) (by decide +kernel)) (by decide +kernel)
theorem wd_529 : Cond.constantLong "LearnLoans$House" 83 500 ∈ am_ws := am_wsi (List.mem_of_getElem? (i := 529) (by decide +kernel)) (by decide +kernel)
theorem dX0_givenBack_0 : decode cX0_givenBack 0 = .ok (.aload_n 0, 1) := by decide +kernel
theorem dX0_givenBack_1 : decode cX0_givenBack 1 = .ok (.getfield 34, 3) := by decide +kernel
theorem dX0_givenBack_4 : decode cX0_givenBack 4 = .ok (.iload_n 1, 1) := by decide +kernel
theorem dX0_givenBack_5 : decode cX0_givenBack 5 = .ok (.iconst 3, 1) := by decide +kernel
theorem dX0_givenBack_6 : decode cX0_givenBack 6 = .ok (.invokevirtual 75, 3) := by decide +kernel
theorem dX0_givenBack_9 : decode cX0_givenBack 9 = .ok (.i2l, 1) := by decide +kernel
theorem dX0_givenBack_10 : decode cX0_givenBack 10 = .ok (.lstore_n 2, 1) := by decide +kernel
theorem dX0_givenBack_11 : decode cX0_givenBack 11 = .ok (.aload_n 0, 1) := by decide +kernel
theorem dX0_givenBack_12 : decode cX0_givenBack 12 = .ok (.getfield 34, 3) := by decide +kernel
theorem dX0_givenBack_15 : decode cX0_givenBack 15 = .ok (.iload_n 1, 1) := by decide +kernel
theorem dX0_givenBack_16 : decode cX0_givenBack 16 = .ok (.iconst 5, 1) := by decide +kernel
theorem dX0_givenBack_17 : decode cX0_givenBack 17 = .ok (.invokevirtual 75, 3) := by decide +kernel
theorem dX0_givenBack_20 : decode cX0_givenBack 20 = .ok (.aload_n 0, 1) := by decide +kernel
theorem dX0_givenBack_21 : decode cX0_givenBack 21 = .ok (.getfield 34, 3) := by decide +kernel
theorem dX0_givenBack_24 : decode cX0_givenBack 24 = .ok (.iload_n 1, 1) := by decide +kernel
theorem dX0_givenBack_25 : decode cX0_givenBack 25 = .ok (.iconst 2, 1) := by decide +kernel
theorem dX0_givenBack_26 : decode cX0_givenBack 26 = .ok (.invokevirtual 75, 3) := by decide +kernel
theorem dX0_givenBack_29 : decode cX0_givenBack 29 = .ok (.isub, 1) := by decide +kernel
theorem dX0_givenBack_30 : decode cX0_givenBack 30 = .ok (.istore 4, 2) := by decide +kernel
theorem dX0_givenBack_32 : decode cX0_givenBack 32 = .ok (.iload 4, 2) := by decide +kernel
theorem dX0_givenBack_34 : decode cX0_givenBack 34 = .ok (.ifCond .ne 13, 3) := by decide +kernel
theorem dX0_givenBack_37 : decode cX0_givenBack 37 = .ok (.lload_n 2, 1) := by decide +kernel
theorem dX0_givenBack_38 : decode cX0_givenBack 38 = .ok (.ldc2_w 79, 3) := by decide +kernel
theorem dX0_givenBack_41 : decode cX0_givenBack 41 = .ok (.lmul, 1) := by decide +kernel
theorem dX0_givenBack_42 : decode cX0_givenBack 42 = .ok (.ldc2_w 81, 3) := by decide +kernel
theorem dX0_givenBack_45 : decode cX0_givenBack 45 = .ok (.ldiv, 1) := by decide +kernel
theorem dX0_givenBack_46 : decode cX0_givenBack 46 = .ok (.lreturn, 1) := by decide +kernel
theorem dX0_givenBack_47 : decode cX0_givenBack 47 = .ok (.iload 4, 2) := by decide +kernel
theorem dX0_givenBack_49 : decode cX0_givenBack 49 = .ok (.iconst 1, 1) := by decide +kernel
theorem dX0_givenBack_50 : decode cX0_givenBack 50 = .ok (.if_icmp .ne 15, 3) := by decide +kernel
theorem dX0_givenBack_53 : decode cX0_givenBack 53 = .ok (.lload_n 2, 1) := by decide +kernel
theorem dX0_givenBack_54 : decode cX0_givenBack 54 = .ok (.ldc2_w 83, 3) := by decide +kernel
theorem dX0_givenBack_57 : decode cX0_givenBack 57 = .ok (.lmul, 1) := by decide +kernel
theorem dX0_givenBack_58 : decode cX0_givenBack 58 = .ok (.ldc2_w 81, 3) := by decide +kernel
theorem dX0_givenBack_61 : decode cX0_givenBack 61 = .ok (.ldiv, 1) := by decide +kernel
theorem dX0_givenBack_62 : decode cX0_givenBack 62 = .ok (.goto 4, 3) := by decide +kernel
theorem dX0_givenBack_65 : decode cX0_givenBack 65 = .ok (.lconst 0, 1) := by decide +kernel
theorem dX0_givenBack_66 : decode cX0_givenBack 66 = .ok (.lreturn, 1) := by decide +kernel
def kX0_givenBack (live : am_E) (Ret : am_R) : am_code := [(0, am_aload 0 1), (1, am_getR live 0 4 4), (4, am_iload 1 5), (5, am_const (.int 3) 6), (6, am_callV live 3 2 TX3_at 9), (9, am_i2l 10), (10, am_lstore 2 5 11), (11, am_aload 0 12), (12, am_getR live 0 4 15), (15, am_iload 1 16), (16, am_const (.int 5) 17), (17, am_callV live 3 2 TX3_at 20), (20, am_aload 0 21), (21, am_getR live 0 4 24), (24, am_iload 1 25), (25, am_const (.int 2) 26), (26, am_callV live 3 2 TX3_at 29), (29, am_i2 (fun x y => x - y) 30), (30, am_istore 4 5 32), (32, am_iload 4 34), (34, am_if1 (fun x => x = 0) 37 47), (37, am_lload 2 38), (38, am_const (.long 750) 41), (41, am_l2 (fun x y => x * y) 42), (42, am_const (.long 1000) 45), (45, am_l2z (fun x y => x / y) 46), (46, am_retL Ret), (47, am_iload 4 49), (49, am_const (.int 1) 50), (50, am_if2 (fun x y => x = y) 53 65), (53, am_lload 2 54), (54, am_const (.long 500) 57), (57, am_l2 (fun x y => x * y) 58), (58, am_const (.long 1000) 61), (61, am_l2z (fun x y => x / y) 62), (62, am_goto 66), (65, am_const (.long 0) 66), (66, am_retL Ret)]
theorem koX0_givenBack (live : am_E) (Ret : am_R) : ∀ q ∈ kX0_givenBack live Ret, am_ok RX0 cX0_givenBack 5 (some .long) 1 23 live Ret q.1 q.2 :=
  am_kc (ak_aload_n dX0_givenBack_0 rfl rfl) <|
  am_kc (ak_getR (C := RX0) (T := TX0) (N := 13) rfl inX0w (by decide) rfl rfl rfl wd_205 dX0_givenBack_1 rfl) <|
  am_kc (ak_iload_n dX0_givenBack_4 rfl rfl) <|
  am_kc (ak_iconst dX0_givenBack_5 (by decide +kernel) rfl) <|
  am_kc (ak_callV (C := RX3) (F := TX3) (N := 3) metX3_at rfl ⟨rfl, by decide +kernel, by decide +kernel, by decide +kernel⟩ (am_w5 wd_526 wd_500 wd_501 wd_64 wd_502) (by decide) dX0_givenBack_6 rfl) <|
  am_kc (ak_i2l dX0_givenBack_9 rfl) <|
  am_kc (ak_lstore_n dX0_givenBack_10 rfl rfl) <|
  am_kc (ak_aload_n dX0_givenBack_11 rfl rfl) <|
  am_kc (ak_getR (C := RX0) (T := TX0) (N := 13) rfl inX0w (by decide) rfl rfl rfl wd_205 dX0_givenBack_12 rfl) <|
  am_kc (ak_iload_n dX0_givenBack_15 rfl rfl) <|
  am_kc (ak_iconst dX0_givenBack_16 (by decide +kernel) rfl) <|
  am_kc (ak_callV (C := RX3) (F := TX3) (N := 3) metX3_at rfl ⟨rfl, by decide +kernel, by decide +kernel, by decide +kernel⟩ (am_w5 wd_526 wd_500 wd_501 wd_64 wd_502) (by decide) dX0_givenBack_17 rfl) <|
  am_kc (ak_aload_n dX0_givenBack_20 rfl rfl) <|
  am_kc (ak_getR (C := RX0) (T := TX0) (N := 13) rfl inX0w (by decide) rfl rfl rfl wd_205 dX0_givenBack_21 rfl) <|
  am_kc (ak_iload_n dX0_givenBack_24 rfl rfl) <|
  am_kc (ak_iconst dX0_givenBack_25 (by decide +kernel) rfl) <|
  am_kc (ak_callV (C := RX3) (F := TX3) (N := 3) metX3_at rfl ⟨rfl, by decide +kernel, by decide +kernel, by decide +kernel⟩ (am_w5 wd_526 wd_500 wd_501 wd_64 wd_502) (by decide) dX0_givenBack_26 rfl) <|
  am_kc (ak_isub dX0_givenBack_29 rfl) <|
  am_kc (ak_istore dX0_givenBack_30 rfl) <|
  am_kc (ak_iload dX0_givenBack_32 rfl) <|
  am_kc (ak_if_ne dX0_givenBack_34 (by decide +kernel) rfl) <|
  am_kc (ak_lload_n dX0_givenBack_37 rfl rfl) <|
  am_kc (ak_ldc2 wd_527 dX0_givenBack_38 rfl) <|
  am_kc (ak_lmul dX0_givenBack_41 rfl) <|
  am_kc (ak_ldc2 wd_528 dX0_givenBack_42 rfl) <|
  am_kc (ak_ldiv dX0_givenBack_45 rfl) <|
  am_kc (ak_retL dX0_givenBack_46) <|
  am_kc (ak_iload dX0_givenBack_47 rfl) <|
  am_kc (ak_iconst dX0_givenBack_49 (by decide +kernel) rfl) <|
  am_kc (ak_icmp_ne dX0_givenBack_50 (by decide +kernel) rfl) <|
  am_kc (ak_lload_n dX0_givenBack_53 rfl rfl) <|
  am_kc (ak_ldc2 wd_529 dX0_givenBack_54 rfl) <|
  am_kc (ak_lmul dX0_givenBack_57 rfl) <|
  am_kc (ak_ldc2 wd_528 dX0_givenBack_58 rfl) <|
  am_kc (ak_ldiv dX0_givenBack_61 rfl) <|
  am_kc (ak_goto dX0_givenBack_62 (by decide +kernel)) <|
  am_kc (ak_lconst dX0_givenBack_65 (by decide +kernel) rfl) <|
  am_kc (ak_retL dX0_givenBack_66) <| am_kn
def am_sumGiven (s d : Int32) : Int64 := if d = 0 then s.toInt64 * 750 / 1000 else if d = 1 then s.toInt64 * 500 / 1000 else 0
def am_loanAt (M : am_M) (l k : Int32) : Int32 := am_at (M.1 34) 240 (l * M.1 33 1 + k)
def TX0_givenBack : am_T := fun live as M R => match as with
  | [.ref n, .int l] => am_mn live ∧ n = 20 ∧ R (some (.long (am_sumGiven (am_loanAt M l 3) (am_loanAt M l 5 - am_loanAt M l 2)))) M
  | _ => False
set_option maxRecDepth 100000 in
set_option maxHeartbeats 4000000 in
theorem metX0_givenBack : am_Met yX0_givenBack cX0_givenBack 5 (some .long) (1) (23) TX0_givenBack := by
  refine am_met (own := RX0) (by decide +kernel) rfl kX0_givenBack koX0_givenBack 120 (fun _ _ _ _ _ => none) (fun live as M Ret h => ?_) (fun _ _ _ _ _ _ _ _ hI => by cases hI)
  unfold TX0_givenBack at h
  split at h
  · next n l =>
    refine ⟨Nat.le_of_ble_eq_true rfl, ?_⟩
    change am_wp _ _ _ _ [(0, Value.ref n), (1, Value.int l)] _ _
    obtain ⟨⟨i1, i2, rfl⟩, rfl, h⟩ := h
    have l34 : am_len 34 = 240 := rfl
    repeat' (first | exact rfl | apply And.intro | intro hx | (refine Exists.intro _ (And.intro rfl ?_)))
    all_goals try first | (with_reducible change am_tI _ _) | (change Ret _ _) | (change Ret _ _ _) | (change Exists _)
    all_goals try dsimp only at *
    all_goals try exact absurd ‹(1000 : Int64) = 0› (by decide)
    all_goals
      simp only [am_sumGiven, am_loanAt, l34] at *
      simp_all
  · exact h.elim
theorem wd_216 : Cond.fieldLink "LearnLoans$House" 49 "LearnLoans$House" "promises" "LLearnLoans$Rows;" ∈ am_ws := am_wsi (List.mem_of_getElem? (i := 216) (by decide +kernel)) (by decide +kernel)
theorem wd_151 : Cond.fieldLink "LearnLoans$House" 85 "LearnLoans$Rows" "size" "I" ∈ am_ws := am_wsi (List.mem_of_getElem? (i := 151) (by decide +kernel)) (by decide +kernel)
theorem dX0_promised_0 : decode cX0_promised 0 = .ok (.lconst 0, 1) := by decide +kernel
theorem dX0_promised_1 : decode cX0_promised 1 = .ok (.lstore_n 3, 1) := by decide +kernel
theorem dX0_promised_2 : decode cX0_promised 2 = .ok (.iconst 0, 1) := by decide +kernel
theorem dX0_promised_3 : decode cX0_promised 3 = .ok (.istore 5, 2) := by decide +kernel
theorem dX0_promised_5 : decode cX0_promised 5 = .ok (.iload 5, 2) := by decide +kernel
theorem dX0_promised_7 : decode cX0_promised 7 = .ok (.aload_n 0, 1) := by decide +kernel
theorem dX0_promised_8 : decode cX0_promised 8 = .ok (.getfield 49, 3) := by decide +kernel
theorem dX0_promised_11 : decode cX0_promised 11 = .ok (.getfield 85, 3) := by decide +kernel
theorem dX0_promised_14 : decode cX0_promised 14 = .ok (.if_icmp .ge 51, 3) := by decide +kernel
theorem dX0_promised_17 : decode cX0_promised 17 = .ok (.aload_n 0, 1) := by decide +kernel
theorem dX0_promised_18 : decode cX0_promised 18 = .ok (.getfield 49, 3) := by decide +kernel
theorem dX0_promised_21 : decode cX0_promised 21 = .ok (.iload 5, 2) := by decide +kernel
theorem dX0_promised_23 : decode cX0_promised 23 = .ok (.iconst 0, 1) := by decide +kernel
theorem dX0_promised_24 : decode cX0_promised 24 = .ok (.invokevirtual 75, 3) := by decide +kernel
theorem dX0_promised_27 : decode cX0_promised 27 = .ok (.iload_n 1, 1) := by decide +kernel
theorem dX0_promised_28 : decode cX0_promised 28 = .ok (.if_icmp .ne 31, 3) := by decide +kernel
theorem dX0_promised_31 : decode cX0_promised 31 = .ok (.aload_n 0, 1) := by decide +kernel
theorem dX0_promised_32 : decode cX0_promised 32 = .ok (.getfield 49, 3) := by decide +kernel
theorem dX0_promised_35 : decode cX0_promised 35 = .ok (.iload 5, 2) := by decide +kernel
theorem dX0_promised_37 : decode cX0_promised 37 = .ok (.iconst 1, 1) := by decide +kernel
theorem dX0_promised_38 : decode cX0_promised 38 = .ok (.invokevirtual 75, 3) := by decide +kernel
theorem dX0_promised_41 : decode cX0_promised 41 = .ok (.iload_n 2, 1) := by decide +kernel
theorem dX0_promised_42 : decode cX0_promised 42 = .ok (.if_icmp .gt 17, 3) := by decide +kernel
theorem dX0_promised_45 : decode cX0_promised 45 = .ok (.lload_n 3, 1) := by decide +kernel
theorem dX0_promised_46 : decode cX0_promised 46 = .ok (.aload_n 0, 1) := by decide +kernel
theorem dX0_promised_47 : decode cX0_promised 47 = .ok (.getfield 49, 3) := by decide +kernel
theorem dX0_promised_50 : decode cX0_promised 50 = .ok (.iload 5, 2) := by decide +kernel
theorem dX0_promised_52 : decode cX0_promised 52 = .ok (.iconst 2, 1) := by decide +kernel
theorem dX0_promised_53 : decode cX0_promised 53 = .ok (.invokevirtual 75, 3) := by decide +kernel
theorem dX0_promised_56 : decode cX0_promised 56 = .ok (.i2l, 1) := by decide +kernel
theorem dX0_promised_57 : decode cX0_promised 57 = .ok (.ladd, 1) := by decide +kernel
theorem dX0_promised_58 : decode cX0_promised 58 = .ok (.lstore_n 3, 1) := by decide +kernel
theorem dX0_promised_59 : decode cX0_promised 59 = .ok (.iinc 5 1, 3) := by decide +kernel
theorem dX0_promised_62 : decode cX0_promised 62 = .ok (.goto (-57), 3) := by decide +kernel
theorem dX0_promised_65 : decode cX0_promised 65 = .ok (.lload_n 3, 1) := by decide +kernel
theorem dX0_promised_66 : decode cX0_promised 66 = .ok (.lreturn, 1) := by decide +kernel
def kX0_promised (live : am_E) (Ret : am_R) : am_code := [(0, am_const (.long 0) 1), (1, am_lstore 3 6 2), (2, am_const (.int 0) 3), (3, am_istore 5 6 5), (5, am_iload 5 7), (7, am_aload 0 8), (8, am_getR live 0 8 11), (11, am_getI live 3 2 14), (14, am_if2 (fun x y => y ≤ x) 65 17), (17, am_aload 0 18), (18, am_getR live 0 8 21), (21, am_iload 5 23), (23, am_const (.int 0) 24), (24, am_callV live 3 2 TX3_at 27), (27, am_iload 1 28), (28, am_if2 (fun x y => x = y) 31 59), (31, am_aload 0 32), (32, am_getR live 0 8 35), (35, am_iload 5 37), (37, am_const (.int 1) 38), (38, am_callV live 3 2 TX3_at 41), (41, am_iload 2 42), (42, am_if2 (fun x y => y < x) 59 45), (45, am_lload 3 46), (46, am_aload 0 47), (47, am_getR live 0 8 50), (50, am_iload 5 52), (52, am_const (.int 2) 53), (53, am_callV live 3 2 TX3_at 56), (56, am_i2l 57), (57, am_l2 (fun x y => x + y) 58), (58, am_lstore 3 6 59), (59, am_iinc 5 6 1 62), (62, am_goto 5), (65, am_lload 3 66), (66, am_retL Ret)]
theorem koX0_promised (live : am_E) (Ret : am_R) : ∀ q ∈ kX0_promised live Ret, am_ok RX0 cX0_promised 6 (some .long) 1 23 live Ret q.1 q.2 :=
  am_kc (ak_lconst dX0_promised_0 (by decide +kernel) rfl) <|
  am_kc (ak_lstore_n dX0_promised_1 rfl rfl) <|
  am_kc (ak_iconst dX0_promised_2 (by decide +kernel) rfl) <|
  am_kc (ak_istore dX0_promised_3 rfl) <|
  am_kc (ak_iload dX0_promised_5 rfl) <|
  am_kc (ak_aload_n dX0_promised_7 rfl rfl) <|
  am_kc (ak_getR (C := RX0) (T := TX0) (N := 13) rfl inX0w (by decide) rfl rfl rfl wd_216 dX0_promised_8 rfl) <|
  am_kc (ak_getI (C := RX3) (T := TX3) (N := 3) rfl inX3w (by decide) rfl rfl rfl wd_151 dX0_promised_11 rfl) <|
  am_kc (ak_icmp_ge dX0_promised_14 (by decide +kernel) rfl) <|
  am_kc (ak_aload_n dX0_promised_17 rfl rfl) <|
  am_kc (ak_getR (C := RX0) (T := TX0) (N := 13) rfl inX0w (by decide) rfl rfl rfl wd_216 dX0_promised_18 rfl) <|
  am_kc (ak_iload dX0_promised_21 rfl) <|
  am_kc (ak_iconst dX0_promised_23 (by decide +kernel) rfl) <|
  am_kc (ak_callV (C := RX3) (F := TX3) (N := 3) metX3_at rfl ⟨rfl, by decide +kernel, by decide +kernel, by decide +kernel⟩ (am_w5 wd_526 wd_500 wd_501 wd_64 wd_502) (by decide) dX0_promised_24 rfl) <|
  am_kc (ak_iload_n dX0_promised_27 rfl rfl) <|
  am_kc (ak_icmp_ne dX0_promised_28 (by decide +kernel) rfl) <|
  am_kc (ak_aload_n dX0_promised_31 rfl rfl) <|
  am_kc (ak_getR (C := RX0) (T := TX0) (N := 13) rfl inX0w (by decide) rfl rfl rfl wd_216 dX0_promised_32 rfl) <|
  am_kc (ak_iload dX0_promised_35 rfl) <|
  am_kc (ak_iconst dX0_promised_37 (by decide +kernel) rfl) <|
  am_kc (ak_callV (C := RX3) (F := TX3) (N := 3) metX3_at rfl ⟨rfl, by decide +kernel, by decide +kernel, by decide +kernel⟩ (am_w5 wd_526 wd_500 wd_501 wd_64 wd_502) (by decide) dX0_promised_38 rfl) <|
  am_kc (ak_iload_n dX0_promised_41 rfl rfl) <|
  am_kc (ak_icmp_gt dX0_promised_42 (by decide +kernel) rfl) <|
  am_kc (ak_lload_n dX0_promised_45 rfl rfl) <|
  am_kc (ak_aload_n dX0_promised_46 rfl rfl) <|
  am_kc (ak_getR (C := RX0) (T := TX0) (N := 13) rfl inX0w (by decide) rfl rfl rfl wd_216 dX0_promised_47 rfl) <|
  am_kc (ak_iload dX0_promised_50 rfl) <|
  am_kc (ak_iconst dX0_promised_52 (by decide +kernel) rfl) <|
  am_kc (ak_callV (C := RX3) (F := TX3) (N := 3) metX3_at rfl ⟨rfl, by decide +kernel, by decide +kernel, by decide +kernel⟩ (am_w5 wd_526 wd_500 wd_501 wd_64 wd_502) (by decide) dX0_promised_53 rfl) <|
  am_kc (ak_i2l dX0_promised_56 rfl) <|
  am_kc (ak_ladd dX0_promised_57 rfl) <|
  am_kc (ak_lstore_n dX0_promised_58 rfl rfl) <|
  am_kc (ak_iinc dX0_promised_59 (by decide +kernel) rfl) <|
  am_kc (ak_goto dX0_promised_62 (by decide +kernel)) <|
  am_kc (ak_lload_n dX0_promised_65 rfl rfl) <|
  am_kc (ak_retL dX0_promised_66) <| am_kn
def TX0_promised : am_T := fun live as M R => match as with
  | [.ref n, .int b, .int y] => am_mn live ∧ n = 20 ∧ (M.1 54 2).toInt ≤ 100000 ∧ ∀ v, R (some (.long v)) M
  | _ => False
def JX0_promised : am_E → List Value → am_M → am_R → am_inv := fun live as M0 _ pc => match as with
  | [.ref n, .int b, .int y] => (match pc with
    | 5 => some ([0, 1, 2, 3, 5], fun k L st M => ∃ (v : Int64) (i : Int32), L = [(0, .ref n), (1, .int b), (2, .int y), (3, .long v), (5, .int i)] ∧ st = [] ∧ k = ((100001 - i.toInt).toNat, 0) ∧ 0 ≤ i.toInt ∧ M = M0)
    | _ => none)
  | _ => none
set_option maxRecDepth 100000 in
set_option maxHeartbeats 4000000 in
theorem metX0_promised : am_Met yX0_promised cX0_promised 6 (some .long) (1) (23) TX0_promised := by
  refine am_met (own := RX0) (by decide +kernel) rfl kX0_promised koX0_promised 60 JX0_promised ?_ ?_
  · intro live as M Ret h
    unfold TX0_promised at h
    split at h
    · next n b y =>
      refine ⟨Nat.le_of_ble_eq_true rfl, ?_⟩
      change am_wp _ _ _ _ [(0, Value.ref n), (1, Value.int b), (2, Value.int y)] _ _
      obtain ⟨⟨i1, i2, rfl⟩, rfl, hs, h⟩ := h
      repeat' (first | exact rfl | apply And.intro | intro hx | (refine Exists.intro _ (And.intro rfl ?_)))
      all_goals try first | (with_reducible change am_tI _ _) | (change Ret _ _) | (change Ret _ _ _) | (change Exists _)
      all_goals try dsimp only at *
      all_goals try exact absurd ‹(1000 : Int64) = 0› (by decide)
      exact ⟨_, _, _, rfl, rfl, rfl, by decide, rfl⟩
    · exact h.elim
  · intro live as M0 Ret h k pc I hI L st M hi
    unfold TX0_promised at h
    split at h
    · next n b y =>
      obtain ⟨⟨i1, i2, rfl⟩, rfl, hs, h⟩ := h
      change (match pc with | 5 => _ | _ => none) = _ at hI
      split at hI
      · cases hI
        obtain ⟨v, i, rfl, rfl, rfl, e1, rfl⟩ := hi
        repeat' (first | exact rfl | apply And.intro | intro hx | (refine Exists.intro _ (And.intro rfl ?_)))
        all_goals try first | (with_reducible change am_tI _ _) | (change Ret _ _) | (change Ret _ _ _) | (change Exists _)
        all_goals try dsimp only at *
        all_goals try exact absurd ‹(1000 : Int64) = 0› (by decide)
        all_goals try exact h _
        all_goals
          refine ⟨_, Or.inl ?_, _, i + 1, rfl, rfl, rfl, ?_, rfl⟩
          all_goals simp only [i_lt, i_le] at *
          all_goals
            have hi := i_add (x := i) (y := 1) (by simp only [Int32.reduceToInt]; omega) (by simp only [Int32.reduceToInt]; omega)
            simp only [Int32.reduceToInt] at hi
            omega
      · cases hI
    · exact h.elim
end
section
/-! Text: the small methods -/
theorem dX5_isDigit_0 : decode cX5_isDigit 0 = .ok (.iload_n 0, 1) := by decide +kernel
theorem dX5_isDigit_1 : decode cX5_isDigit 1 = .ok (.bipush 48, 2) := by decide +kernel
theorem dX5_isDigit_3 : decode cX5_isDigit 3 = .ok (.if_icmp .lt 13, 3) := by decide +kernel
theorem dX5_isDigit_6 : decode cX5_isDigit 6 = .ok (.iload_n 0, 1) := by decide +kernel
theorem dX5_isDigit_7 : decode cX5_isDigit 7 = .ok (.bipush 57, 2) := by decide +kernel
theorem dX5_isDigit_9 : decode cX5_isDigit 9 = .ok (.if_icmp .gt 7, 3) := by decide +kernel
theorem dX5_isDigit_12 : decode cX5_isDigit 12 = .ok (.iconst 1, 1) := by decide +kernel
theorem dX5_isDigit_13 : decode cX5_isDigit 13 = .ok (.goto 4, 3) := by decide +kernel
theorem dX5_isDigit_16 : decode cX5_isDigit 16 = .ok (.iconst 0, 1) := by decide +kernel
theorem dX5_isDigit_17 : decode cX5_isDigit 17 = .ok (.ireturn, 1) := by decide +kernel
def kX5_isDigit (live : am_E) (Ret : am_R) : am_code := [(0, am_iload 0 1), (1, am_const (.int 48) 3), (3, am_if2 (fun x y => x < y) 16 6), (6, am_iload 0 7), (7, am_const (.int 57) 9), (9, am_if2 (fun x y => y < x) 16 12), (12, am_const (.int 1) 13), (13, am_goto 17), (16, am_const (.int 0) 17), (17, am_retZ Ret)]
theorem koX5_isDigit (live : am_E) (Ret : am_R) : ∀ q ∈ kX5_isDigit live Ret, am_ok RX5 cX5_isDigit 1 (some .boolean) 0 0 live Ret q.1 q.2 :=
  am_kc (ak_iload_n dX5_isDigit_0 rfl rfl) <|
  am_kc (ak_bipush dX5_isDigit_1 (by decide +kernel) rfl) <|
  am_kc (ak_icmp_lt dX5_isDigit_3 (by decide +kernel) rfl) <|
  am_kc (ak_iload_n dX5_isDigit_6 rfl rfl) <|
  am_kc (ak_bipush dX5_isDigit_7 (by decide +kernel) rfl) <|
  am_kc (ak_icmp_gt dX5_isDigit_9 (by decide +kernel) rfl) <|
  am_kc (ak_iconst dX5_isDigit_12 (by decide +kernel) rfl) <|
  am_kc (ak_goto dX5_isDigit_13 (by decide +kernel)) <|
  am_kc (ak_iconst dX5_isDigit_16 (by decide +kernel) rfl) <|
  am_kc (ak_retZ dX5_isDigit_17) <| am_kn
def TX5_isDigit : am_T := fun live as M R => match as with
  | [.int v] => R (some (.int (if 48 ≤ v ∧ v ≤ 57 then 1 else 0))) M
  | _ => False
set_option maxRecDepth 100000 in
set_option maxHeartbeats 4000000 in
theorem metX5_isDigit : am_Met yX5_isDigit cX5_isDigit 1 (some .boolean) (0) (0) TX5_isDigit := by
  refine am_met (own := RX5) (by decide +kernel) rfl kX5_isDigit koX5_isDigit 60 (fun _ _ _ _ _ => none) (fun live as M Ret h => ?_) (fun _ _ _ _ _ _ _ _ hI => by cases hI)
  unfold TX5_isDigit at h
  split at h
  · next v =>
    refine ⟨Nat.le_of_ble_eq_true rfl, ?_⟩
    change am_wp _ _ _ _ [(0, Value.int v)] _ _
    repeat' (first | exact rfl | apply And.intro | intro hx | (refine Exists.intro _ (And.intro rfl ?_)))
    all_goals try first | (with_reducible change am_tI _ _) | (change Ret _ _) | (change Ret _ _ _) | (change Exists _)
    all_goals try dsimp only at *
    all_goals try exact absurd ‹(1000 : Int64) = 0› (by decide)
    all_goals first | (left; rfl) | (right; rfl) | grind
  · exact h.elim
theorem dX5_levelOf_0 : decode cX5_levelOf 0 = .ok (.iload_n 0, 1) := by decide +kernel
theorem dX5_levelOf_1 : decode cX5_levelOf 1 = .ok (.lookupswitch 93 #[(38, 85), (42, 91), (43, 89), (45, 89), (47, 91), (60, 87), (61, 87), (62, 87), (124, 83)], 83) := by decide +kernel
theorem dX5_levelOf_84 : decode cX5_levelOf 84 = .ok (.iconst 0, 1) := by decide +kernel
theorem dX5_levelOf_85 : decode cX5_levelOf 85 = .ok (.ireturn, 1) := by decide +kernel
theorem dX5_levelOf_86 : decode cX5_levelOf 86 = .ok (.iconst 1, 1) := by decide +kernel
theorem dX5_levelOf_87 : decode cX5_levelOf 87 = .ok (.ireturn, 1) := by decide +kernel
theorem dX5_levelOf_88 : decode cX5_levelOf 88 = .ok (.iconst 2, 1) := by decide +kernel
theorem dX5_levelOf_89 : decode cX5_levelOf 89 = .ok (.ireturn, 1) := by decide +kernel
theorem dX5_levelOf_90 : decode cX5_levelOf 90 = .ok (.iconst 3, 1) := by decide +kernel
theorem dX5_levelOf_91 : decode cX5_levelOf 91 = .ok (.ireturn, 1) := by decide +kernel
theorem dX5_levelOf_92 : decode cX5_levelOf 92 = .ok (.iconst 4, 1) := by decide +kernel
theorem dX5_levelOf_93 : decode cX5_levelOf 93 = .ok (.ireturn, 1) := by decide +kernel
theorem dX5_levelOf_94 : decode cX5_levelOf 94 = .ok (.iconst 5, 1) := by decide +kernel
theorem dX5_levelOf_95 : decode cX5_levelOf 95 = .ok (.ireturn, 1) := by decide +kernel
def kX5_levelOf (live : am_E) (Ret : am_R) : am_code := [(0, am_iload 0 1), (1, am_switch [(38, 86), (42, 92), (43, 90), (45, 90), (47, 92), (60, 88), (61, 88), (62, 88), (124, 84)] 94), (84, am_const (.int 0) 85), (85, am_retI Ret), (86, am_const (.int 1) 87), (87, am_retI Ret), (88, am_const (.int 2) 89), (89, am_retI Ret), (90, am_const (.int 3) 91), (91, am_retI Ret), (92, am_const (.int 4) 93), (93, am_retI Ret), (94, am_const (.int 5) 95), (95, am_retI Ret)]
theorem koX5_levelOf (live : am_E) (Ret : am_R) : ∀ q ∈ kX5_levelOf live Ret, am_ok RX5 cX5_levelOf 1 (some .int) 0 0 live Ret q.1 q.2 :=
  am_kc (ak_iload_n dX5_levelOf_0 rfl rfl) <|
  am_kc (ak_lswitch dX5_levelOf_1 (by decide +kernel) (by decide +kernel) (by decide +kernel)) <|
  am_kc (ak_iconst dX5_levelOf_84 (by decide +kernel) rfl) <|
  am_kc (ak_retI dX5_levelOf_85) <|
  am_kc (ak_iconst dX5_levelOf_86 (by decide +kernel) rfl) <|
  am_kc (ak_retI dX5_levelOf_87) <|
  am_kc (ak_iconst dX5_levelOf_88 (by decide +kernel) rfl) <|
  am_kc (ak_retI dX5_levelOf_89) <|
  am_kc (ak_iconst dX5_levelOf_90 (by decide +kernel) rfl) <|
  am_kc (ak_retI dX5_levelOf_91) <|
  am_kc (ak_iconst dX5_levelOf_92 (by decide +kernel) rfl) <|
  am_kc (ak_retI dX5_levelOf_93) <|
  am_kc (ak_iconst dX5_levelOf_94 (by decide +kernel) rfl) <|
  am_kc (ak_retI dX5_levelOf_95) <| am_kn
def am_level (s : Int32) : Int32 := if s = 124 then 0 else if s = 38 then 1 else if s = 60 ∨ s = 61 ∨ s = 62 then 2 else if s = 43 ∨ s = 45 then 3 else if s = 42 ∨ s = 47 then 4 else 5
def TX5_levelOf : am_T := fun live as M R => match as with
  | [.int s] => R (some (.int (am_level s))) M
  | _ => False
set_option maxRecDepth 100000 in
set_option maxHeartbeats 4000000 in
theorem metX5_levelOf : am_Met yX5_levelOf cX5_levelOf 1 (some .int) (0) (0) TX5_levelOf := by
  refine am_met (own := RX5) (by decide +kernel) rfl kX5_levelOf koX5_levelOf 60 (fun _ _ _ _ _ => none) (fun live as M Ret h => ?_) (fun _ _ _ _ _ _ _ _ hI => by cases hI)
  unfold TX5_levelOf at h
  split at h
  · next s =>
    refine ⟨Nat.le_of_ble_eq_true rfl, ?_⟩
    change am_wp _ _ _ _ [(0, Value.int s)] _ _
    repeat' (first | exact rfl | apply And.intro | intro hx | (refine Exists.intro _ (And.intro rfl ?_)))
    all_goals try first | (with_reducible change am_tI _ _) | (change Ret _ _) | (change Ret _ _ _) | (change Exists _)
    all_goals try dsimp only at *
    all_goals try exact absurd ‹(1000 : Int64) = 0› (by decide)
    all_goals grind [am_level]
  · exact h.elim
theorem dX5_operands_0 : decode cX5_operands 0 = .ok (.iload_n 0, 1) := by decide +kernel
theorem dX5_operands_1 : decode cX5_operands 1 = .ok (.lookupswitch 97 #[(33, 93), (63, 95), (97, 91), (101, 91), (108, 91), (111, 91), (112, 91), (114, 91), (121, 91), (126, 93)], 91) := by decide +kernel
theorem dX5_operands_92 : decode cX5_operands 92 = .ok (.iconst 0, 1) := by decide +kernel
theorem dX5_operands_93 : decode cX5_operands 93 = .ok (.ireturn, 1) := by decide +kernel
theorem dX5_operands_94 : decode cX5_operands 94 = .ok (.iconst 1, 1) := by decide +kernel
theorem dX5_operands_95 : decode cX5_operands 95 = .ok (.ireturn, 1) := by decide +kernel
theorem dX5_operands_96 : decode cX5_operands 96 = .ok (.iconst 3, 1) := by decide +kernel
theorem dX5_operands_97 : decode cX5_operands 97 = .ok (.ireturn, 1) := by decide +kernel
theorem dX5_operands_98 : decode cX5_operands 98 = .ok (.iconst 2, 1) := by decide +kernel
theorem dX5_operands_99 : decode cX5_operands 99 = .ok (.ireturn, 1) := by decide +kernel
def kX5_operands (live : am_E) (Ret : am_R) : am_code := [(0, am_iload 0 1), (1, am_switch [(33, 94), (63, 96), (97, 92), (101, 92), (108, 92), (111, 92), (112, 92), (114, 92), (121, 92), (126, 94)] 98), (92, am_const (.int 0) 93), (93, am_retI Ret), (94, am_const (.int 1) 95), (95, am_retI Ret), (96, am_const (.int 3) 97), (97, am_retI Ret), (98, am_const (.int 2) 99), (99, am_retI Ret)]
theorem koX5_operands (live : am_E) (Ret : am_R) : ∀ q ∈ kX5_operands live Ret, am_ok RX5 cX5_operands 1 (some .int) 0 0 live Ret q.1 q.2 :=
  am_kc (ak_iload_n dX5_operands_0 rfl rfl) <|
  am_kc (ak_lswitch dX5_operands_1 (by decide +kernel) (by decide +kernel) (by decide +kernel)) <|
  am_kc (ak_iconst dX5_operands_92 (by decide +kernel) rfl) <|
  am_kc (ak_retI dX5_operands_93) <|
  am_kc (ak_iconst dX5_operands_94 (by decide +kernel) rfl) <|
  am_kc (ak_retI dX5_operands_95) <|
  am_kc (ak_iconst dX5_operands_96 (by decide +kernel) rfl) <|
  am_kc (ak_retI dX5_operands_97) <|
  am_kc (ak_iconst dX5_operands_98 (by decide +kernel) rfl) <|
  am_kc (ak_retI dX5_operands_99) <| am_kn
def am_ops (s : Int32) : Int32 := if s = 114 ∨ s = 112 ∨ s = 101 ∨ s = 108 ∨ s = 121 ∨ s = 111 ∨ s = 97 then 0 else if s = 33 ∨ s = 126 then 1 else if s = 63 then 3 else 2
def TX5_operands : am_T := fun live as M R => match as with
  | [.int s] => R (some (.int (am_ops s))) M
  | _ => False
set_option maxRecDepth 100000 in
set_option maxHeartbeats 4000000 in
theorem metX5_operands : am_Met yX5_operands cX5_operands 1 (some .int) (0) (0) TX5_operands := by
  refine am_met (own := RX5) (by decide +kernel) rfl kX5_operands koX5_operands 60 (fun _ _ _ _ _ => none) (fun live as M Ret h => ?_) (fun _ _ _ _ _ _ _ _ hI => by cases hI)
  unfold TX5_operands at h
  split at h
  · next s =>
    refine ⟨Nat.le_of_ble_eq_true rfl, ?_⟩
    change am_wp _ _ _ _ [(0, Value.int s)] _ _
    repeat' (first | exact rfl | apply And.intro | intro hx | (refine Exists.intro _ (And.intro rfl ?_)))
    all_goals try first | (with_reducible change am_tI _ _) | (change Ret _ _) | (change Ret _ _ _) | (change Exists _)
    all_goals try dsimp only at *
    all_goals try exact absurd ‹(1000 : Int64) = 0› (by decide)
    all_goals grind [am_ops]
  · exact h.elim
theorem dX5_joined_0 : decode cX5_joined 0 = .ok (.iload_n 0, 1) := by decide +kernel
theorem dX5_joined_1 : decode cX5_joined 1 = .ok (.lookupswitch 159 #[(38, 93), (42, 155), (43, 147), (45, 151), (60, 111), (61, 135), (62, 123), (124, 75)], 75) := by decide +kernel
theorem dX5_joined_76 : decode cX5_joined 76 = .ok (.lload_n 1, 1) := by decide +kernel
theorem dX5_joined_77 : decode cX5_joined 77 = .ok (.lconst 0, 1) := by decide +kernel
theorem dX5_joined_78 : decode cX5_joined 78 = .ok (.lcmp, 1) := by decide +kernel
theorem dX5_joined_79 : decode cX5_joined 79 = .ok (.ifCond .ne 9, 3) := by decide +kernel
theorem dX5_joined_82 : decode cX5_joined 82 = .ok (.lload_n 3, 1) := by decide +kernel
theorem dX5_joined_83 : decode cX5_joined 83 = .ok (.lconst 0, 1) := by decide +kernel
theorem dX5_joined_84 : decode cX5_joined 84 = .ok (.lcmp, 1) := by decide +kernel
theorem dX5_joined_85 : decode cX5_joined 85 = .ok (.ifCond .eq 7, 3) := by decide +kernel
theorem dX5_joined_88 : decode cX5_joined 88 = .ok (.lconst 1, 1) := by decide +kernel
theorem dX5_joined_89 : decode cX5_joined 89 = .ok (.goto 4, 3) := by decide +kernel
theorem dX5_joined_92 : decode cX5_joined 92 = .ok (.lconst 0, 1) := by decide +kernel
theorem dX5_joined_93 : decode cX5_joined 93 = .ok (.lreturn, 1) := by decide +kernel
theorem dX5_joined_94 : decode cX5_joined 94 = .ok (.lload_n 1, 1) := by decide +kernel
theorem dX5_joined_95 : decode cX5_joined 95 = .ok (.lconst 0, 1) := by decide +kernel
theorem dX5_joined_96 : decode cX5_joined 96 = .ok (.lcmp, 1) := by decide +kernel
theorem dX5_joined_97 : decode cX5_joined 97 = .ok (.ifCond .eq 13, 3) := by decide +kernel
theorem dX5_joined_100 : decode cX5_joined 100 = .ok (.lload_n 3, 1) := by decide +kernel
theorem dX5_joined_101 : decode cX5_joined 101 = .ok (.lconst 0, 1) := by decide +kernel
theorem dX5_joined_102 : decode cX5_joined 102 = .ok (.lcmp, 1) := by decide +kernel
theorem dX5_joined_103 : decode cX5_joined 103 = .ok (.ifCond .eq 7, 3) := by decide +kernel
theorem dX5_joined_106 : decode cX5_joined 106 = .ok (.lconst 1, 1) := by decide +kernel
theorem dX5_joined_107 : decode cX5_joined 107 = .ok (.goto 4, 3) := by decide +kernel
theorem dX5_joined_110 : decode cX5_joined 110 = .ok (.lconst 0, 1) := by decide +kernel
theorem dX5_joined_111 : decode cX5_joined 111 = .ok (.lreturn, 1) := by decide +kernel
theorem dX5_joined_112 : decode cX5_joined 112 = .ok (.lload_n 1, 1) := by decide +kernel
theorem dX5_joined_113 : decode cX5_joined 113 = .ok (.lload_n 3, 1) := by decide +kernel
theorem dX5_joined_114 : decode cX5_joined 114 = .ok (.lcmp, 1) := by decide +kernel
theorem dX5_joined_115 : decode cX5_joined 115 = .ok (.ifCond .ge 7, 3) := by decide +kernel
theorem dX5_joined_118 : decode cX5_joined 118 = .ok (.lconst 1, 1) := by decide +kernel
theorem dX5_joined_119 : decode cX5_joined 119 = .ok (.goto 4, 3) := by decide +kernel
theorem dX5_joined_122 : decode cX5_joined 122 = .ok (.lconst 0, 1) := by decide +kernel
theorem dX5_joined_123 : decode cX5_joined 123 = .ok (.lreturn, 1) := by decide +kernel
theorem dX5_joined_124 : decode cX5_joined 124 = .ok (.lload_n 1, 1) := by decide +kernel
theorem dX5_joined_125 : decode cX5_joined 125 = .ok (.lload_n 3, 1) := by decide +kernel
theorem dX5_joined_126 : decode cX5_joined 126 = .ok (.lcmp, 1) := by decide +kernel
theorem dX5_joined_127 : decode cX5_joined 127 = .ok (.ifCond .le 7, 3) := by decide +kernel
theorem dX5_joined_130 : decode cX5_joined 130 = .ok (.lconst 1, 1) := by decide +kernel
theorem dX5_joined_131 : decode cX5_joined 131 = .ok (.goto 4, 3) := by decide +kernel
theorem dX5_joined_134 : decode cX5_joined 134 = .ok (.lconst 0, 1) := by decide +kernel
theorem dX5_joined_135 : decode cX5_joined 135 = .ok (.lreturn, 1) := by decide +kernel
theorem dX5_joined_136 : decode cX5_joined 136 = .ok (.lload_n 1, 1) := by decide +kernel
theorem dX5_joined_137 : decode cX5_joined 137 = .ok (.lload_n 3, 1) := by decide +kernel
theorem dX5_joined_138 : decode cX5_joined 138 = .ok (.lcmp, 1) := by decide +kernel
theorem dX5_joined_139 : decode cX5_joined 139 = .ok (.ifCond .ne 7, 3) := by decide +kernel
theorem dX5_joined_142 : decode cX5_joined 142 = .ok (.lconst 1, 1) := by decide +kernel
theorem dX5_joined_143 : decode cX5_joined 143 = .ok (.goto 4, 3) := by decide +kernel
theorem dX5_joined_146 : decode cX5_joined 146 = .ok (.lconst 0, 1) := by decide +kernel
theorem dX5_joined_147 : decode cX5_joined 147 = .ok (.lreturn, 1) := by decide +kernel
theorem dX5_joined_148 : decode cX5_joined 148 = .ok (.lload_n 1, 1) := by decide +kernel
theorem dX5_joined_149 : decode cX5_joined 149 = .ok (.lload_n 3, 1) := by decide +kernel
theorem dX5_joined_150 : decode cX5_joined 150 = .ok (.ladd, 1) := by decide +kernel
theorem dX5_joined_151 : decode cX5_joined 151 = .ok (.lreturn, 1) := by decide +kernel
theorem dX5_joined_152 : decode cX5_joined 152 = .ok (.lload_n 1, 1) := by decide +kernel
theorem dX5_joined_153 : decode cX5_joined 153 = .ok (.lload_n 3, 1) := by decide +kernel
theorem dX5_joined_154 : decode cX5_joined 154 = .ok (.lsub, 1) := by decide +kernel
theorem dX5_joined_155 : decode cX5_joined 155 = .ok (.lreturn, 1) := by decide +kernel
theorem dX5_joined_156 : decode cX5_joined 156 = .ok (.lload_n 1, 1) := by decide +kernel
theorem dX5_joined_157 : decode cX5_joined 157 = .ok (.lload_n 3, 1) := by decide +kernel
theorem dX5_joined_158 : decode cX5_joined 158 = .ok (.lmul, 1) := by decide +kernel
theorem dX5_joined_159 : decode cX5_joined 159 = .ok (.lreturn, 1) := by decide +kernel
theorem dX5_joined_160 : decode cX5_joined 160 = .ok (.lload_n 3, 1) := by decide +kernel
theorem dX5_joined_161 : decode cX5_joined 161 = .ok (.lconst 0, 1) := by decide +kernel
theorem dX5_joined_162 : decode cX5_joined 162 = .ok (.lcmp, 1) := by decide +kernel
theorem dX5_joined_163 : decode cX5_joined 163 = .ok (.ifCond .ne 7, 3) := by decide +kernel
theorem dX5_joined_166 : decode cX5_joined 166 = .ok (.lconst 0, 1) := by decide +kernel
theorem dX5_joined_167 : decode cX5_joined 167 = .ok (.goto 6, 3) := by decide +kernel
theorem dX5_joined_170 : decode cX5_joined 170 = .ok (.lload_n 1, 1) := by decide +kernel
theorem dX5_joined_171 : decode cX5_joined 171 = .ok (.lload_n 3, 1) := by decide +kernel
theorem dX5_joined_172 : decode cX5_joined 172 = .ok (.ldiv, 1) := by decide +kernel
theorem dX5_joined_173 : decode cX5_joined 173 = .ok (.lreturn, 1) := by decide +kernel
def kX5_joined (live : am_E) (Ret : am_R) : am_code := [(0, am_iload 0 1), (1, am_switch [(38, 94), (42, 156), (43, 148), (45, 152), (60, 112), (61, 136), (62, 124), (124, 76)] 160), (76, am_lload 1 77), (77, am_const (.long 0) 78), (78, am_lcmp 79), (79, am_if1 (fun x => x = 0) 82 88), (82, am_lload 3 83), (83, am_const (.long 0) 84), (84, am_lcmp 85), (85, am_if1 (fun x => x = 0) 92 88), (88, am_const (.long 1) 89), (89, am_goto 93), (92, am_const (.long 0) 93), (93, am_retL Ret), (94, am_lload 1 95), (95, am_const (.long 0) 96), (96, am_lcmp 97), (97, am_if1 (fun x => x = 0) 110 100), (100, am_lload 3 101), (101, am_const (.long 0) 102), (102, am_lcmp 103), (103, am_if1 (fun x => x = 0) 110 106), (106, am_const (.long 1) 107), (107, am_goto 111), (110, am_const (.long 0) 111), (111, am_retL Ret), (112, am_lload 1 113), (113, am_lload 3 114), (114, am_lcmp 115), (115, am_if1 (fun x => 0 ≤ x) 122 118), (118, am_const (.long 1) 119), (119, am_goto 123), (122, am_const (.long 0) 123), (123, am_retL Ret), (124, am_lload 1 125), (125, am_lload 3 126), (126, am_lcmp 127), (127, am_if1 (fun x => x ≤ 0) 134 130), (130, am_const (.long 1) 131), (131, am_goto 135), (134, am_const (.long 0) 135), (135, am_retL Ret), (136, am_lload 1 137), (137, am_lload 3 138), (138, am_lcmp 139), (139, am_if1 (fun x => x = 0) 142 146), (142, am_const (.long 1) 143), (143, am_goto 147), (146, am_const (.long 0) 147), (147, am_retL Ret), (148, am_lload 1 149), (149, am_lload 3 150), (150, am_l2 (fun x y => x + y) 151), (151, am_retL Ret), (152, am_lload 1 153), (153, am_lload 3 154), (154, am_l2 (fun x y => x - y) 155), (155, am_retL Ret), (156, am_lload 1 157), (157, am_lload 3 158), (158, am_l2 (fun x y => x * y) 159), (159, am_retL Ret), (160, am_lload 3 161), (161, am_const (.long 0) 162), (162, am_lcmp 163), (163, am_if1 (fun x => x = 0) 166 170), (166, am_const (.long 0) 167), (167, am_goto 173), (170, am_lload 1 171), (171, am_lload 3 172), (172, am_l2z (fun x y => x / y) 173), (173, am_retL Ret)]
theorem koX5_joined (live : am_E) (Ret : am_R) : ∀ q ∈ kX5_joined live Ret, am_ok RX5 cX5_joined 5 (some .long) 0 0 live Ret q.1 q.2 :=
  am_kc (ak_iload_n dX5_joined_0 rfl rfl) <|
  am_kc (ak_lswitch dX5_joined_1 (by decide +kernel) (by decide +kernel) (by decide +kernel)) <|
  am_kc (ak_lload_n dX5_joined_76 rfl rfl) <|
  am_kc (ak_lconst dX5_joined_77 (by decide +kernel) rfl) <|
  am_kc (ak_lcmp dX5_joined_78 rfl) <|
  am_kc (ak_if_ne dX5_joined_79 (by decide +kernel) rfl) <|
  am_kc (ak_lload_n dX5_joined_82 rfl rfl) <|
  am_kc (ak_lconst dX5_joined_83 (by decide +kernel) rfl) <|
  am_kc (ak_lcmp dX5_joined_84 rfl) <|
  am_kc (ak_if_eq dX5_joined_85 (by decide +kernel) rfl) <|
  am_kc (ak_lconst dX5_joined_88 (by decide +kernel) rfl) <|
  am_kc (ak_goto dX5_joined_89 (by decide +kernel)) <|
  am_kc (ak_lconst dX5_joined_92 (by decide +kernel) rfl) <|
  am_kc (ak_retL dX5_joined_93) <|
  am_kc (ak_lload_n dX5_joined_94 rfl rfl) <|
  am_kc (ak_lconst dX5_joined_95 (by decide +kernel) rfl) <|
  am_kc (ak_lcmp dX5_joined_96 rfl) <|
  am_kc (ak_if_eq dX5_joined_97 (by decide +kernel) rfl) <|
  am_kc (ak_lload_n dX5_joined_100 rfl rfl) <|
  am_kc (ak_lconst dX5_joined_101 (by decide +kernel) rfl) <|
  am_kc (ak_lcmp dX5_joined_102 rfl) <|
  am_kc (ak_if_eq dX5_joined_103 (by decide +kernel) rfl) <|
  am_kc (ak_lconst dX5_joined_106 (by decide +kernel) rfl) <|
  am_kc (ak_goto dX5_joined_107 (by decide +kernel)) <|
  am_kc (ak_lconst dX5_joined_110 (by decide +kernel) rfl) <|
  am_kc (ak_retL dX5_joined_111) <|
  am_kc (ak_lload_n dX5_joined_112 rfl rfl) <|
  am_kc (ak_lload_n dX5_joined_113 rfl rfl) <|
  am_kc (ak_lcmp dX5_joined_114 rfl) <|
  am_kc (ak_if_ge dX5_joined_115 (by decide +kernel) rfl) <|
  am_kc (ak_lconst dX5_joined_118 (by decide +kernel) rfl) <|
  am_kc (ak_goto dX5_joined_119 (by decide +kernel)) <|
  am_kc (ak_lconst dX5_joined_122 (by decide +kernel) rfl) <|
  am_kc (ak_retL dX5_joined_123) <|
  am_kc (ak_lload_n dX5_joined_124 rfl rfl) <|
  am_kc (ak_lload_n dX5_joined_125 rfl rfl) <|
  am_kc (ak_lcmp dX5_joined_126 rfl) <|
  am_kc (ak_if_le dX5_joined_127 (by decide +kernel) rfl) <|
  am_kc (ak_lconst dX5_joined_130 (by decide +kernel) rfl) <|
  am_kc (ak_goto dX5_joined_131 (by decide +kernel)) <|
  am_kc (ak_lconst dX5_joined_134 (by decide +kernel) rfl) <|
  am_kc (ak_retL dX5_joined_135) <|
  am_kc (ak_lload_n dX5_joined_136 rfl rfl) <|
  am_kc (ak_lload_n dX5_joined_137 rfl rfl) <|
  am_kc (ak_lcmp dX5_joined_138 rfl) <|
  am_kc (ak_if_ne dX5_joined_139 (by decide +kernel) rfl) <|
  am_kc (ak_lconst dX5_joined_142 (by decide +kernel) rfl) <|
  am_kc (ak_goto dX5_joined_143 (by decide +kernel)) <|
  am_kc (ak_lconst dX5_joined_146 (by decide +kernel) rfl) <|
  am_kc (ak_retL dX5_joined_147) <|
  am_kc (ak_lload_n dX5_joined_148 rfl rfl) <|
  am_kc (ak_lload_n dX5_joined_149 rfl rfl) <|
  am_kc (ak_ladd dX5_joined_150 rfl) <|
  am_kc (ak_retL dX5_joined_151) <|
  am_kc (ak_lload_n dX5_joined_152 rfl rfl) <|
  am_kc (ak_lload_n dX5_joined_153 rfl rfl) <|
  am_kc (ak_lsub dX5_joined_154 rfl) <|
  am_kc (ak_retL dX5_joined_155) <|
  am_kc (ak_lload_n dX5_joined_156 rfl rfl) <|
  am_kc (ak_lload_n dX5_joined_157 rfl rfl) <|
  am_kc (ak_lmul dX5_joined_158 rfl) <|
  am_kc (ak_retL dX5_joined_159) <|
  am_kc (ak_lload_n dX5_joined_160 rfl rfl) <|
  am_kc (ak_lconst dX5_joined_161 (by decide +kernel) rfl) <|
  am_kc (ak_lcmp dX5_joined_162 rfl) <|
  am_kc (ak_if_ne dX5_joined_163 (by decide +kernel) rfl) <|
  am_kc (ak_lconst dX5_joined_166 (by decide +kernel) rfl) <|
  am_kc (ak_goto dX5_joined_167 (by decide +kernel)) <|
  am_kc (ak_lload_n dX5_joined_170 rfl rfl) <|
  am_kc (ak_lload_n dX5_joined_171 rfl rfl) <|
  am_kc (ak_ldiv dX5_joined_172 rfl) <|
  am_kc (ak_retL dX5_joined_173) <| am_kn
def am_join (s : Int32) (a b : Int64) : Int64 := if s = 124 then (if a ≠ 0 ∨ b ≠ 0 then 1 else 0) else if s = 38 then (if a ≠ 0 ∧ b ≠ 0 then 1 else 0) else if s = 60 then (if a < b then 1 else 0) else if s = 62 then (if b < a then 1 else 0) else if s = 61 then (if a = b then 1 else 0) else if s = 43 then a + b else if s = 45 then a - b else if s = 42 then a * b else if b = 0 then 0 else a / b
theorem lc_eq (x y : Int64) : lg_cmp x y = 0 ↔ x = y := by unfold lg_cmp; split <;> (try split) <;> grind
theorem lc_lt (x y : Int64) : lg_cmp x y < 0 ↔ x < y := by unfold lg_cmp; split <;> (try split) <;> grind
theorem lc_ge (x y : Int64) : 0 ≤ lg_cmp x y ↔ y ≤ x := by unfold lg_cmp; split <;> (try split) <;> grind
theorem lc_gt (x y : Int64) : 0 < lg_cmp x y ↔ y < x := by unfold lg_cmp; split <;> (try split) <;> grind
theorem lc_le (x y : Int64) : lg_cmp x y ≤ 0 ↔ x ≤ y := by unfold lg_cmp; split <;> (try split) <;> grind
def TX5_joined : am_T := fun live as M R => match as with
  | [.int s, .long a, .long b] => R (some (.long (am_join s a b))) M
  | _ => False
set_option maxRecDepth 100000 in
set_option maxHeartbeats 4000000 in
theorem metX5_joined : am_Met yX5_joined cX5_joined 5 (some .long) (0) (0) TX5_joined := by
  refine am_met (own := RX5) (by decide +kernel) rfl kX5_joined koX5_joined 120 (fun _ _ _ _ _ => none) (fun live as M Ret h => ?_) (fun _ _ _ _ _ _ _ _ hI => by cases hI)
  unfold TX5_joined at h
  split at h
  · next s a b =>
    refine ⟨Nat.le_of_ble_eq_true rfl, ?_⟩
    change am_wp _ _ _ _ [(0, Value.int s), (1, Value.long a), (3, Value.long b)] _ _
    repeat' (first | exact rfl | apply And.intro | intro hx | (refine Exists.intro _ (And.intro rfl ?_)))
    all_goals try first | (with_reducible change am_tI _ _) | (change Ret _ _) | (change Ret _ _ _) | (change Exists _)
    all_goals try dsimp only at *
    all_goals try exact absurd ‹(1000 : Int64) = 0› (by decide)
    all_goals try simp only [lc_eq, lc_lt, lc_ge, lc_gt, lc_le] at *
    all_goals first | assumption | grind [am_join]
  · exact h.elim
theorem wd_175 : Cond.fieldLink "LearnLoans$Text" 18 "LearnLoans$Text" "wrong" "I" ∈ am_ws := am_wsi (List.mem_of_getElem? (i := 175) (by decide +kernel)) (by decide +kernel)
theorem dX5_blame_0 : decode cX5_blame 0 = .ok (.aload_n 0, 1) := by decide +kernel
theorem dX5_blame_1 : decode cX5_blame 1 = .ok (.getfield 18, 3) := by decide +kernel
theorem dX5_blame_4 : decode cX5_blame 4 = .ok (.iconst (-1), 1) := by decide +kernel
theorem dX5_blame_5 : decode cX5_blame 5 = .ok (.if_icmp .ne 13, 3) := by decide +kernel
theorem dX5_blame_8 : decode cX5_blame 8 = .ok (.aload_n 0, 1) := by decide +kernel
theorem dX5_blame_9 : decode cX5_blame 9 = .ok (.bipush 10, 2) := by decide +kernel
theorem dX5_blame_11 : decode cX5_blame 11 = .ok (.iload_n 1, 1) := by decide +kernel
theorem dX5_blame_12 : decode cX5_blame 12 = .ok (.imul, 1) := by decide +kernel
theorem dX5_blame_13 : decode cX5_blame 13 = .ok (.iload_n 2, 1) := by decide +kernel
theorem dX5_blame_14 : decode cX5_blame 14 = .ok (.iadd, 1) := by decide +kernel
theorem dX5_blame_15 : decode cX5_blame 15 = .ok (.putfield 18, 3) := by decide +kernel
theorem dX5_blame_18 : decode cX5_blame 18 = .ok (.return_, 1) := by decide +kernel
def kX5_blame (live : am_E) (Ret : am_R) : am_code := [(0, am_aload 0 1), (1, am_getI live 5 6 4), (4, am_const (.int (-1)) 5), (5, am_if2 (fun x y => x = y) 8 18), (8, am_aload 0 9), (9, am_const (.int 10) 11), (11, am_iload 1 12), (12, am_i2 (fun x y => x * y) 13), (13, am_iload 2 14), (14, am_i2 (fun x y => x + y) 15), (15, am_putI live 5 6 18), (18, am_retV Ret)]
theorem koX5_blame (live : am_E) (Ret : am_R) : ∀ q ∈ kX5_blame live Ret, am_ok RX5 cX5_blame 3 none 0 0 live Ret q.1 q.2 :=
  am_kc (ak_aload_n dX5_blame_0 rfl rfl) <|
  am_kc (ak_getI (C := RX5) (T := TX5) (N := 7) rfl inX5w (by decide) rfl rfl rfl wd_175 dX5_blame_1 rfl) <|
  am_kc (ak_iconst dX5_blame_4 (by decide +kernel) rfl) <|
  am_kc (ak_icmp_ne dX5_blame_5 (by decide +kernel) rfl) <|
  am_kc (ak_aload_n dX5_blame_8 rfl rfl) <|
  am_kc (ak_bipush dX5_blame_9 (by decide +kernel) rfl) <|
  am_kc (ak_iload_n dX5_blame_11 rfl rfl) <|
  am_kc (ak_imul dX5_blame_12 rfl) <|
  am_kc (ak_iload_n dX5_blame_13 rfl rfl) <|
  am_kc (ak_iadd dX5_blame_14 rfl) <|
  am_kc (ak_putI (C := RX5) (T := TX5) (N := 7) rfl inX5w tyX5_ok nmX5 (by decide) rfl rfl rfl rfl (by decide +kernel) wd_175 dX5_blame_15 rfl) <|
  am_kc (ak_retV dX5_blame_18) <| am_kn
def am_blame (M : am_M) (t : Nat) (a k : Int32) : am_M := am_wIc (M.1 t 6 = -1) M t 6 (10 * a + k)
def TX5_blame : am_T := fun live as M R => match as with
  | [.ref t, .int a, .int k] => am_if (am_isO live 5 t) (R none (am_blame M t a k))
  | _ => False
set_option maxRecDepth 100000 in
set_option maxHeartbeats 4000000 in
theorem metX5_blame : am_Met yX5_blame cX5_blame 3 none (0) (0) TX5_blame := by
  refine am_met (own := RX5) (by decide +kernel) rfl kX5_blame koX5_blame 60 (fun _ _ _ _ _ => none) (fun live as M Ret h => ?_) (fun _ _ _ _ _ _ _ _ hI => by cases hI)
  unfold TX5_blame at h
  split at h
  · next t a k =>
    refine ⟨Nat.le_of_ble_eq_true rfl, ?_⟩
    change am_wp _ _ _ _ [(0, Value.ref t), (1, Value.int a), (2, Value.int k)] _ _
    have hh := am_if_mp h
    clear h
    obtain ⟨h1, h⟩ := hh
    repeat' (first | exact rfl | (with_reducible exact h1) | apply And.intro | intro hx | (refine Exists.intro _ (And.intro rfl ?_)) | ((with_reducible change _ = true); simp only [h1, Bool.true_and]; rfl))
    all_goals try first | (with_reducible change am_tI _ _) | (change Ret _ _) | (change Ret _ _ _) | (change Exists _)
    all_goals try dsimp only at *
    all_goals try exact absurd ‹(1000 : Int64) = 0› (by decide)
    · unfold am_blame at h; rw [am_wIc_t ‹_›] at h; exact h
    · unfold am_blame at h; rw [am_wIc_f ‹_›] at h; exact h
  · exact h.elim
theorem wd_170 : Cond.fieldLink "LearnLoans$Text" 25 "LearnLoans$Text" "codes" "I" ∈ am_ws := am_wsi (List.mem_of_getElem? (i := 170) (by decide +kernel)) (by decide +kernel)
theorem wd_169 : Cond.fieldLink "LearnLoans$Text" 15 "LearnLoans$Text" "code" "[I" ∈ am_ws := am_wsi (List.mem_of_getElem? (i := 169) (by decide +kernel)) (by decide +kernel)
theorem dX5_emit_0 : decode cX5_emit 0 = .ok (.aload_n 0, 1) := by decide +kernel
theorem dX5_emit_1 : decode cX5_emit 1 = .ok (.getfield 25, 3) := by decide +kernel
theorem dX5_emit_4 : decode cX5_emit 4 = .ok (.bipush 50, 2) := by decide +kernel
theorem dX5_emit_6 : decode cX5_emit 6 = .ok (.if_icmp .ge 23, 3) := by decide +kernel
theorem dX5_emit_9 : decode cX5_emit 9 = .ok (.aload_n 0, 1) := by decide +kernel
theorem dX5_emit_10 : decode cX5_emit 10 = .ok (.getfield 15, 3) := by decide +kernel
theorem dX5_emit_13 : decode cX5_emit 13 = .ok (.aload_n 0, 1) := by decide +kernel
theorem dX5_emit_14 : decode cX5_emit 14 = .ok (.getfield 25, 3) := by decide +kernel
theorem dX5_emit_17 : decode cX5_emit 17 = .ok (.iload_n 1, 1) := by decide +kernel
theorem dX5_emit_18 : decode cX5_emit 18 = .ok (.iastore, 1) := by decide +kernel
theorem dX5_emit_19 : decode cX5_emit 19 = .ok (.aload_n 0, 1) := by decide +kernel
theorem dX5_emit_20 : decode cX5_emit 20 = .ok (.dup, 1) := by decide +kernel
theorem dX5_emit_21 : decode cX5_emit 21 = .ok (.getfield 25, 3) := by decide +kernel
theorem dX5_emit_24 : decode cX5_emit 24 = .ok (.iconst 1, 1) := by decide +kernel
theorem dX5_emit_25 : decode cX5_emit 25 = .ok (.iadd, 1) := by decide +kernel
theorem dX5_emit_26 : decode cX5_emit 26 = .ok (.putfield 25, 3) := by decide +kernel
theorem dX5_emit_29 : decode cX5_emit 29 = .ok (.return_, 1) := by decide +kernel
def kX5_emit (live : am_E) (Ret : am_R) : am_code := [(0, am_aload 0 1), (1, am_getI live 5 2 4), (4, am_const (.int 50) 6), (6, am_if2 (fun x y => y ≤ x) 29 9), (9, am_aload 0 10), (10, am_getR live 5 1 13), (13, am_aload 0 14), (14, am_getI live 5 2 17), (17, am_iload 1 18), (18, am_ast live 0 19), (19, am_aload 0 20), (20, am_dup 21), (21, am_getI live 5 2 24), (24, am_const (.int 1) 25), (25, am_i2 (fun x y => x + y) 26), (26, am_putI live 5 2 29), (29, am_retV Ret)]
theorem koX5_emit (live : am_E) (Ret : am_R) : ∀ q ∈ kX5_emit live Ret, am_ok RX5 cX5_emit 2 none 0 0 live Ret q.1 q.2 :=
  am_kc (ak_aload_n dX5_emit_0 rfl rfl) <|
  am_kc (ak_getI (C := RX5) (T := TX5) (N := 7) rfl inX5w (by decide) rfl rfl rfl wd_170 dX5_emit_1 rfl) <|
  am_kc (ak_bipush dX5_emit_4 (by decide +kernel) rfl) <|
  am_kc (ak_icmp_ge dX5_emit_6 (by decide +kernel) rfl) <|
  am_kc (ak_aload_n dX5_emit_9 rfl rfl) <|
  am_kc (ak_getR (C := RX5) (T := TX5) (N := 7) rfl inX5w (by decide) rfl rfl rfl wd_169 dX5_emit_10 rfl) <|
  am_kc (ak_aload_n dX5_emit_13 rfl rfl) <|
  am_kc (ak_getI (C := RX5) (T := TX5) (N := 7) rfl inX5w (by decide) rfl rfl rfl wd_170 dX5_emit_14 rfl) <|
  am_kc (ak_iload_n dX5_emit_17 rfl rfl) <|
  am_kc (ak_iast (t := 0) (fun _ => rfl) rfl dX5_emit_18 rfl) <|
  am_kc (ak_aload_n dX5_emit_19 rfl rfl) <|
  am_kc (ak_dup dX5_emit_20 rfl) <|
  am_kc (ak_getI (C := RX5) (T := TX5) (N := 7) rfl inX5w (by decide) rfl rfl rfl wd_170 dX5_emit_21 rfl) <|
  am_kc (ak_iconst dX5_emit_24 (by decide +kernel) rfl) <|
  am_kc (ak_iadd dX5_emit_25 rfl) <|
  am_kc (ak_putI (C := RX5) (T := TX5) (N := 7) rfl inX5w tyX5_ok nmX5 (by decide) rfl rfl rfl rfl (by decide +kernel) wd_170 dX5_emit_26 rfl) <|
  am_kc (ak_retV dX5_emit_29) <| am_kn
def am_emit (M : am_M) (t c : Nat) (v : Int32) : am_M := if (M.1 t 2).toInt < 50 then am_wI (am_wI M c (M.1 t 2).toNatClampNeg v) t 2 (M.1 t 2 + 1) else M
def TX5_emit : am_T := fun live as M R => match as with
  | [.ref t, .int v] => am_tP live t (fun s c => 0 ≤ (M.1 t 2).toInt ∧ R none (am_emit M t c v))
  | _ => False
set_option maxRecDepth 100000 in
set_option maxHeartbeats 4000000 in
theorem metX5_emit : am_Met yX5_emit cX5_emit 2 none (0) (0) TX5_emit := by
  refine am_met (own := RX5) (by decide +kernel) rfl kX5_emit koX5_emit 60 (fun _ _ _ _ _ => none) (fun live as M Ret h => ?_) (fun _ _ _ _ _ _ _ _ hI => by cases hI)
  unfold TX5_emit at h
  split at h
  · next t v =>
    refine ⟨Nat.le_of_ble_eq_true rfl, ?_⟩
    change am_wp _ _ _ _ [(0, Value.ref t), (1, Value.int v)] _ _
    have hh := am_tP_mp h
    clear h
    obtain ⟨s, c, g1, h2, g3, h1, g4, h3, g5, h4, g6, g7, h5, h0, h⟩ := hh
    repeat' (first | exact rfl | (with_reducible exact h1) | (with_reducible exact h2) | (with_reducible exact h3) | (refine Exists.intro _ (And.intro h2 ?_)) | apply And.intro | intro hx | (refine Exists.intro _ (And.intro rfl ?_)) | ((with_reducible change _ = true); simp only [h1, h2, h3, Bool.true_and]; rfl))
    all_goals try first | (with_reducible change am_tI _ _) | (change Ret _ _) | (change Ret _ _ _) | (change Exists _)
    all_goals try dsimp only at *
    all_goals try exact absurd ‹(1000 : Int64) = 0› (by decide)
    all_goals simp only [i_le, Int32.reduceToInt, h4, am_emit] at *
    · rw [if_neg (by omega)] at h; exact h
    · omega
    · omega
    · rw [if_pos (by omega)] at h
      simp only [am_wI_1, h5, false_and, if_false]
      exact h
  · exact h.elim
theorem wd_171 : Cond.fieldLink "LearnLoans$Text" 28 "LearnLoans$Text" "place" "I" ∈ am_ws := am_wsi (List.mem_of_getElem? (i := 171) (by decide +kernel)) (by decide +kernel)
theorem wd_173 : Cond.fieldLink "LearnLoans$Text" 22 "LearnLoans$Text" "size" "I" ∈ am_ws := am_wsi (List.mem_of_getElem? (i := 173) (by decide +kernel)) (by decide +kernel)
theorem wd_168 : Cond.fieldLink "LearnLoans$Text" 9 "LearnLoans$Text" "signs" "[I" ∈ am_ws := am_wsi (List.mem_of_getElem? (i := 168) (by decide +kernel)) (by decide +kernel)
theorem dX5_next_0 : decode cX5_next 0 = .ok (.aload_n 0, 1) := by decide +kernel
theorem dX5_next_1 : decode cX5_next 1 = .ok (.getfield 28, 3) := by decide +kernel
theorem dX5_next_4 : decode cX5_next 4 = .ok (.aload_n 0, 1) := by decide +kernel
theorem dX5_next_5 : decode cX5_next 5 = .ok (.getfield 22, 3) := by decide +kernel
theorem dX5_next_8 : decode cX5_next 8 = .ok (.if_icmp .ge 30, 3) := by decide +kernel
theorem dX5_next_11 : decode cX5_next 11 = .ok (.aload_n 0, 1) := by decide +kernel
theorem dX5_next_12 : decode cX5_next 12 = .ok (.getfield 9, 3) := by decide +kernel
theorem dX5_next_15 : decode cX5_next 15 = .ok (.aload_n 0, 1) := by decide +kernel
theorem dX5_next_16 : decode cX5_next 16 = .ok (.getfield 28, 3) := by decide +kernel
theorem dX5_next_19 : decode cX5_next 19 = .ok (.iaload, 1) := by decide +kernel
theorem dX5_next_20 : decode cX5_next 20 = .ok (.bipush 32, 2) := by decide +kernel
theorem dX5_next_22 : decode cX5_next 22 = .ok (.if_icmp .ne 16, 3) := by decide +kernel
theorem dX5_next_25 : decode cX5_next 25 = .ok (.aload_n 0, 1) := by decide +kernel
theorem dX5_next_26 : decode cX5_next 26 = .ok (.dup, 1) := by decide +kernel
theorem dX5_next_27 : decode cX5_next 27 = .ok (.getfield 28, 3) := by decide +kernel
theorem dX5_next_30 : decode cX5_next 30 = .ok (.iconst 1, 1) := by decide +kernel
theorem dX5_next_31 : decode cX5_next 31 = .ok (.iadd, 1) := by decide +kernel
theorem dX5_next_32 : decode cX5_next 32 = .ok (.putfield 28, 3) := by decide +kernel
theorem dX5_next_35 : decode cX5_next 35 = .ok (.goto (-35), 3) := by decide +kernel
theorem dX5_next_38 : decode cX5_next 38 = .ok (.aload_n 0, 1) := by decide +kernel
theorem dX5_next_39 : decode cX5_next 39 = .ok (.getfield 28, 3) := by decide +kernel
theorem dX5_next_42 : decode cX5_next 42 = .ok (.aload_n 0, 1) := by decide +kernel
theorem dX5_next_43 : decode cX5_next 43 = .ok (.getfield 22, 3) := by decide +kernel
theorem dX5_next_46 : decode cX5_next 46 = .ok (.if_icmp .ge 15, 3) := by decide +kernel
theorem dX5_next_49 : decode cX5_next 49 = .ok (.aload_n 0, 1) := by decide +kernel
theorem dX5_next_50 : decode cX5_next 50 = .ok (.getfield 9, 3) := by decide +kernel
theorem dX5_next_53 : decode cX5_next 53 = .ok (.aload_n 0, 1) := by decide +kernel
theorem dX5_next_54 : decode cX5_next 54 = .ok (.getfield 28, 3) := by decide +kernel
theorem dX5_next_57 : decode cX5_next 57 = .ok (.iaload, 1) := by decide +kernel
theorem dX5_next_58 : decode cX5_next 58 = .ok (.goto 4, 3) := by decide +kernel
theorem dX5_next_61 : decode cX5_next 61 = .ok (.iconst (-1), 1) := by decide +kernel
theorem dX5_next_62 : decode cX5_next 62 = .ok (.ireturn, 1) := by decide +kernel
def kX5_next (live : am_E) (Ret : am_R) : am_code := [(0, am_aload 0 1), (1, am_getI live 5 3 4), (4, am_aload 0 5), (5, am_getI live 5 5 8), (8, am_if2 (fun x y => y ≤ x) 38 11), (11, am_aload 0 12), (12, am_getR live 5 0 15), (15, am_aload 0 16), (16, am_getI live 5 3 19), (19, am_ald live 0 20), (20, am_const (.int 32) 22), (22, am_if2 (fun x y => x = y) 25 38), (25, am_aload 0 26), (26, am_dup 27), (27, am_getI live 5 3 30), (30, am_const (.int 1) 31), (31, am_i2 (fun x y => x + y) 32), (32, am_putI live 5 3 35), (35, am_goto 0), (38, am_aload 0 39), (39, am_getI live 5 3 42), (42, am_aload 0 43), (43, am_getI live 5 5 46), (46, am_if2 (fun x y => y ≤ x) 61 49), (49, am_aload 0 50), (50, am_getR live 5 0 53), (53, am_aload 0 54), (54, am_getI live 5 3 57), (57, am_ald live 0 58), (58, am_goto 62), (61, am_const (.int (-1)) 62), (62, am_retI Ret)]
theorem koX5_next (live : am_E) (Ret : am_R) : ∀ q ∈ kX5_next live Ret, am_ok RX5 cX5_next 1 (some .int) 0 0 live Ret q.1 q.2 :=
  am_kc (ak_aload_n dX5_next_0 rfl rfl) <|
  am_kc (ak_getI (C := RX5) (T := TX5) (N := 7) rfl inX5w (by decide) rfl rfl rfl wd_171 dX5_next_1 rfl) <|
  am_kc (ak_aload_n dX5_next_4 rfl rfl) <|
  am_kc (ak_getI (C := RX5) (T := TX5) (N := 7) rfl inX5w (by decide) rfl rfl rfl wd_173 dX5_next_5 rfl) <|
  am_kc (ak_icmp_ge dX5_next_8 (by decide +kernel) rfl) <|
  am_kc (ak_aload_n dX5_next_11 rfl rfl) <|
  am_kc (ak_getR (C := RX5) (T := TX5) (N := 7) rfl inX5w (by decide) rfl rfl rfl wd_168 dX5_next_12 rfl) <|
  am_kc (ak_aload_n dX5_next_15 rfl rfl) <|
  am_kc (ak_getI (C := RX5) (T := TX5) (N := 7) rfl inX5w (by decide) rfl rfl rfl wd_171 dX5_next_16 rfl) <|
  am_kc (ak_iald (t := 0) (fun _ => rfl) rfl dX5_next_19 rfl) <|
  am_kc (ak_bipush dX5_next_20 (by decide +kernel) rfl) <|
  am_kc (ak_icmp_ne dX5_next_22 (by decide +kernel) rfl) <|
  am_kc (ak_aload_n dX5_next_25 rfl rfl) <|
  am_kc (ak_dup dX5_next_26 rfl) <|
  am_kc (ak_getI (C := RX5) (T := TX5) (N := 7) rfl inX5w (by decide) rfl rfl rfl wd_171 dX5_next_27 rfl) <|
  am_kc (ak_iconst dX5_next_30 (by decide +kernel) rfl) <|
  am_kc (ak_iadd dX5_next_31 rfl) <|
  am_kc (ak_putI (C := RX5) (T := TX5) (N := 7) rfl inX5w tyX5_ok nmX5 (by decide) rfl rfl rfl rfl (by decide +kernel) wd_171 dX5_next_32 rfl) <|
  am_kc (ak_goto dX5_next_35 (by decide +kernel)) <|
  am_kc (ak_aload_n dX5_next_38 rfl rfl) <|
  am_kc (ak_getI (C := RX5) (T := TX5) (N := 7) rfl inX5w (by decide) rfl rfl rfl wd_171 dX5_next_39 rfl) <|
  am_kc (ak_aload_n dX5_next_42 rfl rfl) <|
  am_kc (ak_getI (C := RX5) (T := TX5) (N := 7) rfl inX5w (by decide) rfl rfl rfl wd_173 dX5_next_43 rfl) <|
  am_kc (ak_icmp_ge dX5_next_46 (by decide +kernel) rfl) <|
  am_kc (ak_aload_n dX5_next_49 rfl rfl) <|
  am_kc (ak_getR (C := RX5) (T := TX5) (N := 7) rfl inX5w (by decide) rfl rfl rfl wd_168 dX5_next_50 rfl) <|
  am_kc (ak_aload_n dX5_next_53 rfl rfl) <|
  am_kc (ak_getI (C := RX5) (T := TX5) (N := 7) rfl inX5w (by decide) rfl rfl rfl wd_171 dX5_next_54 rfl) <|
  am_kc (ak_iald (t := 0) (fun _ => rfl) rfl dX5_next_57 rfl) <|
  am_kc (ak_goto dX5_next_58 (by decide +kernel)) <|
  am_kc (ak_iconst dX5_next_61 (by decide +kernel) rfl) <|
  am_kc (ak_retI dX5_next_62) <| am_kn
/-- blanks are passed: the place is p from now on -/
def am_skip (M : am_M) (t s : Nat) (p : Int32) : Prop := (M.1 t 3).toInt ≤ p.toInt ∧ p.toInt ≤ (M.1 t 5).toInt ∧ (∀ j : Nat, (M.1 t 3).toInt ≤ (j : Int) → (j : Int) < p.toInt → M.1 s j = 32) ∧ (p.toInt < (M.1 t 5).toInt → ¬ M.1 s p.toNatClampNeg = 32)
def am_sign (M : am_M) (t s : Nat) (p : Int32) : Int32 := if p.toInt < (M.1 t 5).toInt then M.1 s p.toNatClampNeg else -1
def TX5_next : am_T := fun live as M R => match as with
  | [.ref t] => am_tP live t (fun s c => am_tI M t ∧ ∀ p, am_skip M t s p → R (some (.int (am_sign M t s p))) (am_wI M t 3 p))
  | _ => False
def JX5_next : am_E → List Value → am_M → am_R → am_inv := fun live as M0 _ pc => match as with
  | [.ref t] => (match pc with
    | 0 => some ([0], fun k L st M => ∃ p : Int32, L = [(0, .ref t)] ∧ st = [] ∧ k = ((51 - p.toInt).toNat, 0) ∧ M = am_wI M0 t 3 p ∧ (M0.1 t 3).toInt ≤ p.toInt ∧ p.toInt ≤ (M0.1 t 5).toInt ∧ (∀ j : Nat, (M0.1 t 3).toInt ≤ (j : Int) → (j : Int) < p.toInt → M0.1 ((live.2 t 0).getD 0) j = 32))
    | _ => none)
  | _ => none
theorem am_wI_id {M : am_M} {n k : Nat} : am_wI M n k (M.1 n k) = M := by
  refine am_Mext (fun a b => ?_) rfl
  rw [am_wI_1]
  split
  · next h => rw [h.1, h.2]
  · rfl
theorem am_wI_wI {M : am_M} {n k : Nat} {v w : Int32} : am_wI (am_wI M n k v) n k w = am_wI M n k w := by
  refine am_Mext (fun a b => ?_) rfl
  rw [am_wI_1, am_wI_1, am_wI_1]
  split <;> rfl
set_option maxRecDepth 100000 in
set_option maxHeartbeats 4000000 in
theorem metX5_next : am_Met yX5_next cX5_next 1 (some .int) (0) (0) TX5_next := by
  refine am_met0 (own := RX5) (by decide +kernel) rfl kX5_next koX5_next 60 JX5_next ?_ ?_
  · intro live as M Ret h
    unfold TX5_next at h
    split at h
    · next t =>
      refine ⟨Nat.le_of_ble_eq_true rfl, ?_⟩
      have hh := am_tP_mp h
      clear h
      obtain ⟨s, c, h2, g2, g3, h1, h3, g4, h4, g5, g6, h5, g7, hI, h⟩ := hh
      obtain ⟨-, q1, q2, q3⟩ := hI
      exact ⟨_, _, rfl, M.1 t 3, rfl, rfl, rfl, am_wI_id.symm, Int.le_refl _, q2.2, fun j z1 z2 => absurd z1 (by omega)⟩
    · exact h.elim
  · intro live as M0 Ret h k pc I hI L st M hi
    unfold TX5_next at h
    split at h
    · next t =>
      have hh := am_tP_mp h
      clear h
      obtain ⟨s, c, h2, g2, g3, h1, h3, g4, h4, g5, g6, h5, g7, hT, h⟩ := hh
      change (match pc with | 0 => _ | _ => none) = _ at hI
      split at hI
      · cases hI
        obtain ⟨p, rfl, rfl, rfl, rfl, e1, e2, e3⟩ := hi
        obtain ⟨-, q1, q2, q3⟩ := hT
        rw [h2] at e3
        have f1 : (am_wI M0 t 3 p).1 t 3 = p := by rw [am_wI_1, if_pos ⟨rfl, rfl⟩]
        have f2 : (am_wI M0 t 3 p).1 t 5 = M0.1 t 5 := by rw [am_wI_1, if_neg (fun z => absurd z.2 (by decide))]
        have f3 : ∀ j, (am_wI M0 t 3 p).1 s j = M0.1 s j := fun j => by rw [am_wI_1, if_neg (fun z => h5 z.1.symm)]
        repeat' (first | exact rfl | (with_reducible exact h1) | (with_reducible exact h2) | (with_reducible exact h3) | (refine Exists.intro _ (And.intro h2 ?_)) | apply And.intro | intro hx | (refine Exists.intro _ (And.intro rfl ?_)) | ((with_reducible change _ = true); simp only [h1, h2, h3, Bool.true_and]; rfl))
        all_goals try first | (with_reducible change am_tI _ _) | (change Ret _ _) | (change Ret _ _ _) | (change Exists _)
        all_goals try dsimp only at *
        all_goals try exact absurd ‹(1000 : Int64) = 0› (by decide)
        all_goals try (refine ⟨_, Or.inl ?_, p + 1, rfl, rfl, rfl, ?_, ?_, ?_, ?_⟩)
        all_goals simp only [f1, f2, f3, h4, i_le] at *
        all_goals have hi := i_add (x := p) (y := 1) (by simp only [Int32.reduceToInt]; omega) (by simp only [Int32.reduceToInt]; omega)
        all_goals simp only [Int32.reduceToInt] at hi
        all_goals first
          | omega
          | (have z := h p ⟨e1, e2, e3, fun z => absurd z (by omega)⟩; rw [am_sign, if_neg (by omega)] at z; exact z)
          | (have z := h p ⟨e1, e2, e3, fun _ => by assumption⟩; rw [am_sign, if_pos (by omega)] at z; exact z)
          | exact am_wI_wI
          | skip
        · intro j j1 j2
          rw [h2] at *
          by_cases hj : (j : Int) < p.toInt
          · exact e3 j j1 hj
          · have : j = p.toNatClampNeg := by have := i_clamp (x := p) (by omega); omega
            rw [this]
            assumption
      · cases hI
    · exact h.elim
end
section
/-! Text: reading, what is safe of it -/
theorem wd_685 : Cond.methodLink "LearnLoans$Text" 38 yX5_next ∈ am_ws := am_wsi (List.mem_of_getElem? (i := 685) (by decide +kernel)) (by decide +kernel)
theorem wd_687 : Cond.instanceMethod yX5_next ∈ am_ws := am_wsi (List.mem_of_getElem? (i := 687) (by decide +kernel)) (by decide +kernel)
theorem wd_17 : Cond.selects "LearnLoans$Text" yX5_next yX5_next ∈ am_ws := am_wsi (List.mem_of_getElem? (i := 17) (by decide +kernel)) (by decide +kernel)
theorem wd_65 : Cond.initialized "LearnLoans$Text" ∈ am_ws := am_wsi (List.mem_of_getElem? (i := 65) (by decide +kernel)) (by decide +kernel)
theorem wd_688 : Cond.code yX5_next cX5_next 1 (some .int) ∈ am_ws := am_wsi (List.mem_of_getElem? (i := 688) (by decide +kernel)) (by decide +kernel)
theorem wd_673 : Cond.methodLink "LearnLoans$Text" 42 yX5_blame ∈ am_ws := am_wsi (List.mem_of_getElem? (i := 673) (by decide +kernel)) (by decide +kernel)
theorem wd_675 : Cond.instanceMethod yX5_blame ∈ am_ws := am_wsi (List.mem_of_getElem? (i := 675) (by decide +kernel)) (by decide +kernel)
theorem wd_14 : Cond.selects "LearnLoans$Text" yX5_blame yX5_blame ∈ am_ws := am_wsi (List.mem_of_getElem? (i := 14) (by decide +kernel)) (by decide +kernel)
theorem wd_676 : Cond.code yX5_blame cX5_blame 3 none ∈ am_ws := am_wsi (List.mem_of_getElem? (i := 676) (by decide +kernel)) (by decide +kernel)
theorem dX5_pass_0 : decode cX5_pass 0 = .ok (.aload_n 0, 1) := by decide +kernel
theorem dX5_pass_1 : decode cX5_pass 1 = .ok (.getfield 18, 3) := by decide +kernel
theorem dX5_pass_4 : decode cX5_pass 4 = .ok (.iconst (-1), 1) := by decide +kernel
theorem dX5_pass_5 : decode cX5_pass 5 = .ok (.if_icmp .ne 24, 3) := by decide +kernel
theorem dX5_pass_8 : decode cX5_pass 8 = .ok (.aload_n 0, 1) := by decide +kernel
theorem dX5_pass_9 : decode cX5_pass 9 = .ok (.invokevirtual 38, 3) := by decide +kernel
theorem dX5_pass_12 : decode cX5_pass 12 = .ok (.iload_n 1, 1) := by decide +kernel
theorem dX5_pass_13 : decode cX5_pass 13 = .ok (.if_icmp .ne 16, 3) := by decide +kernel
theorem dX5_pass_16 : decode cX5_pass 16 = .ok (.aload_n 0, 1) := by decide +kernel
theorem dX5_pass_17 : decode cX5_pass 17 = .ok (.dup, 1) := by decide +kernel
theorem dX5_pass_18 : decode cX5_pass 18 = .ok (.getfield 28, 3) := by decide +kernel
theorem dX5_pass_21 : decode cX5_pass 21 = .ok (.iconst 1, 1) := by decide +kernel
theorem dX5_pass_22 : decode cX5_pass 22 = .ok (.iadd, 1) := by decide +kernel
theorem dX5_pass_23 : decode cX5_pass 23 = .ok (.putfield 28, 3) := by decide +kernel
theorem dX5_pass_26 : decode cX5_pass 26 = .ok (.goto 12, 3) := by decide +kernel
theorem dX5_pass_29 : decode cX5_pass 29 = .ok (.aload_n 0, 1) := by decide +kernel
theorem dX5_pass_30 : decode cX5_pass 30 = .ok (.aload_n 0, 1) := by decide +kernel
theorem dX5_pass_31 : decode cX5_pass 31 = .ok (.getfield 28, 3) := by decide +kernel
theorem dX5_pass_34 : decode cX5_pass 34 = .ok (.iconst 1, 1) := by decide +kernel
theorem dX5_pass_35 : decode cX5_pass 35 = .ok (.invokevirtual 42, 3) := by decide +kernel
theorem dX5_pass_38 : decode cX5_pass 38 = .ok (.return_, 1) := by decide +kernel
def kX5_pass (live : am_E) (Ret : am_R) : am_code := [(0, am_aload 0 1), (1, am_getI live 5 6 4), (4, am_const (.int (-1)) 5), (5, am_if2 (fun x y => x = y) 8 29), (8, am_aload 0 9), (9, am_callV live 5 0 TX5_next 12), (12, am_iload 1 13), (13, am_if2 (fun x y => x = y) 16 29), (16, am_aload 0 17), (17, am_dup 18), (18, am_getI live 5 3 21), (21, am_const (.int 1) 22), (22, am_i2 (fun x y => x + y) 23), (23, am_putI live 5 3 26), (26, am_goto 38), (29, am_aload 0 30), (30, am_aload 0 31), (31, am_getI live 5 3 34), (34, am_const (.int 1) 35), (35, am_callV live 5 2 TX5_blame 38), (38, am_retV Ret)]
theorem koX5_pass (live : am_E) (Ret : am_R) : ∀ q ∈ kX5_pass live Ret, am_ok RX5 cX5_pass 2 none 1 22 live Ret q.1 q.2 :=
  am_kc (ak_aload_n dX5_pass_0 rfl rfl) <|
  am_kc (ak_getI (C := RX5) (T := TX5) (N := 7) rfl inX5w (by decide) rfl rfl rfl wd_175 dX5_pass_1 rfl) <|
  am_kc (ak_iconst dX5_pass_4 (by decide +kernel) rfl) <|
  am_kc (ak_icmp_ne dX5_pass_5 (by decide +kernel) rfl) <|
  am_kc (ak_aload_n dX5_pass_8 rfl rfl) <|
  am_kc (ak_callV (C := RX5) (F := TX5) (N := 7) metX5_next rfl ⟨rfl, by decide +kernel, by decide +kernel, by decide +kernel⟩ (am_w5 wd_685 wd_687 wd_17 wd_65 wd_688) (by decide) dX5_pass_9 rfl) <|
  am_kc (ak_iload_n dX5_pass_12 rfl rfl) <|
  am_kc (ak_icmp_ne dX5_pass_13 (by decide +kernel) rfl) <|
  am_kc (ak_aload_n dX5_pass_16 rfl rfl) <|
  am_kc (ak_dup dX5_pass_17 rfl) <|
  am_kc (ak_getI (C := RX5) (T := TX5) (N := 7) rfl inX5w (by decide) rfl rfl rfl wd_171 dX5_pass_18 rfl) <|
  am_kc (ak_iconst dX5_pass_21 (by decide +kernel) rfl) <|
  am_kc (ak_iadd dX5_pass_22 rfl) <|
  am_kc (ak_putI (C := RX5) (T := TX5) (N := 7) rfl inX5w tyX5_ok nmX5 (by decide) rfl rfl rfl rfl (by decide +kernel) wd_171 dX5_pass_23 rfl) <|
  am_kc (ak_goto dX5_pass_26 (by decide +kernel)) <|
  am_kc (ak_aload_n dX5_pass_29 rfl rfl) <|
  am_kc (ak_aload_n dX5_pass_30 rfl rfl) <|
  am_kc (ak_getI (C := RX5) (T := TX5) (N := 7) rfl inX5w (by decide) rfl rfl rfl wd_171 dX5_pass_31 rfl) <|
  am_kc (ak_iconst dX5_pass_34 (by decide +kernel) rfl) <|
  am_kc (ak_callV (C := RX5) (F := TX5) (N := 7) metX5_blame rfl ⟨rfl, by decide +kernel, by decide +kernel, by decide +kernel⟩ (am_w5 wd_673 wd_675 wd_14 wd_65 wd_676) (by decide) dX5_pass_35 rfl) <|
  am_kc (ak_retV dX5_pass_38) <| am_kn
def TX5_pass : am_T := fun live as M R => match as with
  | [.ref t, .int g] => am_tP live t (fun s c => am_tI M t ∧ ¬ g = -1 ∧ ∀ M', am_ch (am_tS t c) M M' → am_tI M' t → R none M')
  | _ => False
set_option maxRecDepth 100000 in
set_option maxHeartbeats 4000000 in
theorem metX5_pass : am_Met yX5_pass cX5_pass 2 none (1) (22) TX5_pass := by
  refine am_met (own := RX5) (by decide +kernel) rfl kX5_pass koX5_pass 60 (fun _ _ _ _ _ => none) (fun live as M Ret h => ?_) (fun _ _ _ _ _ _ _ _ hI => by cases hI)
  unfold TX5_pass at h
  split at h
  · next t g =>
    refine ⟨Nat.le_of_ble_eq_true rfl, ?_⟩
    change am_wp _ _ _ _ [(0, Value.ref t), (1, Value.int g)] _ _
    have hh := am_tP_mp h
    clear h
    obtain ⟨s, c, h2, h6, hb, h1, h3, h7, h4, h8, h9, h5, h10, hT, hg, h⟩ := hh
    repeat' (first | exact rfl | (with_reducible exact hT) | (with_reducible exact hg) | (with_reducible exact h1) | (with_reducible exact h2) | (with_reducible exact h3) | (with_reducible exact hb) | (with_reducible exact h6) | (with_reducible exact h7) | (refine Exists.intro _ (Exists.intro _ (And.intro h2 (And.intro h6 ?_)))) | (refine Exists.intro _ (And.intro h2 ?_)) | (refine Exists.intro _ (And.intro h6 ?_)) | apply And.intro | intro hx | (refine Exists.intro _ (And.intro rfl ?_)) | ((with_reducible change _ = true); simp only [h1, h2, h3, hb, h6, h7, Bool.true_and]; rfl))
    all_goals try first | (with_reducible change am_tI _ _) | (change Ret _ _) | (change Ret _ _ _) | (change Exists _)
    all_goals try dsimp only at *
    all_goals try exact absurd ‹(1000 : Int64) = 0› (by decide)
    all_goals obtain ⟨-, q1, q2, q3⟩ := hT
    · rename_i w p hp
      obtain ⟨p1, p2, p3, p4⟩ := hp
      have hlt : p.toInt < (M.1 t 5).toInt := by
        rcases Int.lt_or_le p.toInt (M.1 t 5).toInt with z | z
        · exact z
        · rw [am_sign, if_neg (by omega)] at hx
          exact absurd hx.symm hg
      have hi := i_add (x := p) (y := 1) (by simp only [Int32.reduceToInt]; omega) (by simp only [Int32.reduceToInt]; omega)
      simp only [Int32.reduceToInt] at hi
      simp only [am_wI_1, and_self, if_true, am_wI_wI]
      refine h _ (am_ch.rf.wI am_tS_3) (am_tI_of ?_ ?_ ?_ ?_ ?_)
      all_goals simp [am_wI_1, -Int32.toInt_add]
      all_goals omega
    · rename_i w p hp
      obtain ⟨p1, p2, p3, p4⟩ := hp
      refine h _ ((am_ch.rf.wI am_tS_3).wIc am_tS_6) (am_tI_of ?_ ?_ ?_ ?_ ?_)
      all_goals simp [am_blame, am_wIc_1, am_wI_1]
      all_goals omega
    · refine h _ (am_ch.rf.wIc am_tS_6) (am_tI_of ?_ ?_ ?_ ?_ ?_)
      all_goals simp [am_blame, am_wIc_1, am_wI_1]
      all_goals omega
  · exact h.elim
theorem dX5_passSigns_0 : decode cX5_passSigns 0 = .ok (.aload_n 0, 1) := by decide +kernel
theorem dX5_passSigns_1 : decode cX5_passSigns 1 = .ok (.invokevirtual 38, 3) := by decide +kernel
theorem dX5_passSigns_4 : decode cX5_passSigns 4 = .ok (.istore_n 1, 1) := by decide +kernel
theorem dX5_passSigns_5 : decode cX5_passSigns 5 = .ok (.aload_n 0, 1) := by decide +kernel
theorem dX5_passSigns_6 : decode cX5_passSigns 6 = .ok (.getfield 28, 3) := by decide +kernel
theorem dX5_passSigns_9 : decode cX5_passSigns 9 = .ok (.aload_n 0, 1) := by decide +kernel
theorem dX5_passSigns_10 : decode cX5_passSigns 10 = .ok (.getfield 22, 3) := by decide +kernel
theorem dX5_passSigns_13 : decode cX5_passSigns 13 = .ok (.if_icmp .ge 33, 3) := by decide +kernel
theorem dX5_passSigns_16 : decode cX5_passSigns 16 = .ok (.iload_n 1, 1) := by decide +kernel
theorem dX5_passSigns_17 : decode cX5_passSigns 17 = .ok (.bipush 33, 2) := by decide +kernel
theorem dX5_passSigns_19 : decode cX5_passSigns 19 = .ok (.if_icmp .eq 9, 3) := by decide +kernel
theorem dX5_passSigns_22 : decode cX5_passSigns 22 = .ok (.iload_n 1, 1) := by decide +kernel
theorem dX5_passSigns_23 : decode cX5_passSigns 23 = .ok (.bipush 45, 2) := by decide +kernel
theorem dX5_passSigns_25 : decode cX5_passSigns 25 = .ok (.if_icmp .ne 21, 3) := by decide +kernel
theorem dX5_passSigns_28 : decode cX5_passSigns 28 = .ok (.aload_n 0, 1) := by decide +kernel
theorem dX5_passSigns_29 : decode cX5_passSigns 29 = .ok (.dup, 1) := by decide +kernel
theorem dX5_passSigns_30 : decode cX5_passSigns 30 = .ok (.getfield 28, 3) := by decide +kernel
theorem dX5_passSigns_33 : decode cX5_passSigns 33 = .ok (.iconst 1, 1) := by decide +kernel
theorem dX5_passSigns_34 : decode cX5_passSigns 34 = .ok (.iadd, 1) := by decide +kernel
theorem dX5_passSigns_35 : decode cX5_passSigns 35 = .ok (.putfield 28, 3) := by decide +kernel
theorem dX5_passSigns_38 : decode cX5_passSigns 38 = .ok (.aload_n 0, 1) := by decide +kernel
theorem dX5_passSigns_39 : decode cX5_passSigns 39 = .ok (.invokevirtual 38, 3) := by decide +kernel
theorem dX5_passSigns_42 : decode cX5_passSigns 42 = .ok (.istore_n 1, 1) := by decide +kernel
theorem dX5_passSigns_43 : decode cX5_passSigns 43 = .ok (.goto (-38), 3) := by decide +kernel
theorem dX5_passSigns_46 : decode cX5_passSigns 46 = .ok (.aload_n 0, 1) := by decide +kernel
theorem dX5_passSigns_47 : decode cX5_passSigns 47 = .ok (.getfield 28, 3) := by decide +kernel
theorem dX5_passSigns_50 : decode cX5_passSigns 50 = .ok (.ireturn, 1) := by decide +kernel
def kX5_passSigns (live : am_E) (Ret : am_R) : am_code := [(0, am_aload 0 1), (1, am_callV live 5 0 TX5_next 4), (4, am_istore 1 2 5), (5, am_aload 0 6), (6, am_getI live 5 3 9), (9, am_aload 0 10), (10, am_getI live 5 5 13), (13, am_if2 (fun x y => y ≤ x) 46 16), (16, am_iload 1 17), (17, am_const (.int 33) 19), (19, am_if2 (fun x y => x = y) 28 22), (22, am_iload 1 23), (23, am_const (.int 45) 25), (25, am_if2 (fun x y => x = y) 28 46), (28, am_aload 0 29), (29, am_dup 30), (30, am_getI live 5 3 33), (33, am_const (.int 1) 34), (34, am_i2 (fun x y => x + y) 35), (35, am_putI live 5 3 38), (38, am_aload 0 39), (39, am_callV live 5 0 TX5_next 42), (42, am_istore 1 2 43), (43, am_goto 5), (46, am_aload 0 47), (47, am_getI live 5 3 50), (50, am_retI Ret)]
theorem koX5_passSigns (live : am_E) (Ret : am_R) : ∀ q ∈ kX5_passSigns live Ret, am_ok RX5 cX5_passSigns 2 (some .int) 1 20 live Ret q.1 q.2 :=
  am_kc (ak_aload_n dX5_passSigns_0 rfl rfl) <|
  am_kc (ak_callV (C := RX5) (F := TX5) (N := 7) metX5_next rfl ⟨rfl, by decide +kernel, by decide +kernel, by decide +kernel⟩ (am_w5 wd_685 wd_687 wd_17 wd_65 wd_688) (by decide) dX5_passSigns_1 rfl) <|
  am_kc (ak_istore_n dX5_passSigns_4 rfl rfl) <|
  am_kc (ak_aload_n dX5_passSigns_5 rfl rfl) <|
  am_kc (ak_getI (C := RX5) (T := TX5) (N := 7) rfl inX5w (by decide) rfl rfl rfl wd_171 dX5_passSigns_6 rfl) <|
  am_kc (ak_aload_n dX5_passSigns_9 rfl rfl) <|
  am_kc (ak_getI (C := RX5) (T := TX5) (N := 7) rfl inX5w (by decide) rfl rfl rfl wd_173 dX5_passSigns_10 rfl) <|
  am_kc (ak_icmp_ge dX5_passSigns_13 (by decide +kernel) rfl) <|
  am_kc (ak_iload_n dX5_passSigns_16 rfl rfl) <|
  am_kc (ak_bipush dX5_passSigns_17 (by decide +kernel) rfl) <|
  am_kc (ak_icmp_eq dX5_passSigns_19 (by decide +kernel) rfl) <|
  am_kc (ak_iload_n dX5_passSigns_22 rfl rfl) <|
  am_kc (ak_bipush dX5_passSigns_23 (by decide +kernel) rfl) <|
  am_kc (ak_icmp_ne dX5_passSigns_25 (by decide +kernel) rfl) <|
  am_kc (ak_aload_n dX5_passSigns_28 rfl rfl) <|
  am_kc (ak_dup dX5_passSigns_29 rfl) <|
  am_kc (ak_getI (C := RX5) (T := TX5) (N := 7) rfl inX5w (by decide) rfl rfl rfl wd_171 dX5_passSigns_30 rfl) <|
  am_kc (ak_iconst dX5_passSigns_33 (by decide +kernel) rfl) <|
  am_kc (ak_iadd dX5_passSigns_34 rfl) <|
  am_kc (ak_putI (C := RX5) (T := TX5) (N := 7) rfl inX5w tyX5_ok nmX5 (by decide) rfl rfl rfl rfl (by decide +kernel) wd_171 dX5_passSigns_35 rfl) <|
  am_kc (ak_aload_n dX5_passSigns_38 rfl rfl) <|
  am_kc (ak_callV (C := RX5) (F := TX5) (N := 7) metX5_next rfl ⟨rfl, by decide +kernel, by decide +kernel, by decide +kernel⟩ (am_w5 wd_685 wd_687 wd_17 wd_65 wd_688) (by decide) dX5_passSigns_39 rfl) <|
  am_kc (ak_istore_n dX5_passSigns_42 rfl rfl) <|
  am_kc (ak_goto dX5_passSigns_43 (by decide +kernel)) <|
  am_kc (ak_aload_n dX5_passSigns_46 rfl rfl) <|
  am_kc (ak_getI (C := RX5) (T := TX5) (N := 7) rfl inX5w (by decide) rfl rfl rfl wd_171 dX5_passSigns_47 rfl) <|
  am_kc (ak_retI dX5_passSigns_50) <| am_kn
def TX5_passSigns : am_T := fun live as M R => match as with
  | [.ref t] => am_tP live t (fun s c => am_tI M t ∧ ∀ M', am_ch (am_tS t c) M M' → am_tI M' t → R (some (.int (M'.1 t 3))) M')
  | _ => False
def JX5_passSigns : am_E → List Value → am_M → am_R → am_inv := fun live as M0 _ pc => match as with
  | [.ref t] => (match pc with
    | 5 => some ([0, 1], fun k L st M => ∃ x : Int32, L = [(0, .ref t), (1, .int x)] ∧ st = [] ∧ k = ((51 - (M.1 t 3).toInt).toNat, 0) ∧ am_ch (am_tS t ((live.2 t 1).getD 0)) M0 M ∧ am_tI M t)
    | _ => none)
  | _ => none
theorem am_tI_w3 {M : am_M} {t s : Nat} {p : Int32} (h : am_tI M t) (hp : am_skip M t s p) : am_tI (am_wI M t 3 p) t := by
  obtain ⟨-, q1, q2, q3⟩ := h
  obtain ⟨p1, p2, -, -⟩ := hp
  refine am_tI_of ?_ ?_ ?_ ?_ ?_
  all_goals simp [am_wI_1]
  all_goals omega
theorem am_tI_inc {M : am_M} {t : Nat} (h : am_tI M t) (hp : (M.1 t 3).toInt < (M.1 t 5).toInt) : am_tI (am_wI M t 3 (M.1 t 3 + 1)) t ∧ (M.1 t 3 + 1).toInt = (M.1 t 3).toInt + 1 := by
  obtain ⟨-, q1, q2, q3⟩ := h
  have hi := i_add (x := M.1 t 3) (y := 1) (by simp only [Int32.reduceToInt]; omega) (by simp only [Int32.reduceToInt]; omega)
  simp only [Int32.reduceToInt] at hi
  refine ⟨am_tI_of ?_ ?_ ?_ ?_ ?_, hi⟩
  all_goals simp [am_wI_1, -Int32.toInt_add]
  all_goals omega
theorem am_tI_blame {M : am_M} {t : Nat} {a k : Int32} (h : am_tI M t) : am_tI (am_blame M t a k) t := by
  obtain ⟨-, q1, q2, q3⟩ := h
  refine am_tI_of ?_ ?_ ?_ ?_ ?_
  all_goals simp [am_blame, am_wIc_1]
  all_goals omega
theorem am_ch_blame {M M' : am_M} {t c : Nat} {a k : Int32} (h : am_ch (am_tS t c) M M') : am_ch (am_tS t c) M (am_blame M' t a k) := h.wIc am_tS_6
theorem am_tI_emit {M : am_M} {t c : Nat} {v : Int32} (h : am_tI M t) (hn : t ≠ c) : am_tI (am_emit M t c v) t := by
  obtain ⟨-, q1, q2, q3⟩ := h
  unfold am_emit
  split
  · have hi := i_add (x := M.1 t 2) (y := 1) (by simp only [Int32.reduceToInt]; omega) (by simp only [Int32.reduceToInt]; omega)
    simp only [Int32.reduceToInt] at hi
    refine am_tI_of ?_ ?_ ?_ ?_ ?_
    all_goals simp [am_wI_1, hn, -Int32.toInt_add]
    all_goals omega
  · exact ⟨(), q1, q2, q3⟩
theorem am_ch_emit {M M' : am_M} {t c : Nat} {v : Int32} (h : am_ch (am_tS t c) M M') : am_ch (am_tS t c) M (am_emit M' t c v) := by
  unfold am_emit
  split
  · exact (h.wI am_tS_c).wI am_tS_2
  · exact h
set_option maxRecDepth 100000 in
set_option maxHeartbeats 4000000 in
theorem metX5_passSigns : am_Met yX5_passSigns cX5_passSigns 2 (some .int) (1) (20) TX5_passSigns := by
  refine am_met (own := RX5) (by decide +kernel) rfl kX5_passSigns koX5_passSigns 60 JX5_passSigns ?_ ?_
  · intro live as M Ret h
    unfold TX5_passSigns at h
    split at h
    · next t =>
      refine ⟨Nat.le_of_ble_eq_true rfl, ?_⟩
      change am_wp _ _ _ _ [(0, Value.ref t)] _ _
      have hh := am_tP_mp h
      clear h
      obtain ⟨s, c, h2, h6, hb, h1, h3, h7, h4, h8, h9, h5, h10, hT, h⟩ := hh
      repeat' (first | exact rfl | (with_reducible exact hT) | (with_reducible exact h1) | (with_reducible exact h2) | (with_reducible exact h3) | (with_reducible exact hb) | (with_reducible exact h6) | (with_reducible exact h7) | (refine Exists.intro _ (Exists.intro _ (And.intro h2 (And.intro h6 ?_)))) | (refine Exists.intro _ (And.intro h2 ?_)) | (refine Exists.intro _ (And.intro h6 ?_)) | apply And.intro | intro hx | (refine Exists.intro _ (And.intro rfl ?_)) | ((with_reducible change _ = true); simp only [h1, h2, h3, hb, h6, h7, Bool.true_and]; rfl))
      all_goals try first | (with_reducible change am_tI _ _) | (change Ret _ _) | (change Ret _ _ _) | (change Exists _)
      all_goals try dsimp only at *
      all_goals try exact absurd ‹(1000 : Int64) = 0› (by decide)
      rename_i p hp
      exact ⟨_, _, rfl, rfl, rfl, am_ch.rf.wI am_tS_3, am_tI_w3 hT hx⟩
    · exact h.elim
  · intro live as M0 Ret h k pc I hI L st M hi
    unfold TX5_passSigns at h
    split at h
    · next t =>
      have hh := am_tP_mp h
      clear h
      obtain ⟨s, c, h2, h6, hb, h1, h3, h7, h4, h8, h9, h5, h10, hT, h⟩ := hh
      change (match pc with | 5 => _ | _ => none) = _ at hI
      split at hI
      · cases hI
        obtain ⟨x, rfl, rfl, rfl, e1, e2⟩ := hi
        have f1 := e1
        rw [h6] at f1
        repeat' (first | exact rfl | (with_reducible exact e2) | (with_reducible exact h1) | (with_reducible exact h2) | (with_reducible exact h3) | (with_reducible exact hb) | (with_reducible exact h6) | (with_reducible exact h7) | (refine Exists.intro _ (Exists.intro _ (And.intro h2 (And.intro h6 ?_)))) | (refine Exists.intro _ (And.intro h2 ?_)) | (refine Exists.intro _ (And.intro h6 ?_)) | apply And.intro | intro hx | (refine Exists.intro _ (And.intro rfl ?_)) | ((with_reducible change _ = true); simp only [h1, h2, h3, hb, h6, h7, Bool.true_and]; rfl))
        all_goals try first | (with_reducible change am_tI _ _) | (change Ret _ _) | (change Ret _ _ _) | (change Exists _)
        all_goals try dsimp only at *
        all_goals try exact absurd ‹(1000 : Int64) = 0› (by decide)
        all_goals first
          | exact h _ f1 e2
          | exact (am_tI_inc e2 (by simp only [i_le] at *; omega)).1
          | skip
        all_goals
          have hlt : (M.1 t 3).toInt < (M.1 t 5).toInt := by simp only [i_le] at *; omega
          have hi := am_tI_inc e2 hlt
          have hs := hx.1
          have hs2 := hx.2.1
          have q3 : (M.1 t 5).toInt ≤ 50 := by obtain ⟨-, q1, q2, q3⟩ := e2; exact q3
          refine ⟨_, Or.inl ?_, _, rfl, rfl, rfl, (e1.wI am_tS_3).wI am_tS_3, am_tI_w3 hi.1 hx⟩
          simp [am_wI_1, -Int32.toInt_add] at hs hs2 ⊢
          omega
      · cases hI
    · exact h.elim
theorem wd_700 : Cond.methodLink "LearnLoans$Text" 60 yX5_emit ∈ am_ws := am_wsi (List.mem_of_getElem? (i := 700) (by decide +kernel)) (by decide +kernel)
theorem wd_702 : Cond.instanceMethod yX5_emit ∈ am_ws := am_wsi (List.mem_of_getElem? (i := 702) (by decide +kernel)) (by decide +kernel)
theorem wd_20 : Cond.selects "LearnLoans$Text" yX5_emit yX5_emit ∈ am_ws := am_wsi (List.mem_of_getElem? (i := 20) (by decide +kernel)) (by decide +kernel)
theorem wd_703 : Cond.code yX5_emit cX5_emit 2 none ∈ am_ws := am_wsi (List.mem_of_getElem? (i := 703) (by decide +kernel)) (by decide +kernel)
theorem dX5_emitSigns_0 : decode cX5_emitSigns 0 = .ok (.iload_n 2, 1) := by decide +kernel
theorem dX5_emitSigns_1 : decode cX5_emitSigns 1 = .ok (.iconst 1, 1) := by decide +kernel
theorem dX5_emitSigns_2 : decode cX5_emitSigns 2 = .ok (.isub, 1) := by decide +kernel
theorem dX5_emitSigns_3 : decode cX5_emitSigns 3 = .ok (.istore_n 3, 1) := by decide +kernel
theorem dX5_emitSigns_4 : decode cX5_emitSigns 4 = .ok (.iload_n 3, 1) := by decide +kernel
theorem dX5_emitSigns_5 : decode cX5_emitSigns 5 = .ok (.iload_n 1, 1) := by decide +kernel
theorem dX5_emitSigns_6 : decode cX5_emitSigns 6 = .ok (.if_icmp .lt 52, 3) := by decide +kernel
theorem dX5_emitSigns_9 : decode cX5_emitSigns 9 = .ok (.iload_n 3, 1) := by decide +kernel
theorem dX5_emitSigns_10 : decode cX5_emitSigns 10 = .ok (.bipush 50, 2) := by decide +kernel
theorem dX5_emitSigns_12 : decode cX5_emitSigns 12 = .ok (.if_icmp .ge 46, 3) := by decide +kernel
theorem dX5_emitSigns_15 : decode cX5_emitSigns 15 = .ok (.aload_n 0, 1) := by decide +kernel
theorem dX5_emitSigns_16 : decode cX5_emitSigns 16 = .ok (.getfield 9, 3) := by decide +kernel
theorem dX5_emitSigns_19 : decode cX5_emitSigns 19 = .ok (.iload_n 3, 1) := by decide +kernel
theorem dX5_emitSigns_20 : decode cX5_emitSigns 20 = .ok (.iaload, 1) := by decide +kernel
theorem dX5_emitSigns_21 : decode cX5_emitSigns 21 = .ok (.bipush 33, 2) := by decide +kernel
theorem dX5_emitSigns_23 : decode cX5_emitSigns 23 = .ok (.if_icmp .ne 12, 3) := by decide +kernel
theorem dX5_emitSigns_26 : decode cX5_emitSigns 26 = .ok (.aload_n 0, 1) := by decide +kernel
theorem dX5_emitSigns_27 : decode cX5_emitSigns 27 = .ok (.bipush (-33), 2) := by decide +kernel
theorem dX5_emitSigns_29 : decode cX5_emitSigns 29 = .ok (.invokevirtual 60, 3) := by decide +kernel
theorem dX5_emitSigns_32 : decode cX5_emitSigns 32 = .ok (.goto 20, 3) := by decide +kernel
theorem dX5_emitSigns_35 : decode cX5_emitSigns 35 = .ok (.aload_n 0, 1) := by decide +kernel
theorem dX5_emitSigns_36 : decode cX5_emitSigns 36 = .ok (.getfield 9, 3) := by decide +kernel
theorem dX5_emitSigns_39 : decode cX5_emitSigns 39 = .ok (.iload_n 3, 1) := by decide +kernel
theorem dX5_emitSigns_40 : decode cX5_emitSigns 40 = .ok (.iaload, 1) := by decide +kernel
theorem dX5_emitSigns_41 : decode cX5_emitSigns 41 = .ok (.bipush 45, 2) := by decide +kernel
theorem dX5_emitSigns_43 : decode cX5_emitSigns 43 = .ok (.if_icmp .ne 9, 3) := by decide +kernel
theorem dX5_emitSigns_46 : decode cX5_emitSigns 46 = .ok (.aload_n 0, 1) := by decide +kernel
theorem dX5_emitSigns_47 : decode cX5_emitSigns 47 = .ok (.bipush (-126), 2) := by decide +kernel
theorem dX5_emitSigns_49 : decode cX5_emitSigns 49 = .ok (.invokevirtual 60, 3) := by decide +kernel
theorem dX5_emitSigns_52 : decode cX5_emitSigns 52 = .ok (.iinc 3 (-1), 3) := by decide +kernel
theorem dX5_emitSigns_55 : decode cX5_emitSigns 55 = .ok (.goto (-51), 3) := by decide +kernel
theorem dX5_emitSigns_58 : decode cX5_emitSigns 58 = .ok (.return_, 1) := by decide +kernel
def kX5_emitSigns (live : am_E) (Ret : am_R) : am_code := [(0, am_iload 2 1), (1, am_const (.int 1) 2), (2, am_i2 (fun x y => x - y) 3), (3, am_istore 3 4 4), (4, am_iload 3 5), (5, am_iload 1 6), (6, am_if2 (fun x y => x < y) 58 9), (9, am_iload 3 10), (10, am_const (.int 50) 12), (12, am_if2 (fun x y => y ≤ x) 58 15), (15, am_aload 0 16), (16, am_getR live 5 0 19), (19, am_iload 3 20), (20, am_ald live 0 21), (21, am_const (.int 33) 23), (23, am_if2 (fun x y => x = y) 26 35), (26, am_aload 0 27), (27, am_const (.int (-33)) 29), (29, am_callV live 5 1 TX5_emit 32), (32, am_goto 52), (35, am_aload 0 36), (36, am_getR live 5 0 39), (39, am_iload 3 40), (40, am_ald live 0 41), (41, am_const (.int 45) 43), (43, am_if2 (fun x y => x = y) 46 52), (46, am_aload 0 47), (47, am_const (.int (-126)) 49), (49, am_callV live 5 1 TX5_emit 52), (52, am_iinc 3 4 (-1) 55), (55, am_goto 4), (58, am_retV Ret)]
theorem koX5_emitSigns (live : am_E) (Ret : am_R) : ∀ q ∈ kX5_emitSigns live Ret, am_ok RX5 cX5_emitSigns 4 none 1 21 live Ret q.1 q.2 :=
  am_kc (ak_iload_n dX5_emitSigns_0 rfl rfl) <|
  am_kc (ak_iconst dX5_emitSigns_1 (by decide +kernel) rfl) <|
  am_kc (ak_isub dX5_emitSigns_2 rfl) <|
  am_kc (ak_istore_n dX5_emitSigns_3 rfl rfl) <|
  am_kc (ak_iload_n dX5_emitSigns_4 rfl rfl) <|
  am_kc (ak_iload_n dX5_emitSigns_5 rfl rfl) <|
  am_kc (ak_icmp_lt dX5_emitSigns_6 (by decide +kernel) rfl) <|
  am_kc (ak_iload_n dX5_emitSigns_9 rfl rfl) <|
  am_kc (ak_bipush dX5_emitSigns_10 (by decide +kernel) rfl) <|
  am_kc (ak_icmp_ge dX5_emitSigns_12 (by decide +kernel) rfl) <|
  am_kc (ak_aload_n dX5_emitSigns_15 rfl rfl) <|
  am_kc (ak_getR (C := RX5) (T := TX5) (N := 7) rfl inX5w (by decide) rfl rfl rfl wd_168 dX5_emitSigns_16 rfl) <|
  am_kc (ak_iload_n dX5_emitSigns_19 rfl rfl) <|
  am_kc (ak_iald (t := 0) (fun _ => rfl) rfl dX5_emitSigns_20 rfl) <|
  am_kc (ak_bipush dX5_emitSigns_21 (by decide +kernel) rfl) <|
  am_kc (ak_icmp_ne dX5_emitSigns_23 (by decide +kernel) rfl) <|
  am_kc (ak_aload_n dX5_emitSigns_26 rfl rfl) <|
  am_kc (ak_bipush dX5_emitSigns_27 (by decide +kernel) rfl) <|
  am_kc (ak_callV (C := RX5) (F := TX5) (N := 7) metX5_emit rfl ⟨rfl, by decide +kernel, by decide +kernel, by decide +kernel⟩ (am_w5 wd_700 wd_702 wd_20 wd_65 wd_703) (by decide) dX5_emitSigns_29 rfl) <|
  am_kc (ak_goto dX5_emitSigns_32 (by decide +kernel)) <|
  am_kc (ak_aload_n dX5_emitSigns_35 rfl rfl) <|
  am_kc (ak_getR (C := RX5) (T := TX5) (N := 7) rfl inX5w (by decide) rfl rfl rfl wd_168 dX5_emitSigns_36 rfl) <|
  am_kc (ak_iload_n dX5_emitSigns_39 rfl rfl) <|
  am_kc (ak_iald (t := 0) (fun _ => rfl) rfl dX5_emitSigns_40 rfl) <|
  am_kc (ak_bipush dX5_emitSigns_41 (by decide +kernel) rfl) <|
  am_kc (ak_icmp_ne dX5_emitSigns_43 (by decide +kernel) rfl) <|
  am_kc (ak_aload_n dX5_emitSigns_46 rfl rfl) <|
  am_kc (ak_bipush dX5_emitSigns_47 (by decide +kernel) rfl) <|
  am_kc (ak_callV (C := RX5) (F := TX5) (N := 7) metX5_emit rfl ⟨rfl, by decide +kernel, by decide +kernel, by decide +kernel⟩ (am_w5 wd_700 wd_702 wd_20 wd_65 wd_703) (by decide) dX5_emitSigns_49 rfl) <|
  am_kc (ak_iinc dX5_emitSigns_52 (by decide +kernel) rfl) <|
  am_kc (ak_goto dX5_emitSigns_55 (by decide +kernel)) <|
  am_kc (ak_retV dX5_emitSigns_58) <| am_kn
def TX5_emitSigns : am_T := fun live as M R => match as with
  | [.ref t, .int a, .int b] => am_tP live t (fun s c => am_tI M t ∧ 0 ≤ a.toInt ∧ 0 ≤ b.toInt ∧ ∀ M', am_ch (am_tS t c) M M' → am_tI M' t → M'.1 t 3 = M.1 t 3 → R none M')
  | _ => False
def JX5_emitSigns : am_E → List Value → am_M → am_R → am_inv := fun live as M0 _ pc => match as with
  | [.ref t, .int a, .int b] => (match pc with
    | 4 => some ([0, 1, 3], fun k L st M => ∃ i : Int32, L = [(0, .ref t), (1, .int a), (3, .int i)] ∧ st = [] ∧ k = ((i.toInt + 1).toNat, 0) ∧ -1 ≤ i.toInt ∧ am_ch (am_tS t ((live.2 t 1).getD 0)) M0 M ∧ am_tI M t ∧ M.1 t 3 = M0.1 t 3)
    | _ => none)
  | _ => none
theorem am_emit_3 {M : am_M} {t c : Nat} {v : Int32} (hn : t ≠ c) : (am_emit M t c v).1 t 3 = M.1 t 3 := by
  unfold am_emit
  split
  · simp [am_wI_1, hn]
  · rfl
set_option maxRecDepth 100000 in
set_option maxHeartbeats 4000000 in
theorem metX5_emitSigns : am_Met yX5_emitSigns cX5_emitSigns 4 none (1) (21) TX5_emitSigns := by
  refine am_met (own := RX5) (by decide +kernel) rfl kX5_emitSigns koX5_emitSigns 60 JX5_emitSigns ?_ ?_
  · intro live as M Ret h
    unfold TX5_emitSigns at h
    split at h
    · next t a b =>
      refine ⟨Nat.le_of_ble_eq_true rfl, ?_⟩
      change am_wp _ _ _ _ [(0, Value.ref t), (1, Value.int a), (2, Value.int b)] _ _
      have hh := am_tP_mp h
      clear h
      obtain ⟨s, c, h2, h6, hb, h1, h3, h7, h4, h8, h9, h5, h10, hT, ha, hbb, h⟩ := hh
      repeat' (first | exact rfl | (with_reducible exact hT) | (with_reducible exact h1) | (with_reducible exact h2) | (with_reducible exact h3) | (with_reducible exact hb) | (with_reducible exact h6) | (with_reducible exact h7) | (refine Exists.intro _ (Exists.intro _ (And.intro h2 (And.intro h6 ?_)))) | (refine Exists.intro _ (And.intro h2 ?_)) | (refine Exists.intro _ (And.intro h6 ?_)) | apply And.intro | intro hx | (refine Exists.intro _ (And.intro rfl ?_)) | ((with_reducible change _ = true); simp only [h1, h2, h3, hb, h6, h7, Bool.true_and]; rfl))
      all_goals try first | (with_reducible change am_tI _ _) | (change Ret _ _) | (change Ret _ _ _) | (change Exists _)
      all_goals try dsimp only at *
      all_goals try exact absurd ‹(1000 : Int64) = 0› (by decide)
      have hi := i_sub (x := b) (y := 1) (by simp only [Int32.reduceToInt]; have := i_hi b; omega) (by simp only [Int32.reduceToInt]; have := i_hi b; omega)
      simp only [Int32.reduceToInt] at hi
      exact ⟨_, _, rfl, rfl, rfl, by omega, am_ch.rf, hT, rfl⟩
    · exact h.elim
  · intro live as M0 Ret h k pc I hI L st M hi
    unfold TX5_emitSigns at h
    split at h
    · next t a b =>
      have hh := am_tP_mp h
      clear h
      obtain ⟨s, c, h2, h6, hb, h1, h3, h7, h4, h8, h9, h5, h10, hT, ha, hbb, h⟩ := hh
      change (match pc with | 4 => _ | _ => none) = _ at hI
      split at hI
      · cases hI
        obtain ⟨i, rfl, rfl, rfl, e0, e1, e2, e3⟩ := hi
        have f1 := e1
        rw [h6] at f1
        have hcd : 0 ≤ (M.1 t 2).toInt := by obtain ⟨-, q1, q2, q3⟩ := e2; exact q1.1
        repeat' (first | exact rfl | (with_reducible exact e2) | (with_reducible exact hcd) | (with_reducible exact h1) | (with_reducible exact h2) | (with_reducible exact h3) | (with_reducible exact hb) | (with_reducible exact h6) | (with_reducible exact h7) | (refine Exists.intro _ (Exists.intro _ (And.intro h2 (And.intro h6 ?_)))) | (refine Exists.intro _ (And.intro h2 ?_)) | (refine Exists.intro _ (And.intro h6 ?_)) | apply And.intro | intro hx | (refine Exists.intro _ (And.intro rfl ?_)) | ((with_reducible change _ = true); simp only [h1, h2, h3, hb, h6, h7, Bool.true_and]; rfl))
        all_goals try first | (with_reducible change am_tI _ _) | (change Ret _ _) | (change Ret _ _ _) | (change Exists _)
        all_goals try dsimp only at *
        all_goals try exact absurd ‹(1000 : Int64) = 0› (by decide)
        all_goals first
          | exact h _ f1 e2 e3
          | (simp only [i_lt, i_le, h4, Int32.reduceToInt] at *; omega)
          | (rw [h6]; refine ⟨_, Or.inl ?_, i + -1, rfl, rfl, rfl, ?_, am_ch_emit f1, am_tI_emit e2 h10, (am_emit_3 h10).trans e3⟩)
          | (refine ⟨_, Or.inl ?_, i + -1, rfl, rfl, rfl, ?_, e1, e2, e3⟩)
        all_goals
          simp only [i_lt, i_le, h4, Int32.reduceToInt] at *
          have hi := i_add (x := i) (y := -1) (by simp only [Int32.reduceToInt]; omega) (by simp only [Int32.reduceToInt]; omega)
          simp only [Int32.reduceToInt] at hi
          omega
      · cases hI
    · exact h.elim
theorem wd_693 : Cond.methodLink "LearnLoans$Text" 76 yX5_isDigit ∈ am_ws := am_wsi (List.mem_of_getElem? (i := 693) (by decide +kernel)) (by decide +kernel)
theorem wd_694 : Cond.static yX5_isDigit ∈ am_ws := am_wsi (List.mem_of_getElem? (i := 694) (by decide +kernel)) (by decide +kernel)
theorem wd_695 : Cond.code yX5_isDigit cX5_isDigit 1 (some .boolean) ∈ am_ws := am_wsi (List.mem_of_getElem? (i := 695) (by decide +kernel)) (by decide +kernel)
theorem dX5_readDigits_0 : decode cX5_readDigits 0 = .ok (.aload_n 0, 1) := by decide +kernel
theorem dX5_readDigits_1 : decode cX5_readDigits 1 = .ok (.getfield 28, 3) := by decide +kernel
theorem dX5_readDigits_4 : decode cX5_readDigits 4 = .ok (.istore_n 1, 1) := by decide +kernel
theorem dX5_readDigits_5 : decode cX5_readDigits 5 = .ok (.iconst 0, 1) := by decide +kernel
theorem dX5_readDigits_6 : decode cX5_readDigits 6 = .ok (.istore_n 2, 1) := by decide +kernel
theorem dX5_readDigits_7 : decode cX5_readDigits 7 = .ok (.aload_n 0, 1) := by decide +kernel
theorem dX5_readDigits_8 : decode cX5_readDigits 8 = .ok (.getfield 28, 3) := by decide +kernel
theorem dX5_readDigits_11 : decode cX5_readDigits 11 = .ok (.aload_n 0, 1) := by decide +kernel
theorem dX5_readDigits_12 : decode cX5_readDigits 12 = .ok (.getfield 22, 3) := by decide +kernel
theorem dX5_readDigits_15 : decode cX5_readDigits 15 = .ok (.if_icmp .ge 67, 3) := by decide +kernel
theorem dX5_readDigits_18 : decode cX5_readDigits 18 = .ok (.aload_n 0, 1) := by decide +kernel
theorem dX5_readDigits_19 : decode cX5_readDigits 19 = .ok (.getfield 9, 3) := by decide +kernel
theorem dX5_readDigits_22 : decode cX5_readDigits 22 = .ok (.aload_n 0, 1) := by decide +kernel
theorem dX5_readDigits_23 : decode cX5_readDigits 23 = .ok (.getfield 28, 3) := by decide +kernel
theorem dX5_readDigits_26 : decode cX5_readDigits 26 = .ok (.iaload, 1) := by decide +kernel
theorem dX5_readDigits_27 : decode cX5_readDigits 27 = .ok (.invokestatic 76, 3) := by decide +kernel
theorem dX5_readDigits_30 : decode cX5_readDigits 30 = .ok (.ifCond .eq 52, 3) := by decide +kernel
theorem dX5_readDigits_33 : decode cX5_readDigits 33 = .ok (.aload_n 0, 1) := by decide +kernel
theorem dX5_readDigits_34 : decode cX5_readDigits 34 = .ok (.getfield 28, 3) := by decide +kernel
theorem dX5_readDigits_37 : decode cX5_readDigits 37 = .ok (.iload_n 1, 1) := by decide +kernel
theorem dX5_readDigits_38 : decode cX5_readDigits 38 = .ok (.isub, 1) := by decide +kernel
theorem dX5_readDigits_39 : decode cX5_readDigits 39 = .ok (.bipush 6, 2) := by decide +kernel
theorem dX5_readDigits_41 : decode cX5_readDigits 41 = .ok (.if_icmp .lt 10, 3) := by decide +kernel
theorem dX5_readDigits_44 : decode cX5_readDigits 44 = .ok (.aload_n 0, 1) := by decide +kernel
theorem dX5_readDigits_45 : decode cX5_readDigits 45 = .ok (.iload_n 1, 1) := by decide +kernel
theorem dX5_readDigits_46 : decode cX5_readDigits 46 = .ok (.iconst 2, 1) := by decide +kernel
theorem dX5_readDigits_47 : decode cX5_readDigits 47 = .ok (.invokevirtual 42, 3) := by decide +kernel
theorem dX5_readDigits_50 : decode cX5_readDigits 50 = .ok (.return_, 1) := by decide +kernel
theorem dX5_readDigits_51 : decode cX5_readDigits 51 = .ok (.bipush 10, 2) := by decide +kernel
theorem dX5_readDigits_53 : decode cX5_readDigits 53 = .ok (.iload_n 2, 1) := by decide +kernel
theorem dX5_readDigits_54 : decode cX5_readDigits 54 = .ok (.imul, 1) := by decide +kernel
theorem dX5_readDigits_55 : decode cX5_readDigits 55 = .ok (.aload_n 0, 1) := by decide +kernel
theorem dX5_readDigits_56 : decode cX5_readDigits 56 = .ok (.getfield 9, 3) := by decide +kernel
theorem dX5_readDigits_59 : decode cX5_readDigits 59 = .ok (.aload_n 0, 1) := by decide +kernel
theorem dX5_readDigits_60 : decode cX5_readDigits 60 = .ok (.getfield 28, 3) := by decide +kernel
theorem dX5_readDigits_63 : decode cX5_readDigits 63 = .ok (.iaload, 1) := by decide +kernel
theorem dX5_readDigits_64 : decode cX5_readDigits 64 = .ok (.iadd, 1) := by decide +kernel
theorem dX5_readDigits_65 : decode cX5_readDigits 65 = .ok (.bipush 48, 2) := by decide +kernel
theorem dX5_readDigits_67 : decode cX5_readDigits 67 = .ok (.isub, 1) := by decide +kernel
theorem dX5_readDigits_68 : decode cX5_readDigits 68 = .ok (.istore_n 2, 1) := by decide +kernel
theorem dX5_readDigits_69 : decode cX5_readDigits 69 = .ok (.aload_n 0, 1) := by decide +kernel
theorem dX5_readDigits_70 : decode cX5_readDigits 70 = .ok (.dup, 1) := by decide +kernel
theorem dX5_readDigits_71 : decode cX5_readDigits 71 = .ok (.getfield 28, 3) := by decide +kernel
theorem dX5_readDigits_74 : decode cX5_readDigits 74 = .ok (.iconst 1, 1) := by decide +kernel
theorem dX5_readDigits_75 : decode cX5_readDigits 75 = .ok (.iadd, 1) := by decide +kernel
theorem dX5_readDigits_76 : decode cX5_readDigits 76 = .ok (.putfield 28, 3) := by decide +kernel
theorem dX5_readDigits_79 : decode cX5_readDigits 79 = .ok (.goto (-72), 3) := by decide +kernel
theorem dX5_readDigits_82 : decode cX5_readDigits 82 = .ok (.aload_n 0, 1) := by decide +kernel
theorem dX5_readDigits_83 : decode cX5_readDigits 83 = .ok (.iload_n 2, 1) := by decide +kernel
theorem dX5_readDigits_84 : decode cX5_readDigits 84 = .ok (.invokevirtual 60, 3) := by decide +kernel
theorem dX5_readDigits_87 : decode cX5_readDigits 87 = .ok (.return_, 1) := by decide +kernel
def kX5_readDigits (live : am_E) (Ret : am_R) : am_code := [(0, am_aload 0 1), (1, am_getI live 5 3 4), (4, am_istore 1 3 5), (5, am_const (.int 0) 6), (6, am_istore 2 3 7), (7, am_aload 0 8), (8, am_getI live 5 3 11), (11, am_aload 0 12), (12, am_getI live 5 5 15), (15, am_if2 (fun x y => y ≤ x) 82 18), (18, am_aload 0 19), (19, am_getR live 5 0 22), (22, am_aload 0 23), (23, am_getI live 5 3 26), (26, am_ald live 0 27), (27, am_callS live 1 TX5_isDigit 30), (30, am_if1 (fun x => x = 0) 82 33), (33, am_aload 0 34), (34, am_getI live 5 3 37), (37, am_iload 1 38), (38, am_i2 (fun x y => x - y) 39), (39, am_const (.int 6) 41), (41, am_if2 (fun x y => x < y) 51 44), (44, am_aload 0 45), (45, am_iload 1 46), (46, am_const (.int 2) 47), (47, am_callV live 5 2 TX5_blame 50), (50, am_retV Ret), (51, am_const (.int 10) 53), (53, am_iload 2 54), (54, am_i2 (fun x y => x * y) 55), (55, am_aload 0 56), (56, am_getR live 5 0 59), (59, am_aload 0 60), (60, am_getI live 5 3 63), (63, am_ald live 0 64), (64, am_i2 (fun x y => x + y) 65), (65, am_const (.int 48) 67), (67, am_i2 (fun x y => x - y) 68), (68, am_istore 2 3 69), (69, am_aload 0 70), (70, am_dup 71), (71, am_getI live 5 3 74), (74, am_const (.int 1) 75), (75, am_i2 (fun x y => x + y) 76), (76, am_putI live 5 3 79), (79, am_goto 7), (82, am_aload 0 83), (83, am_iload 2 84), (84, am_callV live 5 1 TX5_emit 87), (87, am_retV Ret)]
theorem koX5_readDigits (live : am_E) (Ret : am_R) : ∀ q ∈ kX5_readDigits live Ret, am_ok RX5 cX5_readDigits 3 none 1 22 live Ret q.1 q.2 :=
  am_kc (ak_aload_n dX5_readDigits_0 rfl rfl) <|
  am_kc (ak_getI (C := RX5) (T := TX5) (N := 7) rfl inX5w (by decide) rfl rfl rfl wd_171 dX5_readDigits_1 rfl) <|
  am_kc (ak_istore_n dX5_readDigits_4 rfl rfl) <|
  am_kc (ak_iconst dX5_readDigits_5 (by decide +kernel) rfl) <|
  am_kc (ak_istore_n dX5_readDigits_6 rfl rfl) <|
  am_kc (ak_aload_n dX5_readDigits_7 rfl rfl) <|
  am_kc (ak_getI (C := RX5) (T := TX5) (N := 7) rfl inX5w (by decide) rfl rfl rfl wd_171 dX5_readDigits_8 rfl) <|
  am_kc (ak_aload_n dX5_readDigits_11 rfl rfl) <|
  am_kc (ak_getI (C := RX5) (T := TX5) (N := 7) rfl inX5w (by decide) rfl rfl rfl wd_173 dX5_readDigits_12 rfl) <|
  am_kc (ak_icmp_ge dX5_readDigits_15 (by decide +kernel) rfl) <|
  am_kc (ak_aload_n dX5_readDigits_18 rfl rfl) <|
  am_kc (ak_getR (C := RX5) (T := TX5) (N := 7) rfl inX5w (by decide) rfl rfl rfl wd_168 dX5_readDigits_19 rfl) <|
  am_kc (ak_aload_n dX5_readDigits_22 rfl rfl) <|
  am_kc (ak_getI (C := RX5) (T := TX5) (N := 7) rfl inX5w (by decide) rfl rfl rfl wd_171 dX5_readDigits_23 rfl) <|
  am_kc (ak_iald (t := 0) (fun _ => rfl) rfl dX5_readDigits_26 rfl) <|
  am_kc (ak_callS metX5_isDigit ⟨rfl, by decide +kernel, by decide +kernel, by decide +kernel⟩ (am_w4 wd_693 wd_694 wd_65 wd_695) (by decide) dX5_readDigits_27 rfl) <|
  am_kc (ak_if_eq dX5_readDigits_30 (by decide +kernel) rfl) <|
  am_kc (ak_aload_n dX5_readDigits_33 rfl rfl) <|
  am_kc (ak_getI (C := RX5) (T := TX5) (N := 7) rfl inX5w (by decide) rfl rfl rfl wd_171 dX5_readDigits_34 rfl) <|
  am_kc (ak_iload_n dX5_readDigits_37 rfl rfl) <|
  am_kc (ak_isub dX5_readDigits_38 rfl) <|
  am_kc (ak_bipush dX5_readDigits_39 (by decide +kernel) rfl) <|
  am_kc (ak_icmp_lt dX5_readDigits_41 (by decide +kernel) rfl) <|
  am_kc (ak_aload_n dX5_readDigits_44 rfl rfl) <|
  am_kc (ak_iload_n dX5_readDigits_45 rfl rfl) <|
  am_kc (ak_iconst dX5_readDigits_46 (by decide +kernel) rfl) <|
  am_kc (ak_callV (C := RX5) (F := TX5) (N := 7) metX5_blame rfl ⟨rfl, by decide +kernel, by decide +kernel, by decide +kernel⟩ (am_w5 wd_673 wd_675 wd_14 wd_65 wd_676) (by decide) dX5_readDigits_47 rfl) <|
  am_kc (ak_retV dX5_readDigits_50) <|
  am_kc (ak_bipush dX5_readDigits_51 (by decide +kernel) rfl) <|
  am_kc (ak_iload_n dX5_readDigits_53 rfl rfl) <|
  am_kc (ak_imul dX5_readDigits_54 rfl) <|
  am_kc (ak_aload_n dX5_readDigits_55 rfl rfl) <|
  am_kc (ak_getR (C := RX5) (T := TX5) (N := 7) rfl inX5w (by decide) rfl rfl rfl wd_168 dX5_readDigits_56 rfl) <|
  am_kc (ak_aload_n dX5_readDigits_59 rfl rfl) <|
  am_kc (ak_getI (C := RX5) (T := TX5) (N := 7) rfl inX5w (by decide) rfl rfl rfl wd_171 dX5_readDigits_60 rfl) <|
  am_kc (ak_iald (t := 0) (fun _ => rfl) rfl dX5_readDigits_63 rfl) <|
  am_kc (ak_iadd dX5_readDigits_64 rfl) <|
  am_kc (ak_bipush dX5_readDigits_65 (by decide +kernel) rfl) <|
  am_kc (ak_isub dX5_readDigits_67 rfl) <|
  am_kc (ak_istore_n dX5_readDigits_68 rfl rfl) <|
  am_kc (ak_aload_n dX5_readDigits_69 rfl rfl) <|
  am_kc (ak_dup dX5_readDigits_70 rfl) <|
  am_kc (ak_getI (C := RX5) (T := TX5) (N := 7) rfl inX5w (by decide) rfl rfl rfl wd_171 dX5_readDigits_71 rfl) <|
  am_kc (ak_iconst dX5_readDigits_74 (by decide +kernel) rfl) <|
  am_kc (ak_iadd dX5_readDigits_75 rfl) <|
  am_kc (ak_putI (C := RX5) (T := TX5) (N := 7) rfl inX5w tyX5_ok nmX5 (by decide) rfl rfl rfl rfl (by decide +kernel) wd_171 dX5_readDigits_76 rfl) <|
  am_kc (ak_goto dX5_readDigits_79 (by decide +kernel)) <|
  am_kc (ak_aload_n dX5_readDigits_82 rfl rfl) <|
  am_kc (ak_iload_n dX5_readDigits_83 rfl rfl) <|
  am_kc (ak_callV (C := RX5) (F := TX5) (N := 7) metX5_emit rfl ⟨rfl, by decide +kernel, by decide +kernel, by decide +kernel⟩ (am_w5 wd_700 wd_702 wd_20 wd_65 wd_703) (by decide) dX5_readDigits_84 rfl) <|
  am_kc (ak_retV dX5_readDigits_87) <| am_kn
def TX5_readDigits : am_T := fun live as M R => match as with
  | [.ref t] => am_tP live t (fun s c => am_tI M t ∧ ∀ M', am_ch (am_tS t c) M M' → am_tI M' t → R none M')
  | _ => False
def JX5_readDigits : am_E → List Value → am_M → am_R → am_inv := fun live as M0 _ pc => match as with
  | [.ref t] => (match pc with
    | 7 => some ([0, 1, 2], fun k L st M => ∃ b v : Int32, L = [(0, .ref t), (1, .int b), (2, .int v)] ∧ st = [] ∧ k = ((51 - (M.1 t 3).toInt).toNat, 0) ∧ am_ch (am_tS t ((live.2 t 1).getD 0)) M0 M ∧ am_tI M t)
    | _ => none)
  | _ => none
set_option maxRecDepth 100000 in
set_option maxHeartbeats 4000000 in
theorem metX5_readDigits : am_Met yX5_readDigits cX5_readDigits 3 none (1) (22) TX5_readDigits := by
  refine am_met (own := RX5) (by decide +kernel) rfl kX5_readDigits koX5_readDigits 60 JX5_readDigits ?_ ?_
  · intro live as M Ret h
    unfold TX5_readDigits at h
    split at h
    · next t =>
      refine ⟨Nat.le_of_ble_eq_true rfl, ?_⟩
      change am_wp _ _ _ _ [(0, Value.ref t)] _ _
      have hh := am_tP_mp h
      clear h
      obtain ⟨s, c, h2, h6, hb, h1, h3, h7, h4, h8, h9, h5, h10, hT, h⟩ := hh
      repeat' (first | exact rfl | (with_reducible exact hT) | (with_reducible exact h1) | (with_reducible exact h2) | (with_reducible exact h3) | (with_reducible exact hb) | (with_reducible exact h6) | (with_reducible exact h7) | (refine Exists.intro _ (Exists.intro _ (And.intro h2 (And.intro h6 ?_)))) | (refine Exists.intro _ (And.intro h2 ?_)) | (refine Exists.intro _ (And.intro h6 ?_)) | apply And.intro | intro hx | (refine Exists.intro _ (And.intro rfl ?_)) | ((with_reducible change _ = true); simp only [h1, h2, h3, hb, h6, h7, Bool.true_and]; rfl))
      all_goals try first | (with_reducible change am_tI _ _) | (change Ret _ _) | (change Ret _ _ _) | (change Exists _)
      all_goals try dsimp only at *
      all_goals try exact absurd ‹(1000 : Int64) = 0› (by decide)
      exact ⟨_, _, _, rfl, rfl, rfl, am_ch.rf, hT⟩
    · exact h.elim
  · intro live as M0 Ret h k pc I hI L st M hi
    unfold TX5_readDigits at h
    split at h
    · next t =>
      have hh := am_tP_mp h
      clear h
      obtain ⟨s, c, h2, h6, hb, h1, h3, h7, h4, h8, h9, h5, h10, hT, h⟩ := hh
      change (match pc with | 7 => _ | _ => none) = _ at hI
      split at hI
      · cases hI
        obtain ⟨b, v, rfl, rfl, rfl, e1, e2⟩ := hi
        have f1 := e1
        rw [h6] at f1
        have hcd : 0 ≤ (M.1 t 2).toInt := by obtain ⟨-, q1, q2, q3⟩ := e2; exact q1.1
        repeat' (first | exact rfl | (with_reducible exact e2) | (with_reducible exact hcd) | (with_reducible exact h1) | (with_reducible exact h2) | (with_reducible exact h3) | (with_reducible exact hb) | (with_reducible exact h6) | (with_reducible exact h7) | (refine Exists.intro _ (Exists.intro _ (And.intro h2 (And.intro h6 ?_)))) | (refine Exists.intro _ (And.intro h2 ?_)) | (refine Exists.intro _ (And.intro h6 ?_)) | apply And.intro | intro hx | (refine Exists.intro _ (And.intro rfl ?_)) | ((with_reducible change _ = true); simp only [h1, h2, h3, hb, h6, h7, Bool.true_and]; rfl))
        all_goals try first | (with_reducible change am_tI _ _) | (change Ret _ _) | (change Ret _ _ _) | (change Exists _)
        all_goals try dsimp only at *
        all_goals try exact absurd ‹(1000 : Int64) = 0› (by decide)
        all_goals have hz : (M.1 t 3).toInt ≤ (M.1 t 5).toInt ∧ 0 ≤ (M.1 t 3).toInt ∧ (M.1 t 5).toInt ≤ 50 := by obtain ⟨-, q1, q2, q3⟩ := e2; exact ⟨q2.2, q2.1, q3⟩
        all_goals first
          | exact h _ (am_ch_emit f1) (am_tI_emit e2 h10)
          | exact h _ (am_ch_blame f1) (am_tI_blame e2)
          | (simp only [i_lt, i_le, h4, Int32.reduceToInt] at *; omega)
          | skip
        all_goals
          have hlt : (M.1 t 3).toInt < (M.1 t 5).toInt := by simp only [i_le] at *; omega
          have hi := am_tI_inc e2 hlt
          refine ⟨_, Or.inl ?_, _, _, rfl, rfl, rfl, e1.wI am_tS_3, hi.1⟩
          simp [am_wI_1, -Int32.toInt_add]
          omega
      · cases hI
    · exact h.elim
end
section
/-! Text: reading by recursion: what is safe of it -/
def TX5_readValue (d : Nat) : am_T := fun live as M R => match as with
  | [.ref t, .int e] => am_tP live t (fun s c => am_tI M t ∧ 0 ≤ e.toInt ∧ e.toInt ≤ 41 ∧ 41 ≤ e.toInt + (d : Int) ∧ ∀ M', am_ch (am_tS t c) M M' → am_tI M' t → R none M')
  | _ => False
def TX5_readPlain (d : Nat) : am_T := fun live as M R => match as with
  | [.ref t, .int e] => am_tP live t (fun s c => am_tI M t ∧ 0 ≤ e.toInt ∧ e.toInt ≤ 40 ∧ 40 ≤ e.toInt + (d : Int) ∧ ∀ M', am_ch (am_tS t c) M M' → am_tI M' t → R none M')
  | _ => False
def TX5_readChain (d n : Nat) : am_T := fun live as M R => match as with
  | [.ref t, .int l, .int e] => am_tP live t (fun s c => am_tI M t ∧ (0 ≤ l.toInt ∧ l.toInt ≤ 5 ∧ 5 ≤ l.toInt + (n : Int)) ∧ 0 ≤ e.toInt ∧ e.toInt ≤ 40 ∧ 40 ≤ e.toInt + (d : Int) ∧ ∀ M', am_ch (am_tS t c) M M' → am_tI M' t → R none M')
  | _ => False
theorem am_tI_4 {M : am_M} {t : Nat} {v : Int32} (h : am_tI M t) : am_tI (am_wI M t 4 v) t := by
  obtain ⟨-, q1, q2, q3⟩ := h
  refine am_tI_of ?_ ?_ ?_ ?_ ?_
  all_goals simp [am_wI_1]
  all_goals omega
theorem am_sign_lt {M : am_M} {t s : Nat} {p : Int32} (h : ¬ am_sign M t s p = -1) : p.toInt < (M.1 t 5).toInt := by
  rcases Int.lt_or_le p.toInt (M.1 t 5).toInt with z | z
  · exact z
  · exact absurd (by rw [am_sign, if_neg (by omega)]) h
theorem am_tI_3p {M : am_M} {t s : Nat} {p : Int32} (h : am_tI M t) (hp : am_skip M t s p) (hl : p.toInt < (M.1 t 5).toInt) : am_tI (am_wI (am_wI M t 3 p) t 3 (p + 1)) t := by
  have h1 := am_tI_w3 h hp
  have h2 := am_tI_inc h1 (by simp [am_wI_1]; exact hl)
  simp [am_wI_1] at h2
  exact h2.1
theorem am_wI_self {M : am_M} {n k : Nat} {v : Int32} : (am_wI M n k v).1 n k = v := by simp [am_wI_1]
theorem am_ne1 {x : Int32} (h : am_ops x = 0) : ¬ x = -1 := fun e => by rw [e] at h; exact absurd h (by decide)
theorem am_ne2 {x : Int32} (h : x = 40) : ¬ x = -1 := fun e => by rw [h] at e; exact absurd e (by decide)
theorem am_tI_cd {M : am_M} {t : Nat} (h : am_tI M t) : 0 ≤ (M.1 t 2).toInt := by obtain ⟨-, q1, q2, q3⟩ := h; exact q1.1
theorem am_tI_pl {M : am_M} {t : Nat} (h : am_tI M t) : 0 ≤ (M.1 t 3).toInt ∧ (M.1 t 3).toInt ≤ (M.1 t 5).toInt ∧ (M.1 t 5).toInt ≤ 50 := by obtain ⟨-, q1, q2, q3⟩ := h; exact ⟨q2.1, q2.2, q3⟩
theorem wd_696 : Cond.methodLink "LearnLoans$Text" 80 yX5_readDigits ∈ am_ws := am_wsi (List.mem_of_getElem? (i := 696) (by decide +kernel)) (by decide +kernel)
theorem wd_698 : Cond.instanceMethod yX5_readDigits ∈ am_ws := am_wsi (List.mem_of_getElem? (i := 698) (by decide +kernel)) (by decide +kernel)
theorem wd_19 : Cond.selects "LearnLoans$Text" yX5_readDigits yX5_readDigits ∈ am_ws := am_wsi (List.mem_of_getElem? (i := 19) (by decide +kernel)) (by decide +kernel)
theorem wd_699 : Cond.code yX5_readDigits cX5_readDigits 3 none ∈ am_ws := am_wsi (List.mem_of_getElem? (i := 699) (by decide +kernel)) (by decide +kernel)
theorem wd_593 : Cond.methodLink "LearnLoans$Text" 83 yX5_operands ∈ am_ws := am_wsi (List.mem_of_getElem? (i := 593) (by decide +kernel)) (by decide +kernel)
theorem wd_594 : Cond.static yX5_operands ∈ am_ws := am_wsi (List.mem_of_getElem? (i := 594) (by decide +kernel)) (by decide +kernel)
theorem wd_595 : Cond.code yX5_operands cX5_operands 1 (some .int) ∈ am_ws := am_wsi (List.mem_of_getElem? (i := 595) (by decide +kernel)) (by decide +kernel)
theorem wd_172 : Cond.fieldLink "LearnLoans$Text" 31 "LearnLoans$Text" "open" "I" ∈ am_ws := am_wsi (List.mem_of_getElem? (i := 172) (by decide +kernel)) (by decide +kernel)
theorem wd_669 : Cond.methodLink "LearnLoans$Text" 34 yX5_readValue ∈ am_ws := am_wsi (List.mem_of_getElem? (i := 669) (by decide +kernel)) (by decide +kernel)
theorem wd_671 : Cond.instanceMethod yX5_readValue ∈ am_ws := am_wsi (List.mem_of_getElem? (i := 671) (by decide +kernel)) (by decide +kernel)
theorem wd_13 : Cond.selects "LearnLoans$Text" yX5_readValue yX5_readValue ∈ am_ws := am_wsi (List.mem_of_getElem? (i := 13) (by decide +kernel)) (by decide +kernel)
theorem wd_672 : Cond.code yX5_readValue cX5_readValue 2 none ∈ am_ws := am_wsi (List.mem_of_getElem? (i := 672) (by decide +kernel)) (by decide +kernel)
theorem wd_704 : Cond.methodLink "LearnLoans$Text" 57 yX5_pass ∈ am_ws := am_wsi (List.mem_of_getElem? (i := 704) (by decide +kernel)) (by decide +kernel)
theorem wd_706 : Cond.instanceMethod yX5_pass ∈ am_ws := am_wsi (List.mem_of_getElem? (i := 706) (by decide +kernel)) (by decide +kernel)
theorem wd_21 : Cond.selects "LearnLoans$Text" yX5_pass yX5_pass ∈ am_ws := am_wsi (List.mem_of_getElem? (i := 21) (by decide +kernel)) (by decide +kernel)
theorem wd_707 : Cond.code yX5_pass cX5_pass 2 none ∈ am_ws := am_wsi (List.mem_of_getElem? (i := 707) (by decide +kernel)) (by decide +kernel)
theorem dX5_readPlain_0 : decode cX5_readPlain 0 = .ok (.aload_n 0, 1) := by decide +kernel
theorem dX5_readPlain_1 : decode cX5_readPlain 1 = .ok (.invokevirtual 38, 3) := by decide +kernel
theorem dX5_readPlain_4 : decode cX5_readPlain 4 = .ok (.istore_n 2, 1) := by decide +kernel
theorem dX5_readPlain_5 : decode cX5_readPlain 5 = .ok (.aload_n 0, 1) := by decide +kernel
theorem dX5_readPlain_6 : decode cX5_readPlain 6 = .ok (.getfield 18, 3) := by decide +kernel
theorem dX5_readPlain_9 : decode cX5_readPlain 9 = .ok (.iconst (-1), 1) := by decide +kernel
theorem dX5_readPlain_10 : decode cX5_readPlain 10 = .ok (.if_icmp .eq 4, 3) := by decide +kernel
theorem dX5_readPlain_13 : decode cX5_readPlain 13 = .ok (.return_, 1) := by decide +kernel
theorem dX5_readPlain_14 : decode cX5_readPlain 14 = .ok (.iload_n 2, 1) := by decide +kernel
theorem dX5_readPlain_15 : decode cX5_readPlain 15 = .ok (.invokestatic 76, 3) := by decide +kernel
theorem dX5_readPlain_18 : decode cX5_readPlain 18 = .ok (.ifCond .eq 10, 3) := by decide +kernel
theorem dX5_readPlain_21 : decode cX5_readPlain 21 = .ok (.aload_n 0, 1) := by decide +kernel
theorem dX5_readPlain_22 : decode cX5_readPlain 22 = .ok (.invokevirtual 80, 3) := by decide +kernel
theorem dX5_readPlain_25 : decode cX5_readPlain 25 = .ok (.goto 111, 3) := by decide +kernel
theorem dX5_readPlain_28 : decode cX5_readPlain 28 = .ok (.iload_n 2, 1) := by decide +kernel
theorem dX5_readPlain_29 : decode cX5_readPlain 29 = .ok (.invokestatic 83, 3) := by decide +kernel
theorem dX5_readPlain_32 : decode cX5_readPlain 32 = .ok (.ifCond .ne 22, 3) := by decide +kernel
theorem dX5_readPlain_35 : decode cX5_readPlain 35 = .ok (.aload_n 0, 1) := by decide +kernel
theorem dX5_readPlain_36 : decode cX5_readPlain 36 = .ok (.dup, 1) := by decide +kernel
theorem dX5_readPlain_37 : decode cX5_readPlain 37 = .ok (.getfield 28, 3) := by decide +kernel
theorem dX5_readPlain_40 : decode cX5_readPlain 40 = .ok (.iconst 1, 1) := by decide +kernel
theorem dX5_readPlain_41 : decode cX5_readPlain 41 = .ok (.iadd, 1) := by decide +kernel
theorem dX5_readPlain_42 : decode cX5_readPlain 42 = .ok (.putfield 28, 3) := by decide +kernel
theorem dX5_readPlain_45 : decode cX5_readPlain 45 = .ok (.aload_n 0, 1) := by decide +kernel
theorem dX5_readPlain_46 : decode cX5_readPlain 46 = .ok (.iload_n 2, 1) := by decide +kernel
theorem dX5_readPlain_47 : decode cX5_readPlain 47 = .ok (.ineg, 1) := by decide +kernel
theorem dX5_readPlain_48 : decode cX5_readPlain 48 = .ok (.invokevirtual 60, 3) := by decide +kernel
theorem dX5_readPlain_51 : decode cX5_readPlain 51 = .ok (.goto 85, 3) := by decide +kernel
theorem dX5_readPlain_54 : decode cX5_readPlain 54 = .ok (.iload_n 2, 1) := by decide +kernel
theorem dX5_readPlain_55 : decode cX5_readPlain 55 = .ok (.bipush 40, 2) := by decide +kernel
theorem dX5_readPlain_57 : decode cX5_readPlain 57 = .ok (.if_icmp .eq 15, 3) := by decide +kernel
theorem dX5_readPlain_60 : decode cX5_readPlain 60 = .ok (.aload_n 0, 1) := by decide +kernel
theorem dX5_readPlain_61 : decode cX5_readPlain 61 = .ok (.aload_n 0, 1) := by decide +kernel
theorem dX5_readPlain_62 : decode cX5_readPlain 62 = .ok (.getfield 28, 3) := by decide +kernel
theorem dX5_readPlain_65 : decode cX5_readPlain 65 = .ok (.iconst 1, 1) := by decide +kernel
theorem dX5_readPlain_66 : decode cX5_readPlain 66 = .ok (.invokevirtual 42, 3) := by decide +kernel
theorem dX5_readPlain_69 : decode cX5_readPlain 69 = .ok (.goto 67, 3) := by decide +kernel
theorem dX5_readPlain_72 : decode cX5_readPlain 72 = .ok (.aload_n 0, 1) := by decide +kernel
theorem dX5_readPlain_73 : decode cX5_readPlain 73 = .ok (.getfield 31, 3) := by decide +kernel
theorem dX5_readPlain_76 : decode cX5_readPlain 76 = .ok (.bipush 8, 2) := by decide +kernel
theorem dX5_readPlain_78 : decode cX5_readPlain 78 = .ok (.if_icmp .lt 15, 3) := by decide +kernel
theorem dX5_readPlain_81 : decode cX5_readPlain 81 = .ok (.aload_n 0, 1) := by decide +kernel
theorem dX5_readPlain_82 : decode cX5_readPlain 82 = .ok (.aload_n 0, 1) := by decide +kernel
theorem dX5_readPlain_83 : decode cX5_readPlain 83 = .ok (.getfield 28, 3) := by decide +kernel
theorem dX5_readPlain_86 : decode cX5_readPlain 86 = .ok (.iconst 3, 1) := by decide +kernel
theorem dX5_readPlain_87 : decode cX5_readPlain 87 = .ok (.invokevirtual 42, 3) := by decide +kernel
theorem dX5_readPlain_90 : decode cX5_readPlain 90 = .ok (.goto 46, 3) := by decide +kernel
theorem dX5_readPlain_93 : decode cX5_readPlain 93 = .ok (.aload_n 0, 1) := by decide +kernel
theorem dX5_readPlain_94 : decode cX5_readPlain 94 = .ok (.dup, 1) := by decide +kernel
theorem dX5_readPlain_95 : decode cX5_readPlain 95 = .ok (.getfield 28, 3) := by decide +kernel
theorem dX5_readPlain_98 : decode cX5_readPlain 98 = .ok (.iconst 1, 1) := by decide +kernel
theorem dX5_readPlain_99 : decode cX5_readPlain 99 = .ok (.iadd, 1) := by decide +kernel
theorem dX5_readPlain_100 : decode cX5_readPlain 100 = .ok (.putfield 28, 3) := by decide +kernel
theorem dX5_readPlain_103 : decode cX5_readPlain 103 = .ok (.aload_n 0, 1) := by decide +kernel
theorem dX5_readPlain_104 : decode cX5_readPlain 104 = .ok (.dup, 1) := by decide +kernel
theorem dX5_readPlain_105 : decode cX5_readPlain 105 = .ok (.getfield 31, 3) := by decide +kernel
theorem dX5_readPlain_108 : decode cX5_readPlain 108 = .ok (.iconst 1, 1) := by decide +kernel
theorem dX5_readPlain_109 : decode cX5_readPlain 109 = .ok (.iadd, 1) := by decide +kernel
theorem dX5_readPlain_110 : decode cX5_readPlain 110 = .ok (.putfield 31, 3) := by decide +kernel
theorem dX5_readPlain_113 : decode cX5_readPlain 113 = .ok (.aload_n 0, 1) := by decide +kernel
theorem dX5_readPlain_114 : decode cX5_readPlain 114 = .ok (.iload_n 1, 1) := by decide +kernel
theorem dX5_readPlain_115 : decode cX5_readPlain 115 = .ok (.iconst 1, 1) := by decide +kernel
theorem dX5_readPlain_116 : decode cX5_readPlain 116 = .ok (.iadd, 1) := by decide +kernel
theorem dX5_readPlain_117 : decode cX5_readPlain 117 = .ok (.invokevirtual 34, 3) := by decide +kernel
theorem dX5_readPlain_120 : decode cX5_readPlain 120 = .ok (.aload_n 0, 1) := by decide +kernel
theorem dX5_readPlain_121 : decode cX5_readPlain 121 = .ok (.bipush 41, 2) := by decide +kernel
theorem dX5_readPlain_123 : decode cX5_readPlain 123 = .ok (.invokevirtual 57, 3) := by decide +kernel
theorem dX5_readPlain_126 : decode cX5_readPlain 126 = .ok (.aload_n 0, 1) := by decide +kernel
theorem dX5_readPlain_127 : decode cX5_readPlain 127 = .ok (.dup, 1) := by decide +kernel
theorem dX5_readPlain_128 : decode cX5_readPlain 128 = .ok (.getfield 31, 3) := by decide +kernel
theorem dX5_readPlain_131 : decode cX5_readPlain 131 = .ok (.iconst 1, 1) := by decide +kernel
theorem dX5_readPlain_132 : decode cX5_readPlain 132 = .ok (.isub, 1) := by decide +kernel
theorem dX5_readPlain_133 : decode cX5_readPlain 133 = .ok (.putfield 31, 3) := by decide +kernel
theorem dX5_readPlain_136 : decode cX5_readPlain 136 = .ok (.return_, 1) := by decide +kernel
def kX5_readPlain (d : Nat) (live : am_E) (Ret : am_R) : am_code := [(0, am_aload 0 1), (1, am_callV live 5 0 TX5_next 4), (4, am_istore 2 3 5), (5, am_aload 0 6), (6, am_getI live 5 6 9), (9, am_const (.int (-1)) 10), (10, am_if2 (fun x y => x = y) 14 13), (13, am_retV Ret), (14, am_iload 2 15), (15, am_callS live 1 TX5_isDigit 18), (18, am_if1 (fun x => x = 0) 28 21), (21, am_aload 0 22), (22, am_callV live 5 0 TX5_readDigits 25), (25, am_goto 136), (28, am_iload 2 29), (29, am_callS live 1 TX5_operands 32), (32, am_if1 (fun x => x = 0) 35 54), (35, am_aload 0 36), (36, am_dup 37), (37, am_getI live 5 3 40), (40, am_const (.int 1) 41), (41, am_i2 (fun x y => x + y) 42), (42, am_putI live 5 3 45), (45, am_aload 0 46), (46, am_iload 2 47), (47, am_i1 (fun x => -x) 48), (48, am_callV live 5 1 TX5_emit 51), (51, am_goto 136), (54, am_iload 2 55), (55, am_const (.int 40) 57), (57, am_if2 (fun x y => x = y) 72 60), (60, am_aload 0 61), (61, am_aload 0 62), (62, am_getI live 5 3 65), (65, am_const (.int 1) 66), (66, am_callV live 5 2 TX5_blame 69), (69, am_goto 136), (72, am_aload 0 73), (73, am_getI live 5 4 76), (76, am_const (.int 8) 78), (78, am_if2 (fun x y => x < y) 93 81), (81, am_aload 0 82), (82, am_aload 0 83), (83, am_getI live 5 3 86), (86, am_const (.int 3) 87), (87, am_callV live 5 2 TX5_blame 90), (90, am_goto 136), (93, am_aload 0 94), (94, am_dup 95), (95, am_getI live 5 3 98), (98, am_const (.int 1) 99), (99, am_i2 (fun x y => x + y) 100), (100, am_putI live 5 3 103), (103, am_aload 0 104), (104, am_dup 105), (105, am_getI live 5 4 108), (108, am_const (.int 1) 109), (109, am_i2 (fun x y => x + y) 110), (110, am_putI live 5 4 113), (113, am_aload 0 114), (114, am_iload 1 115), (115, am_const (.int 1) 116), (116, am_i2 (fun x y => x + y) 117), (117, am_callV live 5 1 (TX5_readValue d) 120), (120, am_aload 0 121), (121, am_const (.int 41) 123), (123, am_callV live 5 1 TX5_pass 126), (126, am_aload 0 127), (127, am_dup 128), (128, am_getI live 5 4 131), (131, am_const (.int 1) 132), (132, am_i2 (fun x y => x - y) 133), (133, am_putI live 5 4 136), (136, am_retV Ret)]
theorem koX5_readPlain (d : Nat) (hV : am_Met yX5_readValue cX5_readValue 2 none (4 + 8 * d) (200 + 200 * d) (TX5_readValue d)) (live : am_E) (Ret : am_R) : ∀ q ∈ kX5_readPlain d live Ret, am_ok RX5 cX5_readPlain 3 none (4 + 8 * d + 1) (200 + 200 * d + 25) live Ret q.1 q.2 :=
  am_kc (ak_aload_n dX5_readPlain_0 rfl rfl) <|
  am_kc (ak_callV (C := RX5) (F := TX5) (N := 7) metX5_next rfl ⟨rfl, by decide +kernel, by decide +kernel, by decide +kernel⟩ (am_w5 wd_685 wd_687 wd_17 wd_65 wd_688) (by omega) dX5_readPlain_1 rfl) <|
  am_kc (ak_istore_n dX5_readPlain_4 rfl rfl) <|
  am_kc (ak_aload_n dX5_readPlain_5 rfl rfl) <|
  am_kc (ak_getI (C := RX5) (T := TX5) (N := 7) rfl inX5w (by decide) rfl rfl rfl wd_175 dX5_readPlain_6 rfl) <|
  am_kc (ak_iconst dX5_readPlain_9 (by decide +kernel) rfl) <|
  am_kc (ak_icmp_eq dX5_readPlain_10 (by decide +kernel) rfl) <|
  am_kc (ak_retV dX5_readPlain_13) <|
  am_kc (ak_iload_n dX5_readPlain_14 rfl rfl) <|
  am_kc (ak_callS metX5_isDigit ⟨rfl, by decide +kernel, by decide +kernel, by decide +kernel⟩ (am_w4 wd_693 wd_694 wd_65 wd_695) (by omega) dX5_readPlain_15 rfl) <|
  am_kc (ak_if_eq dX5_readPlain_18 (by decide +kernel) rfl) <|
  am_kc (ak_aload_n dX5_readPlain_21 rfl rfl) <|
  am_kc (ak_callV (C := RX5) (F := TX5) (N := 7) metX5_readDigits rfl ⟨rfl, by decide +kernel, by decide +kernel, by decide +kernel⟩ (am_w5 wd_696 wd_698 wd_19 wd_65 wd_699) (by omega) dX5_readPlain_22 rfl) <|
  am_kc (ak_goto dX5_readPlain_25 (by decide +kernel)) <|
  am_kc (ak_iload_n dX5_readPlain_28 rfl rfl) <|
  am_kc (ak_callS metX5_operands ⟨rfl, by decide +kernel, by decide +kernel, by decide +kernel⟩ (am_w4 wd_593 wd_594 wd_65 wd_595) (by omega) dX5_readPlain_29 rfl) <|
  am_kc (ak_if_ne dX5_readPlain_32 (by decide +kernel) rfl) <|
  am_kc (ak_aload_n dX5_readPlain_35 rfl rfl) <|
  am_kc (ak_dup dX5_readPlain_36 rfl) <|
  am_kc (ak_getI (C := RX5) (T := TX5) (N := 7) rfl inX5w (by decide) rfl rfl rfl wd_171 dX5_readPlain_37 rfl) <|
  am_kc (ak_iconst dX5_readPlain_40 (by decide +kernel) rfl) <|
  am_kc (ak_iadd dX5_readPlain_41 rfl) <|
  am_kc (ak_putI (C := RX5) (T := TX5) (N := 7) rfl inX5w tyX5_ok nmX5 (by decide) rfl rfl rfl rfl (by decide +kernel) wd_171 dX5_readPlain_42 rfl) <|
  am_kc (ak_aload_n dX5_readPlain_45 rfl rfl) <|
  am_kc (ak_iload_n dX5_readPlain_46 rfl rfl) <|
  am_kc (ak_ineg dX5_readPlain_47 rfl) <|
  am_kc (ak_callV (C := RX5) (F := TX5) (N := 7) metX5_emit rfl ⟨rfl, by decide +kernel, by decide +kernel, by decide +kernel⟩ (am_w5 wd_700 wd_702 wd_20 wd_65 wd_703) (by omega) dX5_readPlain_48 rfl) <|
  am_kc (ak_goto dX5_readPlain_51 (by decide +kernel)) <|
  am_kc (ak_iload_n dX5_readPlain_54 rfl rfl) <|
  am_kc (ak_bipush dX5_readPlain_55 (by decide +kernel) rfl) <|
  am_kc (ak_icmp_eq dX5_readPlain_57 (by decide +kernel) rfl) <|
  am_kc (ak_aload_n dX5_readPlain_60 rfl rfl) <|
  am_kc (ak_aload_n dX5_readPlain_61 rfl rfl) <|
  am_kc (ak_getI (C := RX5) (T := TX5) (N := 7) rfl inX5w (by decide) rfl rfl rfl wd_171 dX5_readPlain_62 rfl) <|
  am_kc (ak_iconst dX5_readPlain_65 (by decide +kernel) rfl) <|
  am_kc (ak_callV (C := RX5) (F := TX5) (N := 7) metX5_blame rfl ⟨rfl, by decide +kernel, by decide +kernel, by decide +kernel⟩ (am_w5 wd_673 wd_675 wd_14 wd_65 wd_676) (by omega) dX5_readPlain_66 rfl) <|
  am_kc (ak_goto dX5_readPlain_69 (by decide +kernel)) <|
  am_kc (ak_aload_n dX5_readPlain_72 rfl rfl) <|
  am_kc (ak_getI (C := RX5) (T := TX5) (N := 7) rfl inX5w (by decide) rfl rfl rfl wd_172 dX5_readPlain_73 rfl) <|
  am_kc (ak_bipush dX5_readPlain_76 (by decide +kernel) rfl) <|
  am_kc (ak_icmp_lt dX5_readPlain_78 (by decide +kernel) rfl) <|
  am_kc (ak_aload_n dX5_readPlain_81 rfl rfl) <|
  am_kc (ak_aload_n dX5_readPlain_82 rfl rfl) <|
  am_kc (ak_getI (C := RX5) (T := TX5) (N := 7) rfl inX5w (by decide) rfl rfl rfl wd_171 dX5_readPlain_83 rfl) <|
  am_kc (ak_iconst dX5_readPlain_86 (by decide +kernel) rfl) <|
  am_kc (ak_callV (C := RX5) (F := TX5) (N := 7) metX5_blame rfl ⟨rfl, by decide +kernel, by decide +kernel, by decide +kernel⟩ (am_w5 wd_673 wd_675 wd_14 wd_65 wd_676) (by omega) dX5_readPlain_87 rfl) <|
  am_kc (ak_goto dX5_readPlain_90 (by decide +kernel)) <|
  am_kc (ak_aload_n dX5_readPlain_93 rfl rfl) <|
  am_kc (ak_dup dX5_readPlain_94 rfl) <|
  am_kc (ak_getI (C := RX5) (T := TX5) (N := 7) rfl inX5w (by decide) rfl rfl rfl wd_171 dX5_readPlain_95 rfl) <|
  am_kc (ak_iconst dX5_readPlain_98 (by decide +kernel) rfl) <|
  am_kc (ak_iadd dX5_readPlain_99 rfl) <|
  am_kc (ak_putI (C := RX5) (T := TX5) (N := 7) rfl inX5w tyX5_ok nmX5 (by decide) rfl rfl rfl rfl (by decide +kernel) wd_171 dX5_readPlain_100 rfl) <|
  am_kc (ak_aload_n dX5_readPlain_103 rfl rfl) <|
  am_kc (ak_dup dX5_readPlain_104 rfl) <|
  am_kc (ak_getI (C := RX5) (T := TX5) (N := 7) rfl inX5w (by decide) rfl rfl rfl wd_172 dX5_readPlain_105 rfl) <|
  am_kc (ak_iconst dX5_readPlain_108 (by decide +kernel) rfl) <|
  am_kc (ak_iadd dX5_readPlain_109 rfl) <|
  am_kc (ak_putI (C := RX5) (T := TX5) (N := 7) rfl inX5w tyX5_ok nmX5 (by decide) rfl rfl rfl rfl (by decide +kernel) wd_172 dX5_readPlain_110 rfl) <|
  am_kc (ak_aload_n dX5_readPlain_113 rfl rfl) <|
  am_kc (ak_iload_n dX5_readPlain_114 rfl rfl) <|
  am_kc (ak_iconst dX5_readPlain_115 (by decide +kernel) rfl) <|
  am_kc (ak_iadd dX5_readPlain_116 rfl) <|
  am_kc (ak_callV (C := RX5) (F := TX5) (N := 7) hV rfl ⟨rfl, by decide +kernel, by decide +kernel, by decide +kernel⟩ (am_w5 wd_669 wd_671 wd_13 wd_65 wd_672) (by omega) dX5_readPlain_117 rfl) <|
  am_kc (ak_aload_n dX5_readPlain_120 rfl rfl) <|
  am_kc (ak_bipush dX5_readPlain_121 (by decide +kernel) rfl) <|
  am_kc (ak_callV (C := RX5) (F := TX5) (N := 7) metX5_pass rfl ⟨rfl, by decide +kernel, by decide +kernel, by decide +kernel⟩ (am_w5 wd_704 wd_706 wd_21 wd_65 wd_707) (by omega) dX5_readPlain_123 rfl) <|
  am_kc (ak_aload_n dX5_readPlain_126 rfl rfl) <|
  am_kc (ak_dup dX5_readPlain_127 rfl) <|
  am_kc (ak_getI (C := RX5) (T := TX5) (N := 7) rfl inX5w (by decide) rfl rfl rfl wd_172 dX5_readPlain_128 rfl) <|
  am_kc (ak_iconst dX5_readPlain_131 (by decide +kernel) rfl) <|
  am_kc (ak_isub dX5_readPlain_132 rfl) <|
  am_kc (ak_putI (C := RX5) (T := TX5) (N := 7) rfl inX5w tyX5_ok nmX5 (by decide) rfl rfl rfl rfl (by decide +kernel) wd_172 dX5_readPlain_133 rfl) <|
  am_kc (ak_retV dX5_readPlain_136) <| am_kn
set_option maxRecDepth 100000 in
set_option maxHeartbeats 4000000 in
theorem metX5_readPlain (d : Nat) (hV : am_Met yX5_readValue cX5_readValue 2 none (4 + 8 * d) (200 + 200 * d) (TX5_readValue d)) : am_Met yX5_readPlain cX5_readPlain 3 none ((4 + 8 * d + 1)) ((200 + 200 * d + 25)) (TX5_readPlain d) := by
  refine am_met (own := RX5) (by decide +kernel) rfl (kX5_readPlain d ) (koX5_readPlain d  hV ) 120 (fun _ _ _ _ _ => none) (fun live as M Ret h => ?_) (fun _ _ _ _ _ _ _ _ hI => by cases hI)
  unfold TX5_readPlain at h
  split at h
  · next t e =>
    refine ⟨Nat.le_of_ble_eq_true rfl, ?_⟩
    change am_wp _ _ _ _ [(0, Value.ref t), (1, Value.int e)] _ _
    have hh := am_tP_mp h
    clear h
    obtain ⟨s, c, h2, h6, hb, h1, h3, h7, h4, h8, h9, h5, h10, hT, he1, he2, he3, h⟩ := hh
    repeat' (first | exact rfl | (with_reducible exact hT) | (with_reducible exact h1) | (with_reducible exact h2) | (with_reducible exact h3) | (with_reducible exact hb) | (with_reducible exact h6) | (with_reducible exact h7) | (refine Exists.intro _ (Exists.intro _ (And.intro h2 (And.intro h6 ?_)))) | (refine Exists.intro _ (And.intro h2 ?_)) | (refine Exists.intro _ (And.intro h6 ?_)) | apply And.intro | intro hx | (refine Exists.intro _ (And.intro rfl ?_)) | ((with_reducible change _ = true); simp only [h1, h2, h3, hb, h6, h7, Bool.true_and]; rfl))
    all_goals try first | (with_reducible change am_tI _ _) | (change Ret _ _) | (change Ret _ _ _) | (change Exists _)
    all_goals try dsimp only at *
    all_goals try exact absurd ‹(1000 : Int64) = 0› (by decide)
    all_goals try simp only [am_wI_self]
    · simp [am_wI_1]; exact am_tI_cd hT
    · exact h _ (am_ch_emit ((am_ch.rf.wI am_tS_3).wI am_tS_3)) (am_tI_emit (am_tI_3p hT ‹am_skip M t s _› (am_sign_lt (am_ne1 hx))) h10)
    · exact am_tI_4 (am_tI_3p hT ‹am_skip M t s _› (am_sign_lt (am_ne2 ‹am_sign M t s _ = 40›)))
    · rw [i_add] <;> simp only [Int32.reduceToInt] <;> omega
    · rw [i_add] <;> simp only [Int32.reduceToInt] <;> omega
    · rw [i_add] <;> simp only [Int32.reduceToInt] <;> omega
    · exact hx
    · exact absurd hx (by decide)
    · rename_i M1 c1 i1 M2 c2
      exact h _ ((((((am_ch.rf.wI am_tS_3).wI am_tS_3).wI am_tS_4).tr c1).tr c2).wI am_tS_4) (am_tI_4 hx)
    · exact h _ (am_ch_blame (am_ch.rf.wI am_tS_3)) (am_tI_blame (am_tI_w3 hT ‹am_skip M t s _›))
    · exact h _ (am_ch_blame (am_ch.rf.wI am_tS_3)) (am_tI_blame (am_tI_w3 hT ‹am_skip M t s _›))
    · exact am_tI_w3 hT ‹am_skip M t s _›
    · rename_i M1 c1
      exact h _ ((am_ch.rf.wI am_tS_3).tr c1) hx
    · exact h _ (am_ch.rf.wI am_tS_3) (am_tI_w3 hT ‹am_skip M t s _›)
  · exact h.elim
theorem wd_681 : Cond.methodLink "LearnLoans$Text" 63 yX5_passSigns ∈ am_ws := am_wsi (List.mem_of_getElem? (i := 681) (by decide +kernel)) (by decide +kernel)
theorem wd_683 : Cond.instanceMethod yX5_passSigns ∈ am_ws := am_wsi (List.mem_of_getElem? (i := 683) (by decide +kernel)) (by decide +kernel)
theorem wd_16 : Cond.selects "LearnLoans$Text" yX5_passSigns yX5_passSigns ∈ am_ws := am_wsi (List.mem_of_getElem? (i := 16) (by decide +kernel)) (by decide +kernel)
theorem wd_684 : Cond.code yX5_passSigns cX5_passSigns 2 (some .int) ∈ am_ws := am_wsi (List.mem_of_getElem? (i := 684) (by decide +kernel)) (by decide +kernel)
theorem wd_689 : Cond.methodLink "LearnLoans$Text" 66 yX5_readPlain ∈ am_ws := am_wsi (List.mem_of_getElem? (i := 689) (by decide +kernel)) (by decide +kernel)
theorem wd_691 : Cond.instanceMethod yX5_readPlain ∈ am_ws := am_wsi (List.mem_of_getElem? (i := 691) (by decide +kernel)) (by decide +kernel)
theorem wd_18 : Cond.selects "LearnLoans$Text" yX5_readPlain yX5_readPlain ∈ am_ws := am_wsi (List.mem_of_getElem? (i := 18) (by decide +kernel)) (by decide +kernel)
theorem wd_692 : Cond.code yX5_readPlain cX5_readPlain 3 none ∈ am_ws := am_wsi (List.mem_of_getElem? (i := 692) (by decide +kernel)) (by decide +kernel)
theorem wd_708 : Cond.methodLink "LearnLoans$Text" 69 yX5_emitSigns ∈ am_ws := am_wsi (List.mem_of_getElem? (i := 708) (by decide +kernel)) (by decide +kernel)
theorem wd_710 : Cond.instanceMethod yX5_emitSigns ∈ am_ws := am_wsi (List.mem_of_getElem? (i := 710) (by decide +kernel)) (by decide +kernel)
theorem wd_22 : Cond.selects "LearnLoans$Text" yX5_emitSigns yX5_emitSigns ∈ am_ws := am_wsi (List.mem_of_getElem? (i := 22) (by decide +kernel)) (by decide +kernel)
theorem wd_711 : Cond.code yX5_emitSigns cX5_emitSigns 4 none ∈ am_ws := am_wsi (List.mem_of_getElem? (i := 711) (by decide +kernel)) (by decide +kernel)
theorem wd_677 : Cond.methodLink "LearnLoans$Text" 54 yX5_readChain ∈ am_ws := am_wsi (List.mem_of_getElem? (i := 677) (by decide +kernel)) (by decide +kernel)
theorem wd_679 : Cond.instanceMethod yX5_readChain ∈ am_ws := am_wsi (List.mem_of_getElem? (i := 679) (by decide +kernel)) (by decide +kernel)
theorem wd_15 : Cond.selects "LearnLoans$Text" yX5_readChain yX5_readChain ∈ am_ws := am_wsi (List.mem_of_getElem? (i := 15) (by decide +kernel)) (by decide +kernel)
theorem wd_680 : Cond.code yX5_readChain cX5_readChain 6 none ∈ am_ws := am_wsi (List.mem_of_getElem? (i := 680) (by decide +kernel)) (by decide +kernel)
theorem wd_712 : Cond.methodLink "LearnLoans$Text" 72 yX5_levelOf ∈ am_ws := am_wsi (List.mem_of_getElem? (i := 712) (by decide +kernel)) (by decide +kernel)
theorem wd_713 : Cond.static yX5_levelOf ∈ am_ws := am_wsi (List.mem_of_getElem? (i := 713) (by decide +kernel)) (by decide +kernel)
theorem wd_714 : Cond.code yX5_levelOf cX5_levelOf 1 (some .int) ∈ am_ws := am_wsi (List.mem_of_getElem? (i := 714) (by decide +kernel)) (by decide +kernel)
theorem dX5_readChain_0 : decode cX5_readChain 0 = .ok (.iload_n 1, 1) := by decide +kernel
theorem dX5_readChain_1 : decode cX5_readChain 1 = .ok (.iconst 5, 1) := by decide +kernel
theorem dX5_readChain_2 : decode cX5_readChain 2 = .ok (.if_icmp .lt 27, 3) := by decide +kernel
theorem dX5_readChain_5 : decode cX5_readChain 5 = .ok (.aload_n 0, 1) := by decide +kernel
theorem dX5_readChain_6 : decode cX5_readChain 6 = .ok (.getfield 28, 3) := by decide +kernel
theorem dX5_readChain_9 : decode cX5_readChain 9 = .ok (.istore_n 3, 1) := by decide +kernel
theorem dX5_readChain_10 : decode cX5_readChain 10 = .ok (.aload_n 0, 1) := by decide +kernel
theorem dX5_readChain_11 : decode cX5_readChain 11 = .ok (.invokevirtual 63, 3) := by decide +kernel
theorem dX5_readChain_14 : decode cX5_readChain 14 = .ok (.istore 4, 2) := by decide +kernel
theorem dX5_readChain_16 : decode cX5_readChain 16 = .ok (.aload_n 0, 1) := by decide +kernel
theorem dX5_readChain_17 : decode cX5_readChain 17 = .ok (.iload_n 2, 1) := by decide +kernel
theorem dX5_readChain_18 : decode cX5_readChain 18 = .ok (.invokevirtual 66, 3) := by decide +kernel
theorem dX5_readChain_21 : decode cX5_readChain 21 = .ok (.aload_n 0, 1) := by decide +kernel
theorem dX5_readChain_22 : decode cX5_readChain 22 = .ok (.iload_n 3, 1) := by decide +kernel
theorem dX5_readChain_23 : decode cX5_readChain 23 = .ok (.iload 4, 2) := by decide +kernel
theorem dX5_readChain_25 : decode cX5_readChain 25 = .ok (.invokevirtual 69, 3) := by decide +kernel
theorem dX5_readChain_28 : decode cX5_readChain 28 = .ok (.return_, 1) := by decide +kernel
theorem dX5_readChain_29 : decode cX5_readChain 29 = .ok (.aload_n 0, 1) := by decide +kernel
theorem dX5_readChain_30 : decode cX5_readChain 30 = .ok (.iload_n 1, 1) := by decide +kernel
theorem dX5_readChain_31 : decode cX5_readChain 31 = .ok (.iconst 1, 1) := by decide +kernel
theorem dX5_readChain_32 : decode cX5_readChain 32 = .ok (.iadd, 1) := by decide +kernel
theorem dX5_readChain_33 : decode cX5_readChain 33 = .ok (.iload_n 2, 1) := by decide +kernel
theorem dX5_readChain_34 : decode cX5_readChain 34 = .ok (.invokevirtual 54, 3) := by decide +kernel
theorem dX5_readChain_37 : decode cX5_readChain 37 = .ok (.iload_n 1, 1) := by decide +kernel
theorem dX5_readChain_38 : decode cX5_readChain 38 = .ok (.iconst 2, 1) := by decide +kernel
theorem dX5_readChain_39 : decode cX5_readChain 39 = .ok (.if_icmp .ne 7, 3) := by decide +kernel
theorem dX5_readChain_42 : decode cX5_readChain 42 = .ok (.iconst 1, 1) := by decide +kernel
theorem dX5_readChain_43 : decode cX5_readChain 43 = .ok (.goto 5, 3) := by decide +kernel
theorem dX5_readChain_46 : decode cX5_readChain 46 = .ok (.bipush 50, 2) := by decide +kernel
theorem dX5_readChain_48 : decode cX5_readChain 48 = .ok (.istore_n 3, 1) := by decide +kernel
theorem dX5_readChain_49 : decode cX5_readChain 49 = .ok (.iconst 0, 1) := by decide +kernel
theorem dX5_readChain_50 : decode cX5_readChain 50 = .ok (.istore 4, 2) := by decide +kernel
theorem dX5_readChain_52 : decode cX5_readChain 52 = .ok (.iload 4, 2) := by decide +kernel
theorem dX5_readChain_54 : decode cX5_readChain 54 = .ok (.iload_n 3, 1) := by decide +kernel
theorem dX5_readChain_55 : decode cX5_readChain 55 = .ok (.if_icmp .ge 64, 3) := by decide +kernel
theorem dX5_readChain_58 : decode cX5_readChain 58 = .ok (.aload_n 0, 1) := by decide +kernel
theorem dX5_readChain_59 : decode cX5_readChain 59 = .ok (.getfield 18, 3) := by decide +kernel
theorem dX5_readChain_62 : decode cX5_readChain 62 = .ok (.iconst (-1), 1) := by decide +kernel
theorem dX5_readChain_63 : decode cX5_readChain 63 = .ok (.if_icmp .ne 56, 3) := by decide +kernel
theorem dX5_readChain_66 : decode cX5_readChain 66 = .ok (.aload_n 0, 1) := by decide +kernel
theorem dX5_readChain_67 : decode cX5_readChain 67 = .ok (.invokevirtual 38, 3) := by decide +kernel
theorem dX5_readChain_70 : decode cX5_readChain 70 = .ok (.invokestatic 72, 3) := by decide +kernel
theorem dX5_readChain_73 : decode cX5_readChain 73 = .ok (.iload_n 1, 1) := by decide +kernel
theorem dX5_readChain_74 : decode cX5_readChain 74 = .ok (.if_icmp .ne 45, 3) := by decide +kernel
theorem dX5_readChain_77 : decode cX5_readChain 77 = .ok (.aload_n 0, 1) := by decide +kernel
theorem dX5_readChain_78 : decode cX5_readChain 78 = .ok (.getfield 9, 3) := by decide +kernel
theorem dX5_readChain_81 : decode cX5_readChain 81 = .ok (.aload_n 0, 1) := by decide +kernel
theorem dX5_readChain_82 : decode cX5_readChain 82 = .ok (.getfield 28, 3) := by decide +kernel
theorem dX5_readChain_85 : decode cX5_readChain 85 = .ok (.iaload, 1) := by decide +kernel
theorem dX5_readChain_86 : decode cX5_readChain 86 = .ok (.istore 5, 2) := by decide +kernel
theorem dX5_readChain_88 : decode cX5_readChain 88 = .ok (.aload_n 0, 1) := by decide +kernel
theorem dX5_readChain_89 : decode cX5_readChain 89 = .ok (.dup, 1) := by decide +kernel
theorem dX5_readChain_90 : decode cX5_readChain 90 = .ok (.getfield 28, 3) := by decide +kernel
theorem dX5_readChain_93 : decode cX5_readChain 93 = .ok (.iconst 1, 1) := by decide +kernel
theorem dX5_readChain_94 : decode cX5_readChain 94 = .ok (.iadd, 1) := by decide +kernel
theorem dX5_readChain_95 : decode cX5_readChain 95 = .ok (.putfield 28, 3) := by decide +kernel
theorem dX5_readChain_98 : decode cX5_readChain 98 = .ok (.aload_n 0, 1) := by decide +kernel
theorem dX5_readChain_99 : decode cX5_readChain 99 = .ok (.iload_n 1, 1) := by decide +kernel
theorem dX5_readChain_100 : decode cX5_readChain 100 = .ok (.iconst 1, 1) := by decide +kernel
theorem dX5_readChain_101 : decode cX5_readChain 101 = .ok (.iadd, 1) := by decide +kernel
theorem dX5_readChain_102 : decode cX5_readChain 102 = .ok (.iload_n 2, 1) := by decide +kernel
theorem dX5_readChain_103 : decode cX5_readChain 103 = .ok (.invokevirtual 54, 3) := by decide +kernel
theorem dX5_readChain_106 : decode cX5_readChain 106 = .ok (.aload_n 0, 1) := by decide +kernel
theorem dX5_readChain_107 : decode cX5_readChain 107 = .ok (.iload 5, 2) := by decide +kernel
theorem dX5_readChain_109 : decode cX5_readChain 109 = .ok (.ineg, 1) := by decide +kernel
theorem dX5_readChain_110 : decode cX5_readChain 110 = .ok (.invokevirtual 60, 3) := by decide +kernel
theorem dX5_readChain_113 : decode cX5_readChain 113 = .ok (.iinc 4 1, 3) := by decide +kernel
theorem dX5_readChain_116 : decode cX5_readChain 116 = .ok (.goto (-64), 3) := by decide +kernel
theorem dX5_readChain_119 : decode cX5_readChain 119 = .ok (.return_, 1) := by decide +kernel
def kX5_readChain (d n rc lc : Nat) (Tc : am_T) (live : am_E) (Ret : am_R) : am_code := [(0, am_iload 1 1), (1, am_const (.int 5) 2), (2, am_if2 (fun x y => x < y) 29 5), (5, am_aload 0 6), (6, am_getI live 5 3 9), (9, am_istore 3 6 10), (10, am_aload 0 11), (11, am_callV live 5 0 TX5_passSigns 14), (14, am_istore 4 6 16), (16, am_aload 0 17), (17, am_iload 2 18), (18, am_callV live 5 1 (TX5_readPlain d) 21), (21, am_aload 0 22), (22, am_iload 3 23), (23, am_iload 4 25), (25, am_callV live 5 2 TX5_emitSigns 28), (28, am_retV Ret), (29, am_aload 0 30), (30, am_iload 1 31), (31, am_const (.int 1) 32), (32, am_i2 (fun x y => x + y) 33), (33, am_iload 2 34), (34, am_callV live 5 2 Tc 37), (37, am_iload 1 38), (38, am_const (.int 2) 39), (39, am_if2 (fun x y => x = y) 42 46), (42, am_const (.int 1) 43), (43, am_goto 48), (46, am_const (.int 50) 48), (48, am_istore 3 6 49), (49, am_const (.int 0) 50), (50, am_istore 4 6 52), (52, am_iload 4 54), (54, am_iload 3 55), (55, am_if2 (fun x y => y ≤ x) 119 58), (58, am_aload 0 59), (59, am_getI live 5 6 62), (62, am_const (.int (-1)) 63), (63, am_if2 (fun x y => x = y) 66 119), (66, am_aload 0 67), (67, am_callV live 5 0 TX5_next 70), (70, am_callS live 1 TX5_levelOf 73), (73, am_iload 1 74), (74, am_if2 (fun x y => x = y) 77 119), (77, am_aload 0 78), (78, am_getR live 5 0 81), (81, am_aload 0 82), (82, am_getI live 5 3 85), (85, am_ald live 0 86), (86, am_istore 5 6 88), (88, am_aload 0 89), (89, am_dup 90), (90, am_getI live 5 3 93), (93, am_const (.int 1) 94), (94, am_i2 (fun x y => x + y) 95), (95, am_putI live 5 3 98), (98, am_aload 0 99), (99, am_iload 1 100), (100, am_const (.int 1) 101), (101, am_i2 (fun x y => x + y) 102), (102, am_iload 2 103), (103, am_callV live 5 2 Tc 106), (106, am_aload 0 107), (107, am_iload 5 109), (109, am_i1 (fun x => -x) 110), (110, am_callV live 5 1 TX5_emit 113), (113, am_iinc 4 6 1 116), (116, am_goto 52), (119, am_retV Ret)]
theorem koX5_readChain (d n rc lc : Nat) (Tc : am_T) (hP : am_Met yX5_readPlain cX5_readPlain 3 none (4 + 8 * d + 1) (200 + 200 * d + 25) (TX5_readPlain d)) (hC : am_Met yX5_readChain cX5_readChain 6 none rc lc Tc) (hrc : rc + 1 ≤ 4 + 8 * d + 2 + n ∧ lc + 25 ≤ 200 + 200 * d + 50 + 25 * n) (live : am_E) (Ret : am_R) : ∀ q ∈ kX5_readChain d n rc lc Tc live Ret, am_ok RX5 cX5_readChain 6 none (4 + 8 * d + 2 + n) (200 + 200 * d + 50 + 25 * n) live Ret q.1 q.2 :=
  am_kc (ak_iload_n dX5_readChain_0 rfl rfl) <|
  am_kc (ak_iconst dX5_readChain_1 (by decide +kernel) rfl) <|
  am_kc (ak_icmp_lt dX5_readChain_2 (by decide +kernel) rfl) <|
  am_kc (ak_aload_n dX5_readChain_5 rfl rfl) <|
  am_kc (ak_getI (C := RX5) (T := TX5) (N := 7) rfl inX5w (by decide) rfl rfl rfl wd_171 dX5_readChain_6 rfl) <|
  am_kc (ak_istore_n dX5_readChain_9 rfl rfl) <|
  am_kc (ak_aload_n dX5_readChain_10 rfl rfl) <|
  am_kc (ak_callV (C := RX5) (F := TX5) (N := 7) metX5_passSigns rfl ⟨rfl, by decide +kernel, by decide +kernel, by decide +kernel⟩ (am_w5 wd_681 wd_683 wd_16 wd_65 wd_684) (by omega) dX5_readChain_11 rfl) <|
  am_kc (ak_istore dX5_readChain_14 rfl) <|
  am_kc (ak_aload_n dX5_readChain_16 rfl rfl) <|
  am_kc (ak_iload_n dX5_readChain_17 rfl rfl) <|
  am_kc (ak_callV (C := RX5) (F := TX5) (N := 7) hP rfl ⟨rfl, by decide +kernel, by decide +kernel, by decide +kernel⟩ (am_w5 wd_689 wd_691 wd_18 wd_65 wd_692) (by omega) dX5_readChain_18 rfl) <|
  am_kc (ak_aload_n dX5_readChain_21 rfl rfl) <|
  am_kc (ak_iload_n dX5_readChain_22 rfl rfl) <|
  am_kc (ak_iload dX5_readChain_23 rfl) <|
  am_kc (ak_callV (C := RX5) (F := TX5) (N := 7) metX5_emitSigns rfl ⟨rfl, by decide +kernel, by decide +kernel, by decide +kernel⟩ (am_w5 wd_708 wd_710 wd_22 wd_65 wd_711) (by omega) dX5_readChain_25 rfl) <|
  am_kc (ak_retV dX5_readChain_28) <|
  am_kc (ak_aload_n dX5_readChain_29 rfl rfl) <|
  am_kc (ak_iload_n dX5_readChain_30 rfl rfl) <|
  am_kc (ak_iconst dX5_readChain_31 (by decide +kernel) rfl) <|
  am_kc (ak_iadd dX5_readChain_32 rfl) <|
  am_kc (ak_iload_n dX5_readChain_33 rfl rfl) <|
  am_kc (ak_callV (C := RX5) (F := TX5) (N := 7) hC rfl ⟨rfl, by decide +kernel, by decide +kernel, by decide +kernel⟩ (am_w5 wd_677 wd_679 wd_15 wd_65 wd_680) (by omega) dX5_readChain_34 rfl) <|
  am_kc (ak_iload_n dX5_readChain_37 rfl rfl) <|
  am_kc (ak_iconst dX5_readChain_38 (by decide +kernel) rfl) <|
  am_kc (ak_icmp_ne dX5_readChain_39 (by decide +kernel) rfl) <|
  am_kc (ak_iconst dX5_readChain_42 (by decide +kernel) rfl) <|
  am_kc (ak_goto dX5_readChain_43 (by decide +kernel)) <|
  am_kc (ak_bipush dX5_readChain_46 (by decide +kernel) rfl) <|
  am_kc (ak_istore_n dX5_readChain_48 rfl rfl) <|
  am_kc (ak_iconst dX5_readChain_49 (by decide +kernel) rfl) <|
  am_kc (ak_istore dX5_readChain_50 rfl) <|
  am_kc (ak_iload dX5_readChain_52 rfl) <|
  am_kc (ak_iload_n dX5_readChain_54 rfl rfl) <|
  am_kc (ak_icmp_ge dX5_readChain_55 (by decide +kernel) rfl) <|
  am_kc (ak_aload_n dX5_readChain_58 rfl rfl) <|
  am_kc (ak_getI (C := RX5) (T := TX5) (N := 7) rfl inX5w (by decide) rfl rfl rfl wd_175 dX5_readChain_59 rfl) <|
  am_kc (ak_iconst dX5_readChain_62 (by decide +kernel) rfl) <|
  am_kc (ak_icmp_ne dX5_readChain_63 (by decide +kernel) rfl) <|
  am_kc (ak_aload_n dX5_readChain_66 rfl rfl) <|
  am_kc (ak_callV (C := RX5) (F := TX5) (N := 7) metX5_next rfl ⟨rfl, by decide +kernel, by decide +kernel, by decide +kernel⟩ (am_w5 wd_685 wd_687 wd_17 wd_65 wd_688) (by omega) dX5_readChain_67 rfl) <|
  am_kc (ak_callS metX5_levelOf ⟨rfl, by decide +kernel, by decide +kernel, by decide +kernel⟩ (am_w4 wd_712 wd_713 wd_65 wd_714) (by omega) dX5_readChain_70 rfl) <|
  am_kc (ak_iload_n dX5_readChain_73 rfl rfl) <|
  am_kc (ak_icmp_ne dX5_readChain_74 (by decide +kernel) rfl) <|
  am_kc (ak_aload_n dX5_readChain_77 rfl rfl) <|
  am_kc (ak_getR (C := RX5) (T := TX5) (N := 7) rfl inX5w (by decide) rfl rfl rfl wd_168 dX5_readChain_78 rfl) <|
  am_kc (ak_aload_n dX5_readChain_81 rfl rfl) <|
  am_kc (ak_getI (C := RX5) (T := TX5) (N := 7) rfl inX5w (by decide) rfl rfl rfl wd_171 dX5_readChain_82 rfl) <|
  am_kc (ak_iald (t := 0) (fun _ => rfl) rfl dX5_readChain_85 rfl) <|
  am_kc (ak_istore dX5_readChain_86 rfl) <|
  am_kc (ak_aload_n dX5_readChain_88 rfl rfl) <|
  am_kc (ak_dup dX5_readChain_89 rfl) <|
  am_kc (ak_getI (C := RX5) (T := TX5) (N := 7) rfl inX5w (by decide) rfl rfl rfl wd_171 dX5_readChain_90 rfl) <|
  am_kc (ak_iconst dX5_readChain_93 (by decide +kernel) rfl) <|
  am_kc (ak_iadd dX5_readChain_94 rfl) <|
  am_kc (ak_putI (C := RX5) (T := TX5) (N := 7) rfl inX5w tyX5_ok nmX5 (by decide) rfl rfl rfl rfl (by decide +kernel) wd_171 dX5_readChain_95 rfl) <|
  am_kc (ak_aload_n dX5_readChain_98 rfl rfl) <|
  am_kc (ak_iload_n dX5_readChain_99 rfl rfl) <|
  am_kc (ak_iconst dX5_readChain_100 (by decide +kernel) rfl) <|
  am_kc (ak_iadd dX5_readChain_101 rfl) <|
  am_kc (ak_iload_n dX5_readChain_102 rfl rfl) <|
  am_kc (ak_callV (C := RX5) (F := TX5) (N := 7) hC rfl ⟨rfl, by decide +kernel, by decide +kernel, by decide +kernel⟩ (am_w5 wd_677 wd_679 wd_15 wd_65 wd_680) (by omega) dX5_readChain_103 rfl) <|
  am_kc (ak_aload_n dX5_readChain_106 rfl rfl) <|
  am_kc (ak_iload dX5_readChain_107 rfl) <|
  am_kc (ak_ineg dX5_readChain_109 rfl) <|
  am_kc (ak_callV (C := RX5) (F := TX5) (N := 7) metX5_emit rfl ⟨rfl, by decide +kernel, by decide +kernel, by decide +kernel⟩ (am_w5 wd_700 wd_702 wd_20 wd_65 wd_703) (by omega) dX5_readChain_110 rfl) <|
  am_kc (ak_iinc dX5_readChain_113 (by decide +kernel) rfl) <|
  am_kc (ak_goto dX5_readChain_116 (by decide +kernel)) <|
  am_kc (ak_retV dX5_readChain_119) <| am_kn
def JX5_readChain : am_E → List Value → am_M → am_R → am_inv := fun live as M0 _ pc => match as with
  | [.ref t, .int l, .int e] => (match pc with
    | 52 => some ([0, 1, 2, 3, 4], fun k L st M => ∃ x i : Int32, L = [(0, .ref t), (1, .int l), (2, .int e), (3, .int x), (4, .int i)] ∧ st = [] ∧ k = ((51 - i.toInt).toNat, 0) ∧ x.toInt ≤ 50 ∧ 0 ≤ i.toInt ∧ l.toInt < 5 ∧ am_ch (am_tS t ((live.2 t 1).getD 0)) M0 M ∧ am_tI M t)
    | _ => none)
  | _ => none
theorem am_level_lt {x l : Int32} (h : am_level x = l) (hl : l.toInt < 5) : ¬ x = -1 := fun e => by
  rw [e] at h
  rw [← h] at hl
  exact absurd hl (by decide)
set_option maxRecDepth 100000 in
set_option maxHeartbeats 4000000 in
theorem metX5_readChainG (d n rc lc : Nat) (Tc : am_T) (hP : am_Met yX5_readPlain cX5_readPlain 3 none (4 + 8 * d + 1) (200 + 200 * d + 25) (TX5_readPlain d)) (hC : am_Met yX5_readChain cX5_readChain 6 none rc lc Tc) (hrc : rc + 1 ≤ 4 + 8 * d + 2 + n ∧ lc + 25 ≤ 200 + 200 * d + 50 + 25 * n)
    (hT0 : ∀ (live : am_E) (t s c : Nat) (l e : Int32) (M : am_M) (R : am_R), live.2 t 0 = some s → live.2 t 1 = some c → am_tc live t s c = true → am_tI M t → 0 ≤ l.toInt → l.toInt < 5 → 5 ≤ l.toInt + (n : Int) → 0 ≤ e.toInt → e.toInt ≤ 40 → 40 ≤ e.toInt + (d : Int) → (∀ M', am_ch (am_tS t c) M M' → am_tI M' t → R none M') → Tc live [.ref t, .int (l + 1), .int e] M R) :
    am_Met yX5_readChain cX5_readChain 6 none (4 + 8 * d + 2 + n) (200 + 200 * d + 50 + 25 * n) (TX5_readChain d n) := by
  refine am_met (own := RX5) (by decide +kernel) rfl (kX5_readChain d n rc lc Tc) (koX5_readChain d n rc lc Tc hP hC hrc) 120 JX5_readChain ?_ ?_
  · intro live as M Ret h
    unfold TX5_readChain at h
    split at h
    · next t l e =>
      refine ⟨Nat.le_of_ble_eq_true rfl, ?_⟩
      change am_wp _ _ _ _ [(0, Value.ref t), (1, Value.int l), (2, Value.int e)] _ _
      have hh := am_tP_mp h
      clear h
      obtain ⟨s, c, h2, h6, hb, h1, h3, h7, h4, h8, h9, h5, h10, hT, hl, he1, he2, he3, h⟩ := hh
      repeat' (first | exact rfl | (with_reducible exact hT) | (with_reducible exact h1) | (with_reducible exact h2) | (with_reducible exact h3) | (with_reducible exact hb) | (with_reducible exact h6) | (with_reducible exact h7) | (refine Exists.intro _ (Exists.intro _ (And.intro h2 (And.intro h6 ?_)))) | (refine Exists.intro _ (And.intro h2 ?_)) | (refine Exists.intro _ (And.intro h6 ?_)) | apply And.intro | intro hx | (refine Exists.intro _ (And.intro rfl ?_)) | (refine hT0 _ _ s c _ _ _ _ h2 h6 hb ?_ ?_ ?_ ?_ ?_ ?_ ?_ (fun M' c' i' => ?_)) | ((with_reducible change _ = true); simp only [h1, h2, h3, hb, h6, h7, Bool.true_and]; rfl))
      all_goals try first | (with_reducible change am_tI _ _) | (change Ret _ _) | (change Ret _ _ _) | (change Exists _)
      all_goals try dsimp only at *
      all_goals try exact absurd ‹(1000 : Int64) = 0› (by decide)
      all_goals obtain ⟨hl1, hl2, hl3⟩ := hl
      all_goals first
        | (simp only [i_le, i_lt, Int32.reduceToInt] at *; omega)
        | assumption
        | exact (am_tI_pl (by assumption)).1
        | skip
      · rename_i hq
        rw [h6]
        exact ⟨_, _, _, rfl, rfl, rfl, by decide, by decide, by simp only [i_le, i_lt, Int32.reduceToInt] at *; omega, c', i'⟩
      · rename_i hq
        rw [h6]
        exact ⟨_, _, _, rfl, rfl, rfl, by decide, by decide, by simp only [i_le, i_lt, Int32.reduceToInt] at *; omega, c', i'⟩
      · rename_i M1 c1 i1 M2 c2 i2 M3 c3 i3
        exact h _ ((c1.tr c2).tr c3) i3
    · exact h.elim
  · intro live as M0 Ret h k pc I hI L st M hi
    unfold TX5_readChain at h
    split at h
    · next t l e =>
      have hh := am_tP_mp h
      clear h
      obtain ⟨s, c, h2, h6, hb, h1, h3, h7, h4, h8, h9, h5, h10, hT, hl, he1, he2, he3, h⟩ := hh
      obtain ⟨hl1, hl2, hl3⟩ := hl
      change (match pc with | 52 => _ | _ => none) = _ at hI
      split at hI
      · cases hI
        obtain ⟨x, i, rfl, rfl, rfl, e0, e3, e4, e1, e2⟩ := hi
        have f1 := e1
        rw [h6] at f1
        repeat' (first | exact rfl | (with_reducible exact e2) | (with_reducible exact h1) | (with_reducible exact h2) | (with_reducible exact h3) | (with_reducible exact hb) | (with_reducible exact h6) | (with_reducible exact h7) | (refine Exists.intro _ (Exists.intro _ (And.intro h2 (And.intro h6 ?_)))) | (refine Exists.intro _ (And.intro h2 ?_)) | (refine Exists.intro _ (And.intro h6 ?_)) | apply And.intro | intro hx | (refine Exists.intro _ (And.intro rfl ?_)) | (refine hT0 _ _ s c _ _ _ _ h2 h6 hb ?_ ?_ ?_ ?_ ?_ ?_ ?_ (fun M' c' i' => ?_)) | ((with_reducible change _ = true); simp only [h1, h2, h3, hb, h6, h7, Bool.true_and]; rfl))
        all_goals try first | (with_reducible change am_tI _ _) | (change Ret _ _) | (change Ret _ _ _) | (change Exists _)
        all_goals try dsimp only at *
        all_goals try exact absurd ‹(1000 : Int64) = 0› (by decide)
        all_goals try simp only [am_wI_self]
        · exact h _ f1 e2
        · have q1 := (am_tI_pl e2).1
          have q2 := (‹am_skip M t s _›).1
          omega
        · have q1 := am_sign_lt (am_level_lt ‹am_level (am_sign M t s _) = l› e4)
          have q2 := (am_tI_pl e2).2.2
          rw [h4]
          omega
        · exact am_tI_3p e2 ‹am_skip M t s _› (am_sign_lt (am_level_lt ‹am_level (am_sign M t s _) = l› e4))
        · omega
        · omega
        · omega
        · omega
        · omega
        · omega
        · exact am_tI_cd i'
        · rw [h6]
          refine ⟨_, Or.inl ?_, x, i + 1, rfl, rfl, rfl, e0, ?_, e4, am_ch_emit (((f1.wI am_tS_3).wI am_tS_3).tr c'), am_tI_emit i' h10⟩
          all_goals simp only [i_le, i_lt] at *
          all_goals
            have hi := i_add (x := i) (y := 1) (by simp only [Int32.reduceToInt]; omega) (by simp only [Int32.reduceToInt]; omega)
            simp only [Int32.reduceToInt] at hi
            omega
        · exact h _ (f1.wI am_tS_3) (am_tI_w3 e2 ‹am_skip M t s _›)
        · exact h _ f1 e2
      · cases hI
    · exact h.elim
theorem am_tP_in {live : am_E} {t s c : Nat} {P : Nat → Nat → Prop} (h1 : live.2 t 0 = some s) (h2 : live.2 t 1 = some c) (h3 : am_tc live t s c = true) (h : P s c) : am_tP live t P := by
  exact ⟨s, c, h1, h2, h3, h⟩
theorem am_MetF (y : MethodName) (cc : ByteArray) (nL : Nat) (rt : Option FieldType) (rf rl : Nat) : am_Met y cc nL rt rf rl (fun _ _ _ _ => False) := fun _ _ _ _ _ _ _ _ _ h => h.elim
theorem metX5_readChain (d : Nat) (hP : am_Met yX5_readPlain cX5_readPlain 3 none (4 + 8 * d + 1) (200 + 200 * d + 25) (TX5_readPlain d)) : ∀ n : Nat, am_Met yX5_readChain cX5_readChain 6 none (4 + 8 * d + 2 + n) (200 + 200 * d + 50 + 25 * n) (TX5_readChain d n)
  | 0 => metX5_readChainG d 0 0 0 _ hP (am_MetF _ _ _ _ _ _) (by omega) (fun live t s c l e M R _ _ _ _ _ h1 h2 _ _ _ _ => by exfalso; omega)
  | n + 1 => metX5_readChainG d (n + 1) (4 + 8 * d + 2 + n) (200 + 200 * d + 50 + 25 * n) _ hP (metX5_readChain d hP n) (by omega) (fun live t s c l e M R a1 a2 a3 a4 a5 a6 a7 a8 a9 a10 hh => by
      have hi := i_add (x := l) (y := 1) (by simp only [Int32.reduceToInt]; omega) (by simp only [Int32.reduceToInt]; omega)
      simp only [Int32.reduceToInt] at hi
      exact am_tP_in a1 a2 a3 ⟨a4, ⟨by omega, by omega, by omega⟩, a8, a9, a10, hh⟩)
end
section
/-! Text: the recursion closed -/
theorem dX5_readValue_0 : decode cX5_readValue 0 = .ok (.iload_n 1, 1) := by decide +kernel
theorem dX5_readValue_1 : decode cX5_readValue 1 = .ok (.bipush 40, 2) := by decide +kernel
theorem dX5_readValue_3 : decode cX5_readValue 3 = .ok (.if_icmp .le 13, 3) := by decide +kernel
theorem dX5_readValue_6 : decode cX5_readValue 6 = .ok (.aload_n 0, 1) := by decide +kernel
theorem dX5_readValue_7 : decode cX5_readValue 7 = .ok (.aload_n 0, 1) := by decide +kernel
theorem dX5_readValue_8 : decode cX5_readValue 8 = .ok (.getfield 28, 3) := by decide +kernel
theorem dX5_readValue_11 : decode cX5_readValue 11 = .ok (.iconst 1, 1) := by decide +kernel
theorem dX5_readValue_12 : decode cX5_readValue 12 = .ok (.invokevirtual 42, 3) := by decide +kernel
theorem dX5_readValue_15 : decode cX5_readValue 15 = .ok (.return_, 1) := by decide +kernel
theorem dX5_readValue_16 : decode cX5_readValue 16 = .ok (.aload_n 0, 1) := by decide +kernel
theorem dX5_readValue_17 : decode cX5_readValue 17 = .ok (.iconst 0, 1) := by decide +kernel
theorem dX5_readValue_18 : decode cX5_readValue 18 = .ok (.iload_n 1, 1) := by decide +kernel
theorem dX5_readValue_19 : decode cX5_readValue 19 = .ok (.invokevirtual 54, 3) := by decide +kernel
theorem dX5_readValue_22 : decode cX5_readValue 22 = .ok (.aload_n 0, 1) := by decide +kernel
theorem dX5_readValue_23 : decode cX5_readValue 23 = .ok (.getfield 18, 3) := by decide +kernel
theorem dX5_readValue_26 : decode cX5_readValue 26 = .ok (.iconst (-1), 1) := by decide +kernel
theorem dX5_readValue_27 : decode cX5_readValue 27 = .ok (.if_icmp .ne 48, 3) := by decide +kernel
theorem dX5_readValue_30 : decode cX5_readValue 30 = .ok (.aload_n 0, 1) := by decide +kernel
theorem dX5_readValue_31 : decode cX5_readValue 31 = .ok (.invokevirtual 38, 3) := by decide +kernel
theorem dX5_readValue_34 : decode cX5_readValue 34 = .ok (.bipush 63, 2) := by decide +kernel
theorem dX5_readValue_36 : decode cX5_readValue 36 = .ok (.if_icmp .ne 39, 3) := by decide +kernel
theorem dX5_readValue_39 : decode cX5_readValue 39 = .ok (.aload_n 0, 1) := by decide +kernel
theorem dX5_readValue_40 : decode cX5_readValue 40 = .ok (.dup, 1) := by decide +kernel
theorem dX5_readValue_41 : decode cX5_readValue 41 = .ok (.getfield 28, 3) := by decide +kernel
theorem dX5_readValue_44 : decode cX5_readValue 44 = .ok (.iconst 1, 1) := by decide +kernel
theorem dX5_readValue_45 : decode cX5_readValue 45 = .ok (.iadd, 1) := by decide +kernel
theorem dX5_readValue_46 : decode cX5_readValue 46 = .ok (.putfield 28, 3) := by decide +kernel
theorem dX5_readValue_49 : decode cX5_readValue 49 = .ok (.aload_n 0, 1) := by decide +kernel
theorem dX5_readValue_50 : decode cX5_readValue 50 = .ok (.iload_n 1, 1) := by decide +kernel
theorem dX5_readValue_51 : decode cX5_readValue 51 = .ok (.iconst 1, 1) := by decide +kernel
theorem dX5_readValue_52 : decode cX5_readValue 52 = .ok (.iadd, 1) := by decide +kernel
theorem dX5_readValue_53 : decode cX5_readValue 53 = .ok (.invokevirtual 34, 3) := by decide +kernel
theorem dX5_readValue_56 : decode cX5_readValue 56 = .ok (.aload_n 0, 1) := by decide +kernel
theorem dX5_readValue_57 : decode cX5_readValue 57 = .ok (.bipush 58, 2) := by decide +kernel
theorem dX5_readValue_59 : decode cX5_readValue 59 = .ok (.invokevirtual 57, 3) := by decide +kernel
theorem dX5_readValue_62 : decode cX5_readValue 62 = .ok (.aload_n 0, 1) := by decide +kernel
theorem dX5_readValue_63 : decode cX5_readValue 63 = .ok (.iload_n 1, 1) := by decide +kernel
theorem dX5_readValue_64 : decode cX5_readValue 64 = .ok (.iconst 1, 1) := by decide +kernel
theorem dX5_readValue_65 : decode cX5_readValue 65 = .ok (.iadd, 1) := by decide +kernel
theorem dX5_readValue_66 : decode cX5_readValue 66 = .ok (.invokevirtual 34, 3) := by decide +kernel
theorem dX5_readValue_69 : decode cX5_readValue 69 = .ok (.aload_n 0, 1) := by decide +kernel
theorem dX5_readValue_70 : decode cX5_readValue 70 = .ok (.bipush (-63), 2) := by decide +kernel
theorem dX5_readValue_72 : decode cX5_readValue 72 = .ok (.invokevirtual 60, 3) := by decide +kernel
theorem dX5_readValue_75 : decode cX5_readValue 75 = .ok (.return_, 1) := by decide +kernel
def kX5_readValue (n rc lc rv lv : Nat) (Tc Tv : am_T) (live : am_E) (Ret : am_R) : am_code := [(0, am_iload 1 1), (1, am_const (.int 40) 3), (3, am_if2 (fun x y => x ≤ y) 16 6), (6, am_aload 0 7), (7, am_aload 0 8), (8, am_getI live 5 3 11), (11, am_const (.int 1) 12), (12, am_callV live 5 2 TX5_blame 15), (15, am_retV Ret), (16, am_aload 0 17), (17, am_const (.int 0) 18), (18, am_iload 1 19), (19, am_callV live 5 2 Tc 22), (22, am_aload 0 23), (23, am_getI live 5 6 26), (26, am_const (.int (-1)) 27), (27, am_if2 (fun x y => x = y) 30 75), (30, am_aload 0 31), (31, am_callV live 5 0 TX5_next 34), (34, am_const (.int 63) 36), (36, am_if2 (fun x y => x = y) 39 75), (39, am_aload 0 40), (40, am_dup 41), (41, am_getI live 5 3 44), (44, am_const (.int 1) 45), (45, am_i2 (fun x y => x + y) 46), (46, am_putI live 5 3 49), (49, am_aload 0 50), (50, am_iload 1 51), (51, am_const (.int 1) 52), (52, am_i2 (fun x y => x + y) 53), (53, am_callV live 5 1 Tv 56), (56, am_aload 0 57), (57, am_const (.int 58) 59), (59, am_callV live 5 1 TX5_pass 62), (62, am_aload 0 63), (63, am_iload 1 64), (64, am_const (.int 1) 65), (65, am_i2 (fun x y => x + y) 66), (66, am_callV live 5 1 Tv 69), (69, am_aload 0 70), (70, am_const (.int (-63)) 72), (72, am_callV live 5 1 TX5_emit 75), (75, am_retV Ret)]
theorem koX5_readValue (n rc lc rv lv : Nat) (Tc Tv : am_T) (hC : am_Met yX5_readChain cX5_readChain 6 none rc lc Tc) (hV : am_Met yX5_readValue cX5_readValue 2 none rv lv Tv) (hrc : rc + 1 ≤ 4 + 8 * n ∧ lc + 25 ≤ 200 + 200 * n ∧ rv + 1 ≤ 4 + 8 * n ∧ lv + 25 ≤ 200 + 200 * n) (live : am_E) (Ret : am_R) : ∀ q ∈ kX5_readValue n rc lc rv lv Tc Tv live Ret, am_ok RX5 cX5_readValue 2 none (4 + 8 * n) (200 + 200 * n) live Ret q.1 q.2 :=
  am_kc (ak_iload_n dX5_readValue_0 rfl rfl) <|
  am_kc (ak_bipush dX5_readValue_1 (by decide +kernel) rfl) <|
  am_kc (ak_icmp_le dX5_readValue_3 (by decide +kernel) rfl) <|
  am_kc (ak_aload_n dX5_readValue_6 rfl rfl) <|
  am_kc (ak_aload_n dX5_readValue_7 rfl rfl) <|
  am_kc (ak_getI (C := RX5) (T := TX5) (N := 7) rfl inX5w (by decide) rfl rfl rfl wd_171 dX5_readValue_8 rfl) <|
  am_kc (ak_iconst dX5_readValue_11 (by decide +kernel) rfl) <|
  am_kc (ak_callV (C := RX5) (F := TX5) (N := 7) metX5_blame rfl ⟨rfl, by decide +kernel, by decide +kernel, by decide +kernel⟩ (am_w5 wd_673 wd_675 wd_14 wd_65 wd_676) (by omega) dX5_readValue_12 rfl) <|
  am_kc (ak_retV dX5_readValue_15) <|
  am_kc (ak_aload_n dX5_readValue_16 rfl rfl) <|
  am_kc (ak_iconst dX5_readValue_17 (by decide +kernel) rfl) <|
  am_kc (ak_iload_n dX5_readValue_18 rfl rfl) <|
  am_kc (ak_callV (C := RX5) (F := TX5) (N := 7) hC rfl ⟨rfl, by decide +kernel, by decide +kernel, by decide +kernel⟩ (am_w5 wd_677 wd_679 wd_15 wd_65 wd_680) (by omega) dX5_readValue_19 rfl) <|
  am_kc (ak_aload_n dX5_readValue_22 rfl rfl) <|
  am_kc (ak_getI (C := RX5) (T := TX5) (N := 7) rfl inX5w (by decide) rfl rfl rfl wd_175 dX5_readValue_23 rfl) <|
  am_kc (ak_iconst dX5_readValue_26 (by decide +kernel) rfl) <|
  am_kc (ak_icmp_ne dX5_readValue_27 (by decide +kernel) rfl) <|
  am_kc (ak_aload_n dX5_readValue_30 rfl rfl) <|
  am_kc (ak_callV (C := RX5) (F := TX5) (N := 7) metX5_next rfl ⟨rfl, by decide +kernel, by decide +kernel, by decide +kernel⟩ (am_w5 wd_685 wd_687 wd_17 wd_65 wd_688) (by omega) dX5_readValue_31 rfl) <|
  am_kc (ak_bipush dX5_readValue_34 (by decide +kernel) rfl) <|
  am_kc (ak_icmp_ne dX5_readValue_36 (by decide +kernel) rfl) <|
  am_kc (ak_aload_n dX5_readValue_39 rfl rfl) <|
  am_kc (ak_dup dX5_readValue_40 rfl) <|
  am_kc (ak_getI (C := RX5) (T := TX5) (N := 7) rfl inX5w (by decide) rfl rfl rfl wd_171 dX5_readValue_41 rfl) <|
  am_kc (ak_iconst dX5_readValue_44 (by decide +kernel) rfl) <|
  am_kc (ak_iadd dX5_readValue_45 rfl) <|
  am_kc (ak_putI (C := RX5) (T := TX5) (N := 7) rfl inX5w tyX5_ok nmX5 (by decide) rfl rfl rfl rfl (by decide +kernel) wd_171 dX5_readValue_46 rfl) <|
  am_kc (ak_aload_n dX5_readValue_49 rfl rfl) <|
  am_kc (ak_iload_n dX5_readValue_50 rfl rfl) <|
  am_kc (ak_iconst dX5_readValue_51 (by decide +kernel) rfl) <|
  am_kc (ak_iadd dX5_readValue_52 rfl) <|
  am_kc (ak_callV (C := RX5) (F := TX5) (N := 7) hV rfl ⟨rfl, by decide +kernel, by decide +kernel, by decide +kernel⟩ (am_w5 wd_669 wd_671 wd_13 wd_65 wd_672) (by omega) dX5_readValue_53 rfl) <|
  am_kc (ak_aload_n dX5_readValue_56 rfl rfl) <|
  am_kc (ak_bipush dX5_readValue_57 (by decide +kernel) rfl) <|
  am_kc (ak_callV (C := RX5) (F := TX5) (N := 7) metX5_pass rfl ⟨rfl, by decide +kernel, by decide +kernel, by decide +kernel⟩ (am_w5 wd_704 wd_706 wd_21 wd_65 wd_707) (by omega) dX5_readValue_59 rfl) <|
  am_kc (ak_aload_n dX5_readValue_62 rfl rfl) <|
  am_kc (ak_iload_n dX5_readValue_63 rfl rfl) <|
  am_kc (ak_iconst dX5_readValue_64 (by decide +kernel) rfl) <|
  am_kc (ak_iadd dX5_readValue_65 rfl) <|
  am_kc (ak_callV (C := RX5) (F := TX5) (N := 7) hV rfl ⟨rfl, by decide +kernel, by decide +kernel, by decide +kernel⟩ (am_w5 wd_669 wd_671 wd_13 wd_65 wd_672) (by omega) dX5_readValue_66 rfl) <|
  am_kc (ak_aload_n dX5_readValue_69 rfl rfl) <|
  am_kc (ak_bipush dX5_readValue_70 (by decide +kernel) rfl) <|
  am_kc (ak_callV (C := RX5) (F := TX5) (N := 7) metX5_emit rfl ⟨rfl, by decide +kernel, by decide +kernel, by decide +kernel⟩ (am_w5 wd_700 wd_702 wd_20 wd_65 wd_703) (by omega) dX5_readValue_72 rfl) <|
  am_kc (ak_retV dX5_readValue_75) <| am_kn
theorem am_ne63 {x : Int32} (h : x = 63) : ¬ x = -1 := fun e => by rw [h] at e; exact absurd e (by decide)
set_option maxRecDepth 100000 in
set_option maxHeartbeats 4000000 in
theorem metX5_readValueG (n rc lc rv lv : Nat) (Tc Tv : am_T) (hC : am_Met yX5_readChain cX5_readChain 6 none rc lc Tc) (hV : am_Met yX5_readValue cX5_readValue 2 none rv lv Tv) (hrc : rc + 1 ≤ 4 + 8 * n ∧ lc + 25 ≤ 200 + 200 * n ∧ rv + 1 ≤ 4 + 8 * n ∧ lv + 25 ≤ 200 + 200 * n)
    (hT1 : ∀ (live : am_E) (t s c : Nat) (e : Int32) (M : am_M) (R : am_R), live.2 t 0 = some s → live.2 t 1 = some c → am_tc live t s c = true → am_tI M t → 0 ≤ e.toInt → e.toInt ≤ 40 → 41 ≤ e.toInt + (n : Int) → (∀ M', am_ch (am_tS t c) M M' → am_tI M' t → R none M') → Tc live [.ref t, .int 0, .int e] M R)
    (hT2 : ∀ (live : am_E) (t s c : Nat) (e : Int32) (M : am_M) (R : am_R), live.2 t 0 = some s → live.2 t 1 = some c → am_tc live t s c = true → am_tI M t → 0 ≤ e.toInt → e.toInt ≤ 40 → 41 ≤ e.toInt + (n : Int) → (∀ M', am_ch (am_tS t c) M M' → am_tI M' t → R none M') → Tv live [.ref t, .int (e + 1)] M R) :
    am_Met yX5_readValue cX5_readValue 2 none (4 + 8 * n) (200 + 200 * n) (TX5_readValue n) := by
  refine am_met (own := RX5) (by decide +kernel) rfl (kX5_readValue n rc lc rv lv Tc Tv) (koX5_readValue n rc lc rv lv Tc Tv hC hV hrc) 120 (fun _ _ _ _ _ => none) ?_ (fun _ _ _ _ _ _ _ _ hI => by cases hI)
  intro live as M Ret h
  unfold TX5_readValue at h
  split at h
  · next t e =>
    refine ⟨Nat.le_of_ble_eq_true rfl, ?_⟩
    change am_wp _ _ _ _ [(0, Value.ref t), (1, Value.int e)] _ _
    have hh := am_tP_mp h
    clear h
    obtain ⟨s, c, h2, h6, hb, h1, h3, h7, h4, h8, h9, h5, h10, hT, he1, he2, he3, h⟩ := hh
    repeat' (first | exact rfl | (with_reducible exact hT) | (with_reducible exact h1) | (with_reducible exact h2) | (with_reducible exact h3) | (with_reducible exact hb) | (with_reducible exact h6) | (with_reducible exact h7) | (refine Exists.intro _ (Exists.intro _ (And.intro h2 (And.intro h6 ?_)))) | (refine Exists.intro _ (And.intro h2 ?_)) | (refine Exists.intro _ (And.intro h6 ?_)) | apply And.intro | intro hx | (refine Exists.intro _ (And.intro rfl ?_)) | (refine hT1 _ _ s c _ _ _ h2 h6 hb ?_ ?_ ?_ ?_ (fun M1 c1 i1 => ?_)) | (refine hT2 _ _ s c _ _ _ h2 h6 hb ?_ ?_ ?_ ?_ (fun M2 c2 i2 => ?_)) | ((with_reducible change _ = true); simp only [h1, h2, h3, hb, h6, h7, Bool.true_and]; rfl))
    all_goals try first | (with_reducible change am_tI _ _) | (change Ret _ _) | (change Ret _ _ _) | (change Exists _)
    all_goals try dsimp only at *
    all_goals try exact absurd ‹(1000 : Int64) = 0› (by decide)
    all_goals try simp only [am_wI_self]
    all_goals first
      | (with_reducible assumption)
      | omega
      | (have q := hx; simp only [i_le, Int32.reduceToInt] at q; omega)
      | (have q : e ≤ 40 := (by with_reducible assumption); simp only [i_le, Int32.reduceToInt] at q; omega)
      | (with_reducible exact am_tI_cd (by with_reducible assumption))
      | (with_reducible exact am_tI_3p i1 (by with_reducible assumption) (am_sign_lt (am_ne63 (by with_reducible assumption))))
      | exact absurd (show (58 : Int32) = -1 by with_reducible assumption) (by decide)
      | skip
    · rename_i w p hp sg M2a c2a i2a M3 c3
      exact h _ (am_ch_emit (((((c1.wI am_tS_3).wI am_tS_3).tr c2a).tr c3).tr c2)) (am_tI_emit i2 h10)
    · exact h _ (c1.wI am_tS_3) (am_tI_w3 i1 ‹am_skip M1 t s _›)
    · exact h _ c1 i1
    · exact h _ (am_ch_blame am_ch.rf) (am_tI_blame hT)
  · exact h.elim
theorem metX5_readValue (n : Nat) : am_Met yX5_readValue cX5_readValue 2 none (4 + 8 * n) (200 + 200 * n) (TX5_readValue n) := by
  induction n with
  | zero =>
    refine metX5_readValueG 0 0 0 0 0 (fun _ _ _ _ => False) (fun _ _ _ _ => False) (am_MetF _ _ _ _ _ _) (am_MetF _ _ _ _ _ _) (by omega) ?_ ?_
    · intro live t s c e M R a1 a2 a3 a4 a5 a6 a7 hh
      omega
    · intro live t s c e M R a1 a2 a3 a4 a5 a6 a7 hh
      omega
  | succ n ih =>
    have hP := metX5_readPlain n ih
    have hC := metX5_readChain n hP 5
    refine metX5_readValueG (n + 1) (4 + 8 * n + 2 + 5) (200 + 200 * n + 50 + 25 * 5) (4 + 8 * n) (200 + 200 * n) (TX5_readChain n 5) (TX5_readValue n) hC ih (by omega) ?_ ?_
    · intro live t s c e M R a1 a2 a3 a4 a5 a6 a7 hh
      exact am_tP_in a1 a2 a3 ⟨a4, ⟨by decide, by decide, by decide⟩, a5, a6, by omega, hh⟩
    · intro live t s c e M R a1 a2 a3 a4 a5 a6 a7 hh
      have hi := i_add (x := e) (y := 1) (by simp only [Int32.reduceToInt]; omega) (by simp only [Int32.reduceToInt]; omega)
      simp only [Int32.reduceToInt] at hi
      exact am_tP_in a1 a2 a3 ⟨a4, by omega, by omega, by omega, hh⟩
end
section
/-! Text: a character behind, all gone, what it tells -/
/-- a text's lasting numbers -/
def am_t0 (M : am_M) (t : Nat) : Prop := ∃ _ : Unit, (0 ≤ (M.1 t 2).toInt ∧ (M.1 t 2).toInt ≤ 50) ∧ (0 ≤ (M.1 t 5).toInt ∧ (M.1 t 5).toInt ≤ 50)
theorem am_t0_I {M : am_M} {t : Nat} (h : am_tI M t) : am_t0 M t := by
  obtain ⟨-, q1, q2, q3⟩ := h
  exact ⟨(), q1, by omega, q3⟩
theorem dX5_add_0 : decode cX5_add 0 = .ok (.aload_n 0, 1) := by decide +kernel
theorem dX5_add_1 : decode cX5_add 1 = .ok (.getfield 22, 3) := by decide +kernel
theorem dX5_add_4 : decode cX5_add 4 = .ok (.bipush 50, 2) := by decide +kernel
theorem dX5_add_6 : decode cX5_add 6 = .ok (.if_icmp .lt 4, 3) := by decide +kernel
theorem dX5_add_9 : decode cX5_add 9 = .ok (.return_, 1) := by decide +kernel
theorem dX5_add_10 : decode cX5_add 10 = .ok (.aload_n 0, 1) := by decide +kernel
theorem dX5_add_11 : decode cX5_add 11 = .ok (.getfield 9, 3) := by decide +kernel
theorem dX5_add_14 : decode cX5_add 14 = .ok (.aload_n 0, 1) := by decide +kernel
theorem dX5_add_15 : decode cX5_add 15 = .ok (.getfield 22, 3) := by decide +kernel
theorem dX5_add_18 : decode cX5_add 18 = .ok (.iload_n 1, 1) := by decide +kernel
theorem dX5_add_19 : decode cX5_add 19 = .ok (.iastore, 1) := by decide +kernel
theorem dX5_add_20 : decode cX5_add 20 = .ok (.aload_n 0, 1) := by decide +kernel
theorem dX5_add_21 : decode cX5_add 21 = .ok (.dup, 1) := by decide +kernel
theorem dX5_add_22 : decode cX5_add 22 = .ok (.getfield 22, 3) := by decide +kernel
theorem dX5_add_25 : decode cX5_add 25 = .ok (.iconst 1, 1) := by decide +kernel
theorem dX5_add_26 : decode cX5_add 26 = .ok (.iadd, 1) := by decide +kernel
theorem dX5_add_27 : decode cX5_add 27 = .ok (.putfield 22, 3) := by decide +kernel
theorem dX5_add_30 : decode cX5_add 30 = .ok (.aload_n 0, 1) := by decide +kernel
theorem dX5_add_31 : decode cX5_add 31 = .ok (.iconst 0, 1) := by decide +kernel
theorem dX5_add_32 : decode cX5_add 32 = .ok (.putfield 25, 3) := by decide +kernel
theorem dX5_add_35 : decode cX5_add 35 = .ok (.aload_n 0, 1) := by decide +kernel
theorem dX5_add_36 : decode cX5_add 36 = .ok (.iconst 0, 1) := by decide +kernel
theorem dX5_add_37 : decode cX5_add 37 = .ok (.putfield 28, 3) := by decide +kernel
theorem dX5_add_40 : decode cX5_add 40 = .ok (.aload_n 0, 1) := by decide +kernel
theorem dX5_add_41 : decode cX5_add 41 = .ok (.iconst 0, 1) := by decide +kernel
theorem dX5_add_42 : decode cX5_add 42 = .ok (.putfield 31, 3) := by decide +kernel
theorem dX5_add_45 : decode cX5_add 45 = .ok (.aload_n 0, 1) := by decide +kernel
theorem dX5_add_46 : decode cX5_add 46 = .ok (.iconst (-1), 1) := by decide +kernel
theorem dX5_add_47 : decode cX5_add 47 = .ok (.putfield 18, 3) := by decide +kernel
theorem dX5_add_50 : decode cX5_add 50 = .ok (.aload_n 0, 1) := by decide +kernel
theorem dX5_add_51 : decode cX5_add 51 = .ok (.iconst 0, 1) := by decide +kernel
theorem dX5_add_52 : decode cX5_add 52 = .ok (.invokevirtual 34, 3) := by decide +kernel
theorem dX5_add_55 : decode cX5_add 55 = .ok (.aload_n 0, 1) := by decide +kernel
theorem dX5_add_56 : decode cX5_add 56 = .ok (.invokevirtual 38, 3) := by decide +kernel
theorem dX5_add_59 : decode cX5_add 59 = .ok (.iconst (-1), 1) := by decide +kernel
theorem dX5_add_60 : decode cX5_add 60 = .ok (.if_icmp .eq 12, 3) := by decide +kernel
theorem dX5_add_63 : decode cX5_add 63 = .ok (.aload_n 0, 1) := by decide +kernel
theorem dX5_add_64 : decode cX5_add 64 = .ok (.aload_n 0, 1) := by decide +kernel
theorem dX5_add_65 : decode cX5_add 65 = .ok (.getfield 28, 3) := by decide +kernel
theorem dX5_add_68 : decode cX5_add 68 = .ok (.iconst 1, 1) := by decide +kernel
theorem dX5_add_69 : decode cX5_add 69 = .ok (.invokevirtual 42, 3) := by decide +kernel
theorem dX5_add_72 : decode cX5_add 72 = .ok (.return_, 1) := by decide +kernel
def kX5_add (live : am_E) (Ret : am_R) : am_code := [(0, am_aload 0 1), (1, am_getI live 5 5 4), (4, am_const (.int 50) 6), (6, am_if2 (fun x y => x < y) 10 9), (9, am_retV Ret), (10, am_aload 0 11), (11, am_getR live 5 0 14), (14, am_aload 0 15), (15, am_getI live 5 5 18), (18, am_iload 1 19), (19, am_ast live 0 20), (20, am_aload 0 21), (21, am_dup 22), (22, am_getI live 5 5 25), (25, am_const (.int 1) 26), (26, am_i2 (fun x y => x + y) 27), (27, am_putI live 5 5 30), (30, am_aload 0 31), (31, am_const (.int 0) 32), (32, am_putI live 5 2 35), (35, am_aload 0 36), (36, am_const (.int 0) 37), (37, am_putI live 5 3 40), (40, am_aload 0 41), (41, am_const (.int 0) 42), (42, am_putI live 5 4 45), (45, am_aload 0 46), (46, am_const (.int (-1)) 47), (47, am_putI live 5 6 50), (50, am_aload 0 51), (51, am_const (.int 0) 52), (52, am_callV live 5 1 (TX5_readValue 41) 55), (55, am_aload 0 56), (56, am_callV live 5 0 TX5_next 59), (59, am_const (.int (-1)) 60), (60, am_if2 (fun x y => x = y) 72 63), (63, am_aload 0 64), (64, am_aload 0 65), (65, am_getI live 5 3 68), (68, am_const (.int 1) 69), (69, am_callV live 5 2 TX5_blame 72), (72, am_retV Ret)]
theorem koX5_add (live : am_E) (Ret : am_R) : ∀ q ∈ kX5_add live Ret, am_ok RX5 cX5_add 2 none 333 8421 live Ret q.1 q.2 :=
  am_kc (ak_aload_n dX5_add_0 rfl rfl) <|
  am_kc (ak_getI (C := RX5) (T := TX5) (N := 7) rfl inX5w (by decide) rfl rfl rfl wd_173 dX5_add_1 rfl) <|
  am_kc (ak_bipush dX5_add_4 (by decide +kernel) rfl) <|
  am_kc (ak_icmp_lt dX5_add_6 (by decide +kernel) rfl) <|
  am_kc (ak_retV dX5_add_9) <|
  am_kc (ak_aload_n dX5_add_10 rfl rfl) <|
  am_kc (ak_getR (C := RX5) (T := TX5) (N := 7) rfl inX5w (by decide) rfl rfl rfl wd_168 dX5_add_11 rfl) <|
  am_kc (ak_aload_n dX5_add_14 rfl rfl) <|
  am_kc (ak_getI (C := RX5) (T := TX5) (N := 7) rfl inX5w (by decide) rfl rfl rfl wd_173 dX5_add_15 rfl) <|
  am_kc (ak_iload_n dX5_add_18 rfl rfl) <|
  am_kc (ak_iast (t := 0) (fun _ => rfl) rfl dX5_add_19 rfl) <|
  am_kc (ak_aload_n dX5_add_20 rfl rfl) <|
  am_kc (ak_dup dX5_add_21 rfl) <|
  am_kc (ak_getI (C := RX5) (T := TX5) (N := 7) rfl inX5w (by decide) rfl rfl rfl wd_173 dX5_add_22 rfl) <|
  am_kc (ak_iconst dX5_add_25 (by decide +kernel) rfl) <|
  am_kc (ak_iadd dX5_add_26 rfl) <|
  am_kc (ak_putI (C := RX5) (T := TX5) (N := 7) rfl inX5w tyX5_ok nmX5 (by decide) rfl rfl rfl rfl (by decide +kernel) wd_173 dX5_add_27 rfl) <|
  am_kc (ak_aload_n dX5_add_30 rfl rfl) <|
  am_kc (ak_iconst dX5_add_31 (by decide +kernel) rfl) <|
  am_kc (ak_putI (C := RX5) (T := TX5) (N := 7) rfl inX5w tyX5_ok nmX5 (by decide) rfl rfl rfl rfl (by decide +kernel) wd_170 dX5_add_32 rfl) <|
  am_kc (ak_aload_n dX5_add_35 rfl rfl) <|
  am_kc (ak_iconst dX5_add_36 (by decide +kernel) rfl) <|
  am_kc (ak_putI (C := RX5) (T := TX5) (N := 7) rfl inX5w tyX5_ok nmX5 (by decide) rfl rfl rfl rfl (by decide +kernel) wd_171 dX5_add_37 rfl) <|
  am_kc (ak_aload_n dX5_add_40 rfl rfl) <|
  am_kc (ak_iconst dX5_add_41 (by decide +kernel) rfl) <|
  am_kc (ak_putI (C := RX5) (T := TX5) (N := 7) rfl inX5w tyX5_ok nmX5 (by decide) rfl rfl rfl rfl (by decide +kernel) wd_172 dX5_add_42 rfl) <|
  am_kc (ak_aload_n dX5_add_45 rfl rfl) <|
  am_kc (ak_iconst dX5_add_46 (by decide +kernel) rfl) <|
  am_kc (ak_putI (C := RX5) (T := TX5) (N := 7) rfl inX5w tyX5_ok nmX5 (by decide) rfl rfl rfl rfl (by decide +kernel) wd_175 dX5_add_47 rfl) <|
  am_kc (ak_aload_n dX5_add_50 rfl rfl) <|
  am_kc (ak_iconst dX5_add_51 (by decide +kernel) rfl) <|
  am_kc (ak_callV (C := RX5) (F := TX5) (N := 7) (metX5_readValue 41) rfl ⟨rfl, by decide +kernel, by decide +kernel, by decide +kernel⟩ (am_w5 wd_669 wd_671 wd_13 wd_65 wd_672) (by omega) dX5_add_52 rfl) <|
  am_kc (ak_aload_n dX5_add_55 rfl rfl) <|
  am_kc (ak_callV (C := RX5) (F := TX5) (N := 7) metX5_next rfl ⟨rfl, by decide +kernel, by decide +kernel, by decide +kernel⟩ (am_w5 wd_685 wd_687 wd_17 wd_65 wd_688) (by decide) dX5_add_56 rfl) <|
  am_kc (ak_iconst dX5_add_59 (by decide +kernel) rfl) <|
  am_kc (ak_icmp_eq dX5_add_60 (by decide +kernel) rfl) <|
  am_kc (ak_aload_n dX5_add_63 rfl rfl) <|
  am_kc (ak_aload_n dX5_add_64 rfl rfl) <|
  am_kc (ak_getI (C := RX5) (T := TX5) (N := 7) rfl inX5w (by decide) rfl rfl rfl wd_171 dX5_add_65 rfl) <|
  am_kc (ak_iconst dX5_add_68 (by decide +kernel) rfl) <|
  am_kc (ak_callV (C := RX5) (F := TX5) (N := 7) metX5_blame rfl ⟨rfl, by decide +kernel, by decide +kernel, by decide +kernel⟩ (am_w5 wd_673 wd_675 wd_14 wd_65 wd_676) (by decide) dX5_add_69 rfl) <|
  am_kc (ak_retV dX5_add_72) <| am_kn
def TX5_add : am_T := fun live as M R => match as with
  | [.ref t, .int g] => am_tP live t (fun s c => am_t0 M t ∧ ((M.1 t 5).toInt < 50 → ∀ M', am_ch (am_tS t c) (am_wI (am_wI M s (M.1 t 5).toNatClampNeg g) t 5 (M.1 t 5 + 1)) M' → am_t0 M' t → R none M') ∧ (50 ≤ (M.1 t 5).toInt → R none M))
  | _ => False
set_option maxRecDepth 100000 in
set_option maxHeartbeats 4000000 in
theorem metX5_add : am_Met yX5_add cX5_add 2 none (333) (8421) TX5_add := by
  refine am_met (own := RX5) (by decide +kernel) rfl kX5_add koX5_add 120 (fun _ _ _ _ _ => none) (fun live as M Ret h => ?_) (fun _ _ _ _ _ _ _ _ hI => by cases hI)
  unfold TX5_add at h
  split at h
  · next t g =>
    refine ⟨Nat.le_of_ble_eq_true rfl, ?_⟩
    change am_wp _ _ _ _ [(0, Value.ref t), (1, Value.int g)] _ _
    have hh := am_tP_mp h
    clear h
    obtain ⟨s, c, h2, h6, hb, h1, h3, h7, h4, h8, h9, h5, h10, hT, h, hn⟩ := hh
    repeat' (first | exact rfl | (with_reducible exact h1) | (with_reducible exact h2) | (with_reducible exact h3) | (with_reducible exact hb) | (with_reducible exact h6) | (with_reducible exact h7) | (refine Exists.intro _ (Exists.intro _ (And.intro h2 (And.intro h6 ?_)))) | (refine Exists.intro _ (And.intro h2 ?_)) | (refine Exists.intro _ (And.intro h6 ?_)) | apply And.intro | intro hx | (refine Exists.intro _ (And.intro rfl ?_)) | ((with_reducible change _ = true); simp only [h1, h2, h3, hb, h6, h7, Bool.true_and]; rfl))
    all_goals try first | (with_reducible change am_tI _ _) | (change Ret _ _) | (change Ret _ _ _) | (change Exists _)
    all_goals try dsimp only at *
    all_goals try exact absurd ‹(1000 : Int64) = 0› (by decide)
    all_goals obtain ⟨-, q1, q2⟩ := hT
    all_goals have e5 : ∀ k, (am_wI M s k g).1 t 5 = M.1 t 5 := fun k => by rw [am_wI_1, if_neg (fun z => h5 z.1)]
    · omega
    · rw [h4]; simp only [i_lt, Int32.reduceToInt] at hx; omega
    · simp only [i_lt, Int32.reduceToInt] at hx
      have hi := i_add (x := M.1 t 5) (y := 1) (by simp only [Int32.reduceToInt]; omega) (by simp only [Int32.reduceToInt]; omega)
      simp only [Int32.reduceToInt] at hi
      refine am_tI_of ?_ ?_ ?_ ?_ ?_
      all_goals simp [am_wI_1, h5, -Int32.toInt_add]
      all_goals omega
    · decide
    · decide
    · decide
    · with_reducible assumption
    · rename_i hlt M1 c1 i1 p hp
      simp only [i_lt, Int32.reduceToInt] at hlt
      rw [e5] at c1
      exact h (by omega) _ ((((((am_ch.rf.wI am_tS_2).wI am_tS_3).wI am_tS_4).wI am_tS_6).tr c1).wI am_tS_3) (am_t0_I (am_tI_w3 i1 hp))
    · rename_i hlt M1 c1 i1 p hp
      simp only [i_lt, Int32.reduceToInt] at hlt
      rw [e5] at c1
      exact h (by omega) _ (am_ch_blame ((((((am_ch.rf.wI am_tS_2).wI am_tS_3).wI am_tS_4).wI am_tS_6).tr c1).wI am_tS_3)) (am_t0_I (am_tI_blame (am_tI_w3 i1 hp)))
    · simp only [i_lt, Int32.reduceToInt] at hx
      exact hn (by omega)
  · exact h.elim
theorem dX5_clear_0 : decode cX5_clear 0 = .ok (.aload_n 0, 1) := by decide +kernel
theorem dX5_clear_1 : decode cX5_clear 1 = .ok (.iconst 0, 1) := by decide +kernel
theorem dX5_clear_2 : decode cX5_clear 2 = .ok (.putfield 22, 3) := by decide +kernel
theorem dX5_clear_5 : decode cX5_clear 5 = .ok (.aload_n 0, 1) := by decide +kernel
theorem dX5_clear_6 : decode cX5_clear 6 = .ok (.iconst 0, 1) := by decide +kernel
theorem dX5_clear_7 : decode cX5_clear 7 = .ok (.putfield 25, 3) := by decide +kernel
theorem dX5_clear_10 : decode cX5_clear 10 = .ok (.aload_n 0, 1) := by decide +kernel
theorem dX5_clear_11 : decode cX5_clear 11 = .ok (.iconst 1, 1) := by decide +kernel
theorem dX5_clear_12 : decode cX5_clear 12 = .ok (.putfield 18, 3) := by decide +kernel
theorem dX5_clear_15 : decode cX5_clear 15 = .ok (.return_, 1) := by decide +kernel
def kX5_clear (live : am_E) (Ret : am_R) : am_code := [(0, am_aload 0 1), (1, am_const (.int 0) 2), (2, am_putI live 5 5 5), (5, am_aload 0 6), (6, am_const (.int 0) 7), (7, am_putI live 5 2 10), (10, am_aload 0 11), (11, am_const (.int 1) 12), (12, am_putI live 5 6 15), (15, am_retV Ret)]
theorem koX5_clear (live : am_E) (Ret : am_R) : ∀ q ∈ kX5_clear live Ret, am_ok RX5 cX5_clear 1 none 0 0 live Ret q.1 q.2 :=
  am_kc (ak_aload_n dX5_clear_0 rfl rfl) <|
  am_kc (ak_iconst dX5_clear_1 (by decide +kernel) rfl) <|
  am_kc (ak_putI (C := RX5) (T := TX5) (N := 7) rfl inX5w tyX5_ok nmX5 (by decide) rfl rfl rfl rfl (by decide +kernel) wd_173 dX5_clear_2 rfl) <|
  am_kc (ak_aload_n dX5_clear_5 rfl rfl) <|
  am_kc (ak_iconst dX5_clear_6 (by decide +kernel) rfl) <|
  am_kc (ak_putI (C := RX5) (T := TX5) (N := 7) rfl inX5w tyX5_ok nmX5 (by decide) rfl rfl rfl rfl (by decide +kernel) wd_170 dX5_clear_7 rfl) <|
  am_kc (ak_aload_n dX5_clear_10 rfl rfl) <|
  am_kc (ak_iconst dX5_clear_11 (by decide +kernel) rfl) <|
  am_kc (ak_putI (C := RX5) (T := TX5) (N := 7) rfl inX5w tyX5_ok nmX5 (by decide) rfl rfl rfl rfl (by decide +kernel) wd_175 dX5_clear_12 rfl) <|
  am_kc (ak_retV dX5_clear_15) <| am_kn
def TX5_clear : am_T := fun live as M R => match as with
  | [.ref t] => am_if (am_isO live 5 t) (R none (am_wI (am_wI (am_wI M t 5 0) t 2 0) t 6 1))
  | _ => False
set_option maxRecDepth 100000 in
set_option maxHeartbeats 4000000 in
theorem metX5_clear : am_Met yX5_clear cX5_clear 1 none (0) (0) TX5_clear := by
  refine am_met (own := RX5) (by decide +kernel) rfl kX5_clear koX5_clear 60 (fun _ _ _ _ _ => none) (fun live as M Ret h => ?_) (fun _ _ _ _ _ _ _ _ hI => by cases hI)
  unfold TX5_clear at h
  split at h
  · next t =>
    refine ⟨Nat.le_of_ble_eq_true rfl, ?_⟩
    change am_wp _ _ _ _ [(0, Value.ref t)] _ _
    have hh := am_if_mp h
    clear h
    obtain ⟨h1, h⟩ := hh
    repeat' (first | exact rfl | (with_reducible exact h1) | apply And.intro | intro hx | (refine Exists.intro _ (And.intro rfl ?_)) | ((with_reducible change _ = true); simp only [h1, Bool.true_and]; rfl))
    all_goals try first | (with_reducible change am_tI _ _) | (change Ret _ _) | (change Ret _ _ _) | (change Exists _)
    all_goals try dsimp only at *
    all_goals try exact absurd ‹(1000 : Int64) = 0› (by decide)
    exact h
  · exact h.elim
theorem wd_885 : Cond.constantLong "LearnLoans$Text" 52 31 ∈ am_ws := am_wsi (List.mem_of_getElem? (i := 885) (by decide +kernel)) (by decide +kernel)
theorem dX5_mixed_0 : decode cX5_mixed 0 = .ok (.ldc2_w 52, 3) := by decide +kernel
theorem dX5_mixed_3 : decode cX5_mixed 3 = .ok (.lload_n 1, 1) := by decide +kernel
theorem dX5_mixed_4 : decode cX5_mixed 4 = .ok (.lmul, 1) := by decide +kernel
theorem dX5_mixed_5 : decode cX5_mixed 5 = .ok (.aload_n 0, 1) := by decide +kernel
theorem dX5_mixed_6 : decode cX5_mixed 6 = .ok (.getfield 22, 3) := by decide +kernel
theorem dX5_mixed_9 : decode cX5_mixed 9 = .ok (.i2l, 1) := by decide +kernel
theorem dX5_mixed_10 : decode cX5_mixed 10 = .ok (.ladd, 1) := by decide +kernel
theorem dX5_mixed_11 : decode cX5_mixed 11 = .ok (.lstore_n 1, 1) := by decide +kernel
theorem dX5_mixed_12 : decode cX5_mixed 12 = .ok (.iconst 0, 1) := by decide +kernel
theorem dX5_mixed_13 : decode cX5_mixed 13 = .ok (.istore_n 3, 1) := by decide +kernel
theorem dX5_mixed_14 : decode cX5_mixed 14 = .ok (.iload_n 3, 1) := by decide +kernel
theorem dX5_mixed_15 : decode cX5_mixed 15 = .ok (.aload_n 0, 1) := by decide +kernel
theorem dX5_mixed_16 : decode cX5_mixed 16 = .ok (.getfield 22, 3) := by decide +kernel
theorem dX5_mixed_19 : decode cX5_mixed 19 = .ok (.if_icmp .ge 29, 3) := by decide +kernel
theorem dX5_mixed_22 : decode cX5_mixed 22 = .ok (.iload_n 3, 1) := by decide +kernel
theorem dX5_mixed_23 : decode cX5_mixed 23 = .ok (.bipush 50, 2) := by decide +kernel
theorem dX5_mixed_25 : decode cX5_mixed 25 = .ok (.if_icmp .ge 23, 3) := by decide +kernel
theorem dX5_mixed_28 : decode cX5_mixed 28 = .ok (.ldc2_w 52, 3) := by decide +kernel
theorem dX5_mixed_31 : decode cX5_mixed 31 = .ok (.lload_n 1, 1) := by decide +kernel
theorem dX5_mixed_32 : decode cX5_mixed 32 = .ok (.lmul, 1) := by decide +kernel
theorem dX5_mixed_33 : decode cX5_mixed 33 = .ok (.aload_n 0, 1) := by decide +kernel
theorem dX5_mixed_34 : decode cX5_mixed 34 = .ok (.getfield 9, 3) := by decide +kernel
theorem dX5_mixed_37 : decode cX5_mixed 37 = .ok (.iload_n 3, 1) := by decide +kernel
theorem dX5_mixed_38 : decode cX5_mixed 38 = .ok (.iaload, 1) := by decide +kernel
theorem dX5_mixed_39 : decode cX5_mixed 39 = .ok (.i2l, 1) := by decide +kernel
theorem dX5_mixed_40 : decode cX5_mixed 40 = .ok (.ladd, 1) := by decide +kernel
theorem dX5_mixed_41 : decode cX5_mixed 41 = .ok (.lstore_n 1, 1) := by decide +kernel
theorem dX5_mixed_42 : decode cX5_mixed 42 = .ok (.iinc 3 1, 3) := by decide +kernel
theorem dX5_mixed_45 : decode cX5_mixed 45 = .ok (.goto (-31), 3) := by decide +kernel
theorem dX5_mixed_48 : decode cX5_mixed 48 = .ok (.lload_n 1, 1) := by decide +kernel
theorem dX5_mixed_49 : decode cX5_mixed 49 = .ok (.lreturn, 1) := by decide +kernel
def kX5_mixed (live : am_E) (Ret : am_R) : am_code := [(0, am_const (.long 31) 3), (3, am_lload 1 4), (4, am_l2 (fun x y => x * y) 5), (5, am_aload 0 6), (6, am_getI live 5 5 9), (9, am_i2l 10), (10, am_l2 (fun x y => x + y) 11), (11, am_lstore 1 4 12), (12, am_const (.int 0) 13), (13, am_istore 3 4 14), (14, am_iload 3 15), (15, am_aload 0 16), (16, am_getI live 5 5 19), (19, am_if2 (fun x y => y ≤ x) 48 22), (22, am_iload 3 23), (23, am_const (.int 50) 25), (25, am_if2 (fun x y => y ≤ x) 48 28), (28, am_const (.long 31) 31), (31, am_lload 1 32), (32, am_l2 (fun x y => x * y) 33), (33, am_aload 0 34), (34, am_getR live 5 0 37), (37, am_iload 3 38), (38, am_ald live 0 39), (39, am_i2l 40), (40, am_l2 (fun x y => x + y) 41), (41, am_lstore 1 4 42), (42, am_iinc 3 4 1 45), (45, am_goto 14), (48, am_lload 1 49), (49, am_retL Ret)]
theorem koX5_mixed (live : am_E) (Ret : am_R) : ∀ q ∈ kX5_mixed live Ret, am_ok RX5 cX5_mixed 4 (some .long) 0 0 live Ret q.1 q.2 :=
  am_kc (ak_ldc2 wd_885 dX5_mixed_0 rfl) <|
  am_kc (ak_lload_n dX5_mixed_3 rfl rfl) <|
  am_kc (ak_lmul dX5_mixed_4 rfl) <|
  am_kc (ak_aload_n dX5_mixed_5 rfl rfl) <|
  am_kc (ak_getI (C := RX5) (T := TX5) (N := 7) rfl inX5w (by decide) rfl rfl rfl wd_173 dX5_mixed_6 rfl) <|
  am_kc (ak_i2l dX5_mixed_9 rfl) <|
  am_kc (ak_ladd dX5_mixed_10 rfl) <|
  am_kc (ak_lstore_n dX5_mixed_11 rfl rfl) <|
  am_kc (ak_iconst dX5_mixed_12 (by decide +kernel) rfl) <|
  am_kc (ak_istore_n dX5_mixed_13 rfl rfl) <|
  am_kc (ak_iload_n dX5_mixed_14 rfl rfl) <|
  am_kc (ak_aload_n dX5_mixed_15 rfl rfl) <|
  am_kc (ak_getI (C := RX5) (T := TX5) (N := 7) rfl inX5w (by decide) rfl rfl rfl wd_173 dX5_mixed_16 rfl) <|
  am_kc (ak_icmp_ge dX5_mixed_19 (by decide +kernel) rfl) <|
  am_kc (ak_iload_n dX5_mixed_22 rfl rfl) <|
  am_kc (ak_bipush dX5_mixed_23 (by decide +kernel) rfl) <|
  am_kc (ak_icmp_ge dX5_mixed_25 (by decide +kernel) rfl) <|
  am_kc (ak_ldc2 wd_885 dX5_mixed_28 rfl) <|
  am_kc (ak_lload_n dX5_mixed_31 rfl rfl) <|
  am_kc (ak_lmul dX5_mixed_32 rfl) <|
  am_kc (ak_aload_n dX5_mixed_33 rfl rfl) <|
  am_kc (ak_getR (C := RX5) (T := TX5) (N := 7) rfl inX5w (by decide) rfl rfl rfl wd_168 dX5_mixed_34 rfl) <|
  am_kc (ak_iload_n dX5_mixed_37 rfl rfl) <|
  am_kc (ak_iald (t := 0) (fun _ => rfl) rfl dX5_mixed_38 rfl) <|
  am_kc (ak_i2l dX5_mixed_39 rfl) <|
  am_kc (ak_ladd dX5_mixed_40 rfl) <|
  am_kc (ak_lstore_n dX5_mixed_41 rfl rfl) <|
  am_kc (ak_iinc dX5_mixed_42 (by decide +kernel) rfl) <|
  am_kc (ak_goto dX5_mixed_45 (by decide +kernel)) <|
  am_kc (ak_lload_n dX5_mixed_48 rfl rfl) <|
  am_kc (ak_retL dX5_mixed_49) <| am_kn
def TX5_mixed : am_T := fun live as M R => match as with
  | [.ref t, .long x] => am_tP live t (fun s c => ∀ y, R (some (.long y)) M)
  | _ => False
def JX5_mixed : am_E → List Value → am_M → am_R → am_inv := fun live as M0 _ pc => match as with
  | [.ref t, .long x] => (match pc with
    | 14 => some ([0, 1, 3], fun k L st M => ∃ (y : Int64) (i : Int32), L = [(0, .ref t), (1, .long y), (3, .int i)] ∧ st = [] ∧ k = ((51 - i.toInt).toNat, 0) ∧ 0 ≤ i.toInt ∧ M = M0)
    | _ => none)
  | _ => none
set_option maxRecDepth 100000 in
set_option maxHeartbeats 4000000 in
theorem metX5_mixed : am_Met yX5_mixed cX5_mixed 4 (some .long) (0) (0) TX5_mixed := by
  refine am_met (own := RX5) (by decide +kernel) rfl kX5_mixed koX5_mixed 60 JX5_mixed ?_ ?_
  · intro live as M Ret h
    unfold TX5_mixed at h
    split at h
    · next t x =>
      refine ⟨Nat.le_of_ble_eq_true rfl, ?_⟩
      change am_wp _ _ _ _ [(0, Value.ref t), (1, Value.long x)] _ _
      have hh := am_tP_mp h
      clear h
      obtain ⟨s, c, h2, h6, hb, h1, h3, h7, h4, h8, h9, h5, h10, h⟩ := hh
      repeat' (first | exact rfl | (with_reducible exact h1) | (with_reducible exact h2) | (with_reducible exact h3) | (with_reducible exact hb) | (with_reducible exact h6) | (with_reducible exact h7) | (refine Exists.intro _ (Exists.intro _ (And.intro h2 (And.intro h6 ?_)))) | (refine Exists.intro _ (And.intro h2 ?_)) | (refine Exists.intro _ (And.intro h6 ?_)) | apply And.intro | intro hx | (refine Exists.intro _ (And.intro rfl ?_)) | ((with_reducible change _ = true); simp only [h1, h2, h3, hb, h6, h7, Bool.true_and]; rfl))
      all_goals try first | (with_reducible change am_tI _ _) | (change Ret _ _) | (change Ret _ _ _) | (change Exists _)
      all_goals try dsimp only at *
      all_goals try exact absurd ‹(1000 : Int64) = 0› (by decide)
      exact ⟨_, _, _, rfl, rfl, rfl, by decide, rfl⟩
    · exact h.elim
  · intro live as M0 Ret h k pc I hI L st M hi
    unfold TX5_mixed at h
    split at h
    · next t x =>
      have hh := am_tP_mp h
      clear h
      obtain ⟨s, c, h2, h6, hb, h1, h3, h7, h4, h8, h9, h5, h10, h⟩ := hh
      change (match pc with | 14 => _ | _ => none) = _ at hI
      split at hI
      · cases hI
        obtain ⟨y, i, rfl, rfl, rfl, e1, rfl⟩ := hi
        repeat' (first | exact rfl | (with_reducible exact h1) | (with_reducible exact h2) | (with_reducible exact h3) | (with_reducible exact hb) | (with_reducible exact h6) | (with_reducible exact h7) | (refine Exists.intro _ (Exists.intro _ (And.intro h2 (And.intro h6 ?_)))) | (refine Exists.intro _ (And.intro h2 ?_)) | (refine Exists.intro _ (And.intro h6 ?_)) | apply And.intro | intro hx | (refine Exists.intro _ (And.intro rfl ?_)) | ((with_reducible change _ = true); simp only [h1, h2, h3, hb, h6, h7, Bool.true_and]; rfl))
        all_goals try first | (with_reducible change am_tI _ _) | (change Ret _ _) | (change Ret _ _ _) | (change Exists _)
        all_goals try dsimp only at *
        all_goals try exact absurd ‹(1000 : Int64) = 0› (by decide)
        all_goals try exact h _
        · omega
        · simp only [i_le, Int32.reduceToInt] at hx; rw [h4]; omega
        · refine ⟨_, Or.inl ?_, _, i + 1, rfl, rfl, rfl, ?_, rfl⟩
          all_goals simp only [i_le, Int32.reduceToInt] at hx
          all_goals
            have hi := i_add (x := i) (y := 1) (by simp only [Int32.reduceToInt]; omega) (by simp only [Int32.reduceToInt]; omega)
            simp only [Int32.reduceToInt] at hi
            omega
      · cases hI
    · exact h.elim
end
section
/-! births: the constructors -/
theorem am_w3 {a b c : Cond} (h1 : a ∈ am_ws) (h2 : b ∈ am_ws) (h3 : c ∈ am_ws) : ∀ w ∈ ([a, b, c] : List Cond), w ∈ am_ws := by
  intro w hw
  simp only [List.mem_cons, List.not_mem_nil, or_false] at hw
  rcases hw with rfl | rfl | rfl <;> assumption
theorem zX0 : ∀ j, j < 13 → defaultValue (tyX0 j) = an_z 0 j := fun j hj => match j, hj with
  | 0, _ => rfl
  | 1, _ => rfl
  | 2, _ => rfl
  | 3, _ => rfl
  | 4, _ => rfl
  | 5, _ => rfl
  | 6, _ => rfl
  | 7, _ => rfl
  | 8, _ => rfl
  | 9, _ => rfl
  | 10, _ => rfl
  | 11, _ => rfl
  | 12, _ => rfl
  | j + 13, h => absurd h (by omega)
theorem zX1 : ∀ j, j < 7 → defaultValue (tyX1 j) = an_z 1 j := fun j hj => match j, hj with
  | 0, _ => rfl
  | 1, _ => rfl
  | 2, _ => rfl
  | 3, _ => rfl
  | 4, _ => rfl
  | 5, _ => rfl
  | 6, _ => rfl
  | j + 7, h => absurd h (by omega)
theorem zX2 : ∀ j, j < 8 → defaultValue (tyX2 j) = an_z 2 j := fun j hj => match j, hj with
  | 0, _ => rfl
  | 1, _ => rfl
  | 2, _ => rfl
  | 3, _ => rfl
  | 4, _ => rfl
  | 5, _ => rfl
  | 6, _ => rfl
  | 7, _ => rfl
  | j + 8, h => absurd h (by omega)
theorem zX3 : ∀ j, j < 3 → defaultValue (tyX3 j) = an_z 3 j := fun j hj => match j, hj with
  | 0, _ => rfl
  | 1, _ => rfl
  | 2, _ => rfl
  | j + 3, h => absurd h (by omega)
theorem zX4 : ∀ j, j < 18 → defaultValue (tyX4 j) = an_z 4 j := fun j hj => match j, hj with
  | 0, _ => rfl
  | 1, _ => rfl
  | 2, _ => rfl
  | 3, _ => rfl
  | 4, _ => rfl
  | 5, _ => rfl
  | 6, _ => rfl
  | 7, _ => rfl
  | 8, _ => rfl
  | 9, _ => rfl
  | 10, _ => rfl
  | 11, _ => rfl
  | 12, _ => rfl
  | 13, _ => rfl
  | 14, _ => rfl
  | 15, _ => rfl
  | 16, _ => rfl
  | 17, _ => rfl
  | j + 18, h => absurd h (by omega)
theorem zX5 : ∀ j, j < 7 → defaultValue (tyX5 j) = an_z 5 j := fun j hj => match j, hj with
  | 0, _ => rfl
  | 1, _ => rfl
  | 2, _ => rfl
  | 3, _ => rfl
  | 4, _ => rfl
  | 5, _ => rfl
  | 6, _ => rfl
  | j + 7, h => absurd h (by omega)
theorem zX6 : ∀ j, j < 9 → defaultValue (tyX6 j) = an_z 6 j := fun j hj => match j, hj with
  | 0, _ => rfl
  | 1, _ => rfl
  | 2, _ => rfl
  | 3, _ => rfl
  | 4, _ => rfl
  | 5, _ => rfl
  | 6, _ => rfl
  | 7, _ => rfl
  | 8, _ => rfl
  | j + 9, h => absurd h (by omega)
theorem zX7 : ∀ j, j < 4 → defaultValue (tyX7 j) = an_z 7 j := fun j hj => match j, hj with
  | 0, _ => rfl
  | 1, _ => rfl
  | 2, _ => rfl
  | 3, _ => rfl
  | j + 4, h => absurd h (by omega)
theorem zX8 : ∀ j, j < 27 → defaultValue (tyX8 j) = an_z 8 j := fun j hj => match j, hj with
  | 0, _ => rfl
  | 1, _ => rfl
  | 2, _ => rfl
  | 3, _ => rfl
  | 4, _ => rfl
  | 5, _ => rfl
  | 6, _ => rfl
  | 7, _ => rfl
  | 8, _ => rfl
  | 9, _ => rfl
  | 10, _ => rfl
  | 11, _ => rfl
  | 12, _ => rfl
  | 13, _ => rfl
  | 14, _ => rfl
  | 15, _ => rfl
  | 16, _ => rfl
  | 17, _ => rfl
  | 18, _ => rfl
  | 19, _ => rfl
  | 20, _ => rfl
  | 21, _ => rfl
  | 22, _ => rfl
  | 23, _ => rfl
  | 24, _ => rfl
  | 25, _ => rfl
  | 26, _ => rfl
  | j + 27, h => absurd h (by omega)
def an_int (L : am_L) (i : Nat) : Nat := match am_g L i with
  | some (.int x) => x.toNatClampNeg
  | _ => 0
theorem an_bE_1 (E : am_E) (n q : Nat) : (an_bE E n).1 q = (Nat.beq q n || E.1 q) := rfl
theorem an_rE_1 (E : am_E) (n k v : Nat) : (an_rE E n k v).1 = E.1 := rfl
theorem an_nb (a b : Nat) : Nat.beq a b = decide (a = b) := by
  cases h : Nat.beq a b with
  | true => rw [Nat.eq_of_beq_eq_true h]; simp
  | false => exact (decide_eq_false (Nat.ne_of_beq_eq_false h)).symm
theorem dJ7_fill_53178_0 : decode cJ7_fill_53178 0 = .ok (.iconst 0, 1) := by decide +kernel
theorem dJ7_fill_53178_1 : decode cJ7_fill_53178 1 = .ok (.istore_n 2, 1) := by decide +kernel
theorem dJ7_fill_53178_2 : decode cJ7_fill_53178 2 = .ok (.aload_n 0, 1) := by decide +kernel
theorem dJ7_fill_53178_3 : decode cJ7_fill_53178 3 = .ok (.arraylength, 1) := by decide +kernel
theorem dJ7_fill_53178_4 : decode cJ7_fill_53178 4 = .ok (.istore_n 3, 1) := by decide +kernel
theorem dJ7_fill_53178_5 : decode cJ7_fill_53178 5 = .ok (.iload_n 2, 1) := by decide +kernel
theorem dJ7_fill_53178_6 : decode cJ7_fill_53178 6 = .ok (.iload_n 3, 1) := by decide +kernel
theorem dJ7_fill_53178_7 : decode cJ7_fill_53178 7 = .ok (.if_icmp .ge 13, 3) := by decide +kernel
theorem dJ7_fill_53178_10 : decode cJ7_fill_53178 10 = .ok (.aload_n 0, 1) := by decide +kernel
theorem dJ7_fill_53178_11 : decode cJ7_fill_53178 11 = .ok (.iload_n 2, 1) := by decide +kernel
theorem dJ7_fill_53178_12 : decode cJ7_fill_53178 12 = .ok (.iload_n 1, 1) := by decide +kernel
theorem dJ7_fill_53178_13 : decode cJ7_fill_53178 13 = .ok (.iastore, 1) := by decide +kernel
theorem dJ7_fill_53178_14 : decode cJ7_fill_53178 14 = .ok (.iinc 2 1, 3) := by decide +kernel
theorem dJ7_fill_53178_17 : decode cJ7_fill_53178 17 = .ok (.goto (-12), 3) := by decide +kernel
theorem dJ7_fill_53178_20 : decode cJ7_fill_53178 20 = .ok (.return_, 1) := by decide +kernel
def kJ7_fill_53178 (live : am_E) (Ret : am_R) : am_code := [(0, am_const (.int 0) 1), (1, am_istore 2 4 2), (2, am_aload 0 3), (3, am_alen live 0 4), (4, am_istore 3 4 5), (5, am_iload 2 6), (6, am_iload 3 7), (7, am_if2 (fun x y => y ≤ x) 20 10), (10, am_aload 0 11), (11, am_iload 2 12), (12, am_iload 1 13), (13, am_ast live 0 14), (14, am_iinc 2 4 1 17), (17, am_goto 5), (20, am_retV Ret)]
theorem koJ7_fill_53178 (live : am_E) (Ret : am_R) : ∀ q ∈ kJ7_fill_53178 live Ret, am_ok RJ7 cJ7_fill_53178 4 none 0 0 live Ret q.1 q.2 :=
  am_kc (ak_iconst dJ7_fill_53178_0 (by decide +kernel) rfl) <|
  am_kc (ak_istore_n dJ7_fill_53178_1 rfl rfl) <|
  am_kc (ak_aload_n dJ7_fill_53178_2 rfl rfl) <|
  am_kc (ak_alen (t := 0) (fun _ => rfl) dJ7_fill_53178_3 rfl) <|
  am_kc (ak_istore_n dJ7_fill_53178_4 rfl rfl) <|
  am_kc (ak_iload_n dJ7_fill_53178_5 rfl rfl) <|
  am_kc (ak_iload_n dJ7_fill_53178_6 rfl rfl) <|
  am_kc (ak_icmp_ge dJ7_fill_53178_7 (by decide +kernel) rfl) <|
  am_kc (ak_aload_n dJ7_fill_53178_10 rfl rfl) <|
  am_kc (ak_iload_n dJ7_fill_53178_11 rfl rfl) <|
  am_kc (ak_iload_n dJ7_fill_53178_12 rfl rfl) <|
  am_kc (ak_iast (t := 0) (fun _ => rfl) rfl dJ7_fill_53178_13 rfl) <|
  am_kc (ak_iinc dJ7_fill_53178_14 (by decide +kernel) rfl) <|
  am_kc (ak_goto dJ7_fill_53178_17 (by decide +kernel)) <|
  am_kc (ak_retV dJ7_fill_53178_20) <| am_kn
def TJ7_fill_53178 : am_T := fun live as M R => match as with
  | [.ref c, .int v] => am_if (am_isA live 0 c && Nat.blt (am_len c) 100000) (R none (am_lay M c 0 ((am_len c : Int) - 1) v))
  | _ => False
def JJ7_fill : am_E → List Value → am_M → am_R → am_inv := fun live as M0 _ pc => match as with
  | [.ref c, .int v] => (match pc with
    | 5 => some ([0, 1, 2, 3], fun k L st M => ∃ i : Int32, L = [(0, .ref c), (1, .int v), (2, .int i), (3, .int (Int32.ofNat (am_len c)))] ∧ st = [] ∧ k = ((am_len c + 1 - i.toInt).toNat, 0) ∧ 0 ≤ i.toInt ∧ i.toInt ≤ (am_len c : Int) ∧ M = am_lay M0 c 0 (i.toInt - 1) v)
    | _ => none)
  | _ => none
set_option maxRecDepth 100000 in
set_option maxHeartbeats 4000000 in
theorem metJ7_fill_53178 : am_Met yJ7_fill_53178 cJ7_fill_53178 4 none (0) (0) TJ7_fill_53178 := by
  refine am_met (own := RJ7) (by decide +kernel) rfl kJ7_fill_53178 koJ7_fill_53178 60 JJ7_fill ?_ ?_
  · intro live as M Ret h
    unfold TJ7_fill_53178 at h
    split at h
    · next c v =>
      refine ⟨Nat.le_of_ble_eq_true rfl, ?_⟩
      change am_wp _ _ _ _ [(0, Value.ref c), (1, Value.int v)] _ _
      have hh := am_if_mp h
      clear h
      obtain ⟨hb, h⟩ := hh
      rw [Bool.and_eq_true] at hb
      obtain ⟨h1, h4⟩ := hb
      have h4 : am_len c < 100000 := Nat.le_of_ble_eq_true h4
      repeat' (first | exact rfl | (with_reducible exact h1) | apply And.intro | intro hx | (refine Exists.intro _ (And.intro rfl ?_)) | ((with_reducible change _ = true); simp only [h1, Bool.true_and]; rfl))
      all_goals try first | (with_reducible change am_tI _ _) | (change Ret _ _) | (change Ret _ _ _) | (change Exists _)
      all_goals try dsimp only at *
      all_goals try exact absurd ‹(1000 : Int64) = 0› (by decide)
      refine ⟨_, _, rfl, rfl, rfl, by decide, ?_, (am_lay_nil (by decide)).symm⟩
      simp only [Int32.reduceToInt]
      omega
    · exact h.elim
  · intro live as M0 Ret h k pc I hI L st M hi
    unfold TJ7_fill_53178 at h
    split at h
    · next c v =>
      have hh := am_if_mp h
      clear h
      obtain ⟨hb, h⟩ := hh
      rw [Bool.and_eq_true] at hb
      obtain ⟨h1, h4⟩ := hb
      have h4 : am_len c < 100000 := Nat.le_of_ble_eq_true h4
      change (match pc with | 5 => _ | _ => none) = _ at hI
      split at hI
      · cases hI
        obtain ⟨i, rfl, rfl, rfl, e1, e2, rfl⟩ := hi
        have hn : (Int32.ofNat (am_len c)).toInt = (am_len c : Int) := i_nat (by omega)
        repeat' (first | exact rfl | (with_reducible exact h1) | apply And.intro | intro hx | (refine Exists.intro _ (And.intro rfl ?_)) | ((with_reducible change _ = true); simp only [h1, Bool.true_and]; rfl))
        all_goals try first | (with_reducible change am_tI _ _) | (change Ret _ _) | (change Ret _ _ _) | (change Exists _)
        all_goals try dsimp only at *
        all_goals try exact absurd ‹(1000 : Int64) = 0› (by decide)
        rotate_right
        · refine ⟨_, Or.inl ?_, i + 1, rfl, rfl, rfl, ?_, ?_, ?_⟩
          all_goals simp only [i_lt, i_le, hn] at *
          all_goals
            have hi := i_add (x := i) (y := 1) (by simp only [Int32.reduceToInt]; omega) (by simp only [Int32.reduceToInt]; omega)
            simp only [Int32.reduceToInt] at hi
          · simp only [hi]; omega
          · omega
          · omega
          · rw [am_lay_put (by omega) (i_clamp (by omega))]
            exact am_lay_eq (fun q => by omega)
        all_goals simp only [i_lt, i_le, hn] at *
        · rw [am_lay_eq (lo' := 0) (hi' := (am_len c : Int) - 1) (fun q => by omega)]; exact h
        · omega
        · omega
      · cases hI
    · exact h.elim
theorem wd_146 : Cond.methodLink "LearnLoans$Rows" 3 objectInit ∈ am_ws := am_wsi (List.mem_of_getElem? (i := 146) (by decide +kernel)) (by decide +kernel)
theorem wd_76 : Cond.instanceMethod objectInit ∈ am_ws := am_wsi (List.mem_of_getElem? (i := 76) (by decide +kernel)) (by decide +kernel)
theorem wd_77 : Cond.code objectInit ⟨#[0xb1]⟩ 1 none ∈ am_ws := am_wsi (List.mem_of_getElem? (i := 77) (by decide +kernel)) (by decide +kernel)
theorem dX3_init_0 : decode cX3_init 0 = .ok (.aload_n 0, 1) := by decide +kernel
theorem dX3_init_1 : decode cX3_init 1 = .ok (.invokespecial 3, 3) := by decide +kernel
theorem dX3_init_4 : decode cX3_init 4 = .ok (.aload_n 0, 1) := by decide +kernel
theorem dX3_init_5 : decode cX3_init 5 = .ok (.aload_n 1, 1) := by decide +kernel
theorem dX3_init_6 : decode cX3_init 6 = .ok (.putfield 9, 3) := by decide +kernel
theorem dX3_init_9 : decode cX3_init 9 = .ok (.aload_n 0, 1) := by decide +kernel
theorem dX3_init_10 : decode cX3_init 10 = .ok (.iload_n 2, 1) := by decide +kernel
theorem dX3_init_11 : decode cX3_init 11 = .ok (.putfield 15, 3) := by decide +kernel
theorem dX3_init_14 : decode cX3_init 14 = .ok (.return_, 1) := by decide +kernel
def kX3_init (Ret : an_R) : an_code := [(0, an_lf (fun live => am_aload 0 1)), (1, an_obj 20 4), (4, an_lf (fun live => am_aload 0 5)), (5, an_lf (fun live => am_aload 1 6)), (6, an_putFR 3 0 9), (9, an_lf (fun live => am_aload 0 10)), (10, an_lf (fun live => am_iload 2 11)), (11, an_putFI 3 1 14), (14, an_retV Ret)]
theorem koX3_init (Ret : an_R) : ∀ q ∈ kX3_init Ret, an_ok RX3 cX3_init 3 none 1 20 0 0 true (fun _ _ _ => True) Ret q.1 q.2 :=
  an_kc (an_lift (fun live => ak_aload_n dX3_init_0 rfl rfl)) <|
  an_kc (nk_obj (am_w3 wd_146 wd_76 wd_77) (by decide) dX3_init_1 rfl) <|
  an_kc (an_lift (fun live => ak_aload_n dX3_init_4 rfl rfl)) <|
  an_kc (an_lift (fun live => ak_aload_n dX3_init_5 rfl rfl)) <|
  an_kc (nk_putFR (C := RX3) (C2 := RX3) (T := TX3) (N := 3) rfl inX3w tyX3_ok nmX3 (by decide) rfl rfl rfl rfl rfl (tyX3_ok 0 (by decide)) (fun _ => ⟨rfl, rfl⟩) rfl wd_147 dX3_init_6 rfl) <|
  an_kc (an_lift (fun live => ak_aload_n dX3_init_9 rfl rfl)) <|
  an_kc (an_lift (fun live => ak_iload_n dX3_init_10 rfl rfl)) <|
  an_kc (nk_putFI (C := RX3) (T := TX3) (N := 3) rfl inX3w tyX3_ok nmX3 (by decide) rfl rfl rfl rfl rfl (by decide +kernel) rfl wd_148 dX3_init_11 rfl) <|
  an_kc (nk_retV dX3_init_14) <| an_kn
def TX3_init : an_T := fun E as M R => match as with
  | [.ref r, .ref c, .int w] => am_if (an_isO E 3 r && E.1 c) (R none (an_rE E r 0 c) (am_wI M r 1 w))
  | _ => False
set_option maxRecDepth 100000 in
set_option maxHeartbeats 4000000 in
theorem metX3_init : an_Met yX3_init cX3_init 3 none (1) (20) 0 0 TX3_init := by
  refine an_met (own := RX3) (ini := true) (by decide +kernel) rfl (fun _ => rfl) kX3_init koX3_init 60 (fun _ _ _ _ _ => none) (fun live as M Ret h => ?_) (fun _ _ _ _ _ _ _ _ hI => by cases hI)
  unfold TX3_init at h
  split at h
  · next r c w =>
    refine ⟨Nat.le_of_ble_eq_true rfl, ?_⟩
    change an_wp _ _ _ _ [(0, Value.ref r), (1, Value.ref c), (2, Value.int w)] _ _
    have hh := am_if_mp h
    clear h
    obtain ⟨hb, h⟩ := hh
    have hc := hb
    rw [Bool.and_eq_true] at hc
    obtain ⟨h1, h2⟩ := hc
    repeat' (first | exact rfl | (with_reducible exact hb) | (with_reducible exact h1) | (with_reducible exact h2) | (refine Exists.intro _ (And.intro h2 ?_)) | apply And.intro | intro hx | (refine Exists.intro _ (And.intro rfl ?_)) | ((with_reducible change _ = true); simp only [h1, h2, Bool.true_and]; rfl))
    all_goals try first | (with_reducible change am_tI _ _) | (change Ret _ _) | (change Ret _ _ _) | (change Exists _)
    all_goals try dsimp only at *
    all_goals try exact absurd ‹(1000 : Int64) = 0› (by decide)
    all_goals first | exact h | exact h1
  · exact h.elim
theorem wd_260 : Cond.methodLink "LearnLoans$Letters" 1 objectInit ∈ am_ws := am_wsi (List.mem_of_getElem? (i := 260) (by decide +kernel)) (by decide +kernel)
theorem dX1_init_0 : decode cX1_init 0 = .ok (.aload_n 0, 1) := by decide +kernel
theorem dX1_init_1 : decode cX1_init 1 = .ok (.invokespecial 1, 3) := by decide +kernel
theorem dX1_init_4 : decode cX1_init 4 = .ok (.return_, 1) := by decide +kernel
def kX1_init (Ret : an_R) : an_code := [(0, an_lf (fun live => am_aload 0 1)), (1, an_obj 20 4), (4, an_retV Ret)]
theorem koX1_init (Ret : an_R) : ∀ q ∈ kX1_init Ret, an_ok RX1 cX1_init 1 none 1 20 0 0 true (fun _ _ _ => True) Ret q.1 q.2 :=
  an_kc (an_lift (fun live => ak_aload_n dX1_init_0 rfl rfl)) <|
  an_kc (nk_obj (am_w3 wd_260 wd_76 wd_77) (by decide) dX1_init_1 rfl) <|
  an_kc (nk_retV dX1_init_4) <| an_kn
def TX1_init : an_T := fun E as M R => match as with
  | [.ref _] => R none E M
  | _ => False
set_option maxRecDepth 100000 in
set_option maxHeartbeats 4000000 in
theorem metX1_init : an_Met yX1_init cX1_init 1 none (1) (20) 0 0 TX1_init := by
  refine an_met (own := RX1) (ini := true) (by decide +kernel) rfl (fun _ => rfl) kX1_init koX1_init 60 (fun _ _ _ _ _ => none) (fun live as M Ret h => ?_) (fun _ _ _ _ _ _ _ _ hI => by cases hI)
  unfold TX1_init at h
  split at h
  · next r =>
    refine ⟨Nat.le_of_ble_eq_true rfl, ?_⟩
    change an_wp _ _ _ _ [(0, Value.ref r)] _ _
    repeat' (first | exact rfl | apply And.intro | intro hx | (refine Exists.intro _ (And.intro rfl ?_)))
    all_goals try first | (with_reducible change am_tI _ _) | (change Ret _ _) | (change Ret _ _ _) | (change Exists _)
    all_goals try dsimp only at *
    all_goals try exact absurd ‹(1000 : Int64) = 0› (by decide)
    exact h
  · exact h.elim
/-- a text's place, a house's people's place -/
def an_t5 (n : Nat) : Bool := [39, 42, 45, 48, 51, 79, 82, 85, 88, 91, 119, 122, 125, 128, 131].contains n
def an_t2 (n : Nat) : Bool := [21, 61, 101].contains n
def an_ho (n k : Nat) (E : am_E) : am_E := (fun q => Nat.beq q n || (!(Nat.blt n q && Nat.ble q (n + k)) && E.1 q), E.2)
def an_fc (E : am_E) (n : Nat) : Nat → Bool
  | 0 => E.1 n
  | k + 1 => an_fc E n k && !(E.1 (n + k + 1))
theorem an_fc_spec {E : am_E} {n : Nat} : ∀ {k : Nat}, an_fc E n k = true → E.1 n = true ∧ ∀ q, n < q → q ≤ n + k → E.1 q = false
  | 0, h => ⟨h, fun q h1 h2 => by omega⟩
  | k + 1, h => by
    have h : (an_fc E n k && !(E.1 (n + k + 1))) = true := h
    rw [Bool.and_eq_true] at h
    obtain ⟨a, b⟩ := an_fc_spec h.1
    refine ⟨a, fun q h1 h2 => ?_⟩
    by_cases e : q = n + k + 1
    · rw [e]
      have := h.2
      cases hq : E.1 (n + k + 1) with
      | true => rw [hq] at this; cases this
      | false => rfl
    · exact b q h1 (by omega)
theorem an_ho_of {E : am_E} {n k : Nat} (h : an_fc E n k = true) : E = an_ho n k E := by
  obtain ⟨a, b⟩ := an_fc_spec h
  refine Prod.ext (funext fun q => ?_) rfl
  show E.1 q = (Nat.beq q n || (!(Nat.blt n q && Nat.ble q (n + k)) && E.1 q))
  by_cases e : q = n
  · rw [e, an_beq, a]; rfl
  · rw [an_bne e]
    by_cases h1 : n < q
    · by_cases h2 : q ≤ n + k
      · rw [b q h1 h2, Bool.and_false]; rfl
      · rw [show Nat.ble q (n + k) = false from by
          cases hh : Nat.ble q (n + k) with
          | true => exact absurd (Nat.le_of_ble_eq_true hh) h2
          | false => rfl, Bool.and_false]
        rfl
    · rw [show Nat.blt n q = false from by
          cases hh : Nat.blt n q with
          | true => exact absurd (Nat.le_of_ble_eq_true hh) h1
          | false => rfl, Bool.false_and]
      rfl
theorem wd_167 : Cond.methodLink "LearnLoans$Text" 3 objectInit ∈ am_ws := am_wsi (List.mem_of_getElem? (i := 167) (by decide +kernel)) (by decide +kernel)
theorem wd_140 : Cond.arrayClass (newarray.typeOf .int) ∈ am_ws := am_wsi (List.mem_of_getElem? (i := 140) (by decide +kernel)) (by decide +kernel)
theorem dX5_init_0 : decode cX5_init 0 = .ok (.aload_n 0, 1) := by decide +kernel
theorem dX5_init_1 : decode cX5_init 1 = .ok (.invokespecial 3, 3) := by decide +kernel
theorem dX5_init_4 : decode cX5_init 4 = .ok (.aload_n 0, 1) := by decide +kernel
theorem dX5_init_5 : decode cX5_init 5 = .ok (.bipush 50, 2) := by decide +kernel
theorem dX5_init_7 : decode cX5_init 7 = .ok (.newarray .int, 2) := by decide +kernel
theorem dX5_init_9 : decode cX5_init 9 = .ok (.putfield 9, 3) := by decide +kernel
theorem dX5_init_12 : decode cX5_init 12 = .ok (.aload_n 0, 1) := by decide +kernel
theorem dX5_init_13 : decode cX5_init 13 = .ok (.bipush 50, 2) := by decide +kernel
theorem dX5_init_15 : decode cX5_init 15 = .ok (.newarray .int, 2) := by decide +kernel
theorem dX5_init_17 : decode cX5_init 17 = .ok (.putfield 15, 3) := by decide +kernel
theorem dX5_init_20 : decode cX5_init 20 = .ok (.aload_n 0, 1) := by decide +kernel
theorem dX5_init_21 : decode cX5_init 21 = .ok (.iconst 1, 1) := by decide +kernel
theorem dX5_init_22 : decode cX5_init 22 = .ok (.putfield 18, 3) := by decide +kernel
theorem dX5_init_25 : decode cX5_init 25 = .ok (.return_, 1) := by decide +kernel
def kX5_init (n : Nat) (Ret : an_R) : an_code := [(0, an_lf (fun live => am_aload 0 1)), (1, an_obj 20 4), (4, an_lf (fun live => am_aload 0 5)), (5, an_lf (fun live => am_const (.int 50) 7)), (7, an_newa 0 50 (fun L => n + 1) 2 100 9), (9, an_putFR 5 0 12), (12, an_lf (fun live => am_aload 0 13)), (13, an_lf (fun live => am_const (.int 50) 15)), (15, an_newa 0 50 (fun L => n + 2) 2 100 17), (17, an_putFR 5 1 20), (20, an_lf (fun live => am_aload 0 21)), (21, an_lf (fun live => am_const (.int 1) 22)), (22, an_lf (fun live => am_putI live 5 6 25)), (25, an_retV Ret)]
theorem koX5_init (n : Nat) (Ret : an_R) : ∀ q ∈ kX5_init n Ret, an_ok RX5 cX5_init 1 none 1 20 2 100 true (fun _ _ _ => True) Ret q.1 q.2 :=
  an_kc (an_lift (fun live => ak_aload_n dX5_init_0 rfl rfl)) <|
  an_kc (nk_obj (am_w3 wd_167 wd_76 wd_77) (by decide) dX5_init_1 rfl) <|
  an_kc (an_lift (fun live => ak_aload_n dX5_init_4 rfl rfl)) <|
  an_kc (an_lift (fun live => ak_bipush dX5_init_5 (by decide +kernel) rfl)) <|
  an_kc (nk_newa (t := 0) (len := 50) (atype := .int) (ty := .int) rfl (fun _ => rfl) (fun _ z => by cases z) (fun _ => rfl) wd_140 (by decide) dX5_init_7 rfl) <|
  an_kc (nk_putFR (C := RX5) (C2 := RX5) (T := TX5) (N := 7) rfl inX5w tyX5_ok nmX5 (by decide) rfl rfl rfl rfl rfl (tyX5_ok 0 (by decide)) (fun _ => ⟨rfl, rfl⟩) rfl wd_168 dX5_init_9 rfl) <|
  an_kc (an_lift (fun live => ak_aload_n dX5_init_12 rfl rfl)) <|
  an_kc (an_lift (fun live => ak_bipush dX5_init_13 (by decide +kernel) rfl)) <|
  an_kc (nk_newa (t := 0) (len := 50) (atype := .int) (ty := .int) rfl (fun _ => rfl) (fun _ z => by cases z) (fun _ => rfl) wd_140 (by decide) dX5_init_15 rfl) <|
  an_kc (nk_putFR (C := RX5) (C2 := RX5) (T := TX5) (N := 7) rfl inX5w tyX5_ok nmX5 (by decide) rfl rfl rfl rfl rfl (tyX5_ok 1 (by decide)) (fun _ => ⟨rfl, rfl⟩) rfl wd_169 dX5_init_17 rfl) <|
  an_kc (an_lift (fun live => ak_aload_n dX5_init_20 rfl rfl)) <|
  an_kc (an_lift (fun live => ak_iconst dX5_init_21 (by decide +kernel) rfl)) <|
  an_kc (an_lift (fun live => ak_putI (C := RX5) (T := TX5) (N := 7) rfl inX5w tyX5_ok nmX5 (by decide) rfl rfl rfl rfl (by decide +kernel) wd_175 dX5_init_22 rfl)) <|
  an_kc (nk_retV dX5_init_25) <| an_kn
def eX5 (n : Nat) (E : am_E) : am_E := an_rE (an_bE (an_rE (an_bE (E) (n + 1)) n 0 (n + 1)) (n + 2)) n 1 (n + 2)
def mX5 (n : Nat) (M : am_M) : am_M := am_wI (an_bM (an_bM (M) (n + 1)) (n + 2)) n 6 1
def TX5n (n : Nat) : an_T := fun E as M R => match as with
  | [.ref r] => am_if (Nat.beq r n && (an_t5 n && an_fc E n 2)) (R none (eX5 n E) (mX5 n M))
  | _ => False
theorem an_t5_of {n : Nat} (h : an_t5 n = true) : n = 39 ∨ n = 42 ∨ n = 45 ∨ n = 48 ∨ n = 51 ∨ n = 79 ∨ n = 82 ∨ n = 85 ∨ n = 88 ∨ n = 91 ∨ n = 119 ∨ n = 122 ∨ n = 125 ∨ n = 128 ∨ n = 131 := by
  unfold an_t5 at h
  simpa using h
set_option maxRecDepth 100000 in
set_option maxHeartbeats 4000000 in
theorem metX5_initn (n : Nat) : an_Met yX5_init cX5_init 1 none (1) (20) 2 100 (TX5n n) := by
  refine an_met (own := RX5) (ini := true) (by decide +kernel) rfl (fun _ => rfl) (kX5_init n ) (koX5_init n  ) 120 (fun _ _ _ _ _ => none) (fun live as M Ret h => ?_) (fun _ _ _ _ _ _ _ _ hI => by cases hI)
  unfold TX5n at h
  split at h
  · next r =>
    refine ⟨Nat.le_of_ble_eq_true rfl, ?_⟩
    change an_wp _ _ _ _ [(0, Value.ref r)] _ _
    have hh := am_if_mp h
    clear h
    obtain ⟨hb, h⟩ := hh
    rw [Bool.and_eq_true, Bool.and_eq_true] at hb
    obtain ⟨h1, h2, h3⟩ := hb
    have h1 := Nat.eq_of_beq_eq_true h1
    subst h1
    obtain ⟨E, rfl⟩ : ∃ E, live = an_ho r 2 E := ⟨live, an_ho_of h3⟩
    clear h3
    have h2 := an_t5_of h2
    rcases h2 with rfl | rfl | rfl | rfl | rfl | rfl | rfl | rfl | rfl | rfl | rfl | rfl | rfl | rfl | rfl
    repeat' (first | exact rfl | apply And.intro | intro hx | (refine Exists.intro _ (And.intro rfl ?_)))
    all_goals try first | (with_reducible change am_tI _ _) | (change Ret _ _) | (change Ret _ _ _) | (change Exists _)
    all_goals try dsimp only at *
    all_goals try exact absurd ‹(1000 : Int64) = 0› (by decide)
    all_goals exact h
  · exact h.elim
def TX5_init : an_T := fun E as M R => match as with
  | [.ref n] => TX5n n E [.ref n] M R
  | _ => False
theorem metX5_init : an_Met yX5_init cX5_init 1 none 1 20 2 100 TX5_init := by
  intro l D cA al B live as M Ret hcl hT
  unfold TX5_init at hT
  split at hT
  · next n => exact metX5_initn n l D cA al B live _ M Ret hcl hT
  · exact hT.elim
theorem wd_101 : Cond.methodLink "LearnLoans$People" 3 objectInit ∈ am_ws := am_wsi (List.mem_of_getElem? (i := 101) (by decide +kernel)) (by decide +kernel)
theorem wd_105 : Cond.fieldLink "LearnLoans$People" 9 "LearnLoans$People" "began" "[I" ∈ am_ws := am_wsi (List.mem_of_getElem? (i := 105) (by decide +kernel)) (by decide +kernel)
theorem wd_110 : Cond.fieldLink "LearnLoans$People" 18 "LearnLoans$People" "lands" "[I" ∈ am_ws := am_wsi (List.mem_of_getElem? (i := 110) (by decide +kernel)) (by decide +kernel)
theorem wd_102 : Cond.methodLink "LearnLoans$People" 33 yJ7_fill_53178 ∈ am_ws := am_wsi (List.mem_of_getElem? (i := 102) (by decide +kernel)) (by decide +kernel)
theorem wd_103 : Cond.static yJ7_fill_53178 ∈ am_ws := am_wsi (List.mem_of_getElem? (i := 103) (by decide +kernel)) (by decide +kernel)
theorem wd_63 : Cond.initialized "java/util/Arrays" ∈ am_ws := am_wsi (List.mem_of_getElem? (i := 63) (by decide +kernel)) (by decide +kernel)
theorem wd_104 : Cond.code yJ7_fill_53178 cJ7_fill_53178 4 none ∈ am_ws := am_wsi (List.mem_of_getElem? (i := 104) (by decide +kernel)) (by decide +kernel)
theorem dX2_init_0 : decode cX2_init 0 = .ok (.aload_n 0, 1) := by decide +kernel
theorem dX2_init_1 : decode cX2_init 1 = .ok (.invokespecial 3, 3) := by decide +kernel
theorem dX2_init_4 : decode cX2_init 4 = .ok (.aload_n 0, 1) := by decide +kernel
theorem dX2_init_5 : decode cX2_init 5 = .ok (.bipush 12, 2) := by decide +kernel
theorem dX2_init_7 : decode cX2_init 7 = .ok (.newarray .int, 2) := by decide +kernel
theorem dX2_init_9 : decode cX2_init 9 = .ok (.putfield 9, 3) := by decide +kernel
theorem dX2_init_12 : decode cX2_init 12 = .ok (.aload_n 0, 1) := by decide +kernel
theorem dX2_init_13 : decode cX2_init 13 = .ok (.bipush 12, 2) := by decide +kernel
theorem dX2_init_15 : decode cX2_init 15 = .ok (.newarray .int, 2) := by decide +kernel
theorem dX2_init_17 : decode cX2_init 17 = .ok (.putfield 15, 3) := by decide +kernel
theorem dX2_init_20 : decode cX2_init 20 = .ok (.aload_n 0, 1) := by decide +kernel
theorem dX2_init_21 : decode cX2_init 21 = .ok (.sipush 480, 3) := by decide +kernel
theorem dX2_init_24 : decode cX2_init 24 = .ok (.newarray .int, 2) := by decide +kernel
theorem dX2_init_26 : decode cX2_init 26 = .ok (.putfield 18, 3) := by decide +kernel
theorem dX2_init_29 : decode cX2_init 29 = .ok (.aload_n 0, 1) := by decide +kernel
theorem dX2_init_30 : decode cX2_init 30 = .ok (.sipush 480, 3) := by decide +kernel
theorem dX2_init_33 : decode cX2_init 33 = .ok (.newarray .int, 2) := by decide +kernel
theorem dX2_init_35 : decode cX2_init 35 = .ok (.putfield 21, 3) := by decide +kernel
theorem dX2_init_38 : decode cX2_init 38 = .ok (.aload_n 0, 1) := by decide +kernel
theorem dX2_init_39 : decode cX2_init 39 = .ok (.sipush 480, 3) := by decide +kernel
theorem dX2_init_42 : decode cX2_init 42 = .ok (.newarray .int, 2) := by decide +kernel
theorem dX2_init_44 : decode cX2_init 44 = .ok (.putfield 24, 3) := by decide +kernel
theorem dX2_init_47 : decode cX2_init 47 = .ok (.aload_n 0, 1) := by decide +kernel
theorem dX2_init_48 : decode cX2_init 48 = .ok (.sipush 480, 3) := by decide +kernel
theorem dX2_init_51 : decode cX2_init 51 = .ok (.newarray .int, 2) := by decide +kernel
theorem dX2_init_53 : decode cX2_init 53 = .ok (.putfield 27, 3) := by decide +kernel
theorem dX2_init_56 : decode cX2_init 56 = .ok (.aload_n 0, 1) := by decide +kernel
theorem dX2_init_57 : decode cX2_init 57 = .ok (.sipush 480, 3) := by decide +kernel
theorem dX2_init_60 : decode cX2_init 60 = .ok (.newarray .int, 2) := by decide +kernel
theorem dX2_init_62 : decode cX2_init 62 = .ok (.putfield 30, 3) := by decide +kernel
theorem dX2_init_65 : decode cX2_init 65 = .ok (.aload_n 0, 1) := by decide +kernel
theorem dX2_init_66 : decode cX2_init 66 = .ok (.getfield 15, 3) := by decide +kernel
theorem dX2_init_69 : decode cX2_init 69 = .ok (.iconst (-1), 1) := by decide +kernel
theorem dX2_init_70 : decode cX2_init 70 = .ok (.invokestatic 33, 3) := by decide +kernel
theorem dX2_init_73 : decode cX2_init 73 = .ok (.aload_n 0, 1) := by decide +kernel
theorem dX2_init_74 : decode cX2_init 74 = .ok (.getfield 24, 3) := by decide +kernel
theorem dX2_init_77 : decode cX2_init 77 = .ok (.iconst (-1), 1) := by decide +kernel
theorem dX2_init_78 : decode cX2_init 78 = .ok (.invokestatic 33, 3) := by decide +kernel
theorem dX2_init_81 : decode cX2_init 81 = .ok (.aload_n 0, 1) := by decide +kernel
theorem dX2_init_82 : decode cX2_init 82 = .ok (.getfield 30, 3) := by decide +kernel
theorem dX2_init_85 : decode cX2_init 85 = .ok (.iconst (-1), 1) := by decide +kernel
theorem dX2_init_86 : decode cX2_init 86 = .ok (.invokestatic 33, 3) := by decide +kernel
theorem dX2_init_89 : decode cX2_init 89 = .ok (.return_, 1) := by decide +kernel
def kX2_init (n : Nat) (Ret : an_R) : an_code := [(0, an_lf (fun live => am_aload 0 1)), (1, an_obj 23 4), (4, an_lf (fun live => am_aload 0 5)), (5, an_lf (fun live => am_const (.int 12) 7)), (7, an_newa 0 12 (fun L => n + 1) 7 2424 9), (9, an_putFR 2 0 12), (12, an_lf (fun live => am_aload 0 13)), (13, an_lf (fun live => am_const (.int 12) 15)), (15, an_newa 0 12 (fun L => n + 2) 7 2424 17), (17, an_putFR 2 1 20), (20, an_lf (fun live => am_aload 0 21)), (21, an_lf (fun live => am_const (.int 480) 24)), (24, an_newa 0 480 (fun L => n + 3) 7 2424 26), (26, an_putFR 2 2 29), (29, an_lf (fun live => am_aload 0 30)), (30, an_lf (fun live => am_const (.int 480) 33)), (33, an_newa 0 480 (fun L => n + 4) 7 2424 35), (35, an_putFR 2 3 38), (38, an_lf (fun live => am_aload 0 39)), (39, an_lf (fun live => am_const (.int 480) 42)), (42, an_newa 0 480 (fun L => n + 5) 7 2424 44), (44, an_putFR 2 4 47), (47, an_lf (fun live => am_aload 0 48)), (48, an_lf (fun live => am_const (.int 480) 51)), (51, an_newa 0 480 (fun L => n + 6) 7 2424 53), (53, an_putFR 2 5 56), (56, an_lf (fun live => am_aload 0 57)), (57, an_lf (fun live => am_const (.int 480) 60)), (60, an_newa 0 480 (fun L => n + 7) 7 2424 62), (62, an_putFR 2 6 65), (65, an_lf (fun live => am_aload 0 66)), (66, an_lf (fun live => am_getR live 2 1 69)), (69, an_lf (fun live => am_const (.int (-1)) 70)), (70, an_lf (fun live => am_callS live 2 TJ7_fill_53178 73)), (73, an_lf (fun live => am_aload 0 74)), (74, an_lf (fun live => am_getR live 2 4 77)), (77, an_lf (fun live => am_const (.int (-1)) 78)), (78, an_lf (fun live => am_callS live 2 TJ7_fill_53178 81)), (81, an_lf (fun live => am_aload 0 82)), (82, an_lf (fun live => am_getR live 2 6 85)), (85, an_lf (fun live => am_const (.int (-1)) 86)), (86, an_lf (fun live => am_callS live 2 TJ7_fill_53178 89)), (89, an_retV Ret)]
theorem koX2_init (n : Nat) (Ret : an_R) : ∀ q ∈ kX2_init n Ret, an_ok RX2 cX2_init 1 none 1 23 7 2424 true (fun _ _ _ => True) Ret q.1 q.2 :=
  an_kc (an_lift (fun live => ak_aload_n dX2_init_0 rfl rfl)) <|
  an_kc (nk_obj (am_w3 wd_101 wd_76 wd_77) (by decide) dX2_init_1 rfl) <|
  an_kc (an_lift (fun live => ak_aload_n dX2_init_4 rfl rfl)) <|
  an_kc (an_lift (fun live => ak_bipush dX2_init_5 (by decide +kernel) rfl)) <|
  an_kc (nk_newa (t := 0) (len := 12) (atype := .int) (ty := .int) rfl (fun _ => rfl) (fun _ z => by cases z) (fun _ => rfl) wd_140 (by decide) dX2_init_7 rfl) <|
  an_kc (nk_putFR (C := RX2) (C2 := RX2) (T := TX2) (N := 8) rfl inX2w tyX2_ok nmX2 (by decide) rfl rfl rfl rfl rfl (tyX2_ok 0 (by decide)) (fun _ => ⟨rfl, rfl⟩) rfl wd_105 dX2_init_9 rfl) <|
  an_kc (an_lift (fun live => ak_aload_n dX2_init_12 rfl rfl)) <|
  an_kc (an_lift (fun live => ak_bipush dX2_init_13 (by decide +kernel) rfl)) <|
  an_kc (nk_newa (t := 0) (len := 12) (atype := .int) (ty := .int) rfl (fun _ => rfl) (fun _ z => by cases z) (fun _ => rfl) wd_140 (by decide) dX2_init_15 rfl) <|
  an_kc (nk_putFR (C := RX2) (C2 := RX2) (T := TX2) (N := 8) rfl inX2w tyX2_ok nmX2 (by decide) rfl rfl rfl rfl rfl (tyX2_ok 1 (by decide)) (fun _ => ⟨rfl, rfl⟩) rfl wd_108 dX2_init_17 rfl) <|
  an_kc (an_lift (fun live => ak_aload_n dX2_init_20 rfl rfl)) <|
  an_kc (an_lift (fun live => ak_sipush dX2_init_21 (by decide +kernel) rfl)) <|
  an_kc (nk_newa (t := 0) (len := 480) (atype := .int) (ty := .int) rfl (fun _ => rfl) (fun _ z => by cases z) (fun _ => rfl) wd_140 (by decide) dX2_init_24 rfl) <|
  an_kc (nk_putFR (C := RX2) (C2 := RX2) (T := TX2) (N := 8) rfl inX2w tyX2_ok nmX2 (by decide) rfl rfl rfl rfl rfl (tyX2_ok 2 (by decide)) (fun _ => ⟨rfl, rfl⟩) rfl wd_110 dX2_init_26 rfl) <|
  an_kc (an_lift (fun live => ak_aload_n dX2_init_29 rfl rfl)) <|
  an_kc (an_lift (fun live => ak_sipush dX2_init_30 (by decide +kernel) rfl)) <|
  an_kc (nk_newa (t := 0) (len := 480) (atype := .int) (ty := .int) rfl (fun _ => rfl) (fun _ z => by cases z) (fun _ => rfl) wd_140 (by decide) dX2_init_33 rfl) <|
  an_kc (nk_putFR (C := RX2) (C2 := RX2) (T := TX2) (N := 8) rfl inX2w tyX2_ok nmX2 (by decide) rfl rfl rfl rfl rfl (tyX2_ok 3 (by decide)) (fun _ => ⟨rfl, rfl⟩) rfl wd_113 dX2_init_35 rfl) <|
  an_kc (an_lift (fun live => ak_aload_n dX2_init_38 rfl rfl)) <|
  an_kc (an_lift (fun live => ak_sipush dX2_init_39 (by decide +kernel) rfl)) <|
  an_kc (nk_newa (t := 0) (len := 480) (atype := .int) (ty := .int) rfl (fun _ => rfl) (fun _ z => by cases z) (fun _ => rfl) wd_140 (by decide) dX2_init_42 rfl) <|
  an_kc (nk_putFR (C := RX2) (C2 := RX2) (T := TX2) (N := 8) rfl inX2w tyX2_ok nmX2 (by decide) rfl rfl rfl rfl rfl (tyX2_ok 4 (by decide)) (fun _ => ⟨rfl, rfl⟩) rfl wd_115 dX2_init_44 rfl) <|
  an_kc (an_lift (fun live => ak_aload_n dX2_init_47 rfl rfl)) <|
  an_kc (an_lift (fun live => ak_sipush dX2_init_48 (by decide +kernel) rfl)) <|
  an_kc (nk_newa (t := 0) (len := 480) (atype := .int) (ty := .int) rfl (fun _ => rfl) (fun _ z => by cases z) (fun _ => rfl) wd_140 (by decide) dX2_init_51 rfl) <|
  an_kc (nk_putFR (C := RX2) (C2 := RX2) (T := TX2) (N := 8) rfl inX2w tyX2_ok nmX2 (by decide) rfl rfl rfl rfl rfl (tyX2_ok 5 (by decide)) (fun _ => ⟨rfl, rfl⟩) rfl wd_117 dX2_init_53 rfl) <|
  an_kc (an_lift (fun live => ak_aload_n dX2_init_56 rfl rfl)) <|
  an_kc (an_lift (fun live => ak_sipush dX2_init_57 (by decide +kernel) rfl)) <|
  an_kc (nk_newa (t := 0) (len := 480) (atype := .int) (ty := .int) rfl (fun _ => rfl) (fun _ z => by cases z) (fun _ => rfl) wd_140 (by decide) dX2_init_60 rfl) <|
  an_kc (nk_putFR (C := RX2) (C2 := RX2) (T := TX2) (N := 8) rfl inX2w tyX2_ok nmX2 (by decide) rfl rfl rfl rfl rfl (tyX2_ok 6 (by decide)) (fun _ => ⟨rfl, rfl⟩) rfl wd_119 dX2_init_62 rfl) <|
  an_kc (an_lift (fun live => ak_aload_n dX2_init_65 rfl rfl)) <|
  an_kc (an_lift (fun live => ak_getR (C := RX2) (T := TX2) (N := 8) rfl inX2w (by decide) rfl rfl rfl wd_108 dX2_init_66 rfl)) <|
  an_kc (an_lift (fun live => ak_iconst dX2_init_69 (by decide +kernel) rfl)) <|
  an_kc (an_lift (fun live => ak_callSO metJ7_fill_53178 ⟨by decide +kernel, by decide +kernel, by decide +kernel⟩ (am_w4 wd_102 wd_103 wd_63 wd_104) (by decide) dX2_init_70 rfl)) <|
  an_kc (an_lift (fun live => ak_aload_n dX2_init_73 rfl rfl)) <|
  an_kc (an_lift (fun live => ak_getR (C := RX2) (T := TX2) (N := 8) rfl inX2w (by decide) rfl rfl rfl wd_115 dX2_init_74 rfl)) <|
  an_kc (an_lift (fun live => ak_iconst dX2_init_77 (by decide +kernel) rfl)) <|
  an_kc (an_lift (fun live => ak_callSO metJ7_fill_53178 ⟨by decide +kernel, by decide +kernel, by decide +kernel⟩ (am_w4 wd_102 wd_103 wd_63 wd_104) (by decide) dX2_init_78 rfl)) <|
  an_kc (an_lift (fun live => ak_aload_n dX2_init_81 rfl rfl)) <|
  an_kc (an_lift (fun live => ak_getR (C := RX2) (T := TX2) (N := 8) rfl inX2w (by decide) rfl rfl rfl wd_119 dX2_init_82 rfl)) <|
  an_kc (an_lift (fun live => ak_iconst dX2_init_85 (by decide +kernel) rfl)) <|
  an_kc (an_lift (fun live => ak_callSO metJ7_fill_53178 ⟨by decide +kernel, by decide +kernel, by decide +kernel⟩ (am_w4 wd_102 wd_103 wd_63 wd_104) (by decide) dX2_init_86 rfl)) <|
  an_kc (nk_retV dX2_init_89) <| an_kn
def eX2 (n : Nat) (E : am_E) : am_E := an_rE (an_bE (an_rE (an_bE (an_rE (an_bE (an_rE (an_bE (an_rE (an_bE (an_rE (an_bE (an_rE (an_bE (E) (n + 1)) n 0 (n + 1)) (n + 2)) n 1 (n + 2)) (n + 3)) n 2 (n + 3)) (n + 4)) n 3 (n + 4)) (n + 5)) n 4 (n + 5)) (n + 6)) n 5 (n + 6)) (n + 7)) n 6 (n + 7)
def mX2 (n : Nat) (M : am_M) : am_M := am_lay (am_lay (am_lay (an_bM (an_bM (an_bM (an_bM (an_bM (an_bM (an_bM (M) (n + 1)) (n + 2)) (n + 3)) (n + 4)) (n + 5)) (n + 6)) (n + 7)) (n + 2) 0 ((12 : Int) - 1) (-1)) (n + 5) 0 ((480 : Int) - 1) (-1)) (n + 7) 0 ((480 : Int) - 1) (-1)
def TX2n (n : Nat) : an_T := fun E as M R => match as with
  | [.ref r] => am_if (Nat.beq r n && (an_t2 n && an_fc E n 7)) (R none (eX2 n E) (mX2 n M))
  | _ => False
theorem an_t2_of {n : Nat} (h : an_t2 n = true) : n = 21 ∨ n = 61 ∨ n = 101 := by
  unfold an_t2 at h
  simpa using h
set_option maxRecDepth 100000 in
set_option maxHeartbeats 4000000 in
theorem metX2_initn (n : Nat) : an_Met yX2_init cX2_init 1 none (1) (23) 7 2424 (TX2n n) := by
  refine an_met (own := RX2) (ini := true) (by decide +kernel) rfl (fun _ => rfl) (kX2_init n ) (koX2_init n  ) 120 (fun _ _ _ _ _ => none) (fun live as M Ret h => ?_) (fun _ _ _ _ _ _ _ _ hI => by cases hI)
  unfold TX2n at h
  split at h
  · next r =>
    refine ⟨Nat.le_of_ble_eq_true rfl, ?_⟩
    change an_wp _ _ _ _ [(0, Value.ref r)] _ _
    have hh := am_if_mp h
    clear h
    obtain ⟨hb, h⟩ := hh
    rw [Bool.and_eq_true, Bool.and_eq_true] at hb
    obtain ⟨h1, h2, h3⟩ := hb
    have h1 := Nat.eq_of_beq_eq_true h1
    subst h1
    obtain ⟨E, rfl⟩ : ∃ E, live = an_ho r 7 E := ⟨live, an_ho_of h3⟩
    clear h3
    have h2 := an_t2_of h2
    rcases h2 with rfl | rfl | rfl
    repeat' (first | exact rfl | apply And.intro | intro hx | (refine Exists.intro _ (And.intro rfl ?_)))
    all_goals try first | (with_reducible change am_tI _ _) | (change Ret _ _) | (change Ret _ _ _) | (change Exists _)
    all_goals try dsimp only at *
    all_goals try exact absurd ‹(1000 : Int64) = 0› (by decide)
    all_goals exact h
  · exact h.elim
def TX2_init : an_T := fun E as M R => match as with
  | [.ref n] => TX2n n E [.ref n] M R
  | _ => False
theorem metX2_init : an_Met yX2_init cX2_init 1 none 1 23 7 2424 TX2_init := by
  intro l D cA al B live as M Ret hcl hT
  unfold TX2_init at hT
  split at hT
  · next n => exact metX2_initn n l D cA al B live _ M Ret hcl hT
  · exact hT.elim
end
section
def an_t0 (n : Nat) : Bool := [20, 60, 100].contains n
theorem an_t0_of {n : Nat} (h : an_t0 n = true) : n = 20 ∨ n = 60 ∨ n = 100 := by
  unfold an_t0 at h
  simpa using h
theorem wd_95 : Cond.methodLink "LearnLoans$House" 3 objectInit ∈ am_ws := am_wsi (List.mem_of_getElem? (i := 95) (by decide +kernel)) (by decide +kernel)
theorem wd_96 : Cond.classLink "LearnLoans$House" 9 "LearnLoans$People" ∈ am_ws := am_wsi (List.mem_of_getElem? (i := 96) (by decide +kernel)) (by decide +kernel)
theorem wd_97 : Cond.instantiable "LearnLoans$People" 8 ∈ am_ws := am_wsi (List.mem_of_getElem? (i := 97) (by decide +kernel)) (by decide +kernel)
theorem wd_62 : Cond.initialized "LearnLoans$People" ∈ am_ws := am_wsi (List.mem_of_getElem? (i := 62) (by decide +kernel)) (by decide +kernel)
theorem wd_98 : Cond.methodLink "LearnLoans$House" 11 yX2_init ∈ am_ws := am_wsi (List.mem_of_getElem? (i := 98) (by decide +kernel)) (by decide +kernel)
theorem wd_99 : Cond.instanceMethod yX2_init ∈ am_ws := am_wsi (List.mem_of_getElem? (i := 99) (by decide +kernel)) (by decide +kernel)
theorem wd_100 : Cond.code yX2_init cX2_init 1 none ∈ am_ws := am_wsi (List.mem_of_getElem? (i := 100) (by decide +kernel)) (by decide +kernel)
theorem wd_193 : Cond.fieldLink "LearnLoans$House" 12 "LearnLoans$House" "people" "LLearnLoans$People;" ∈ am_ws := am_wsi (List.mem_of_getElem? (i := 193) (by decide +kernel)) (by decide +kernel)
theorem wd_196 : Cond.fieldLink "LearnLoans$House" 18 "LearnLoans$House" "scales" "[I" ∈ am_ws := am_wsi (List.mem_of_getElem? (i := 196) (by decide +kernel)) (by decide +kernel)
theorem wd_199 : Cond.fieldLink "LearnLoans$House" 22 "LearnLoans$House" "prices" "[I" ∈ am_ws := am_wsi (List.mem_of_getElem? (i := 199) (by decide +kernel)) (by decide +kernel)
theorem wd_141 : Cond.classLink "LearnLoans$House" 25 "LearnLoans$Rows" ∈ am_ws := am_wsi (List.mem_of_getElem? (i := 141) (by decide +kernel)) (by decide +kernel)
theorem wd_142 : Cond.instantiable "LearnLoans$Rows" 3 ∈ am_ws := am_wsi (List.mem_of_getElem? (i := 142) (by decide +kernel)) (by decide +kernel)
theorem wd_143 : Cond.methodLink "LearnLoans$House" 27 yX3_init ∈ am_ws := am_wsi (List.mem_of_getElem? (i := 143) (by decide +kernel)) (by decide +kernel)
theorem wd_144 : Cond.instanceMethod yX3_init ∈ am_ws := am_wsi (List.mem_of_getElem? (i := 144) (by decide +kernel)) (by decide +kernel)
theorem wd_145 : Cond.code yX3_init cX3_init 3 none ∈ am_ws := am_wsi (List.mem_of_getElem? (i := 145) (by decide +kernel)) (by decide +kernel)
theorem wd_208 : Cond.fieldLink "LearnLoans$House" 37 "LearnLoans$House" "moves" "LLearnLoans$Rows;" ∈ am_ws := am_wsi (List.mem_of_getElem? (i := 208) (by decide +kernel)) (by decide +kernel)
theorem wd_210 : Cond.fieldLink "LearnLoans$House" 40 "LearnLoans$House" "planAt" "[I" ∈ am_ws := am_wsi (List.mem_of_getElem? (i := 210) (by decide +kernel)) (by decide +kernel)
theorem wd_160 : Cond.classLink "LearnLoans$House" 43 "LearnLoans$Text" ∈ am_ws := am_wsi (List.mem_of_getElem? (i := 160) (by decide +kernel)) (by decide +kernel)
theorem wd_213 : Cond.fieldLink "LearnLoans$House" 45 "LearnLoans$House" "texts" "[LLearnLoans$Text;" ∈ am_ws := am_wsi (List.mem_of_getElem? (i := 213) (by decide +kernel)) (by decide +kernel)
theorem wd_218 : Cond.fieldLink "LearnLoans$House" 52 "LearnLoans$House" "lives" "[I" ∈ am_ws := am_wsi (List.mem_of_getElem? (i := 218) (by decide +kernel)) (by decide +kernel)
theorem wd_221 : Cond.fieldLink "LearnLoans$House" 55 "LearnLoans$House" "chances" "[I" ∈ am_ws := am_wsi (List.mem_of_getElem? (i := 221) (by decide +kernel)) (by decide +kernel)
theorem wd_224 : Cond.fieldLink "LearnLoans$House" 58 "LearnLoans$House" "told" "[I" ∈ am_ws := am_wsi (List.mem_of_getElem? (i := 224) (by decide +kernel)) (by decide +kernel)
theorem wd_162 : Cond.methodLink "LearnLoans$House" 61 yJ7_fill_53178 ∈ am_ws := am_wsi (List.mem_of_getElem? (i := 162) (by decide +kernel)) (by decide +kernel)
theorem wd_163 : Cond.instantiable "LearnLoans$Text" 7 ∈ am_ws := am_wsi (List.mem_of_getElem? (i := 163) (by decide +kernel)) (by decide +kernel)
theorem wd_165 : Cond.instanceMethod yX5_init ∈ am_ws := am_wsi (List.mem_of_getElem? (i := 165) (by decide +kernel)) (by decide +kernel)
theorem wd_166 : Cond.code yX5_init cX5_init 1 none ∈ am_ws := am_wsi (List.mem_of_getElem? (i := 166) (by decide +kernel)) (by decide +kernel)
theorem dX0_init_0 : decode cX0_init 0 = .ok (.aload_n 0, 1) := by decide +kernel
theorem dX0_init_1 : decode cX0_init 1 = .ok (.invokespecial 3, 3) := by decide +kernel
theorem dX0_init_4 : decode cX0_init 4 = .ok (.aload_n 0, 1) := by decide +kernel
theorem dX0_init_5 : decode cX0_init 5 = .ok (.new 9, 3) := by decide +kernel
theorem dX0_init_8 : decode cX0_init 8 = .ok (.dup, 1) := by decide +kernel
theorem dX0_init_9 : decode cX0_init 9 = .ok (.invokespecial 11, 3) := by decide +kernel
theorem dX0_init_12 : decode cX0_init 12 = .ok (.putfield 12, 3) := by decide +kernel
theorem dX0_init_15 : decode cX0_init 15 = .ok (.aload_n 0, 1) := by decide +kernel
theorem dX0_init_16 : decode cX0_init 16 = .ok (.iconst 4, 1) := by decide +kernel
theorem dX0_init_17 : decode cX0_init 17 = .ok (.newarray .int, 2) := by decide +kernel
theorem dX0_init_19 : decode cX0_init 19 = .ok (.putfield 18, 3) := by decide +kernel
theorem dX0_init_22 : decode cX0_init 22 = .ok (.aload_n 0, 1) := by decide +kernel
theorem dX0_init_23 : decode cX0_init 23 = .ok (.bipush 40, 2) := by decide +kernel
theorem dX0_init_25 : decode cX0_init 25 = .ok (.newarray .int, 2) := by decide +kernel
theorem dX0_init_27 : decode cX0_init 27 = .ok (.putfield 22, 3) := by decide +kernel
theorem dX0_init_30 : decode cX0_init 30 = .ok (.aload_n 0, 1) := by decide +kernel
theorem dX0_init_31 : decode cX0_init 31 = .ok (.new 25, 3) := by decide +kernel
theorem dX0_init_34 : decode cX0_init 34 = .ok (.dup, 1) := by decide +kernel
theorem dX0_init_35 : decode cX0_init 35 = .ok (.sipush 366, 3) := by decide +kernel
theorem dX0_init_38 : decode cX0_init 38 = .ok (.newarray .int, 2) := by decide +kernel
theorem dX0_init_40 : decode cX0_init 40 = .ok (.bipush 6, 2) := by decide +kernel
theorem dX0_init_42 : decode cX0_init 42 = .ok (.invokespecial 27, 3) := by decide +kernel
theorem dX0_init_45 : decode cX0_init 45 = .ok (.putfield 30, 3) := by decide +kernel
theorem dX0_init_48 : decode cX0_init 48 = .ok (.aload_n 0, 1) := by decide +kernel
theorem dX0_init_49 : decode cX0_init 49 = .ok (.new 25, 3) := by decide +kernel
theorem dX0_init_52 : decode cX0_init 52 = .ok (.dup, 1) := by decide +kernel
theorem dX0_init_53 : decode cX0_init 53 = .ok (.sipush 240, 3) := by decide +kernel
theorem dX0_init_56 : decode cX0_init 56 = .ok (.newarray .int, 2) := by decide +kernel
theorem dX0_init_58 : decode cX0_init 58 = .ok (.bipush 8, 2) := by decide +kernel
theorem dX0_init_60 : decode cX0_init 60 = .ok (.invokespecial 27, 3) := by decide +kernel
theorem dX0_init_63 : decode cX0_init 63 = .ok (.putfield 34, 3) := by decide +kernel
theorem dX0_init_66 : decode cX0_init 66 = .ok (.aload_n 0, 1) := by decide +kernel
theorem dX0_init_67 : decode cX0_init 67 = .ok (.new 25, 3) := by decide +kernel
theorem dX0_init_70 : decode cX0_init 70 = .ok (.dup, 1) := by decide +kernel
theorem dX0_init_71 : decode cX0_init 71 = .ok (.sipush 180, 3) := by decide +kernel
theorem dX0_init_74 : decode cX0_init 74 = .ok (.newarray .int, 2) := by decide +kernel
theorem dX0_init_76 : decode cX0_init 76 = .ok (.iconst 3, 1) := by decide +kernel
theorem dX0_init_77 : decode cX0_init 77 = .ok (.invokespecial 27, 3) := by decide +kernel
theorem dX0_init_80 : decode cX0_init 80 = .ok (.putfield 37, 3) := by decide +kernel
theorem dX0_init_83 : decode cX0_init 83 = .ok (.aload_n 0, 1) := by decide +kernel
theorem dX0_init_84 : decode cX0_init 84 = .ok (.sipush 1200, 3) := by decide +kernel
theorem dX0_init_87 : decode cX0_init 87 = .ok (.newarray .int, 2) := by decide +kernel
theorem dX0_init_89 : decode cX0_init 89 = .ok (.putfield 40, 3) := by decide +kernel
theorem dX0_init_92 : decode cX0_init 92 = .ok (.aload_n 0, 1) := by decide +kernel
theorem dX0_init_93 : decode cX0_init 93 = .ok (.iconst 5, 1) := by decide +kernel
theorem dX0_init_94 : decode cX0_init 94 = .ok (.anewarray 43, 3) := by decide +kernel
theorem dX0_init_97 : decode cX0_init 97 = .ok (.putfield 45, 3) := by decide +kernel
theorem dX0_init_100 : decode cX0_init 100 = .ok (.aload_n 0, 1) := by decide +kernel
theorem dX0_init_101 : decode cX0_init 101 = .ok (.new 25, 3) := by decide +kernel
theorem dX0_init_104 : decode cX0_init 104 = .ok (.dup, 1) := by decide +kernel
theorem dX0_init_105 : decode cX0_init 105 = .ok (.bipush 60, 2) := by decide +kernel
theorem dX0_init_107 : decode cX0_init 107 = .ok (.newarray .int, 2) := by decide +kernel
theorem dX0_init_109 : decode cX0_init 109 = .ok (.iconst 3, 1) := by decide +kernel
theorem dX0_init_110 : decode cX0_init 110 = .ok (.invokespecial 27, 3) := by decide +kernel
theorem dX0_init_113 : decode cX0_init 113 = .ok (.putfield 49, 3) := by decide +kernel
theorem dX0_init_116 : decode cX0_init 116 = .ok (.aload_n 0, 1) := by decide +kernel
theorem dX0_init_117 : decode cX0_init 117 = .ok (.sipush 160, 3) := by decide +kernel
theorem dX0_init_120 : decode cX0_init 120 = .ok (.newarray .int, 2) := by decide +kernel
theorem dX0_init_122 : decode cX0_init 122 = .ok (.putfield 52, 3) := by decide +kernel
theorem dX0_init_125 : decode cX0_init 125 = .ok (.aload_n 0, 1) := by decide +kernel
theorem dX0_init_126 : decode cX0_init 126 = .ok (.bipush 16, 2) := by decide +kernel
theorem dX0_init_128 : decode cX0_init 128 = .ok (.newarray .int, 2) := by decide +kernel
theorem dX0_init_130 : decode cX0_init 130 = .ok (.putfield 55, 3) := by decide +kernel
theorem dX0_init_133 : decode cX0_init 133 = .ok (.aload_n 0, 1) := by decide +kernel
theorem dX0_init_134 : decode cX0_init 134 = .ok (.bipush 9, 2) := by decide +kernel
theorem dX0_init_136 : decode cX0_init 136 = .ok (.newarray .int, 2) := by decide +kernel
theorem dX0_init_138 : decode cX0_init 138 = .ok (.putfield 58, 3) := by decide +kernel
theorem dX0_init_141 : decode cX0_init 141 = .ok (.aload_n 0, 1) := by decide +kernel
theorem dX0_init_142 : decode cX0_init 142 = .ok (.getfield 18, 3) := by decide +kernel
theorem dX0_init_145 : decode cX0_init 145 = .ok (.sipush 1000, 3) := by decide +kernel
theorem dX0_init_148 : decode cX0_init 148 = .ok (.invokestatic 61, 3) := by decide +kernel
theorem dX0_init_151 : decode cX0_init 151 = .ok (.iconst 0, 1) := by decide +kernel
theorem dX0_init_152 : decode cX0_init 152 = .ok (.istore_n 1, 1) := by decide +kernel
theorem dX0_init_153 : decode cX0_init 153 = .ok (.iload_n 1, 1) := by decide +kernel
theorem dX0_init_154 : decode cX0_init 154 = .ok (.iconst 5, 1) := by decide +kernel
theorem dX0_init_155 : decode cX0_init 155 = .ok (.if_icmp .ge 22, 3) := by decide +kernel
theorem dX0_init_158 : decode cX0_init 158 = .ok (.aload_n 0, 1) := by decide +kernel
theorem dX0_init_159 : decode cX0_init 159 = .ok (.getfield 45, 3) := by decide +kernel
theorem dX0_init_162 : decode cX0_init 162 = .ok (.iload_n 1, 1) := by decide +kernel
theorem dX0_init_163 : decode cX0_init 163 = .ok (.new 43, 3) := by decide +kernel
theorem dX0_init_166 : decode cX0_init 166 = .ok (.dup, 1) := by decide +kernel
theorem dX0_init_167 : decode cX0_init 167 = .ok (.invokespecial 66, 3) := by decide +kernel
theorem dX0_init_170 : decode cX0_init 170 = .ok (.aastore, 1) := by decide +kernel
theorem dX0_init_171 : decode cX0_init 171 = .ok (.iinc 1 1, 3) := by decide +kernel
theorem dX0_init_174 : decode cX0_init 174 = .ok (.goto (-21), 3) := by decide +kernel
theorem dX0_init_177 : decode cX0_init 177 = .ok (.iconst 0, 1) := by decide +kernel
theorem dX0_init_178 : decode cX0_init 178 = .ok (.istore_n 1, 1) := by decide +kernel
theorem dX0_init_179 : decode cX0_init 179 = .ok (.iload_n 1, 1) := by decide +kernel
theorem dX0_init_180 : decode cX0_init 180 = .ok (.iconst 4, 1) := by decide +kernel
theorem dX0_init_181 : decode cX0_init 181 = .ok (.if_icmp .ge 21, 3) := by decide +kernel
theorem dX0_init_184 : decode cX0_init 184 = .ok (.aload_n 0, 1) := by decide +kernel
theorem dX0_init_185 : decode cX0_init 185 = .ok (.getfield 55, 3) := by decide +kernel
theorem dX0_init_188 : decode cX0_init 188 = .ok (.iload_n 1, 1) := by decide +kernel
theorem dX0_init_189 : decode cX0_init 189 = .ok (.iconst 4, 1) := by decide +kernel
theorem dX0_init_190 : decode cX0_init 190 = .ok (.imul, 1) := by decide +kernel
theorem dX0_init_191 : decode cX0_init 191 = .ok (.iload_n 1, 1) := by decide +kernel
theorem dX0_init_192 : decode cX0_init 192 = .ok (.iadd, 1) := by decide +kernel
theorem dX0_init_193 : decode cX0_init 193 = .ok (.bipush 10, 2) := by decide +kernel
theorem dX0_init_195 : decode cX0_init 195 = .ok (.iastore, 1) := by decide +kernel
theorem dX0_init_196 : decode cX0_init 196 = .ok (.iinc 1 1, 3) := by decide +kernel
theorem dX0_init_199 : decode cX0_init 199 = .ok (.goto (-20), 3) := by decide +kernel
theorem dX0_init_202 : decode cX0_init 202 = .ok (.return_, 1) := by decide +kernel
def kX0_init (b : Nat) (Ret : an_R) : an_code := [(0, an_lf (fun live => am_aload 0 1)), (1, an_obj 43 4), (4, an_lf (fun live => am_aload 0 5)), (5, an_new 2 8 (fun L => b + 1) 38 5259 8), (8, an_lf (fun live => am_dup 9)), (9, an_callI 2 0 TX2_init 38 5259 7 2424 12), (12, an_putFR 0 0 15), (15, an_lf (fun live => am_aload 0 16)), (16, an_lf (fun live => am_const (.int 4) 17)), (17, an_newa 0 4 (fun L => b + 9) 38 5259 19), (19, an_putFR 0 1 22), (22, an_lf (fun live => am_aload 0 23)), (23, an_lf (fun live => am_const (.int 40) 25)), (25, an_newa 0 40 (fun L => b + 10) 38 5259 27), (27, an_putFR 0 2 30), (30, an_lf (fun live => am_aload 0 31)), (31, an_new 3 3 (fun L => b + 11) 38 5259 34), (34, an_lf (fun live => am_dup 35)), (35, an_lf (fun live => am_const (.int 366) 38)), (38, an_newa 0 366 (fun L => b + 12) 38 5259 40), (40, an_lf (fun live => am_const (.int 6) 42)), (42, an_callI 3 2 TX3_init 38 5259 0 0 45), (45, an_putFR 0 3 48), (48, an_lf (fun live => am_aload 0 49)), (49, an_new 3 3 (fun L => b + 13) 38 5259 52), (52, an_lf (fun live => am_dup 53)), (53, an_lf (fun live => am_const (.int 240) 56)), (56, an_newa 0 240 (fun L => b + 14) 38 5259 58), (58, an_lf (fun live => am_const (.int 8) 60)), (60, an_callI 3 2 TX3_init 38 5259 0 0 63), (63, an_putFR 0 4 66), (66, an_lf (fun live => am_aload 0 67)), (67, an_new 3 3 (fun L => b + 15) 38 5259 70), (70, an_lf (fun live => am_dup 71)), (71, an_lf (fun live => am_const (.int 180) 74)), (74, an_newa 0 180 (fun L => b + 16) 38 5259 76), (76, an_lf (fun live => am_const (.int 3) 77)), (77, an_callI 3 2 TX3_init 38 5259 0 0 80), (80, an_putFR 0 5 83), (83, an_lf (fun live => am_aload 0 84)), (84, an_lf (fun live => am_const (.int 1200) 87)), (87, an_newa 0 1200 (fun L => b + 17) 38 5259 89), (89, an_putFR 0 6 92), (92, an_lf (fun live => am_aload 0 93)), (93, an_lf (fun live => am_const (.int 5) 94)), (94, an_newa 3 5 (fun L => b + 18) 38 5259 97), (97, an_putFR 0 7 100), (100, an_lf (fun live => am_aload 0 101)), (101, an_new 3 3 (fun L => b + 34) 38 5259 104), (104, an_lf (fun live => am_dup 105)), (105, an_lf (fun live => am_const (.int 60) 107)), (107, an_newa 0 60 (fun L => b + 35) 38 5259 109), (109, an_lf (fun live => am_const (.int 3) 110)), (110, an_callI 3 2 TX3_init 38 5259 0 0 113), (113, an_putFR 0 8 116), (116, an_lf (fun live => am_aload 0 117)), (117, an_lf (fun live => am_const (.int 160) 120)), (120, an_newa 0 160 (fun L => b + 36) 38 5259 122), (122, an_putFR 0 9 125), (125, an_lf (fun live => am_aload 0 126)), (126, an_lf (fun live => am_const (.int 16) 128)), (128, an_newa 0 16 (fun L => b + 37) 38 5259 130), (130, an_putFR 0 10 133), (133, an_lf (fun live => am_aload 0 134)), (134, an_lf (fun live => am_const (.int 9) 136)), (136, an_newa 0 9 (fun L => b + 38) 38 5259 138), (138, an_putFR 0 11 141), (141, an_lf (fun live => am_aload 0 142)), (142, an_lf (fun live => am_getR live 0 1 145)), (145, an_lf (fun live => am_const (.int 1000) 148)), (148, an_lf (fun live => am_callS live 2 TJ7_fill_53178 151)), (151, an_lf (fun live => am_const (.int 0) 152)), (152, an_lf (fun live => am_istore 1 2 153)), (153, an_lf (fun live => am_iload 1 154)), (154, an_lf (fun live => am_const (.int 5) 155)), (155, an_lf (fun live => am_if2 (fun x y => y ≤ x) 177 158)), (158, an_lf (fun live => am_aload 0 159)), (159, an_lf (fun live => am_getR live 0 7 162)), (162, an_lf (fun live => am_iload 1 163)), (163, an_new 5 7 (fun L => b + 19 + 3 * an_int L 1) 38 5259 166), (166, an_lf (fun live => am_dup 167)), (167, an_callI 5 0 TX5_init 38 5259 2 100 170), (170, an_astR 3 5 171), (171, an_lf (fun live => am_iinc 1 2 1 174)), (174, an_lf (fun live => am_goto 153)), (177, an_lf (fun live => am_const (.int 0) 178)), (178, an_lf (fun live => am_istore 1 2 179)), (179, an_lf (fun live => am_iload 1 180)), (180, an_lf (fun live => am_const (.int 4) 181)), (181, an_lf (fun live => am_if2 (fun x y => y ≤ x) 202 184)), (184, an_lf (fun live => am_aload 0 185)), (185, an_lf (fun live => am_getR live 0 10 188)), (188, an_lf (fun live => am_iload 1 189)), (189, an_lf (fun live => am_const (.int 4) 190)), (190, an_lf (fun live => am_i2 (fun x y => x * y) 191)), (191, an_lf (fun live => am_iload 1 192)), (192, an_lf (fun live => am_i2 (fun x y => x + y) 193)), (193, an_lf (fun live => am_const (.int 10) 195)), (195, an_lf (fun live => am_ast live 0 196)), (196, an_lf (fun live => am_iinc 1 2 1 199)), (199, an_lf (fun live => am_goto 179)), (202, an_retV Ret)]
theorem koX0_init (b : Nat) (Ret : an_R) : ∀ q ∈ kX0_init b Ret, an_ok RX0 cX0_init 2 none 2 43 38 5259 true (fun _ _ _ => True) Ret q.1 q.2 :=
  an_kc (an_lift (fun live => ak_aload_n dX0_init_0 rfl rfl)) <|
  an_kc (nk_obj (am_w3 wd_95 wd_76 wd_77) (by decide) dX0_init_1 rfl) <|
  an_kc (an_lift (fun live => ak_aload_n dX0_init_4 rfl rfl)) <|
  an_kc (nk_new (C := RX2) (T := TX2) (N := 8) (ty := tyX2) rfl inX2w tyX2_ok rfl zX2 (am_w3 wd_96 wd_97 wd_62) dX0_init_5 rfl) <|
  an_kc (an_lift (fun live => ak_dup dX0_init_8 rfl)) <|
  an_kc (nk_callI metX2_init rfl ⟨by decide +kernel, by decide +kernel, by decide +kernel⟩ (am_w4 wd_62 wd_98 wd_99 wd_100) (by decide) dX0_init_9 rfl) <|
  an_kc (nk_putFR (C := RX0) (C2 := RX0) (T := TX0) (N := 13) rfl inX0w tyX0_ok nmX0 (by decide) rfl rfl rfl rfl rfl (tyX0_ok 0 (by decide)) (fun _ => ⟨rfl, rfl⟩) rfl wd_193 dX0_init_12 rfl) <|
  an_kc (an_lift (fun live => ak_aload_n dX0_init_15 rfl rfl)) <|
  an_kc (an_lift (fun live => ak_iconst dX0_init_16 (by decide +kernel) rfl)) <|
  an_kc (nk_newa (t := 0) (len := 4) (atype := .int) (ty := .int) rfl (fun _ => rfl) (fun _ z => by cases z) (fun _ => rfl) wd_140 (by decide) dX0_init_17 rfl) <|
  an_kc (nk_putFR (C := RX0) (C2 := RX0) (T := TX0) (N := 13) rfl inX0w tyX0_ok nmX0 (by decide) rfl rfl rfl rfl rfl (tyX0_ok 1 (by decide)) (fun _ => ⟨rfl, rfl⟩) rfl wd_196 dX0_init_19 rfl) <|
  an_kc (an_lift (fun live => ak_aload_n dX0_init_22 rfl rfl)) <|
  an_kc (an_lift (fun live => ak_bipush dX0_init_23 (by decide +kernel) rfl)) <|
  an_kc (nk_newa (t := 0) (len := 40) (atype := .int) (ty := .int) rfl (fun _ => rfl) (fun _ z => by cases z) (fun _ => rfl) wd_140 (by decide) dX0_init_25 rfl) <|
  an_kc (nk_putFR (C := RX0) (C2 := RX0) (T := TX0) (N := 13) rfl inX0w tyX0_ok nmX0 (by decide) rfl rfl rfl rfl rfl (tyX0_ok 2 (by decide)) (fun _ => ⟨rfl, rfl⟩) rfl wd_199 dX0_init_27 rfl) <|
  an_kc (an_lift (fun live => ak_aload_n dX0_init_30 rfl rfl)) <|
  an_kc (nk_new (C := RX3) (T := TX3) (N := 3) (ty := tyX3) rfl inX3w tyX3_ok rfl zX3 (am_w3 wd_141 wd_142 wd_64) dX0_init_31 rfl) <|
  an_kc (an_lift (fun live => ak_dup dX0_init_34 rfl)) <|
  an_kc (an_lift (fun live => ak_sipush dX0_init_35 (by decide +kernel) rfl)) <|
  an_kc (nk_newa (t := 0) (len := 366) (atype := .int) (ty := .int) rfl (fun _ => rfl) (fun _ z => by cases z) (fun _ => rfl) wd_140 (by decide) dX0_init_38 rfl) <|
  an_kc (an_lift (fun live => ak_bipush dX0_init_40 (by decide +kernel) rfl)) <|
  an_kc (nk_callI metX3_init rfl ⟨by decide +kernel, by decide +kernel, by decide +kernel⟩ (am_w4 wd_64 wd_143 wd_144 wd_145) (by decide) dX0_init_42 rfl) <|
  an_kc (nk_putFR (C := RX0) (C2 := RX0) (T := TX0) (N := 13) rfl inX0w tyX0_ok nmX0 (by decide) rfl rfl rfl rfl rfl (tyX0_ok 3 (by decide)) (fun _ => ⟨rfl, rfl⟩) rfl wd_202 dX0_init_45 rfl) <|
  an_kc (an_lift (fun live => ak_aload_n dX0_init_48 rfl rfl)) <|
  an_kc (nk_new (C := RX3) (T := TX3) (N := 3) (ty := tyX3) rfl inX3w tyX3_ok rfl zX3 (am_w3 wd_141 wd_142 wd_64) dX0_init_49 rfl) <|
  an_kc (an_lift (fun live => ak_dup dX0_init_52 rfl)) <|
  an_kc (an_lift (fun live => ak_sipush dX0_init_53 (by decide +kernel) rfl)) <|
  an_kc (nk_newa (t := 0) (len := 240) (atype := .int) (ty := .int) rfl (fun _ => rfl) (fun _ z => by cases z) (fun _ => rfl) wd_140 (by decide) dX0_init_56 rfl) <|
  an_kc (an_lift (fun live => ak_bipush dX0_init_58 (by decide +kernel) rfl)) <|
  an_kc (nk_callI metX3_init rfl ⟨by decide +kernel, by decide +kernel, by decide +kernel⟩ (am_w4 wd_64 wd_143 wd_144 wd_145) (by decide) dX0_init_60 rfl) <|
  an_kc (nk_putFR (C := RX0) (C2 := RX0) (T := TX0) (N := 13) rfl inX0w tyX0_ok nmX0 (by decide) rfl rfl rfl rfl rfl (tyX0_ok 4 (by decide)) (fun _ => ⟨rfl, rfl⟩) rfl wd_205 dX0_init_63 rfl) <|
  an_kc (an_lift (fun live => ak_aload_n dX0_init_66 rfl rfl)) <|
  an_kc (nk_new (C := RX3) (T := TX3) (N := 3) (ty := tyX3) rfl inX3w tyX3_ok rfl zX3 (am_w3 wd_141 wd_142 wd_64) dX0_init_67 rfl) <|
  an_kc (an_lift (fun live => ak_dup dX0_init_70 rfl)) <|
  an_kc (an_lift (fun live => ak_sipush dX0_init_71 (by decide +kernel) rfl)) <|
  an_kc (nk_newa (t := 0) (len := 180) (atype := .int) (ty := .int) rfl (fun _ => rfl) (fun _ z => by cases z) (fun _ => rfl) wd_140 (by decide) dX0_init_74 rfl) <|
  an_kc (an_lift (fun live => ak_iconst dX0_init_76 (by decide +kernel) rfl)) <|
  an_kc (nk_callI metX3_init rfl ⟨by decide +kernel, by decide +kernel, by decide +kernel⟩ (am_w4 wd_64 wd_143 wd_144 wd_145) (by decide) dX0_init_77 rfl) <|
  an_kc (nk_putFR (C := RX0) (C2 := RX0) (T := TX0) (N := 13) rfl inX0w tyX0_ok nmX0 (by decide) rfl rfl rfl rfl rfl (tyX0_ok 5 (by decide)) (fun _ => ⟨rfl, rfl⟩) rfl wd_208 dX0_init_80 rfl) <|
  an_kc (an_lift (fun live => ak_aload_n dX0_init_83 rfl rfl)) <|
  an_kc (an_lift (fun live => ak_sipush dX0_init_84 (by decide +kernel) rfl)) <|
  an_kc (nk_newa (t := 0) (len := 1200) (atype := .int) (ty := .int) rfl (fun _ => rfl) (fun _ z => by cases z) (fun _ => rfl) wd_140 (by decide) dX0_init_87 rfl) <|
  an_kc (nk_putFR (C := RX0) (C2 := RX0) (T := TX0) (N := 13) rfl inX0w tyX0_ok nmX0 (by decide) rfl rfl rfl rfl rfl (tyX0_ok 6 (by decide)) (fun _ => ⟨rfl, rfl⟩) rfl wd_210 dX0_init_89 rfl) <|
  an_kc (an_lift (fun live => ak_aload_n dX0_init_92 rfl rfl)) <|
  an_kc (an_lift (fun live => ak_iconst dX0_init_93 (by decide +kernel) rfl)) <|
  an_kc (nk_newq (t := 3) (len := 5) (C := "LearnLoans$Text") (fun _ => rfl) rfl (by decide +kernel) wd_160 dX0_init_94 rfl) <|
  an_kc (nk_putFR (C := RX0) (C2 := RX0) (T := TX0) (N := 13) rfl inX0w tyX0_ok nmX0 (by decide) rfl rfl rfl rfl rfl (tyX0_ok 7 (by decide)) (fun _ => ⟨rfl, rfl⟩) rfl wd_213 dX0_init_97 rfl) <|
  an_kc (an_lift (fun live => ak_aload_n dX0_init_100 rfl rfl)) <|
  an_kc (nk_new (C := RX3) (T := TX3) (N := 3) (ty := tyX3) rfl inX3w tyX3_ok rfl zX3 (am_w3 wd_141 wd_142 wd_64) dX0_init_101 rfl) <|
  an_kc (an_lift (fun live => ak_dup dX0_init_104 rfl)) <|
  an_kc (an_lift (fun live => ak_bipush dX0_init_105 (by decide +kernel) rfl)) <|
  an_kc (nk_newa (t := 0) (len := 60) (atype := .int) (ty := .int) rfl (fun _ => rfl) (fun _ z => by cases z) (fun _ => rfl) wd_140 (by decide) dX0_init_107 rfl) <|
  an_kc (an_lift (fun live => ak_iconst dX0_init_109 (by decide +kernel) rfl)) <|
  an_kc (nk_callI metX3_init rfl ⟨by decide +kernel, by decide +kernel, by decide +kernel⟩ (am_w4 wd_64 wd_143 wd_144 wd_145) (by decide) dX0_init_110 rfl) <|
  an_kc (nk_putFR (C := RX0) (C2 := RX0) (T := TX0) (N := 13) rfl inX0w tyX0_ok nmX0 (by decide) rfl rfl rfl rfl rfl (tyX0_ok 8 (by decide)) (fun _ => ⟨rfl, rfl⟩) rfl wd_216 dX0_init_113 rfl) <|
  an_kc (an_lift (fun live => ak_aload_n dX0_init_116 rfl rfl)) <|
  an_kc (an_lift (fun live => ak_sipush dX0_init_117 (by decide +kernel) rfl)) <|
  an_kc (nk_newa (t := 0) (len := 160) (atype := .int) (ty := .int) rfl (fun _ => rfl) (fun _ z => by cases z) (fun _ => rfl) wd_140 (by decide) dX0_init_120 rfl) <|
  an_kc (nk_putFR (C := RX0) (C2 := RX0) (T := TX0) (N := 13) rfl inX0w tyX0_ok nmX0 (by decide) rfl rfl rfl rfl rfl (tyX0_ok 9 (by decide)) (fun _ => ⟨rfl, rfl⟩) rfl wd_218 dX0_init_122 rfl) <|
  an_kc (an_lift (fun live => ak_aload_n dX0_init_125 rfl rfl)) <|
  an_kc (an_lift (fun live => ak_bipush dX0_init_126 (by decide +kernel) rfl)) <|
  an_kc (nk_newa (t := 0) (len := 16) (atype := .int) (ty := .int) rfl (fun _ => rfl) (fun _ z => by cases z) (fun _ => rfl) wd_140 (by decide) dX0_init_128 rfl) <|
  an_kc (nk_putFR (C := RX0) (C2 := RX0) (T := TX0) (N := 13) rfl inX0w tyX0_ok nmX0 (by decide) rfl rfl rfl rfl rfl (tyX0_ok 10 (by decide)) (fun _ => ⟨rfl, rfl⟩) rfl wd_221 dX0_init_130 rfl) <|
  an_kc (an_lift (fun live => ak_aload_n dX0_init_133 rfl rfl)) <|
  an_kc (an_lift (fun live => ak_bipush dX0_init_134 (by decide +kernel) rfl)) <|
  an_kc (nk_newa (t := 0) (len := 9) (atype := .int) (ty := .int) rfl (fun _ => rfl) (fun _ z => by cases z) (fun _ => rfl) wd_140 (by decide) dX0_init_136 rfl) <|
  an_kc (nk_putFR (C := RX0) (C2 := RX0) (T := TX0) (N := 13) rfl inX0w tyX0_ok nmX0 (by decide) rfl rfl rfl rfl rfl (tyX0_ok 11 (by decide)) (fun _ => ⟨rfl, rfl⟩) rfl wd_224 dX0_init_138 rfl) <|
  an_kc (an_lift (fun live => ak_aload_n dX0_init_141 rfl rfl)) <|
  an_kc (an_lift (fun live => ak_getR (C := RX0) (T := TX0) (N := 13) rfl inX0w (by decide) rfl rfl rfl wd_196 dX0_init_142 rfl)) <|
  an_kc (an_lift (fun live => ak_sipush dX0_init_145 (by decide +kernel) rfl)) <|
  an_kc (an_lift (fun live => ak_callSO metJ7_fill_53178 ⟨by decide +kernel, by decide +kernel, by decide +kernel⟩ (am_w4 wd_162 wd_103 wd_63 wd_104) (by decide) dX0_init_148 rfl)) <|
  an_kc (an_lift (fun live => ak_iconst dX0_init_151 (by decide +kernel) rfl)) <|
  an_kc (an_lift (fun live => ak_istore_n dX0_init_152 rfl rfl)) <|
  an_kc (an_lift (fun live => ak_iload_n dX0_init_153 rfl rfl)) <|
  an_kc (an_lift (fun live => ak_iconst dX0_init_154 (by decide +kernel) rfl)) <|
  an_kc (an_lift (fun live => ak_icmp_ge dX0_init_155 (by decide +kernel) rfl)) <|
  an_kc (an_lift (fun live => ak_aload_n dX0_init_158 rfl rfl)) <|
  an_kc (an_lift (fun live => ak_getR (C := RX0) (T := TX0) (N := 13) rfl inX0w (by decide) rfl rfl rfl wd_213 dX0_init_159 rfl)) <|
  an_kc (an_lift (fun live => ak_iload_n dX0_init_162 rfl rfl)) <|
  an_kc (nk_new (C := RX5) (T := TX5) (N := 7) (ty := tyX5) rfl inX5w tyX5_ok rfl zX5 (am_w3 wd_160 wd_163 wd_65) dX0_init_163 rfl) <|
  an_kc (an_lift (fun live => ak_dup dX0_init_166 rfl)) <|
  an_kc (nk_callIN (host := "LearnLoans") metX5_init rfl ⟨by decide +kernel, by decide +kernel, by decide +kernel⟩ (by decide +kernel) (am_w3 wd_65 wd_165 wd_166) (by decide) dX0_init_167 rfl) <|
  an_kc (nk_astR (t := 3) (ci := 5) (r0 := (RX5, TX5, 7)) (fun _ => rfl) rfl rfl dX0_init_170 rfl) <|
  an_kc (an_lift (fun live => ak_iinc dX0_init_171 (by decide +kernel) rfl)) <|
  an_kc (an_lift (fun live => ak_goto dX0_init_174 (by decide +kernel))) <|
  an_kc (an_lift (fun live => ak_iconst dX0_init_177 (by decide +kernel) rfl)) <|
  an_kc (an_lift (fun live => ak_istore_n dX0_init_178 rfl rfl)) <|
  an_kc (an_lift (fun live => ak_iload_n dX0_init_179 rfl rfl)) <|
  an_kc (an_lift (fun live => ak_iconst dX0_init_180 (by decide +kernel) rfl)) <|
  an_kc (an_lift (fun live => ak_icmp_ge dX0_init_181 (by decide +kernel) rfl)) <|
  an_kc (an_lift (fun live => ak_aload_n dX0_init_184 rfl rfl)) <|
  an_kc (an_lift (fun live => ak_getR (C := RX0) (T := TX0) (N := 13) rfl inX0w (by decide) rfl rfl rfl wd_221 dX0_init_185 rfl)) <|
  an_kc (an_lift (fun live => ak_iload_n dX0_init_188 rfl rfl)) <|
  an_kc (an_lift (fun live => ak_iconst dX0_init_189 (by decide +kernel) rfl)) <|
  an_kc (an_lift (fun live => ak_imul dX0_init_190 rfl)) <|
  an_kc (an_lift (fun live => ak_iload_n dX0_init_191 rfl rfl)) <|
  an_kc (an_lift (fun live => ak_iadd dX0_init_192 rfl)) <|
  an_kc (an_lift (fun live => ak_bipush dX0_init_193 (by decide +kernel) rfl)) <|
  an_kc (an_lift (fun live => ak_iast (t := 0) (fun _ => rfl) rfl dX0_init_195 rfl)) <|
  an_kc (an_lift (fun live => ak_iinc dX0_init_196 (by decide +kernel) rfl)) <|
  an_kc (an_lift (fun live => ak_goto dX0_init_199 (by decide +kernel))) <|
  an_kc (nk_retV dX0_init_202) <| an_kn
def eX0 (b : Nat) (E : am_E) : am_E := an_rE (eX5 (b + 19 + 3 * 4) (an_bE (an_rE (eX5 (b + 19 + 3 * 3) (an_bE (an_rE (eX5 (b + 19 + 3 * 2) (an_bE (an_rE (eX5 (b + 19 + 3 * 1) (an_bE (an_rE (eX5 (b + 19 + 3 * 0) (an_bE (an_rE (an_bE (an_rE (an_bE (an_rE (an_bE (an_rE (an_rE (an_bE (an_bE (an_rE (an_bE (an_rE (an_bE (an_rE (an_rE (an_bE (an_bE (an_rE (an_rE (an_bE (an_bE (an_rE (an_rE (an_bE (an_bE (an_rE (an_bE (an_rE (an_bE (an_rE (eX2 (b + 1) (an_bE (E) (b + 1))) (b) 0 (b + 1)) (b + 9)) (b) 1 (b + 9)) (b + 10)) (b) 2 (b + 10)) (b + 11)) (b + 12)) (b + 11) 0 (b + 12)) (b) 3 (b + 11)) (b + 13)) (b + 14)) (b + 13) 0 (b + 14)) (b) 4 (b + 13)) (b + 15)) (b + 16)) (b + 15) 0 (b + 16)) (b) 5 (b + 15)) (b + 17)) (b) 6 (b + 17)) (b + 18)) (b) 7 (b + 18)) (b + 34)) (b + 35)) (b + 34) 0 (b + 35)) (b) 8 (b + 34)) (b + 36)) (b) 9 (b + 36)) (b + 37)) (b) 10 (b + 37)) (b + 38)) (b) 11 (b + 38)) (b + 19 + 3 * 0))) (b + 18) 0 (b + 19 + 3 * 0)) (b + 19 + 3 * 1))) (b + 18) 1 (b + 19 + 3 * 1)) (b + 19 + 3 * 2))) (b + 18) 2 (b + 19 + 3 * 2)) (b + 19 + 3 * 3))) (b + 18) 3 (b + 19 + 3 * 3)) (b + 19 + 3 * 4))) (b + 18) 4 (b + 19 + 3 * 4)
def mX0 (b : Nat) (M : am_M) : am_M := am_wI (am_wI (am_wI (am_wI (mX5 (b + 19 + 3 * 4) (an_bM (mX5 (b + 19 + 3 * 3) (an_bM (mX5 (b + 19 + 3 * 2) (an_bM (mX5 (b + 19 + 3 * 1) (an_bM (mX5 (b + 19 + 3 * 0) (an_bM (am_lay (an_bM (an_bM (an_bM (am_wI (an_bM (an_bM (an_bM (an_bM (am_wI (an_bM (an_bM (am_wI (an_bM (an_bM (am_wI (an_bM (an_bM (an_bM (an_bM (mX2 (b + 1) (an_bM (M) (b + 1))) (b + 9)) (b + 10)) (b + 11)) (b + 12)) (b + 11) 1 6) (b + 13)) (b + 14)) (b + 13) 1 8) (b + 15)) (b + 16)) (b + 15) 1 3) (b + 17)) (b + 18)) (b + 34)) (b + 35)) (b + 34) 1 3) (b + 36)) (b + 37)) (b + 38)) (b + 9) 0 ((4 : Int) - 1) 1000) (b + 19 + 3 * 0))) (b + 19 + 3 * 1))) (b + 19 + 3 * 2))) (b + 19 + 3 * 3))) (b + 19 + 3 * 4))) (b + 37) 0 10) (b + 37) 5 10) (b + 37) 10 10) (b + 37) 15 10
def TX0n (b : Nat) : an_T := fun E as M R => match as with
  | [.ref r] => am_if (Nat.beq r b && (an_t0 b && an_fc E b 38)) (R none (eX0 b E) (mX0 b M))
  | _ => False
set_option maxRecDepth 100000 in
set_option maxHeartbeats 4000000 in
theorem metX0_initn (b : Nat) : an_Met yX0_init cX0_init 2 none (2) (43) 38 5259 (TX0n b) := by
  refine an_met (own := RX0) (ini := true) (by decide +kernel) rfl (fun _ => rfl) (kX0_init b ) (koX0_init b  ) 400 (fun _ _ _ _ _ => none) (fun live as M Ret h => ?_) (fun _ _ _ _ _ _ _ _ hI => by cases hI)
  unfold TX0n at h
  split at h
  · next r =>
    refine ⟨Nat.le_of_ble_eq_true rfl, ?_⟩
    change an_wp _ _ _ _ [(0, Value.ref r)] _ _
    have hh := am_if_mp h
    clear h
    obtain ⟨hb, h⟩ := hh
    rw [Bool.and_eq_true, Bool.and_eq_true] at hb
    obtain ⟨h1, h2, h3⟩ := hb
    have h1 := Nat.eq_of_beq_eq_true h1
    subst h1
    obtain ⟨E, rfl⟩ : ∃ E, live = an_ho r 38 E := ⟨live, an_ho_of h3⟩
    clear h3
    have h2 := an_t0_of h2
    rcases h2 with rfl | rfl | rfl
    repeat' (first | exact rfl | apply And.intro | (intro hx; exact absurd hx (by decide)) | (intro hx; exact absurd (by decide) hx) | decide | intro hx | (refine Exists.intro _ (And.intro rfl ?_)))
    all_goals try first | (with_reducible change am_tI _ _) | (change Ret _ _) | (change Ret _ _ _) | (change Exists _)
    all_goals try dsimp only at *
    all_goals try exact absurd ‹(1000 : Int64) = 0› (by decide)
    all_goals exact h
  · exact h.elim
def TX0_init : an_T := fun E as M R => match as with
  | [.ref n] => TX0n n E [.ref n] M R
  | _ => False
theorem metX0_init : an_Met yX0_init cX0_init 2 none 2 43 38 5259 TX0_init := by
  intro l D cA al B live as M Ret hcl hT
  unfold TX0_init at hT
  split at hT
  · next n => exact metX0_initn n l D cA al B live _ M Ret hcl hT
  · exact hT.elim
end
section
/-! births: the run, the ways, the object, the reference -/
def an_E0 : am_E := (fun _ => false, fun _ _ => none)
theorem wd_89 : Cond.methodLink "LearnLoans$Run" 3 objectInit ∈ am_ws := am_wsi (List.mem_of_getElem? (i := 89) (by decide +kernel)) (by decide +kernel)
theorem wd_90 : Cond.classLink "LearnLoans$Run" 9 "LearnLoans$House" ∈ am_ws := am_wsi (List.mem_of_getElem? (i := 90) (by decide +kernel)) (by decide +kernel)
theorem wd_91 : Cond.instantiable "LearnLoans$House" 13 ∈ am_ws := am_wsi (List.mem_of_getElem? (i := 91) (by decide +kernel)) (by decide +kernel)
theorem wd_61 : Cond.initialized "LearnLoans$House" ∈ am_ws := am_wsi (List.mem_of_getElem? (i := 61) (by decide +kernel)) (by decide +kernel)
theorem wd_92 : Cond.methodLink "LearnLoans$Run" 11 yX0_init ∈ am_ws := am_wsi (List.mem_of_getElem? (i := 92) (by decide +kernel)) (by decide +kernel)
theorem wd_93 : Cond.instanceMethod yX0_init ∈ am_ws := am_wsi (List.mem_of_getElem? (i := 93) (by decide +kernel)) (by decide +kernel)
theorem wd_94 : Cond.code yX0_init cX0_init 2 none ∈ am_ws := am_wsi (List.mem_of_getElem? (i := 94) (by decide +kernel)) (by decide +kernel)
theorem wd_291 : Cond.fieldLink "LearnLoans$Run" 12 "LearnLoans$Run" "house" "LLearnLoans$House;" ∈ am_ws := am_wsi (List.mem_of_getElem? (i := 291) (by decide +kernel)) (by decide +kernel)
theorem wd_294 : Cond.fieldLink "LearnLoans$Run" 18 "LearnLoans$Run" "numbers" "[I" ∈ am_ws := am_wsi (List.mem_of_getElem? (i := 294) (by decide +kernel)) (by decide +kernel)
theorem wd_290 : Cond.arrayClass (newarray.typeOf .long) ∈ am_ws := am_wsi (List.mem_of_getElem? (i := 290) (by decide +kernel)) (by decide +kernel)
theorem wd_296 : Cond.fieldLink "LearnLoans$Run" 22 "LearnLoans$Run" "sums" "[J" ∈ am_ws := am_wsi (List.mem_of_getElem? (i := 296) (by decide +kernel)) (by decide +kernel)
theorem wd_299 : Cond.fieldLink "LearnLoans$Run" 26 "LearnLoans$Run" "mine" "[I" ∈ am_ws := am_wsi (List.mem_of_getElem? (i := 299) (by decide +kernel)) (by decide +kernel)
theorem wd_300 : Cond.fieldLink "LearnLoans$Run" 29 "LearnLoans$Run" "queue" "[I" ∈ am_ws := am_wsi (List.mem_of_getElem? (i := 300) (by decide +kernel)) (by decide +kernel)
theorem wd_255 : Cond.classLink "LearnLoans$Run" 32 "LearnLoans$Letters" ∈ am_ws := am_wsi (List.mem_of_getElem? (i := 255) (by decide +kernel)) (by decide +kernel)
theorem wd_256 : Cond.instantiable "LearnLoans$Letters" 7 ∈ am_ws := am_wsi (List.mem_of_getElem? (i := 256) (by decide +kernel)) (by decide +kernel)
theorem wd_66 : Cond.initialized "LearnLoans$Letters" ∈ am_ws := am_wsi (List.mem_of_getElem? (i := 66) (by decide +kernel)) (by decide +kernel)
theorem wd_258 : Cond.instanceMethod yX1_init ∈ am_ws := am_wsi (List.mem_of_getElem? (i := 258) (by decide +kernel)) (by decide +kernel)
theorem wd_259 : Cond.code yX1_init cX1_init 1 none ∈ am_ws := am_wsi (List.mem_of_getElem? (i := 259) (by decide +kernel)) (by decide +kernel)
theorem wd_301 : Cond.fieldLink "LearnLoans$Run" 35 "LearnLoans$Run" "letters" "LLearnLoans$Letters;" ∈ am_ws := am_wsi (List.mem_of_getElem? (i := 301) (by decide +kernel)) (by decide +kernel)
theorem wd_302 : Cond.fieldLink "LearnLoans$Run" 39 "LearnLoans$Run" "stack" "[J" ∈ am_ws := am_wsi (List.mem_of_getElem? (i := 302) (by decide +kernel)) (by decide +kernel)
theorem dX4_init_0 : decode cX4_init 0 = .ok (.aload_n 0, 1) := by decide +kernel
theorem dX4_init_1 : decode cX4_init 1 = .ok (.invokespecial 3, 3) := by decide +kernel
theorem dX4_init_4 : decode cX4_init 4 = .ok (.aload_n 0, 1) := by decide +kernel
theorem dX4_init_5 : decode cX4_init 5 = .ok (.new 9, 3) := by decide +kernel
theorem dX4_init_8 : decode cX4_init 8 = .ok (.dup, 1) := by decide +kernel
theorem dX4_init_9 : decode cX4_init 9 = .ok (.invokespecial 11, 3) := by decide +kernel
theorem dX4_init_12 : decode cX4_init 12 = .ok (.putfield 12, 3) := by decide +kernel
theorem dX4_init_15 : decode cX4_init 15 = .ok (.aload_n 0, 1) := by decide +kernel
theorem dX4_init_16 : decode cX4_init 16 = .ok (.sipush 1200, 3) := by decide +kernel
theorem dX4_init_19 : decode cX4_init 19 = .ok (.newarray .int, 2) := by decide +kernel
theorem dX4_init_21 : decode cX4_init 21 = .ok (.putfield 18, 3) := by decide +kernel
theorem dX4_init_24 : decode cX4_init 24 = .ok (.aload_n 0, 1) := by decide +kernel
theorem dX4_init_25 : decode cX4_init 25 = .ok (.sipush 180, 3) := by decide +kernel
theorem dX4_init_28 : decode cX4_init 28 = .ok (.newarray .long, 2) := by decide +kernel
theorem dX4_init_30 : decode cX4_init 30 = .ok (.putfield 22, 3) := by decide +kernel
theorem dX4_init_33 : decode cX4_init 33 = .ok (.aload_n 0, 1) := by decide +kernel
theorem dX4_init_34 : decode cX4_init 34 = .ok (.bipush 30, 2) := by decide +kernel
theorem dX4_init_36 : decode cX4_init 36 = .ok (.newarray .int, 2) := by decide +kernel
theorem dX4_init_38 : decode cX4_init 38 = .ok (.putfield 26, 3) := by decide +kernel
theorem dX4_init_41 : decode cX4_init 41 = .ok (.aload_n 0, 1) := by decide +kernel
theorem dX4_init_42 : decode cX4_init 42 = .ok (.bipush 30, 2) := by decide +kernel
theorem dX4_init_44 : decode cX4_init 44 = .ok (.newarray .int, 2) := by decide +kernel
theorem dX4_init_46 : decode cX4_init 46 = .ok (.putfield 29, 3) := by decide +kernel
theorem dX4_init_49 : decode cX4_init 49 = .ok (.aload_n 0, 1) := by decide +kernel
theorem dX4_init_50 : decode cX4_init 50 = .ok (.new 32, 3) := by decide +kernel
theorem dX4_init_53 : decode cX4_init 53 = .ok (.dup, 1) := by decide +kernel
theorem dX4_init_54 : decode cX4_init 54 = .ok (.invokespecial 34, 3) := by decide +kernel
theorem dX4_init_57 : decode cX4_init 57 = .ok (.putfield 35, 3) := by decide +kernel
theorem dX4_init_60 : decode cX4_init 60 = .ok (.aload_n 0, 1) := by decide +kernel
theorem dX4_init_61 : decode cX4_init 61 = .ok (.bipush 50, 2) := by decide +kernel
theorem dX4_init_63 : decode cX4_init 63 = .ok (.newarray .long, 2) := by decide +kernel
theorem dX4_init_65 : decode cX4_init 65 = .ok (.putfield 39, 3) := by decide +kernel
theorem dX4_init_68 : decode cX4_init 68 = .ok (.return_, 1) := by decide +kernel
def kX4_init (Ret : an_R) : an_code := [(0, an_lf (fun live => am_aload 0 1)), (1, an_obj 64 4), (4, an_lf (fun live => am_aload 0 5)), (5, an_new 0 13 (fun L => 20) 45 6769 8), (8, an_lf (fun live => am_dup 9)), (9, an_callI 0 0 TX0_init 45 6769 38 5259 12), (12, an_putFR 4 0 15), (15, an_lf (fun live => am_aload 0 16)), (16, an_lf (fun live => am_const (.int 1200) 19)), (19, an_newa 0 1200 (fun L => 5) 45 6769 21), (21, an_putFR 4 1 24), (24, an_lf (fun live => am_aload 0 25)), (25, an_lf (fun live => am_const (.int 180) 28)), (28, an_newa 1 180 (fun L => 6) 45 6769 30), (30, an_putFR 4 2 33), (33, an_lf (fun live => am_aload 0 34)), (34, an_lf (fun live => am_const (.int 30) 36)), (36, an_newa 0 30 (fun L => 7) 45 6769 38), (38, an_putFR 4 3 41), (41, an_lf (fun live => am_aload 0 42)), (42, an_lf (fun live => am_const (.int 30) 44)), (44, an_newa 0 30 (fun L => 8) 45 6769 46), (46, an_putFR 4 4 49), (49, an_lf (fun live => am_aload 0 50)), (50, an_new 1 7 (fun L => 9) 45 6769 53), (53, an_lf (fun live => am_dup 54)), (54, an_callI 1 0 TX1_init 45 6769 0 0 57), (57, an_putFR 4 5 60), (60, an_lf (fun live => am_aload 0 61)), (61, an_lf (fun live => am_const (.int 50) 63)), (63, an_newa 1 50 (fun L => 10) 45 6769 65), (65, an_putFR 4 6 68), (68, an_retV Ret)]
theorem koX4_init (Ret : an_R) : ∀ q ∈ kX4_init Ret, an_ok RX4 cX4_init 1 none 3 64 45 6769 true (fun _ _ _ => True) Ret q.1 q.2 :=
  an_kc (an_lift (fun live => ak_aload_n dX4_init_0 rfl rfl)) <|
  an_kc (nk_obj (am_w3 wd_89 wd_76 wd_77) (by decide) dX4_init_1 rfl) <|
  an_kc (an_lift (fun live => ak_aload_n dX4_init_4 rfl rfl)) <|
  an_kc (nk_new (C := RX0) (T := TX0) (N := 13) (ty := tyX0) rfl inX0w tyX0_ok rfl zX0 (am_w3 wd_90 wd_91 wd_61) dX4_init_5 rfl) <|
  an_kc (an_lift (fun live => ak_dup dX4_init_8 rfl)) <|
  an_kc (nk_callI metX0_init rfl ⟨by decide +kernel, by decide +kernel, by decide +kernel⟩ (am_w4 wd_61 wd_92 wd_93 wd_94) (by decide) dX4_init_9 rfl) <|
  an_kc (nk_putFR (C := RX4) (C2 := RX4) (T := TX4) (N := 18) rfl inX4w tyX4_ok nmX4 (by decide) rfl rfl rfl rfl rfl (tyX4_ok 0 (by decide)) (fun _ => ⟨rfl, rfl⟩) rfl wd_291 dX4_init_12 rfl) <|
  an_kc (an_lift (fun live => ak_aload_n dX4_init_15 rfl rfl)) <|
  an_kc (an_lift (fun live => ak_sipush dX4_init_16 (by decide +kernel) rfl)) <|
  an_kc (nk_newa (t := 0) (len := 1200) (atype := .int) (ty := .int) rfl (fun _ => rfl) (fun _ z => by cases z) (fun _ => rfl) wd_140 (by decide) dX4_init_19 rfl) <|
  an_kc (nk_putFR (C := RX4) (C2 := RX4) (T := TX4) (N := 18) rfl inX4w tyX4_ok nmX4 (by decide) rfl rfl rfl rfl rfl (tyX4_ok 1 (by decide)) (fun _ => ⟨rfl, rfl⟩) rfl wd_294 dX4_init_21 rfl) <|
  an_kc (an_lift (fun live => ak_aload_n dX4_init_24 rfl rfl)) <|
  an_kc (an_lift (fun live => ak_sipush dX4_init_25 (by decide +kernel) rfl)) <|
  an_kc (nk_newa (t := 1) (len := 180) (atype := .long) (ty := .long) rfl (fun _ => rfl) (fun _ z => by cases z) (fun _ => rfl) wd_290 (by decide) dX4_init_28 rfl) <|
  an_kc (nk_putFR (C := RX4) (C2 := RX4) (T := TX4) (N := 18) rfl inX4w tyX4_ok nmX4 (by decide) rfl rfl rfl rfl rfl (tyX4_ok 2 (by decide)) (fun _ => ⟨rfl, rfl⟩) rfl wd_296 dX4_init_30 rfl) <|
  an_kc (an_lift (fun live => ak_aload_n dX4_init_33 rfl rfl)) <|
  an_kc (an_lift (fun live => ak_bipush dX4_init_34 (by decide +kernel) rfl)) <|
  an_kc (nk_newa (t := 0) (len := 30) (atype := .int) (ty := .int) rfl (fun _ => rfl) (fun _ z => by cases z) (fun _ => rfl) wd_140 (by decide) dX4_init_36 rfl) <|
  an_kc (nk_putFR (C := RX4) (C2 := RX4) (T := TX4) (N := 18) rfl inX4w tyX4_ok nmX4 (by decide) rfl rfl rfl rfl rfl (tyX4_ok 3 (by decide)) (fun _ => ⟨rfl, rfl⟩) rfl wd_299 dX4_init_38 rfl) <|
  an_kc (an_lift (fun live => ak_aload_n dX4_init_41 rfl rfl)) <|
  an_kc (an_lift (fun live => ak_bipush dX4_init_42 (by decide +kernel) rfl)) <|
  an_kc (nk_newa (t := 0) (len := 30) (atype := .int) (ty := .int) rfl (fun _ => rfl) (fun _ z => by cases z) (fun _ => rfl) wd_140 (by decide) dX4_init_44 rfl) <|
  an_kc (nk_putFR (C := RX4) (C2 := RX4) (T := TX4) (N := 18) rfl inX4w tyX4_ok nmX4 (by decide) rfl rfl rfl rfl rfl (tyX4_ok 4 (by decide)) (fun _ => ⟨rfl, rfl⟩) rfl wd_300 dX4_init_46 rfl) <|
  an_kc (an_lift (fun live => ak_aload_n dX4_init_49 rfl rfl)) <|
  an_kc (nk_new (C := RX1) (T := TX1) (N := 7) (ty := tyX1) rfl inX1w tyX1_ok rfl zX1 (am_w3 wd_255 wd_256 wd_66) dX4_init_50 rfl) <|
  an_kc (an_lift (fun live => ak_dup dX4_init_53 rfl)) <|
  an_kc (nk_callIN (host := "LearnLoans") metX1_init rfl ⟨by decide +kernel, by decide +kernel, by decide +kernel⟩ (by decide +kernel) (am_w3 wd_66 wd_258 wd_259) (by decide) dX4_init_54 rfl) <|
  an_kc (nk_putFR (C := RX4) (C2 := RX4) (T := TX4) (N := 18) rfl inX4w tyX4_ok nmX4 (by decide) rfl rfl rfl rfl rfl (tyX4_ok 5 (by decide)) (fun _ => ⟨rfl, rfl⟩) rfl wd_301 dX4_init_57 rfl) <|
  an_kc (an_lift (fun live => ak_aload_n dX4_init_60 rfl rfl)) <|
  an_kc (an_lift (fun live => ak_bipush dX4_init_61 (by decide +kernel) rfl)) <|
  an_kc (nk_newa (t := 1) (len := 50) (atype := .long) (ty := .long) rfl (fun _ => rfl) (fun _ z => by cases z) (fun _ => rfl) wd_290 (by decide) dX4_init_63 rfl) <|
  an_kc (nk_putFR (C := RX4) (C2 := RX4) (T := TX4) (N := 18) rfl inX4w tyX4_ok nmX4 (by decide) rfl rfl rfl rfl rfl (tyX4_ok 6 (by decide)) (fun _ => ⟨rfl, rfl⟩) rfl wd_302 dX4_init_65 rfl) <|
  an_kc (nk_retV dX4_init_68) <| an_kn
def eX4 (E : am_E) : am_E := an_rE (an_bE (an_rE (an_bE (an_rE (an_bE (an_rE (an_bE (an_rE (an_bE (an_rE (an_bE (an_rE (eX0 20 (an_bE (E) 20)) 4 0 20) 5) 4 1 5) 6) 4 2 6) 7) 4 3 7) 8) 4 4 8) 9) 4 5 9) 10) 4 6 10
def mX4 (M : am_M) : am_M := an_bM (an_bM (an_bM (an_bM (an_bM (an_bM (mX0 20 (an_bM (M) 20)) 5) 6) 7) 8) 9) 10
def TX4_init : an_T := fun E as M R => match as with
  | [.ref r] => r = 4 ∧ E = an_bE (an_bE (an_bE an_E0 0) 2) 4 ∧ R none (eX4 (an_bE (an_bE (an_bE an_E0 0) 2) 4)) (mX4 M)
  | _ => False
set_option maxRecDepth 100000 in
set_option maxHeartbeats 4000000 in
theorem metX4_init : an_Met yX4_init cX4_init 1 none (3) (64) 45 6769 TX4_init := by
  refine an_met (own := RX4) (ini := true) (by decide +kernel) rfl (fun _ => rfl) kX4_init koX4_init 200 (fun _ _ _ _ _ => none) (fun live as M Ret h => ?_) (fun _ _ _ _ _ _ _ _ hI => by cases hI)
  unfold TX4_init at h
  split at h
  · next r =>
    refine ⟨Nat.le_of_ble_eq_true rfl, ?_⟩
    change an_wp _ _ _ _ [(0, Value.ref r)] _ _
    obtain ⟨rfl, rfl, h⟩ := h
    repeat' (first | exact rfl | apply And.intro | (intro hx; exact absurd hx (by decide)) | (intro hx; exact absurd (by decide) hx) | decide | intro hx | (refine Exists.intro _ (And.intro rfl ?_)))
    all_goals try first | (with_reducible change am_tI _ _) | (change Ret _ _) | (change Ret _ _ _) | (change Exists _)
    all_goals try dsimp only at *
    all_goals try exact absurd ‹(1000 : Int64) = 0› (by decide)
    all_goals exact h
  · exact h.elim
theorem wd_83 : Cond.methodLink "LearnLoans$Ways" 3 objectInit ∈ am_ws := am_wsi (List.mem_of_getElem? (i := 83) (by decide +kernel)) (by decide +kernel)
theorem wd_84 : Cond.classLink "LearnLoans$Ways" 9 "LearnLoans$Run" ∈ am_ws := am_wsi (List.mem_of_getElem? (i := 84) (by decide +kernel)) (by decide +kernel)
theorem wd_85 : Cond.instantiable "LearnLoans$Run" 18 ∈ am_ws := am_wsi (List.mem_of_getElem? (i := 85) (by decide +kernel)) (by decide +kernel)
theorem wd_60 : Cond.initialized "LearnLoans$Run" ∈ am_ws := am_wsi (List.mem_of_getElem? (i := 60) (by decide +kernel)) (by decide +kernel)
theorem wd_87 : Cond.instanceMethod yX4_init ∈ am_ws := am_wsi (List.mem_of_getElem? (i := 87) (by decide +kernel)) (by decide +kernel)
theorem wd_88 : Cond.code yX4_init cX4_init 1 none ∈ am_ws := am_wsi (List.mem_of_getElem? (i := 88) (by decide +kernel)) (by decide +kernel)
theorem wd_352 : Cond.fieldLink "LearnLoans$Ways" 12 "LearnLoans$Ways" "run" "LLearnLoans$Run;" ∈ am_ws := am_wsi (List.mem_of_getElem? (i := 352) (by decide +kernel)) (by decide +kernel)
theorem wd_354 : Cond.fieldLink "LearnLoans$Ways" 18 "LearnLoans$Ways" "owedAhead" "[J" ∈ am_ws := am_wsi (List.mem_of_getElem? (i := 354) (by decide +kernel)) (by decide +kernel)
theorem dX6_init_0 : decode cX6_init 0 = .ok (.aload_n 0, 1) := by decide +kernel
theorem dX6_init_1 : decode cX6_init 1 = .ok (.invokespecial 3, 3) := by decide +kernel
theorem dX6_init_4 : decode cX6_init 4 = .ok (.aload_n 0, 1) := by decide +kernel
theorem dX6_init_5 : decode cX6_init 5 = .ok (.new 9, 3) := by decide +kernel
theorem dX6_init_8 : decode cX6_init 8 = .ok (.dup, 1) := by decide +kernel
theorem dX6_init_9 : decode cX6_init 9 = .ok (.invokespecial 11, 3) := by decide +kernel
theorem dX6_init_12 : decode cX6_init 12 = .ok (.putfield 12, 3) := by decide +kernel
theorem dX6_init_15 : decode cX6_init 15 = .ok (.aload_n 0, 1) := by decide +kernel
theorem dX6_init_16 : decode cX6_init 16 = .ok (.sipush 150, 3) := by decide +kernel
theorem dX6_init_19 : decode cX6_init 19 = .ok (.newarray .long, 2) := by decide +kernel
theorem dX6_init_21 : decode cX6_init 21 = .ok (.putfield 18, 3) := by decide +kernel
theorem dX6_init_24 : decode cX6_init 24 = .ok (.return_, 1) := by decide +kernel
def kX6_init (Ret : an_R) : an_code := [(0, an_lf (fun live => am_aload 0 1)), (1, an_obj 84 4), (4, an_lf (fun live => am_aload 0 5)), (5, an_new 4 18 (fun L => 4) 47 6937 8), (8, an_lf (fun live => am_dup 9)), (9, an_callI 4 0 TX4_init 47 6937 45 6769 12), (12, an_putFR 6 0 15), (15, an_lf (fun live => am_aload 0 16)), (16, an_lf (fun live => am_const (.int 150) 19)), (19, an_newa 1 150 (fun L => 3) 47 6937 21), (21, an_putFR 6 1 24), (24, an_retV Ret)]
theorem koX6_init (Ret : an_R) : ∀ q ∈ kX6_init Ret, an_ok RX6 cX6_init 1 none 4 84 47 6937 true (fun _ _ _ => True) Ret q.1 q.2 :=
  an_kc (an_lift (fun live => ak_aload_n dX6_init_0 rfl rfl)) <|
  an_kc (nk_obj (am_w3 wd_83 wd_76 wd_77) (by decide) dX6_init_1 rfl) <|
  an_kc (an_lift (fun live => ak_aload_n dX6_init_4 rfl rfl)) <|
  an_kc (nk_new (C := RX4) (T := TX4) (N := 18) (ty := tyX4) rfl inX4w tyX4_ok rfl zX4 (am_w3 wd_84 wd_85 wd_60) dX6_init_5 rfl) <|
  an_kc (an_lift (fun live => ak_dup dX6_init_8 rfl)) <|
  an_kc (nk_callIN (host := "LearnLoans") metX4_init rfl ⟨by decide +kernel, by decide +kernel, by decide +kernel⟩ (by decide +kernel) (am_w3 wd_60 wd_87 wd_88) (by decide) dX6_init_9 rfl) <|
  an_kc (nk_putFR (C := RX6) (C2 := RX6) (T := TX6) (N := 9) rfl inX6w tyX6_ok nmX6 (by decide) rfl rfl rfl rfl rfl (tyX6_ok 0 (by decide)) (fun _ => ⟨rfl, rfl⟩) rfl wd_352 dX6_init_12 rfl) <|
  an_kc (an_lift (fun live => ak_aload_n dX6_init_15 rfl rfl)) <|
  an_kc (an_lift (fun live => ak_sipush dX6_init_16 (by decide +kernel) rfl)) <|
  an_kc (nk_newa (t := 1) (len := 150) (atype := .long) (ty := .long) rfl (fun _ => rfl) (fun _ z => by cases z) (fun _ => rfl) wd_290 (by decide) dX6_init_19 rfl) <|
  an_kc (nk_putFR (C := RX6) (C2 := RX6) (T := TX6) (N := 9) rfl inX6w tyX6_ok nmX6 (by decide) rfl rfl rfl rfl rfl (tyX6_ok 1 (by decide)) (fun _ => ⟨rfl, rfl⟩) rfl wd_354 dX6_init_21 rfl) <|
  an_kc (nk_retV dX6_init_24) <| an_kn
def eX6 (E : am_E) : am_E := an_rE (an_bE (an_rE (eX4 (an_bE (E) 4)) 2 0 4) 3) 2 1 3
def mX6 (M : am_M) : am_M := an_bM (mX4 (an_bM (M) 4)) 3
def TX6_init : an_T := fun E as M R => match as with
  | [.ref r] => r = 2 ∧ E = an_bE (an_bE an_E0 0) 2 ∧ R none (eX6 (an_bE (an_bE an_E0 0) 2)) (mX6 M)
  | _ => False
set_option maxRecDepth 100000 in
set_option maxHeartbeats 4000000 in
theorem metX6_init : an_Met yX6_init cX6_init 1 none (4) (84) 47 6937 TX6_init := by
  refine an_met (own := RX6) (ini := true) (by decide +kernel) rfl (fun _ => rfl) kX6_init koX6_init 200 (fun _ _ _ _ _ => none) (fun live as M Ret h => ?_) (fun _ _ _ _ _ _ _ _ hI => by cases hI)
  unfold TX6_init at h
  split at h
  · next r =>
    refine ⟨Nat.le_of_ble_eq_true rfl, ?_⟩
    change an_wp _ _ _ _ [(0, Value.ref r)] _ _
    obtain ⟨rfl, rfl, h⟩ := h
    repeat' (first | exact rfl | apply And.intro | (intro hx; exact absurd hx (by decide)) | (intro hx; exact absurd (by decide) hx) | decide | intro hx | (refine Exists.intro _ (And.intro rfl ?_)))
    all_goals try first | (with_reducible change am_tI _ _) | (change Ret _ _) | (change Ret _ _ _) | (change Exists _)
    all_goals try dsimp only at *
    all_goals try exact absurd ‹(1000 : Int64) = 0› (by decide)
    all_goals exact h
  · exact h.elim
theorem wd_75 : Cond.methodLink "LearnLoans" 3 objectInit ∈ am_ws := am_wsi (List.mem_of_getElem? (i := 75) (by decide +kernel)) (by decide +kernel)
theorem wd_78 : Cond.classLink "LearnLoans" 9 "LearnLoans$Ways" ∈ am_ws := am_wsi (List.mem_of_getElem? (i := 78) (by decide +kernel)) (by decide +kernel)
theorem wd_79 : Cond.instantiable "LearnLoans$Ways" 9 ∈ am_ws := am_wsi (List.mem_of_getElem? (i := 79) (by decide +kernel)) (by decide +kernel)
theorem wd_59 : Cond.initialized "LearnLoans$Ways" ∈ am_ws := am_wsi (List.mem_of_getElem? (i := 59) (by decide +kernel)) (by decide +kernel)
theorem wd_81 : Cond.instanceMethod yX6_init ∈ am_ws := am_wsi (List.mem_of_getElem? (i := 81) (by decide +kernel)) (by decide +kernel)
theorem wd_82 : Cond.code yX6_init cX6_init 1 none ∈ am_ws := am_wsi (List.mem_of_getElem? (i := 82) (by decide +kernel)) (by decide +kernel)
theorem wd_390 : Cond.fieldLink "LearnLoans" 12 "LearnLoans" "ways" "LLearnLoans$Ways;" ∈ am_ws := am_wsi (List.mem_of_getElem? (i := 390) (by decide +kernel)) (by decide +kernel)
theorem wd_353 : Cond.fieldLink "LearnLoans" 16 "LearnLoans$Ways" "run" "LLearnLoans$Run;" ∈ am_ws := am_wsi (List.mem_of_getElem? (i := 353) (by decide +kernel)) (by decide +kernel)
theorem wd_389 : Cond.fieldLink "LearnLoans" 20 "LearnLoans" "run" "LLearnLoans$Run;" ∈ am_ws := am_wsi (List.mem_of_getElem? (i := 389) (by decide +kernel)) (by decide +kernel)
theorem wd_292 : Cond.fieldLink "LearnLoans" 21 "LearnLoans$Run" "house" "LLearnLoans$House;" ∈ am_ws := am_wsi (List.mem_of_getElem? (i := 292) (by decide +kernel)) (by decide +kernel)
theorem wd_385 : Cond.classLink "LearnLoans" 28 "LearnLoans$House" ∈ am_ws := am_wsi (List.mem_of_getElem? (i := 385) (by decide +kernel)) (by decide +kernel)
theorem wd_388 : Cond.fieldLink "LearnLoans" 30 "LearnLoans" "images" "[LLearnLoans$House;" ∈ am_ws := am_wsi (List.mem_of_getElem? (i := 388) (by decide +kernel)) (by decide +kernel)
theorem dX7_init_0 : decode cX7_init 0 = .ok (.aload_n 0, 1) := by decide +kernel
theorem dX7_init_1 : decode cX7_init 1 = .ok (.invokespecial 3, 3) := by decide +kernel
theorem dX7_init_4 : decode cX7_init 4 = .ok (.aload_n 0, 1) := by decide +kernel
theorem dX7_init_5 : decode cX7_init 5 = .ok (.new 9, 3) := by decide +kernel
theorem dX7_init_8 : decode cX7_init 8 = .ok (.dup, 1) := by decide +kernel
theorem dX7_init_9 : decode cX7_init 9 = .ok (.invokespecial 11, 3) := by decide +kernel
theorem dX7_init_12 : decode cX7_init 12 = .ok (.putfield 12, 3) := by decide +kernel
theorem dX7_init_15 : decode cX7_init 15 = .ok (.aload_n 0, 1) := by decide +kernel
theorem dX7_init_16 : decode cX7_init 16 = .ok (.aload_n 0, 1) := by decide +kernel
theorem dX7_init_17 : decode cX7_init 17 = .ok (.getfield 12, 3) := by decide +kernel
theorem dX7_init_20 : decode cX7_init 20 = .ok (.getfield 16, 3) := by decide +kernel
theorem dX7_init_23 : decode cX7_init 23 = .ok (.putfield 20, 3) := by decide +kernel
theorem dX7_init_26 : decode cX7_init 26 = .ok (.aload_n 0, 1) := by decide +kernel
theorem dX7_init_27 : decode cX7_init 27 = .ok (.aload_n 0, 1) := by decide +kernel
theorem dX7_init_28 : decode cX7_init 28 = .ok (.getfield 20, 3) := by decide +kernel
theorem dX7_init_31 : decode cX7_init 31 = .ok (.getfield 21, 3) := by decide +kernel
theorem dX7_init_34 : decode cX7_init 34 = .ok (.putfield 27, 3) := by decide +kernel
theorem dX7_init_37 : decode cX7_init 37 = .ok (.aload_n 0, 1) := by decide +kernel
theorem dX7_init_38 : decode cX7_init 38 = .ok (.iconst 2, 1) := by decide +kernel
theorem dX7_init_39 : decode cX7_init 39 = .ok (.anewarray 28, 3) := by decide +kernel
theorem dX7_init_42 : decode cX7_init 42 = .ok (.putfield 30, 3) := by decide +kernel
theorem dX7_init_45 : decode cX7_init 45 = .ok (.return_, 1) := by decide +kernel
def kX7_init (Ret : an_R) : an_code := [(0, an_lf (fun live => am_aload 0 1)), (1, an_obj 104 4), (4, an_lf (fun live => am_aload 0 5)), (5, an_new 6 9 (fun L => 2) 49 6948 8), (8, an_lf (fun live => am_dup 9)), (9, an_callI 6 0 TX6_init 49 6948 47 6937 12), (12, an_putFR 7 3 15), (15, an_lf (fun live => am_aload 0 16)), (16, an_lf (fun live => am_aload 0 17)), (17, an_lf (fun live => am_getR live 7 3 20)), (20, an_lf (fun live => am_getR live 6 0 23)), (23, an_putFR 7 2 26), (26, an_lf (fun live => am_aload 0 27)), (27, an_lf (fun live => am_aload 0 28)), (28, an_lf (fun live => am_getR live 7 2 31)), (31, an_lf (fun live => am_getR live 4 0 34)), (34, an_putFR 7 0 37), (37, an_lf (fun live => am_aload 0 38)), (38, an_lf (fun live => am_const (.int 2) 39)), (39, an_newa 4 2 (fun L => 1) 49 6948 42), (42, an_putFR 7 1 45), (45, an_retV Ret)]
theorem koX7_init (Ret : an_R) : ∀ q ∈ kX7_init Ret, an_ok RX7 cX7_init 1 none 5 104 49 6948 true (fun _ _ _ => True) Ret q.1 q.2 :=
  an_kc (an_lift (fun live => ak_aload_n dX7_init_0 rfl rfl)) <|
  an_kc (nk_obj (am_w3 wd_75 wd_76 wd_77) (by decide) dX7_init_1 rfl) <|
  an_kc (an_lift (fun live => ak_aload_n dX7_init_4 rfl rfl)) <|
  an_kc (nk_new (C := RX6) (T := TX6) (N := 9) (ty := tyX6) rfl inX6w tyX6_ok rfl zX6 (am_w3 wd_78 wd_79 wd_59) dX7_init_5 rfl) <|
  an_kc (an_lift (fun live => ak_dup dX7_init_8 rfl)) <|
  an_kc (nk_callIN (host := "LearnLoans") metX6_init rfl ⟨by decide +kernel, by decide +kernel, by decide +kernel⟩ (by decide +kernel) (am_w3 wd_59 wd_81 wd_82) (by decide) dX7_init_9 rfl) <|
  an_kc (nk_putFR (C := RX7) (C2 := RX7) (T := TX7) (N := 4) rfl inX7w tyX7_ok nmX7 (by decide) rfl rfl rfl rfl rfl (tyX7_ok 3 (by decide)) (fun _ => ⟨rfl, rfl⟩) rfl wd_390 dX7_init_12 rfl) <|
  an_kc (an_lift (fun live => ak_aload_n dX7_init_15 rfl rfl)) <|
  an_kc (an_lift (fun live => ak_aload_n dX7_init_16 rfl rfl)) <|
  an_kc (an_lift (fun live => ak_getR (C := RX7) (T := TX7) (N := 4) rfl inX7w (by decide) rfl rfl rfl wd_390 dX7_init_17 rfl)) <|
  an_kc (an_lift (fun live => ak_getR (C := RX6) (T := TX6) (N := 9) rfl inX6w (by decide) rfl rfl rfl wd_353 dX7_init_20 rfl)) <|
  an_kc (nk_putFR (C := RX7) (C2 := RX7) (T := TX7) (N := 4) rfl inX7w tyX7_ok nmX7 (by decide) rfl rfl rfl rfl rfl (tyX7_ok 2 (by decide)) (fun _ => ⟨rfl, rfl⟩) rfl wd_389 dX7_init_23 rfl) <|
  an_kc (an_lift (fun live => ak_aload_n dX7_init_26 rfl rfl)) <|
  an_kc (an_lift (fun live => ak_aload_n dX7_init_27 rfl rfl)) <|
  an_kc (an_lift (fun live => ak_getR (C := RX7) (T := TX7) (N := 4) rfl inX7w (by decide) rfl rfl rfl wd_389 dX7_init_28 rfl)) <|
  an_kc (an_lift (fun live => ak_getR (C := RX4) (T := TX4) (N := 18) rfl inX4w (by decide) rfl rfl rfl wd_292 dX7_init_31 rfl)) <|
  an_kc (nk_putFR (C := RX7) (C2 := RX7) (T := TX7) (N := 4) rfl inX7w tyX7_ok nmX7 (by decide) rfl rfl rfl rfl rfl (tyX7_ok 0 (by decide)) (fun _ => ⟨rfl, rfl⟩) rfl wd_387 dX7_init_34 rfl) <|
  an_kc (an_lift (fun live => ak_aload_n dX7_init_37 rfl rfl)) <|
  an_kc (an_lift (fun live => ak_iconst dX7_init_38 (by decide +kernel) rfl)) <|
  an_kc (nk_newq (t := 4) (len := 2) (C := "LearnLoans$House") (fun _ => rfl) rfl (by decide +kernel) wd_385 dX7_init_39 rfl) <|
  an_kc (nk_putFR (C := RX7) (C2 := RX7) (T := TX7) (N := 4) rfl inX7w tyX7_ok nmX7 (by decide) rfl rfl rfl rfl rfl (tyX7_ok 1 (by decide)) (fun _ => ⟨rfl, rfl⟩) rfl wd_388 dX7_init_42 rfl) <|
  an_kc (nk_retV dX7_init_45) <| an_kn
def eX7 (E : am_E) : am_E := an_rE (an_bE (an_rE (an_rE (an_rE (eX6 (an_bE (E) 2)) 0 3 2) 0 2 4) 0 0 20) 1) 0 1 1
def mX7 (M : am_M) : am_M := an_bM (mX6 (an_bM (M) 2)) 1
def TX7_init : an_T := fun E as M R => match as with
  | [.ref r] => r = 0 ∧ E = an_bE an_E0 0 ∧ R none (eX7 (an_bE an_E0 0)) (mX7 M)
  | _ => False
set_option maxRecDepth 100000 in
set_option maxHeartbeats 4000000 in
theorem metX7_init : an_Met yX7_init cX7_init 1 none (5) (104) 49 6948 TX7_init := by
  refine an_met (own := RX7) (ini := true) (by decide +kernel) rfl (fun _ => rfl) kX7_init koX7_init 200 (fun _ _ _ _ _ => none) (fun live as M Ret h => ?_) (fun _ _ _ _ _ _ _ _ hI => by cases hI)
  unfold TX7_init at h
  split at h
  · next r =>
    refine ⟨Nat.le_of_ble_eq_true rfl, ?_⟩
    change an_wp _ _ _ _ [(0, Value.ref r)] _ _
    obtain ⟨rfl, rfl, h⟩ := h
    repeat' (first | exact rfl | apply And.intro | (intro hx; exact absurd hx (by decide)) | (intro hx; exact absurd (by decide) hx) | decide | intro hx | (refine Exists.intro _ (And.intro rfl ?_)))
    all_goals try first | (with_reducible change am_tI _ _) | (change Ret _ _) | (change Ret _ _ _) | (change Exists _)
    all_goals try dsimp only at *
    all_goals try exact absurd ‹(1000 : Int64) = 0› (by decide)
    all_goals exact h
  · exact h.elim
theorem wd_891 : Cond.methodLink "LearnLoansModel" 1 objectInit ∈ am_ws := am_wsi (List.mem_of_getElem? (i := 891) (by decide +kernel)) (by decide +kernel)
theorem wd_892 : Cond.fieldLink "LearnLoansModel" 7 "LearnLoansModel" "cells" "[I" ∈ am_ws := am_wsi (List.mem_of_getElem? (i := 892) (by decide +kernel)) (by decide +kernel)
theorem wd_893 : Cond.fieldLink "LearnLoansModel" 13 "LearnLoansModel" "images" "[I" ∈ am_ws := am_wsi (List.mem_of_getElem? (i := 893) (by decide +kernel)) (by decide +kernel)
theorem wd_974 : Cond.arrayClass (newarray.typeOf .boolean) ∈ am_ws := am_wsi (List.mem_of_getElem? (i := 974) (by decide +kernel)) (by decide +kernel)
theorem wd_894 : Cond.fieldLink "LearnLoansModel" 16 "LearnLoansModel" "hasImage" "[Z" ∈ am_ws := am_wsi (List.mem_of_getElem? (i := 894) (by decide +kernel)) (by decide +kernel)
theorem wd_901 : Cond.fieldLink "LearnLoansModel" 20 "LearnLoansModel" "waits" "[I" ∈ am_ws := am_wsi (List.mem_of_getElem? (i := 901) (by decide +kernel)) (by decide +kernel)
theorem wd_902 : Cond.fieldLink "LearnLoansModel" 23 "LearnLoansModel" "worked" "[J" ∈ am_ws := am_wsi (List.mem_of_getElem? (i := 902) (by decide +kernel)) (by decide +kernel)
theorem wd_905 : Cond.fieldLink "LearnLoansModel" 27 "LearnLoansModel" "facts" "[J" ∈ am_ws := am_wsi (List.mem_of_getElem? (i := 905) (by decide +kernel)) (by decide +kernel)
theorem wd_907 : Cond.fieldLink "LearnLoansModel" 30 "LearnLoansModel" "owed" "[J" ∈ am_ws := am_wsi (List.mem_of_getElem? (i := 907) (by decide +kernel)) (by decide +kernel)
theorem wd_908 : Cond.fieldLink "LearnLoansModel" 33 "LearnLoansModel" "taken" "[J" ∈ am_ws := am_wsi (List.mem_of_getElem? (i := 908) (by decide +kernel)) (by decide +kernel)
theorem wd_909 : Cond.fieldLink "LearnLoansModel" 36 "LearnLoansModel" "takenAll" "[J" ∈ am_ws := am_wsi (List.mem_of_getElem? (i := 909) (by decide +kernel)) (by decide +kernel)
theorem wd_910 : Cond.fieldLink "LearnLoansModel" 39 "LearnLoansModel" "takenSold" "[J" ∈ am_ws := am_wsi (List.mem_of_getElem? (i := 910) (by decide +kernel)) (by decide +kernel)
theorem wd_911 : Cond.fieldLink "LearnLoansModel" 42 "LearnLoansModel" "struck" "[J" ∈ am_ws := am_wsi (List.mem_of_getElem? (i := 911) (by decide +kernel)) (by decide +kernel)
theorem wd_912 : Cond.fieldLink "LearnLoansModel" 45 "LearnLoansModel" "grown" "[J" ∈ am_ws := am_wsi (List.mem_of_getElem? (i := 912) (by decide +kernel)) (by decide +kernel)
theorem wd_913 : Cond.fieldLink "LearnLoansModel" 48 "LearnLoansModel" "isStruck" "[Z" ∈ am_ws := am_wsi (List.mem_of_getElem? (i := 913) (by decide +kernel)) (by decide +kernel)
theorem wd_915 : Cond.fieldLink "LearnLoansModel" 51 "LearnLoansModel" "owedThen" "[J" ∈ am_ws := am_wsi (List.mem_of_getElem? (i := 915) (by decide +kernel)) (by decide +kernel)
theorem wd_916 : Cond.fieldLink "LearnLoansModel" 54 "LearnLoansModel" "struckThen" "[Z" ∈ am_ws := am_wsi (List.mem_of_getElem? (i := 916) (by decide +kernel)) (by decide +kernel)
theorem wd_895 : Cond.fieldLink "LearnLoansModel" 57 "LearnLoansModel" "tryPlan" "I" ∈ am_ws := am_wsi (List.mem_of_getElem? (i := 895) (by decide +kernel)) (by decide +kernel)
theorem wd_899 : Cond.fieldLink "LearnLoansModel" 61 "LearnLoansModel" "leadPlan" "I" ∈ am_ws := am_wsi (List.mem_of_getElem? (i := 899) (by decide +kernel)) (by decide +kernel)
theorem dX8_init_0 : decode cX8_init 0 = .ok (.aload_n 0, 1) := by decide +kernel
theorem dX8_init_1 : decode cX8_init 1 = .ok (.invokespecial 1, 3) := by decide +kernel
theorem dX8_init_4 : decode cX8_init 4 = .ok (.aload_n 0, 1) := by decide +kernel
theorem dX8_init_5 : decode cX8_init 5 = .ok (.sipush 3760, 3) := by decide +kernel
theorem dX8_init_8 : decode cX8_init 8 = .ok (.newarray .int, 2) := by decide +kernel
theorem dX8_init_10 : decode cX8_init 10 = .ok (.putfield 7, 3) := by decide +kernel
theorem dX8_init_13 : decode cX8_init 13 = .ok (.aload_n 0, 1) := by decide +kernel
theorem dX8_init_14 : decode cX8_init 14 = .ok (.sipush 7520, 3) := by decide +kernel
theorem dX8_init_17 : decode cX8_init 17 = .ok (.newarray .int, 2) := by decide +kernel
theorem dX8_init_19 : decode cX8_init 19 = .ok (.putfield 13, 3) := by decide +kernel
theorem dX8_init_22 : decode cX8_init 22 = .ok (.aload_n 0, 1) := by decide +kernel
theorem dX8_init_23 : decode cX8_init 23 = .ok (.iconst 2, 1) := by decide +kernel
theorem dX8_init_24 : decode cX8_init 24 = .ok (.newarray .boolean, 2) := by decide +kernel
theorem dX8_init_26 : decode cX8_init 26 = .ok (.putfield 16, 3) := by decide +kernel
theorem dX8_init_29 : decode cX8_init 29 = .ok (.aload_n 0, 1) := by decide +kernel
theorem dX8_init_30 : decode cX8_init 30 = .ok (.bipush 120, 2) := by decide +kernel
theorem dX8_init_32 : decode cX8_init 32 = .ok (.newarray .int, 2) := by decide +kernel
theorem dX8_init_34 : decode cX8_init 34 = .ok (.putfield 20, 3) := by decide +kernel
theorem dX8_init_37 : decode cX8_init 37 = .ok (.aload_n 0, 1) := by decide +kernel
theorem dX8_init_38 : decode cX8_init 38 = .ok (.bipush 120, 2) := by decide +kernel
theorem dX8_init_40 : decode cX8_init 40 = .ok (.newarray .long, 2) := by decide +kernel
theorem dX8_init_42 : decode cX8_init 42 = .ok (.putfield 23, 3) := by decide +kernel
theorem dX8_init_45 : decode cX8_init 45 = .ok (.aload_n 0, 1) := by decide +kernel
theorem dX8_init_46 : decode cX8_init 46 = .ok (.bipush 7, 2) := by decide +kernel
theorem dX8_init_48 : decode cX8_init 48 = .ok (.newarray .long, 2) := by decide +kernel
theorem dX8_init_50 : decode cX8_init 50 = .ok (.putfield 27, 3) := by decide +kernel
theorem dX8_init_53 : decode cX8_init 53 = .ok (.aload_n 0, 1) := by decide +kernel
theorem dX8_init_54 : decode cX8_init 54 = .ok (.bipush 30, 2) := by decide +kernel
theorem dX8_init_56 : decode cX8_init 56 = .ok (.newarray .long, 2) := by decide +kernel
theorem dX8_init_58 : decode cX8_init 58 = .ok (.putfield 30, 3) := by decide +kernel
theorem dX8_init_61 : decode cX8_init 61 = .ok (.aload_n 0, 1) := by decide +kernel
theorem dX8_init_62 : decode cX8_init 62 = .ok (.bipush 30, 2) := by decide +kernel
theorem dX8_init_64 : decode cX8_init 64 = .ok (.newarray .long, 2) := by decide +kernel
theorem dX8_init_66 : decode cX8_init 66 = .ok (.putfield 33, 3) := by decide +kernel
theorem dX8_init_69 : decode cX8_init 69 = .ok (.aload_n 0, 1) := by decide +kernel
theorem dX8_init_70 : decode cX8_init 70 = .ok (.bipush 30, 2) := by decide +kernel
theorem dX8_init_72 : decode cX8_init 72 = .ok (.newarray .long, 2) := by decide +kernel
theorem dX8_init_74 : decode cX8_init 74 = .ok (.putfield 36, 3) := by decide +kernel
theorem dX8_init_77 : decode cX8_init 77 = .ok (.aload_n 0, 1) := by decide +kernel
theorem dX8_init_78 : decode cX8_init 78 = .ok (.bipush 30, 2) := by decide +kernel
theorem dX8_init_80 : decode cX8_init 80 = .ok (.newarray .long, 2) := by decide +kernel
theorem dX8_init_82 : decode cX8_init 82 = .ok (.putfield 39, 3) := by decide +kernel
theorem dX8_init_85 : decode cX8_init 85 = .ok (.aload_n 0, 1) := by decide +kernel
theorem dX8_init_86 : decode cX8_init 86 = .ok (.bipush 30, 2) := by decide +kernel
theorem dX8_init_88 : decode cX8_init 88 = .ok (.newarray .long, 2) := by decide +kernel
theorem dX8_init_90 : decode cX8_init 90 = .ok (.putfield 42, 3) := by decide +kernel
theorem dX8_init_93 : decode cX8_init 93 = .ok (.aload_n 0, 1) := by decide +kernel
theorem dX8_init_94 : decode cX8_init 94 = .ok (.bipush 30, 2) := by decide +kernel
theorem dX8_init_96 : decode cX8_init 96 = .ok (.newarray .long, 2) := by decide +kernel
theorem dX8_init_98 : decode cX8_init 98 = .ok (.putfield 45, 3) := by decide +kernel
theorem dX8_init_101 : decode cX8_init 101 = .ok (.aload_n 0, 1) := by decide +kernel
theorem dX8_init_102 : decode cX8_init 102 = .ok (.bipush 30, 2) := by decide +kernel
theorem dX8_init_104 : decode cX8_init 104 = .ok (.newarray .boolean, 2) := by decide +kernel
theorem dX8_init_106 : decode cX8_init 106 = .ok (.putfield 48, 3) := by decide +kernel
theorem dX8_init_109 : decode cX8_init 109 = .ok (.aload_n 0, 1) := by decide +kernel
theorem dX8_init_110 : decode cX8_init 110 = .ok (.bipush 30, 2) := by decide +kernel
theorem dX8_init_112 : decode cX8_init 112 = .ok (.newarray .long, 2) := by decide +kernel
theorem dX8_init_114 : decode cX8_init 114 = .ok (.putfield 51, 3) := by decide +kernel
theorem dX8_init_117 : decode cX8_init 117 = .ok (.aload_n 0, 1) := by decide +kernel
theorem dX8_init_118 : decode cX8_init 118 = .ok (.bipush 30, 2) := by decide +kernel
theorem dX8_init_120 : decode cX8_init 120 = .ok (.newarray .boolean, 2) := by decide +kernel
theorem dX8_init_122 : decode cX8_init 122 = .ok (.putfield 54, 3) := by decide +kernel
theorem dX8_init_125 : decode cX8_init 125 = .ok (.iconst 0, 1) := by decide +kernel
theorem dX8_init_126 : decode cX8_init 126 = .ok (.istore_n 1, 1) := by decide +kernel
theorem dX8_init_127 : decode cX8_init 127 = .ok (.iload_n 1, 1) := by decide +kernel
theorem dX8_init_128 : decode cX8_init 128 = .ok (.bipush 12, 2) := by decide +kernel
theorem dX8_init_130 : decode cX8_init 130 = .ok (.if_icmp .ge 19, 3) := by decide +kernel
theorem dX8_init_133 : decode cX8_init 133 = .ok (.aload_n 0, 1) := by decide +kernel
theorem dX8_init_134 : decode cX8_init 134 = .ok (.getfield 7, 3) := by decide +kernel
theorem dX8_init_137 : decode cX8_init 137 = .ok (.bipush 22, 2) := by decide +kernel
theorem dX8_init_139 : decode cX8_init 139 = .ok (.iload_n 1, 1) := by decide +kernel
theorem dX8_init_140 : decode cX8_init 140 = .ok (.iadd, 1) := by decide +kernel
theorem dX8_init_141 : decode cX8_init 141 = .ok (.iconst (-1), 1) := by decide +kernel
theorem dX8_init_142 : decode cX8_init 142 = .ok (.iastore, 1) := by decide +kernel
theorem dX8_init_143 : decode cX8_init 143 = .ok (.iinc 1 1, 3) := by decide +kernel
theorem dX8_init_146 : decode cX8_init 146 = .ok (.goto (-19), 3) := by decide +kernel
theorem dX8_init_149 : decode cX8_init 149 = .ok (.iconst 0, 1) := by decide +kernel
theorem dX8_init_150 : decode cX8_init 150 = .ok (.istore_n 1, 1) := by decide +kernel
theorem dX8_init_151 : decode cX8_init 151 = .ok (.iload_n 1, 1) := by decide +kernel
theorem dX8_init_152 : decode cX8_init 152 = .ok (.iconst 4, 1) := by decide +kernel
theorem dX8_init_153 : decode cX8_init 153 = .ok (.if_icmp .ge 22, 3) := by decide +kernel
theorem dX8_init_156 : decode cX8_init 156 = .ok (.aload_n 0, 1) := by decide +kernel
theorem dX8_init_157 : decode cX8_init 157 = .ok (.getfield 7, 3) := by decide +kernel
theorem dX8_init_160 : decode cX8_init 160 = .ok (.sipush 514, 3) := by decide +kernel
theorem dX8_init_163 : decode cX8_init 163 = .ok (.iload_n 1, 1) := by decide +kernel
theorem dX8_init_164 : decode cX8_init 164 = .ok (.iadd, 1) := by decide +kernel
theorem dX8_init_165 : decode cX8_init 165 = .ok (.sipush 1000, 3) := by decide +kernel
theorem dX8_init_168 : decode cX8_init 168 = .ok (.iastore, 1) := by decide +kernel
theorem dX8_init_169 : decode cX8_init 169 = .ok (.iinc 1 1, 3) := by decide +kernel
theorem dX8_init_172 : decode cX8_init 172 = .ok (.goto (-21), 3) := by decide +kernel
theorem dX8_init_175 : decode cX8_init 175 = .ok (.iconst 0, 1) := by decide +kernel
theorem dX8_init_176 : decode cX8_init 176 = .ok (.istore_n 1, 1) := by decide +kernel
theorem dX8_init_177 : decode cX8_init 177 = .ok (.iload_n 1, 1) := by decide +kernel
theorem dX8_init_178 : decode cX8_init 178 = .ok (.sipush 480, 3) := by decide +kernel
theorem dX8_init_181 : decode cX8_init 181 = .ok (.if_icmp .ge 31, 3) := by decide +kernel
theorem dX8_init_184 : decode cX8_init 184 = .ok (.aload_n 0, 1) := by decide +kernel
theorem dX8_init_185 : decode cX8_init 185 = .ok (.getfield 7, 3) := by decide +kernel
theorem dX8_init_188 : decode cX8_init 188 = .ok (.sipush 1038, 3) := by decide +kernel
theorem dX8_init_191 : decode cX8_init 191 = .ok (.iload_n 1, 1) := by decide +kernel
theorem dX8_init_192 : decode cX8_init 192 = .ok (.iadd, 1) := by decide +kernel
theorem dX8_init_193 : decode cX8_init 193 = .ok (.iconst (-1), 1) := by decide +kernel
theorem dX8_init_194 : decode cX8_init 194 = .ok (.iastore, 1) := by decide +kernel
theorem dX8_init_195 : decode cX8_init 195 = .ok (.aload_n 0, 1) := by decide +kernel
theorem dX8_init_196 : decode cX8_init 196 = .ok (.getfield 7, 3) := by decide +kernel
theorem dX8_init_199 : decode cX8_init 199 = .ok (.sipush 1998, 3) := by decide +kernel
theorem dX8_init_202 : decode cX8_init 202 = .ok (.iload_n 1, 1) := by decide +kernel
theorem dX8_init_203 : decode cX8_init 203 = .ok (.iadd, 1) := by decide +kernel
theorem dX8_init_204 : decode cX8_init 204 = .ok (.iconst (-1), 1) := by decide +kernel
theorem dX8_init_205 : decode cX8_init 205 = .ok (.iastore, 1) := by decide +kernel
theorem dX8_init_206 : decode cX8_init 206 = .ok (.iinc 1 1, 3) := by decide +kernel
theorem dX8_init_209 : decode cX8_init 209 = .ok (.goto (-32), 3) := by decide +kernel
theorem dX8_init_212 : decode cX8_init 212 = .ok (.iconst 0, 1) := by decide +kernel
theorem dX8_init_213 : decode cX8_init 213 = .ok (.istore_n 1, 1) := by decide +kernel
theorem dX8_init_214 : decode cX8_init 214 = .ok (.iload_n 1, 1) := by decide +kernel
theorem dX8_init_215 : decode cX8_init 215 = .ok (.iconst 3, 1) := by decide +kernel
theorem dX8_init_216 : decode cX8_init 216 = .ok (.if_icmp .ge 25, 3) := by decide +kernel
theorem dX8_init_219 : decode cX8_init 219 = .ok (.aload_n 0, 1) := by decide +kernel
theorem dX8_init_220 : decode cX8_init 220 = .ok (.getfield 7, 3) := by decide +kernel
theorem dX8_init_223 : decode cX8_init 223 = .ok (.sipush 3733, 3) := by decide +kernel
theorem dX8_init_226 : decode cX8_init 226 = .ok (.iconst 4, 1) := by decide +kernel
theorem dX8_init_227 : decode cX8_init 227 = .ok (.iload_n 1, 1) := by decide +kernel
theorem dX8_init_228 : decode cX8_init 228 = .ok (.imul, 1) := by decide +kernel
theorem dX8_init_229 : decode cX8_init 229 = .ok (.iadd, 1) := by decide +kernel
theorem dX8_init_230 : decode cX8_init 230 = .ok (.iload_n 1, 1) := by decide +kernel
theorem dX8_init_231 : decode cX8_init 231 = .ok (.iadd, 1) := by decide +kernel
theorem dX8_init_232 : decode cX8_init 232 = .ok (.bipush 10, 2) := by decide +kernel
theorem dX8_init_234 : decode cX8_init 234 = .ok (.iastore, 1) := by decide +kernel
theorem dX8_init_235 : decode cX8_init 235 = .ok (.iinc 1 1, 3) := by decide +kernel
theorem dX8_init_238 : decode cX8_init 238 = .ok (.goto (-24), 3) := by decide +kernel
theorem dX8_init_241 : decode cX8_init 241 = .ok (.aload_n 0, 1) := by decide +kernel
theorem dX8_init_242 : decode cX8_init 242 = .ok (.iconst (-1), 1) := by decide +kernel
theorem dX8_init_243 : decode cX8_init 243 = .ok (.putfield 57, 3) := by decide +kernel
theorem dX8_init_246 : decode cX8_init 246 = .ok (.aload_n 0, 1) := by decide +kernel
theorem dX8_init_247 : decode cX8_init 247 = .ok (.iconst (-1), 1) := by decide +kernel
theorem dX8_init_248 : decode cX8_init 248 = .ok (.putfield 61, 3) := by decide +kernel
theorem dX8_init_251 : decode cX8_init 251 = .ok (.return_, 1) := by decide +kernel
def kX8_init (Ret : an_R) : an_code := [(0, an_lf (fun live => am_aload 0 1)), (1, an_obj 20 4), (4, an_lf (fun live => am_aload 0 5)), (5, an_lf (fun live => am_const (.int 3760) 8)), (8, an_newa 0 3760 (fun L => 201) 15 11799 10), (10, an_putFR 8 0 13), (13, an_lf (fun live => am_aload 0 14)), (14, an_lf (fun live => am_const (.int 7520) 17)), (17, an_newa 0 7520 (fun L => 202) 15 11799 19), (19, an_putFR 8 1 22), (22, an_lf (fun live => am_aload 0 23)), (23, an_lf (fun live => am_const (.int 2) 24)), (24, an_newa 2 2 (fun L => 203) 15 11799 26), (26, an_putFR 8 2 29), (29, an_lf (fun live => am_aload 0 30)), (30, an_lf (fun live => am_const (.int 120) 32)), (32, an_newa 0 120 (fun L => 204) 15 11799 34), (34, an_putFR 8 9 37), (37, an_lf (fun live => am_aload 0 38)), (38, an_lf (fun live => am_const (.int 120) 40)), (40, an_newa 1 120 (fun L => 205) 15 11799 42), (42, an_putFR 8 10 45), (45, an_lf (fun live => am_aload 0 46)), (46, an_lf (fun live => am_const (.int 7) 48)), (48, an_newa 1 7 (fun L => 206) 15 11799 50), (50, an_putFR 8 13 53), (53, an_lf (fun live => am_aload 0 54)), (54, an_lf (fun live => am_const (.int 30) 56)), (56, an_newa 1 30 (fun L => 207) 15 11799 58), (58, an_putFR 8 15 61), (61, an_lf (fun live => am_aload 0 62)), (62, an_lf (fun live => am_const (.int 30) 64)), (64, an_newa 1 30 (fun L => 208) 15 11799 66), (66, an_putFR 8 16 69), (69, an_lf (fun live => am_aload 0 70)), (70, an_lf (fun live => am_const (.int 30) 72)), (72, an_newa 1 30 (fun L => 209) 15 11799 74), (74, an_putFR 8 17 77), (77, an_lf (fun live => am_aload 0 78)), (78, an_lf (fun live => am_const (.int 30) 80)), (80, an_newa 1 30 (fun L => 210) 15 11799 82), (82, an_putFR 8 18 85), (85, an_lf (fun live => am_aload 0 86)), (86, an_lf (fun live => am_const (.int 30) 88)), (88, an_newa 1 30 (fun L => 211) 15 11799 90), (90, an_putFR 8 19 93), (93, an_lf (fun live => am_aload 0 94)), (94, an_lf (fun live => am_const (.int 30) 96)), (96, an_newa 1 30 (fun L => 212) 15 11799 98), (98, an_putFR 8 20 101), (101, an_lf (fun live => am_aload 0 102)), (102, an_lf (fun live => am_const (.int 30) 104)), (104, an_newa 2 30 (fun L => 213) 15 11799 106), (106, an_putFR 8 21 109), (109, an_lf (fun live => am_aload 0 110)), (110, an_lf (fun live => am_const (.int 30) 112)), (112, an_newa 1 30 (fun L => 214) 15 11799 114), (114, an_putFR 8 23 117), (117, an_lf (fun live => am_aload 0 118)), (118, an_lf (fun live => am_const (.int 30) 120)), (120, an_newa 2 30 (fun L => 215) 15 11799 122), (122, an_putFR 8 24 125), (125, an_lf (fun live => am_const (.int 0) 126)), (126, an_lf (fun live => am_istore 1 2 127)), (127, an_lf (fun live => am_iload 1 128)), (128, an_lf (fun live => am_const (.int 12) 130)), (130, an_lf (fun live => am_if2 (fun x y => y ≤ x) 149 133)), (133, an_lf (fun live => am_aload 0 134)), (134, an_lf (fun live => am_getR live 8 0 137)), (137, an_lf (fun live => am_const (.int 22) 139)), (139, an_lf (fun live => am_iload 1 140)), (140, an_lf (fun live => am_i2 (fun x y => x + y) 141)), (141, an_lf (fun live => am_const (.int (-1)) 142)), (142, an_lf (fun live => am_ast live 0 143)), (143, an_lf (fun live => am_iinc 1 2 1 146)), (146, an_lf (fun live => am_goto 127)), (149, an_lf (fun live => am_const (.int 0) 150)), (150, an_lf (fun live => am_istore 1 2 151)), (151, an_lf (fun live => am_iload 1 152)), (152, an_lf (fun live => am_const (.int 4) 153)), (153, an_lf (fun live => am_if2 (fun x y => y ≤ x) 175 156)), (156, an_lf (fun live => am_aload 0 157)), (157, an_lf (fun live => am_getR live 8 0 160)), (160, an_lf (fun live => am_const (.int 514) 163)), (163, an_lf (fun live => am_iload 1 164)), (164, an_lf (fun live => am_i2 (fun x y => x + y) 165)), (165, an_lf (fun live => am_const (.int 1000) 168)), (168, an_lf (fun live => am_ast live 0 169)), (169, an_lf (fun live => am_iinc 1 2 1 172)), (172, an_lf (fun live => am_goto 151)), (175, an_lf (fun live => am_const (.int 0) 176)), (176, an_lf (fun live => am_istore 1 2 177)), (177, an_lf (fun live => am_iload 1 178)), (178, an_lf (fun live => am_const (.int 480) 181)), (181, an_lf (fun live => am_if2 (fun x y => y ≤ x) 212 184)), (184, an_lf (fun live => am_aload 0 185)), (185, an_lf (fun live => am_getR live 8 0 188)), (188, an_lf (fun live => am_const (.int 1038) 191)), (191, an_lf (fun live => am_iload 1 192)), (192, an_lf (fun live => am_i2 (fun x y => x + y) 193)), (193, an_lf (fun live => am_const (.int (-1)) 194)), (194, an_lf (fun live => am_ast live 0 195)), (195, an_lf (fun live => am_aload 0 196)), (196, an_lf (fun live => am_getR live 8 0 199)), (199, an_lf (fun live => am_const (.int 1998) 202)), (202, an_lf (fun live => am_iload 1 203)), (203, an_lf (fun live => am_i2 (fun x y => x + y) 204)), (204, an_lf (fun live => am_const (.int (-1)) 205)), (205, an_lf (fun live => am_ast live 0 206)), (206, an_lf (fun live => am_iinc 1 2 1 209)), (209, an_lf (fun live => am_goto 177)), (212, an_lf (fun live => am_const (.int 0) 213)), (213, an_lf (fun live => am_istore 1 2 214)), (214, an_lf (fun live => am_iload 1 215)), (215, an_lf (fun live => am_const (.int 3) 216)), (216, an_lf (fun live => am_if2 (fun x y => y ≤ x) 241 219)), (219, an_lf (fun live => am_aload 0 220)), (220, an_lf (fun live => am_getR live 8 0 223)), (223, an_lf (fun live => am_const (.int 3733) 226)), (226, an_lf (fun live => am_const (.int 4) 227)), (227, an_lf (fun live => am_iload 1 228)), (228, an_lf (fun live => am_i2 (fun x y => x * y) 229)), (229, an_lf (fun live => am_i2 (fun x y => x + y) 230)), (230, an_lf (fun live => am_iload 1 231)), (231, an_lf (fun live => am_i2 (fun x y => x + y) 232)), (232, an_lf (fun live => am_const (.int 10) 234)), (234, an_lf (fun live => am_ast live 0 235)), (235, an_lf (fun live => am_iinc 1 2 1 238)), (238, an_lf (fun live => am_goto 214)), (241, an_lf (fun live => am_aload 0 242)), (242, an_lf (fun live => am_const (.int (-1)) 243)), (243, an_lf (fun live => am_putI live 8 3 246)), (246, an_lf (fun live => am_aload 0 247)), (247, an_lf (fun live => am_const (.int (-1)) 248)), (248, an_lf (fun live => am_putI live 8 7 251)), (251, an_retV Ret)]
theorem koX8_init (Ret : an_R) : ∀ q ∈ kX8_init Ret, an_ok RX8 cX8_init 2 none 1 20 15 11799 true (fun _ _ _ => True) Ret q.1 q.2 :=
  an_kc (an_lift (fun live => ak_aload_n dX8_init_0 rfl rfl)) <|
  an_kc (nk_obj (am_w3 wd_891 wd_76 wd_77) (by decide) dX8_init_1 rfl) <|
  an_kc (an_lift (fun live => ak_aload_n dX8_init_4 rfl rfl)) <|
  an_kc (an_lift (fun live => ak_sipush dX8_init_5 (by decide +kernel) rfl)) <|
  an_kc (nk_newa (t := 0) (len := 3760) (atype := .int) (ty := .int) rfl (fun _ => rfl) (fun _ z => by cases z) (fun _ => rfl) wd_140 (by decide) dX8_init_8 rfl) <|
  an_kc (nk_putFR (C := RX8) (C2 := RX8) (T := TX8) (N := 27) rfl inX8w tyX8_ok nmX8 (by decide) rfl rfl rfl rfl rfl (tyX8_ok 0 (by decide)) (fun _ => ⟨rfl, rfl⟩) rfl wd_892 dX8_init_10 rfl) <|
  an_kc (an_lift (fun live => ak_aload_n dX8_init_13 rfl rfl)) <|
  an_kc (an_lift (fun live => ak_sipush dX8_init_14 (by decide +kernel) rfl)) <|
  an_kc (nk_newa (t := 0) (len := 7520) (atype := .int) (ty := .int) rfl (fun _ => rfl) (fun _ z => by cases z) (fun _ => rfl) wd_140 (by decide) dX8_init_17 rfl) <|
  an_kc (nk_putFR (C := RX8) (C2 := RX8) (T := TX8) (N := 27) rfl inX8w tyX8_ok nmX8 (by decide) rfl rfl rfl rfl rfl (tyX8_ok 1 (by decide)) (fun _ => ⟨rfl, rfl⟩) rfl wd_893 dX8_init_19 rfl) <|
  an_kc (an_lift (fun live => ak_aload_n dX8_init_22 rfl rfl)) <|
  an_kc (an_lift (fun live => ak_iconst dX8_init_23 (by decide +kernel) rfl)) <|
  an_kc (nk_newa (t := 2) (len := 2) (atype := .boolean) (ty := .boolean) rfl (fun _ => rfl) (fun _ z => by cases z) (fun _ => rfl) wd_974 (by decide) dX8_init_24 rfl) <|
  an_kc (nk_putFR (C := RX8) (C2 := RX8) (T := TX8) (N := 27) rfl inX8w tyX8_ok nmX8 (by decide) rfl rfl rfl rfl rfl (tyX8_ok 2 (by decide)) (fun _ => ⟨rfl, rfl⟩) rfl wd_894 dX8_init_26 rfl) <|
  an_kc (an_lift (fun live => ak_aload_n dX8_init_29 rfl rfl)) <|
  an_kc (an_lift (fun live => ak_bipush dX8_init_30 (by decide +kernel) rfl)) <|
  an_kc (nk_newa (t := 0) (len := 120) (atype := .int) (ty := .int) rfl (fun _ => rfl) (fun _ z => by cases z) (fun _ => rfl) wd_140 (by decide) dX8_init_32 rfl) <|
  an_kc (nk_putFR (C := RX8) (C2 := RX8) (T := TX8) (N := 27) rfl inX8w tyX8_ok nmX8 (by decide) rfl rfl rfl rfl rfl (tyX8_ok 9 (by decide)) (fun _ => ⟨rfl, rfl⟩) rfl wd_901 dX8_init_34 rfl) <|
  an_kc (an_lift (fun live => ak_aload_n dX8_init_37 rfl rfl)) <|
  an_kc (an_lift (fun live => ak_bipush dX8_init_38 (by decide +kernel) rfl)) <|
  an_kc (nk_newa (t := 1) (len := 120) (atype := .long) (ty := .long) rfl (fun _ => rfl) (fun _ z => by cases z) (fun _ => rfl) wd_290 (by decide) dX8_init_40 rfl) <|
  an_kc (nk_putFR (C := RX8) (C2 := RX8) (T := TX8) (N := 27) rfl inX8w tyX8_ok nmX8 (by decide) rfl rfl rfl rfl rfl (tyX8_ok 10 (by decide)) (fun _ => ⟨rfl, rfl⟩) rfl wd_902 dX8_init_42 rfl) <|
  an_kc (an_lift (fun live => ak_aload_n dX8_init_45 rfl rfl)) <|
  an_kc (an_lift (fun live => ak_bipush dX8_init_46 (by decide +kernel) rfl)) <|
  an_kc (nk_newa (t := 1) (len := 7) (atype := .long) (ty := .long) rfl (fun _ => rfl) (fun _ z => by cases z) (fun _ => rfl) wd_290 (by decide) dX8_init_48 rfl) <|
  an_kc (nk_putFR (C := RX8) (C2 := RX8) (T := TX8) (N := 27) rfl inX8w tyX8_ok nmX8 (by decide) rfl rfl rfl rfl rfl (tyX8_ok 13 (by decide)) (fun _ => ⟨rfl, rfl⟩) rfl wd_905 dX8_init_50 rfl) <|
  an_kc (an_lift (fun live => ak_aload_n dX8_init_53 rfl rfl)) <|
  an_kc (an_lift (fun live => ak_bipush dX8_init_54 (by decide +kernel) rfl)) <|
  an_kc (nk_newa (t := 1) (len := 30) (atype := .long) (ty := .long) rfl (fun _ => rfl) (fun _ z => by cases z) (fun _ => rfl) wd_290 (by decide) dX8_init_56 rfl) <|
  an_kc (nk_putFR (C := RX8) (C2 := RX8) (T := TX8) (N := 27) rfl inX8w tyX8_ok nmX8 (by decide) rfl rfl rfl rfl rfl (tyX8_ok 15 (by decide)) (fun _ => ⟨rfl, rfl⟩) rfl wd_907 dX8_init_58 rfl) <|
  an_kc (an_lift (fun live => ak_aload_n dX8_init_61 rfl rfl)) <|
  an_kc (an_lift (fun live => ak_bipush dX8_init_62 (by decide +kernel) rfl)) <|
  an_kc (nk_newa (t := 1) (len := 30) (atype := .long) (ty := .long) rfl (fun _ => rfl) (fun _ z => by cases z) (fun _ => rfl) wd_290 (by decide) dX8_init_64 rfl) <|
  an_kc (nk_putFR (C := RX8) (C2 := RX8) (T := TX8) (N := 27) rfl inX8w tyX8_ok nmX8 (by decide) rfl rfl rfl rfl rfl (tyX8_ok 16 (by decide)) (fun _ => ⟨rfl, rfl⟩) rfl wd_908 dX8_init_66 rfl) <|
  an_kc (an_lift (fun live => ak_aload_n dX8_init_69 rfl rfl)) <|
  an_kc (an_lift (fun live => ak_bipush dX8_init_70 (by decide +kernel) rfl)) <|
  an_kc (nk_newa (t := 1) (len := 30) (atype := .long) (ty := .long) rfl (fun _ => rfl) (fun _ z => by cases z) (fun _ => rfl) wd_290 (by decide) dX8_init_72 rfl) <|
  an_kc (nk_putFR (C := RX8) (C2 := RX8) (T := TX8) (N := 27) rfl inX8w tyX8_ok nmX8 (by decide) rfl rfl rfl rfl rfl (tyX8_ok 17 (by decide)) (fun _ => ⟨rfl, rfl⟩) rfl wd_909 dX8_init_74 rfl) <|
  an_kc (an_lift (fun live => ak_aload_n dX8_init_77 rfl rfl)) <|
  an_kc (an_lift (fun live => ak_bipush dX8_init_78 (by decide +kernel) rfl)) <|
  an_kc (nk_newa (t := 1) (len := 30) (atype := .long) (ty := .long) rfl (fun _ => rfl) (fun _ z => by cases z) (fun _ => rfl) wd_290 (by decide) dX8_init_80 rfl) <|
  an_kc (nk_putFR (C := RX8) (C2 := RX8) (T := TX8) (N := 27) rfl inX8w tyX8_ok nmX8 (by decide) rfl rfl rfl rfl rfl (tyX8_ok 18 (by decide)) (fun _ => ⟨rfl, rfl⟩) rfl wd_910 dX8_init_82 rfl) <|
  an_kc (an_lift (fun live => ak_aload_n dX8_init_85 rfl rfl)) <|
  an_kc (an_lift (fun live => ak_bipush dX8_init_86 (by decide +kernel) rfl)) <|
  an_kc (nk_newa (t := 1) (len := 30) (atype := .long) (ty := .long) rfl (fun _ => rfl) (fun _ z => by cases z) (fun _ => rfl) wd_290 (by decide) dX8_init_88 rfl) <|
  an_kc (nk_putFR (C := RX8) (C2 := RX8) (T := TX8) (N := 27) rfl inX8w tyX8_ok nmX8 (by decide) rfl rfl rfl rfl rfl (tyX8_ok 19 (by decide)) (fun _ => ⟨rfl, rfl⟩) rfl wd_911 dX8_init_90 rfl) <|
  an_kc (an_lift (fun live => ak_aload_n dX8_init_93 rfl rfl)) <|
  an_kc (an_lift (fun live => ak_bipush dX8_init_94 (by decide +kernel) rfl)) <|
  an_kc (nk_newa (t := 1) (len := 30) (atype := .long) (ty := .long) rfl (fun _ => rfl) (fun _ z => by cases z) (fun _ => rfl) wd_290 (by decide) dX8_init_96 rfl) <|
  an_kc (nk_putFR (C := RX8) (C2 := RX8) (T := TX8) (N := 27) rfl inX8w tyX8_ok nmX8 (by decide) rfl rfl rfl rfl rfl (tyX8_ok 20 (by decide)) (fun _ => ⟨rfl, rfl⟩) rfl wd_912 dX8_init_98 rfl) <|
  an_kc (an_lift (fun live => ak_aload_n dX8_init_101 rfl rfl)) <|
  an_kc (an_lift (fun live => ak_bipush dX8_init_102 (by decide +kernel) rfl)) <|
  an_kc (nk_newa (t := 2) (len := 30) (atype := .boolean) (ty := .boolean) rfl (fun _ => rfl) (fun _ z => by cases z) (fun _ => rfl) wd_974 (by decide) dX8_init_104 rfl) <|
  an_kc (nk_putFR (C := RX8) (C2 := RX8) (T := TX8) (N := 27) rfl inX8w tyX8_ok nmX8 (by decide) rfl rfl rfl rfl rfl (tyX8_ok 21 (by decide)) (fun _ => ⟨rfl, rfl⟩) rfl wd_913 dX8_init_106 rfl) <|
  an_kc (an_lift (fun live => ak_aload_n dX8_init_109 rfl rfl)) <|
  an_kc (an_lift (fun live => ak_bipush dX8_init_110 (by decide +kernel) rfl)) <|
  an_kc (nk_newa (t := 1) (len := 30) (atype := .long) (ty := .long) rfl (fun _ => rfl) (fun _ z => by cases z) (fun _ => rfl) wd_290 (by decide) dX8_init_112 rfl) <|
  an_kc (nk_putFR (C := RX8) (C2 := RX8) (T := TX8) (N := 27) rfl inX8w tyX8_ok nmX8 (by decide) rfl rfl rfl rfl rfl (tyX8_ok 23 (by decide)) (fun _ => ⟨rfl, rfl⟩) rfl wd_915 dX8_init_114 rfl) <|
  an_kc (an_lift (fun live => ak_aload_n dX8_init_117 rfl rfl)) <|
  an_kc (an_lift (fun live => ak_bipush dX8_init_118 (by decide +kernel) rfl)) <|
  an_kc (nk_newa (t := 2) (len := 30) (atype := .boolean) (ty := .boolean) rfl (fun _ => rfl) (fun _ z => by cases z) (fun _ => rfl) wd_974 (by decide) dX8_init_120 rfl) <|
  an_kc (nk_putFR (C := RX8) (C2 := RX8) (T := TX8) (N := 27) rfl inX8w tyX8_ok nmX8 (by decide) rfl rfl rfl rfl rfl (tyX8_ok 24 (by decide)) (fun _ => ⟨rfl, rfl⟩) rfl wd_916 dX8_init_122 rfl) <|
  an_kc (an_lift (fun live => ak_iconst dX8_init_125 (by decide +kernel) rfl)) <|
  an_kc (an_lift (fun live => ak_istore_n dX8_init_126 rfl rfl)) <|
  an_kc (an_lift (fun live => ak_iload_n dX8_init_127 rfl rfl)) <|
  an_kc (an_lift (fun live => ak_bipush dX8_init_128 (by decide +kernel) rfl)) <|
  an_kc (an_lift (fun live => ak_icmp_ge dX8_init_130 (by decide +kernel) rfl)) <|
  an_kc (an_lift (fun live => ak_aload_n dX8_init_133 rfl rfl)) <|
  an_kc (an_lift (fun live => ak_getR (C := RX8) (T := TX8) (N := 27) rfl inX8w (by decide) rfl rfl rfl wd_892 dX8_init_134 rfl)) <|
  an_kc (an_lift (fun live => ak_bipush dX8_init_137 (by decide +kernel) rfl)) <|
  an_kc (an_lift (fun live => ak_iload_n dX8_init_139 rfl rfl)) <|
  an_kc (an_lift (fun live => ak_iadd dX8_init_140 rfl)) <|
  an_kc (an_lift (fun live => ak_iconst dX8_init_141 (by decide +kernel) rfl)) <|
  an_kc (an_lift (fun live => ak_iast (t := 0) (fun _ => rfl) rfl dX8_init_142 rfl)) <|
  an_kc (an_lift (fun live => ak_iinc dX8_init_143 (by decide +kernel) rfl)) <|
  an_kc (an_lift (fun live => ak_goto dX8_init_146 (by decide +kernel))) <|
  an_kc (an_lift (fun live => ak_iconst dX8_init_149 (by decide +kernel) rfl)) <|
  an_kc (an_lift (fun live => ak_istore_n dX8_init_150 rfl rfl)) <|
  an_kc (an_lift (fun live => ak_iload_n dX8_init_151 rfl rfl)) <|
  an_kc (an_lift (fun live => ak_iconst dX8_init_152 (by decide +kernel) rfl)) <|
  an_kc (an_lift (fun live => ak_icmp_ge dX8_init_153 (by decide +kernel) rfl)) <|
  an_kc (an_lift (fun live => ak_aload_n dX8_init_156 rfl rfl)) <|
  an_kc (an_lift (fun live => ak_getR (C := RX8) (T := TX8) (N := 27) rfl inX8w (by decide) rfl rfl rfl wd_892 dX8_init_157 rfl)) <|
  an_kc (an_lift (fun live => ak_sipush dX8_init_160 (by decide +kernel) rfl)) <|
  an_kc (an_lift (fun live => ak_iload_n dX8_init_163 rfl rfl)) <|
  an_kc (an_lift (fun live => ak_iadd dX8_init_164 rfl)) <|
  an_kc (an_lift (fun live => ak_sipush dX8_init_165 (by decide +kernel) rfl)) <|
  an_kc (an_lift (fun live => ak_iast (t := 0) (fun _ => rfl) rfl dX8_init_168 rfl)) <|
  an_kc (an_lift (fun live => ak_iinc dX8_init_169 (by decide +kernel) rfl)) <|
  an_kc (an_lift (fun live => ak_goto dX8_init_172 (by decide +kernel))) <|
  an_kc (an_lift (fun live => ak_iconst dX8_init_175 (by decide +kernel) rfl)) <|
  an_kc (an_lift (fun live => ak_istore_n dX8_init_176 rfl rfl)) <|
  an_kc (an_lift (fun live => ak_iload_n dX8_init_177 rfl rfl)) <|
  an_kc (an_lift (fun live => ak_sipush dX8_init_178 (by decide +kernel) rfl)) <|
  an_kc (an_lift (fun live => ak_icmp_ge dX8_init_181 (by decide +kernel) rfl)) <|
  an_kc (an_lift (fun live => ak_aload_n dX8_init_184 rfl rfl)) <|
  an_kc (an_lift (fun live => ak_getR (C := RX8) (T := TX8) (N := 27) rfl inX8w (by decide) rfl rfl rfl wd_892 dX8_init_185 rfl)) <|
  an_kc (an_lift (fun live => ak_sipush dX8_init_188 (by decide +kernel) rfl)) <|
  an_kc (an_lift (fun live => ak_iload_n dX8_init_191 rfl rfl)) <|
  an_kc (an_lift (fun live => ak_iadd dX8_init_192 rfl)) <|
  an_kc (an_lift (fun live => ak_iconst dX8_init_193 (by decide +kernel) rfl)) <|
  an_kc (an_lift (fun live => ak_iast (t := 0) (fun _ => rfl) rfl dX8_init_194 rfl)) <|
  an_kc (an_lift (fun live => ak_aload_n dX8_init_195 rfl rfl)) <|
  an_kc (an_lift (fun live => ak_getR (C := RX8) (T := TX8) (N := 27) rfl inX8w (by decide) rfl rfl rfl wd_892 dX8_init_196 rfl)) <|
  an_kc (an_lift (fun live => ak_sipush dX8_init_199 (by decide +kernel) rfl)) <|
  an_kc (an_lift (fun live => ak_iload_n dX8_init_202 rfl rfl)) <|
  an_kc (an_lift (fun live => ak_iadd dX8_init_203 rfl)) <|
  an_kc (an_lift (fun live => ak_iconst dX8_init_204 (by decide +kernel) rfl)) <|
  an_kc (an_lift (fun live => ak_iast (t := 0) (fun _ => rfl) rfl dX8_init_205 rfl)) <|
  an_kc (an_lift (fun live => ak_iinc dX8_init_206 (by decide +kernel) rfl)) <|
  an_kc (an_lift (fun live => ak_goto dX8_init_209 (by decide +kernel))) <|
  an_kc (an_lift (fun live => ak_iconst dX8_init_212 (by decide +kernel) rfl)) <|
  an_kc (an_lift (fun live => ak_istore_n dX8_init_213 rfl rfl)) <|
  an_kc (an_lift (fun live => ak_iload_n dX8_init_214 rfl rfl)) <|
  an_kc (an_lift (fun live => ak_iconst dX8_init_215 (by decide +kernel) rfl)) <|
  an_kc (an_lift (fun live => ak_icmp_ge dX8_init_216 (by decide +kernel) rfl)) <|
  an_kc (an_lift (fun live => ak_aload_n dX8_init_219 rfl rfl)) <|
  an_kc (an_lift (fun live => ak_getR (C := RX8) (T := TX8) (N := 27) rfl inX8w (by decide) rfl rfl rfl wd_892 dX8_init_220 rfl)) <|
  an_kc (an_lift (fun live => ak_sipush dX8_init_223 (by decide +kernel) rfl)) <|
  an_kc (an_lift (fun live => ak_iconst dX8_init_226 (by decide +kernel) rfl)) <|
  an_kc (an_lift (fun live => ak_iload_n dX8_init_227 rfl rfl)) <|
  an_kc (an_lift (fun live => ak_imul dX8_init_228 rfl)) <|
  an_kc (an_lift (fun live => ak_iadd dX8_init_229 rfl)) <|
  an_kc (an_lift (fun live => ak_iload_n dX8_init_230 rfl rfl)) <|
  an_kc (an_lift (fun live => ak_iadd dX8_init_231 rfl)) <|
  an_kc (an_lift (fun live => ak_bipush dX8_init_232 (by decide +kernel) rfl)) <|
  an_kc (an_lift (fun live => ak_iast (t := 0) (fun _ => rfl) rfl dX8_init_234 rfl)) <|
  an_kc (an_lift (fun live => ak_iinc dX8_init_235 (by decide +kernel) rfl)) <|
  an_kc (an_lift (fun live => ak_goto dX8_init_238 (by decide +kernel))) <|
  an_kc (an_lift (fun live => ak_aload_n dX8_init_241 rfl rfl)) <|
  an_kc (an_lift (fun live => ak_iconst dX8_init_242 (by decide +kernel) rfl)) <|
  an_kc (an_lift (fun live => ak_putI (C := RX8) (T := TX8) (N := 27) rfl inX8w tyX8_ok nmX8 (by decide) rfl rfl rfl rfl (by decide +kernel) wd_895 dX8_init_243 rfl)) <|
  an_kc (an_lift (fun live => ak_aload_n dX8_init_246 rfl rfl)) <|
  an_kc (an_lift (fun live => ak_iconst dX8_init_247 (by decide +kernel) rfl)) <|
  an_kc (an_lift (fun live => ak_putI (C := RX8) (T := TX8) (N := 27) rfl inX8w tyX8_ok nmX8 (by decide) rfl rfl rfl rfl (by decide +kernel) wd_899 dX8_init_248 rfl)) <|
  an_kc (nk_retV dX8_init_251) <| an_kn
def eX8 (E : am_E) : am_E := an_rE (an_bE (an_rE (an_bE (an_rE (an_bE (an_rE (an_bE (an_rE (an_bE (an_rE (an_bE (an_rE (an_bE (an_rE (an_bE (an_rE (an_bE (an_rE (an_bE (an_rE (an_bE (an_rE (an_bE (an_rE (an_bE (an_rE (an_bE (an_rE (an_bE (E) 201) 200 0 201) 202) 200 1 202) 203) 200 2 203) 204) 200 9 204) 205) 200 10 205) 206) 200 13 206) 207) 200 15 207) 208) 200 16 208) 209) 200 17 209) 210) 200 18 210) 211) 200 19 211) 212) 200 20 212) 213) 200 21 213) 214) 200 23 214) 215) 200 24 215
def mX8a (M : am_M) : am_M := am_wI (am_wI (am_wI (am_wI (am_wI (am_wI (am_wI (am_wI (am_wI (am_wI (am_wI (am_wI (am_wI (am_wI (am_wI (am_wI (an_bM (an_bM (an_bM (an_bM (an_bM (an_bM (an_bM (an_bM (an_bM (an_bM (an_bM (an_bM (an_bM (an_bM (an_bM (M) 201) 202) 203) 204) 205) 206) 207) 208) 209) 210) 211) 212) 213) 214) 215) 201 22 (-1)) 201 23 (-1)) 201 24 (-1)) 201 25 (-1)) 201 26 (-1)) 201 27 (-1)) 201 28 (-1)) 201 29 (-1)) 201 30 (-1)) 201 31 (-1)) 201 32 (-1)) 201 33 (-1)) 201 514 1000) 201 515 1000) 201 516 1000) 201 517 1000
def an_l2 (M : am_M) (j : Nat) : am_M := (fun a b => if a = 201 ∧ ((1038 ≤ b ∧ b < 1038 + j) ∨ (1998 ≤ b ∧ b < 1998 + j)) then -1 else M.1 a b, M.2)
def mX8 (M : am_M) : am_M := am_wI (am_wI (am_wI (am_wI (am_wI (an_l2 (mX8a M) 480) 201 3733 10) 201 3738 10) 201 3743 10) 200 3 (-1)) 200 7 (-1)
theorem an_l2_0 (M : am_M) : an_l2 M 0 = M := by
  refine am_Mext (fun a b => ?_) rfl
  show (if _ then _ else _) = _
  rw [if_neg (fun q => by omega)]
theorem an_l2_s (M : am_M) (j : Nat) : am_wI (am_wI (an_l2 M j) 201 (1038 + j) (-1)) 201 (1998 + j) (-1) = an_l2 M (j + 1) := by
  refine am_Mext (fun a b => ?_) rfl
  rw [am_wI_1, am_wI_1]
  show (if _ then _ else if _ then _ else if _ then _ else _) = (if _ then _ else _)
  by_cases ha : a = 201
  · subst ha
    simp only [true_and]
    by_cases h1 : b = 1998 + j
    · rw [if_pos h1, if_pos (by omega)]
    · rw [if_neg h1]
      by_cases h2 : b = 1038 + j
      · rw [if_pos h2, if_pos (by omega)]
      · rw [if_neg h2]
        by_cases h3 : (1038 ≤ b ∧ b < 1038 + j) ∨ (1998 ≤ b ∧ b < 1998 + j)
        · rw [if_pos h3, if_pos (by omega)]
        · rw [if_neg h3, if_neg (by omega)]
  · rw [if_neg (fun q => ha q.1), if_neg (fun q => ha q.1), if_neg (fun q => ha q.1), if_neg (fun q => ha q.1)]
theorem an_ofN {c j : Nat} (h : c + j < 2147483648) : (Int32.ofNat c + Int32.ofNat j).toNatClampNeg = c + j ∧ (Int32.ofNat c + Int32.ofNat j).toInt = ((c + j : Nat) : Int) := by
  have e : Int32.ofNat c + Int32.ofNat j = Int32.ofNat (c + j) := by rw [Int32.ofNat_add]
  have e2 : (Int32.ofNat (c + j)).toInt = ((c + j : Nat) : Int) := i_nat h
  rw [e]
  refine ⟨?_, e2⟩
  show (Int32.ofNat (c + j)).toInt.toNat = c + j
  omega
def TX8_init : an_T := fun E as M R => match as with
  | [.ref r] => am_if (Nat.beq r 200 && an_fc E 200 15) (R none (eX8 E) (mX8 M))
  | _ => False
def JX8_init : am_E → List Value → am_M → an_R → an_inv := fun E as M0 _ pc => match pc with
  | 177 => some ([0, 1], fun k L st X => ∃ j : Nat, j ≤ 480 ∧ L = [(0, .ref 200), (1, .int (Int32.ofNat j))] ∧ st = [] ∧ k = (480 - j, 0) ∧ X = (eX8 E, 15, 11799, an_l2 (mX8a M0) j))
  | _ => none
set_option maxRecDepth 100000 in
set_option maxHeartbeats 4000000 in
theorem metX8_init : an_Met yX8_init cX8_init 2 none (1) (20) 15 11799 TX8_init := by
  refine an_met (own := RX8) (ini := true) (by decide +kernel) rfl (fun _ => rfl) kX8_init koX8_init 400 JX8_init ?_ ?_
  · intro live as M Ret h
    unfold TX8_init at h
    split at h
    · next r =>
      refine ⟨Nat.le_of_ble_eq_true rfl, ?_⟩
      change an_wp _ _ _ _ [(0, Value.ref r)] _ _
      have hh := am_if_mp h
      clear h
      obtain ⟨hb, h⟩ := hh
      rw [Bool.and_eq_true] at hb
      obtain ⟨h1, h3⟩ := hb
      have h1 := Nat.eq_of_beq_eq_true h1
      subst h1
      obtain ⟨E, rfl⟩ : ∃ E, live = an_ho 200 15 E := ⟨live, an_ho_of h3⟩
      clear h3
      repeat' (first | exact rfl | apply And.intro | (intro hx; exact absurd hx (by decide)) | (intro hx; exact absurd (by decide) hx) | decide | intro hx | (refine Exists.intro _ (And.intro rfl ?_)))
      all_goals try first | (with_reducible change am_tI _ _) | (change Ret _ _) | (change Ret _ _ _) | (change Exists _)
      all_goals try dsimp only at *
      all_goals try exact absurd ‹(1000 : Int64) = 0› (by decide)
      refine ⟨_, 0, Nat.zero_le _, rfl, rfl, rfl, ?_⟩
      rw [an_l2_0]
      rfl
    · exact h.elim
  · intro live as M0 Ret h k pc I hI L st M hi
    unfold TX8_init at h
    split at h
    · next r =>
      have hh := am_if_mp h
      clear h
      obtain ⟨hb, h⟩ := hh
      rw [Bool.and_eq_true] at hb
      obtain ⟨h1, h3⟩ := hb
      have h1 := Nat.eq_of_beq_eq_true h1
      subst h1
      obtain ⟨E, rfl⟩ : ∃ E, live = an_ho 200 15 E := ⟨live, an_ho_of h3⟩
      clear h3
      change (match pc with | 177 => _ | _ => none) = _ at hI
      split at hI
      · cases hI
        obtain ⟨j, hj, rfl, rfl, rfl, rfl⟩ := hi
        have a1 : j < 480 → am_in (1038 + Int32.ofNat j) (am_len 201) ∧ (1038 + Int32.ofNat j).toNatClampNeg = 1038 + j := fun hlt => by
          have := an_ofN (c := 1038) (j := j) (by omega)
          have l1 : (am_len 201 : Int) = 3760 := rfl
          exact ⟨⟨by rw [show (1038 : Int32) = Int32.ofNat 1038 from rfl, this.2]; omega, by rw [show (1038 : Int32) = Int32.ofNat 1038 from rfl, this.2, l1]; omega⟩, this.1⟩
        have a2 : j < 480 → am_in (1998 + Int32.ofNat j) (am_len 201) ∧ (1998 + Int32.ofNat j).toNatClampNeg = 1998 + j := fun hlt => by
          have := an_ofN (c := 1998) (j := j) (by omega)
          have l1 : (am_len 201 : Int) = 3760 := rfl
          exact ⟨⟨by rw [show (1998 : Int32) = Int32.ofNat 1998 from rfl, this.2]; omega, by rw [show (1998 : Int32) = Int32.ofNat 1998 from rfl, this.2, l1]; omega⟩, this.1⟩
        have e1 : (Int32.ofNat j).toInt = (j : Int) := i_nat (by omega)
        by_cases hlt : j < 480
        · have hn : ¬ (480 : Int32) ≤ Int32.ofNat j := by rw [i_le, e1]; simp only [Int32.reduceToInt]; omega
          have a1 := a1 hlt
          have a2 := a2 hlt
          have b1 := a1.1.1
          have b2 := a1.1.2
          have b3 := a2.1.1
          have b4 := a2.1.2
          repeat' (first | exact rfl | (with_reducible exact b1) | (with_reducible exact b2) | (with_reducible exact b3) | (with_reducible exact b4) | apply And.intro | (intro hx; exact absurd hx hn) | intro hx | (refine Exists.intro _ (And.intro rfl ?_)))
          all_goals try first | (with_reducible change am_tI _ _) | (change Ret _ _) | (change Ret _ _ _) | (change Exists _)
          all_goals try dsimp only at *
          all_goals try exact absurd ‹(1000 : Int64) = 0› (by decide)
          refine ⟨(480 - (j + 1), 0), Or.inl (by show 480 - (j + 1) < 480 - j; omega), j + 1, by omega, ?_, rfl, rfl, ?_⟩
          · rw [Int32.ofNat_add]
            rfl
          · refine congrArg (fun z => (eX8 (an_ho 200 15 E), 15, 11799, z)) ?_
            rw [a1.2, a2.2, an_l2_s]
        · have hj2 : j = 480 := by omega
          subst hj2
          repeat' (first | exact rfl | apply And.intro | (intro hx; exact absurd hx (by decide)) | (intro hx; exact absurd (by decide) hx) | decide | intro hx | (refine Exists.intro _ (And.intro rfl ?_)))
          all_goals try first | (with_reducible change am_tI _ _) | (change Ret _ _) | (change Ret _ _ _) | (change Exists _)
          all_goals try dsimp only at *
          all_goals try exact absurd ‹(1000 : Int64) = 0› (by decide)
          all_goals exact h
      · cases hI
    · exact h.elim
end
