section
-- ===== PART A: goes FIRST, ahead of the names: the tables' words, and 'selects' of the private methods out of them =====
/-- a private method of a class that the tables say can be made, by its rows of tables_1 -/
def lw_okq (q : MethodName × Nat) : Prop := (q.1.cls ≠ "java/lang/invoke/MethodHandle" ∧ q.1.cls ≠ "java/lang/invoke/VarHandle") ∧ Cond.instantiable q.1.cls q.2 ∈ tables_1 ∧ Cond.privateMethod q.1 ∈ tables_1 ∧ Cond.instanceMethod q.1 ∈ tables_1
theorem lw_p0 : lw_okq (⟨"LearnLoans", "isPerson", "(I)Z"⟩, 4) := ⟨⟨by decide +kernel, by decide +kernel⟩, List.mem_of_getElem? (i := 14) (by decide +kernel), List.mem_of_getElem? (i := 355) (by decide +kernel), List.mem_of_getElem? (i := 356) (by decide +kernel)⟩
theorem lw_p1 : lw_okq (⟨"LearnLoans$Run", "layAct", "(III)V"⟩, 18) := ⟨⟨by decide +kernel, by decide +kernel⟩, List.mem_of_getElem? (i := 28) (by decide +kernel), List.mem_of_getElem? (i := 447) (by decide +kernel), List.mem_of_getElem? (i := 448) (by decide +kernel)⟩
theorem lw_p2 : lw_okq (⟨"LearnLoans", "isLoan", "(I)Z"⟩, 4) := ⟨⟨by decide +kernel, by decide +kernel⟩, List.mem_of_getElem? (i := 14) (by decide +kernel), List.mem_of_getElem? (i := 461) (by decide +kernel), List.mem_of_getElem? (i := 462) (by decide +kernel)⟩
theorem lw_p3 : lw_okq (⟨"LearnLoans$Run", "isStruck", "(II)Z"⟩, 18) := ⟨⟨by decide +kernel, by decide +kernel⟩, List.mem_of_getElem? (i := 28) (by decide +kernel), List.mem_of_getElem? (i := 517) (by decide +kernel), List.mem_of_getElem? (i := 518) (by decide +kernel)⟩
theorem lw_p4 : lw_okq (⟨"LearnLoans$Run", "cellOf", "(II)I"⟩, 18) := ⟨⟨by decide +kernel, by decide +kernel⟩, List.mem_of_getElem? (i := 28) (by decide +kernel), List.mem_of_getElem? (i := 521) (by decide +kernel), List.mem_of_getElem? (i := 522) (by decide +kernel)⟩
theorem lw_p5 : lw_okq (⟨"LearnLoans$Run", "planIn", "(II)I"⟩, 18) := ⟨⟨by decide +kernel, by decide +kernel⟩, List.mem_of_getElem? (i := 28) (by decide +kernel), List.mem_of_getElem? (i := 525) (by decide +kernel), List.mem_of_getElem? (i := 526) (by decide +kernel)⟩
theorem lw_p6 : lw_okq (⟨"LearnLoans$Run", "grow", "(II)V"⟩, 18) := ⟨⟨by decide +kernel, by decide +kernel⟩, List.mem_of_getElem? (i := 28) (by decide +kernel), List.mem_of_getElem? (i := 554) (by decide +kernel), List.mem_of_getElem? (i := 555) (by decide +kernel)⟩
theorem lw_p7 : lw_okq (⟨"LearnLoans$Run", "draw", "(II)V"⟩, 18) := ⟨⟨by decide +kernel, by decide +kernel⟩, List.mem_of_getElem? (i := 28) (by decide +kernel), List.mem_of_getElem? (i := 560) (by decide +kernel), List.mem_of_getElem? (i := 561) (by decide +kernel)⟩
theorem lw_p8 : lw_okq (⟨"LearnLoans$Run", "lineUp", "(I)V"⟩, 18) := ⟨⟨by decide +kernel, by decide +kernel⟩, List.mem_of_getElem? (i := 28) (by decide +kernel), List.mem_of_getElem? (i := 565) (by decide +kernel), List.mem_of_getElem? (i := 566) (by decide +kernel)⟩
theorem lw_p9 : lw_okq (⟨"LearnLoans$Run", "payAhead", "()V"⟩, 18) := ⟨⟨by decide +kernel, by decide +kernel⟩, List.mem_of_getElem? (i := 28) (by decide +kernel), List.mem_of_getElem? (i := 570) (by decide +kernel), List.mem_of_getElem? (i := 571) (by decide +kernel)⟩
theorem lw_p10 : lw_okq (⟨"LearnLoans$Run", "takeAll", "(I)V"⟩, 18) := ⟨⟨by decide +kernel, by decide +kernel⟩, List.mem_of_getElem? (i := 28) (by decide +kernel), List.mem_of_getElem? (i := 574) (by decide +kernel), List.mem_of_getElem? (i := 575) (by decide +kernel)⟩
theorem lw_p11 : lw_okq (⟨"LearnLoans$Run", "asked", "(I)J"⟩, 18) := ⟨⟨by decide +kernel, by decide +kernel⟩, List.mem_of_getElem? (i := 28) (by decide +kernel), List.mem_of_getElem? (i := 578) (by decide +kernel), List.mem_of_getElem? (i := 579) (by decide +kernel)⟩
theorem lw_p12 : lw_okq (⟨"LearnLoans", "togethe\x72", "(IIII)J"⟩, 4) := ⟨⟨by decide +kernel, by decide +kernel⟩, List.mem_of_getElem? (i := 14) (by decide +kernel), List.mem_of_getElem? (i := 586) (by decide +kernel), List.mem_of_getElem? (i := 587) (by decide +kernel)⟩
theorem lw_p13 : lw_okq (⟨"LearnLoans$Text", "readValue", "(I)V"⟩, 7) := ⟨⟨by decide +kernel, by decide +kernel⟩, List.mem_of_getElem? (i := 106) (by decide +kernel), List.mem_of_getElem? (i := 613) (by decide +kernel), List.mem_of_getElem? (i := 614) (by decide +kernel)⟩
theorem lw_p14 : lw_okq (⟨"LearnLoans$Text", "blame", "(II)V"⟩, 7) := ⟨⟨by decide +kernel, by decide +kernel⟩, List.mem_of_getElem? (i := 106) (by decide +kernel), List.mem_of_getElem? (i := 617) (by decide +kernel), List.mem_of_getElem? (i := 618) (by decide +kernel)⟩
theorem lw_p15 : lw_okq (⟨"LearnLoans$Text", "readChain", "(II)V"⟩, 7) := ⟨⟨by decide +kernel, by decide +kernel⟩, List.mem_of_getElem? (i := 106) (by decide +kernel), List.mem_of_getElem? (i := 621) (by decide +kernel), List.mem_of_getElem? (i := 622) (by decide +kernel)⟩
def lw_privs_1 : List (MethodName × Nat) := [(⟨"LearnLoans", "isPerson", "(I)Z"⟩, 4), (⟨"LearnLoans$Run", "layAct", "(III)V"⟩, 18), (⟨"LearnLoans", "isLoan", "(I)Z"⟩, 4), (⟨"LearnLoans$Run", "isStruck", "(II)Z"⟩, 18), (⟨"LearnLoans$Run", "cellOf", "(II)I"⟩, 18), (⟨"LearnLoans$Run", "planIn", "(II)I"⟩, 18), (⟨"LearnLoans$Run", "grow", "(II)V"⟩, 18), (⟨"LearnLoans$Run", "draw", "(II)V"⟩, 18), (⟨"LearnLoans$Run", "lineUp", "(I)V"⟩, 18), (⟨"LearnLoans$Run", "payAhead", "()V"⟩, 18), (⟨"LearnLoans$Run", "takeAll", "(I)V"⟩, 18), (⟨"LearnLoans$Run", "asked", "(I)J"⟩, 18), (⟨"LearnLoans", "togethe\x72", "(IIII)J"⟩, 4), (⟨"LearnLoans$Text", "readValue", "(I)V"⟩, 7), (⟨"LearnLoans$Text", "blame", "(II)V"⟩, 7), (⟨"LearnLoans$Text", "readChain", "(II)V"⟩, 7)]
theorem lw_r1 : ∀ q ∈ lw_privs_1, lw_okq q := List.forall_mem_cons.mpr ⟨lw_p0, List.forall_mem_cons.mpr ⟨lw_p1, List.forall_mem_cons.mpr ⟨lw_p2, List.forall_mem_cons.mpr ⟨lw_p3, List.forall_mem_cons.mpr ⟨lw_p4, List.forall_mem_cons.mpr ⟨lw_p5, List.forall_mem_cons.mpr ⟨lw_p6, List.forall_mem_cons.mpr ⟨lw_p7, List.forall_mem_cons.mpr ⟨lw_p8, List.forall_mem_cons.mpr ⟨lw_p9, List.forall_mem_cons.mpr ⟨lw_p10, List.forall_mem_cons.mpr ⟨lw_p11, List.forall_mem_cons.mpr ⟨lw_p12, List.forall_mem_cons.mpr ⟨lw_p13, List.forall_mem_cons.mpr ⟨lw_p14, List.forall_mem_cons.mpr ⟨lw_p15, fun _ h => absurd h List.not_mem_nil⟩⟩⟩⟩⟩⟩⟩⟩⟩⟩⟩⟩⟩⟩⟩⟩
theorem lw_p16 : lw_okq (⟨"LearnLoans$Text", "passSigns", "()I"⟩, 7) := ⟨⟨by decide +kernel, by decide +kernel⟩, List.mem_of_getElem? (i := 106) (by decide +kernel), List.mem_of_getElem? (i := 625) (by decide +kernel), List.mem_of_getElem? (i := 626) (by decide +kernel)⟩
theorem lw_p17 : lw_okq (⟨"LearnLoans$Text", "next", "()I"⟩, 7) := ⟨⟨by decide +kernel, by decide +kernel⟩, List.mem_of_getElem? (i := 106) (by decide +kernel), List.mem_of_getElem? (i := 629) (by decide +kernel), List.mem_of_getElem? (i := 630) (by decide +kernel)⟩
theorem lw_p18 : lw_okq (⟨"LearnLoans$Text", "readPlain", "(I)V"⟩, 7) := ⟨⟨by decide +kernel, by decide +kernel⟩, List.mem_of_getElem? (i := 106) (by decide +kernel), List.mem_of_getElem? (i := 633) (by decide +kernel), List.mem_of_getElem? (i := 634) (by decide +kernel)⟩
theorem lw_p19 : lw_okq (⟨"LearnLoans$Text", "readDigits", "()V"⟩, 7) := ⟨⟨by decide +kernel, by decide +kernel⟩, List.mem_of_getElem? (i := 106) (by decide +kernel), List.mem_of_getElem? (i := 640) (by decide +kernel), List.mem_of_getElem? (i := 641) (by decide +kernel)⟩
theorem lw_p20 : lw_okq (⟨"LearnLoans$Text", "emit", "(I)V"⟩, 7) := ⟨⟨by decide +kernel, by decide +kernel⟩, List.mem_of_getElem? (i := 106) (by decide +kernel), List.mem_of_getElem? (i := 644) (by decide +kernel), List.mem_of_getElem? (i := 645) (by decide +kernel)⟩
theorem lw_p21 : lw_okq (⟨"LearnLoans$Text", "pass", "(I)V"⟩, 7) := ⟨⟨by decide +kernel, by decide +kernel⟩, List.mem_of_getElem? (i := 106) (by decide +kernel), List.mem_of_getElem? (i := 648) (by decide +kernel), List.mem_of_getElem? (i := 649) (by decide +kernel)⟩
theorem lw_p22 : lw_okq (⟨"LearnLoans$Text", "emitSigns", "(II)V"⟩, 7) := ⟨⟨by decide +kernel, by decide +kernel⟩, List.mem_of_getElem? (i := 106) (by decide +kernel), List.mem_of_getElem? (i := 652) (by decide +kernel), List.mem_of_getElem? (i := 653) (by decide +kernel)⟩
theorem lw_p23 : lw_okq (⟨"LearnLoans", "runEverybody", "(II)V"⟩, 4) := ⟨⟨by decide +kernel, by decide +kernel⟩, List.mem_of_getElem? (i := 14) (by decide +kernel), List.mem_of_getElem? (i := 684) (by decide +kernel), List.mem_of_getElem? (i := 685) (by decide +kernel)⟩
theorem lw_p24 : lw_okq (⟨"LearnLoans", "takenByLife", "(IIIIII)J"⟩, 4) := ⟨⟨by decide +kernel, by decide +kernel⟩, List.mem_of_getElem? (i := 14) (by decide +kernel), List.mem_of_getElem? (i := 701) (by decide +kernel), List.mem_of_getElem? (i := 702) (by decide +kernel)⟩
theorem lw_p25 : lw_okq (⟨"LearnLoans$Ways", "end", "(JJJ)V"⟩, 9) := ⟨⟨by decide +kernel, by decide +kernel⟩, List.mem_of_getElem? (i := 22) (by decide +kernel), List.mem_of_getElem? (i := 735) (by decide +kernel), List.mem_of_getElem? (i := 736) (by decide +kernel)⟩
theorem lw_p26 : lw_okq (⟨"LearnLoans", "takenIf", "(IIIII)J"⟩, 4) := ⟨⟨by decide +kernel, by decide +kernel⟩, List.mem_of_getElem? (i := 14) (by decide +kernel), List.mem_of_getElem? (i := 745) (by decide +kernel), List.mem_of_getElem? (i := 746) (by decide +kernel)⟩
theorem lw_p27 : lw_okq (⟨"LearnLoansModel", "isPerson", "(I)Z"⟩, 27) := ⟨⟨by decide +kernel, by decide +kernel⟩, List.mem_of_getElem? (i := 830) (by decide +kernel), List.mem_of_getElem? (i := 934) (by decide +kernel), List.mem_of_getElem? (i := 935) (by decide +kernel)⟩
theorem lw_p28 : lw_okq (⟨"LearnLoansModel", "earningsOf", "(III)I"⟩, 27) := ⟨⟨by decide +kernel, by decide +kernel⟩, List.mem_of_getElem? (i := 830) (by decide +kernel), List.mem_of_getElem? (i := 967) (by decide +kernel), List.mem_of_getElem? (i := 968) (by decide +kernel)⟩
theorem lw_p29 : lw_okq (⟨"LearnLoansModel", "inForce", "(IIII)I"⟩, 27) := ⟨⟨by decide +kernel, by decide +kernel⟩, List.mem_of_getElem? (i := 830) (by decide +kernel), List.mem_of_getElem? (i := 994) (by decide +kernel), List.mem_of_getElem? (i := 995) (by decide +kernel)⟩
theorem lw_p30 : lw_okq (⟨"LearnLoansModel", "isLoan", "(I)Z"⟩, 27) := ⟨⟨by decide +kernel, by decide +kernel⟩, List.mem_of_getElem? (i := 830) (by decide +kernel), List.mem_of_getElem? (i := 1010) (by decide +kernel), List.mem_of_getElem? (i := 1011) (by decide +kernel)⟩
theorem lw_p31 : lw_okq (⟨"LearnLoansModel", "given", "(II)I"⟩, 27) := ⟨⟨by decide +kernel, by decide +kernel⟩, List.mem_of_getElem? (i := 830) (by decide +kernel), List.mem_of_getElem? (i := 1014) (by decide +kernel), List.mem_of_getElem? (i := 1015) (by decide +kernel)⟩
def lw_privs_2 : List (MethodName × Nat) := [(⟨"LearnLoans$Text", "passSigns", "()I"⟩, 7), (⟨"LearnLoans$Text", "next", "()I"⟩, 7), (⟨"LearnLoans$Text", "readPlain", "(I)V"⟩, 7), (⟨"LearnLoans$Text", "readDigits", "()V"⟩, 7), (⟨"LearnLoans$Text", "emit", "(I)V"⟩, 7), (⟨"LearnLoans$Text", "pass", "(I)V"⟩, 7), (⟨"LearnLoans$Text", "emitSigns", "(II)V"⟩, 7), (⟨"LearnLoans", "runEverybody", "(II)V"⟩, 4), (⟨"LearnLoans", "takenByLife", "(IIIIII)J"⟩, 4), (⟨"LearnLoans$Ways", "end", "(JJJ)V"⟩, 9), (⟨"LearnLoans", "takenIf", "(IIIII)J"⟩, 4), (⟨"LearnLoansModel", "isPerson", "(I)Z"⟩, 27), (⟨"LearnLoansModel", "earningsOf", "(III)I"⟩, 27), (⟨"LearnLoansModel", "inForce", "(IIII)I"⟩, 27), (⟨"LearnLoansModel", "isLoan", "(I)Z"⟩, 27), (⟨"LearnLoansModel", "given", "(II)I"⟩, 27)]
theorem lw_r2 : ∀ q ∈ lw_privs_2, lw_okq q := List.forall_mem_cons.mpr ⟨lw_p16, List.forall_mem_cons.mpr ⟨lw_p17, List.forall_mem_cons.mpr ⟨lw_p18, List.forall_mem_cons.mpr ⟨lw_p19, List.forall_mem_cons.mpr ⟨lw_p20, List.forall_mem_cons.mpr ⟨lw_p21, List.forall_mem_cons.mpr ⟨lw_p22, List.forall_mem_cons.mpr ⟨lw_p23, List.forall_mem_cons.mpr ⟨lw_p24, List.forall_mem_cons.mpr ⟨lw_p25, List.forall_mem_cons.mpr ⟨lw_p26, List.forall_mem_cons.mpr ⟨lw_p27, List.forall_mem_cons.mpr ⟨lw_p28, List.forall_mem_cons.mpr ⟨lw_p29, List.forall_mem_cons.mpr ⟨lw_p30, List.forall_mem_cons.mpr ⟨lw_p31, fun _ h => absurd h List.not_mem_nil⟩⟩⟩⟩⟩⟩⟩⟩⟩⟩⟩⟩⟩⟩⟩⟩
theorem lw_p32 : lw_okq (⟨"LearnLoansModel", "planAt", "(II)I"⟩, 27) := ⟨⟨by decide +kernel, by decide +kernel⟩, List.mem_of_getElem? (i := 830) (by decide +kernel), List.mem_of_getElem? (i := 1026) (by decide +kernel), List.mem_of_getElem? (i := 1027) (by decide +kernel)⟩
theorem lw_p33 : lw_okq (⟨"LearnLoansModel", "work", "(I)Z"⟩, 27) := ⟨⟨by decide +kernel, by decide +kernel⟩, List.mem_of_getElem? (i := 830) (by decide +kernel), List.mem_of_getElem? (i := 1043) (by decide +kernel), List.mem_of_getElem? (i := 1044) (by decide +kernel)⟩
theorem lw_p34 : lw_okq (⟨"LearnLoansModel", "lay", "(J)V"⟩, 27) := ⟨⟨by decide +kernel, by decide +kernel⟩, List.mem_of_getElem? (i := 830) (by decide +kernel), List.mem_of_getElem? (i := 1050) (by decide +kernel), List.mem_of_getElem? (i := 1051) (by decide +kernel)⟩
theorem lw_p35 : lw_okq (⟨"LearnLoansModel", "top", "()I"⟩, 27) := ⟨⟨by decide +kernel, by decide +kernel⟩, List.mem_of_getElem? (i := 830) (by decide +kernel), List.mem_of_getElem? (i := 1054) (by decide +kernel), List.mem_of_getElem? (i := 1055) (by decide +kernel)⟩
theorem lw_p36 : lw_okq (⟨"LearnLoansModel", "opened", "()I"⟩, 27) := ⟨⟨by decide +kernel, by decide +kernel⟩, List.mem_of_getElem? (i := 830) (by decide +kernel), List.mem_of_getElem? (i := 1064) (by decide +kernel), List.mem_of_getElem? (i := 1065) (by decide +kernel)⟩
theorem lw_p37 : lw_okq (⟨"LearnLoansModel", "wait", "(I)V"⟩, 27) := ⟨⟨by decide +kernel, by decide +kernel⟩, List.mem_of_getElem? (i := 830) (by decide +kernel), List.mem_of_getElem? (i := 1068) (by decide +kernel), List.mem_of_getElem? (i := 1069) (by decide +kernel)⟩
theorem lw_p38 : lw_okq (⟨"LearnLoansModel", "behind", "(I)Z"⟩, 27) := ⟨⟨by decide +kernel, by decide +kernel⟩, List.mem_of_getElem? (i := 830) (by decide +kernel), List.mem_of_getElem? (i := 1072) (by decide +kernel), List.mem_of_getElem? (i := 1073) (by decide +kernel)⟩
theorem lw_p39 : lw_okq (⟨"LearnLoansModel", "reduce", "(I)V"⟩, 27) := ⟨⟨by decide +kernel, by decide +kernel⟩, List.mem_of_getElem? (i := 830) (by decide +kernel), List.mem_of_getElem? (i := 1079) (by decide +kernel), List.mem_of_getElem? (i := 1080) (by decide +kernel)⟩
theorem lw_p40 : lw_okq (⟨"LearnLoansModel", "choose", "()V"⟩, 27) := ⟨⟨by decide +kernel, by decide +kernel⟩, List.mem_of_getElem? (i := 830) (by decide +kernel), List.mem_of_getElem? (i := 1086) (by decide +kernel), List.mem_of_getElem? (i := 1087) (by decide +kernel)⟩
theorem lw_p41 : lw_okq (⟨"LearnLoansModel", "ofLoan", "(II)I"⟩, 27) := ⟨⟨by decide +kernel, by decide +kernel⟩, List.mem_of_getElem? (i := 830) (by decide +kernel), List.mem_of_getElem? (i := 1095) (by decide +kernel), List.mem_of_getElem? (i := 1096) (by decide +kernel)⟩
theorem lw_p42 : lw_okq (⟨"LearnLoansModel", "run", "(III)V"⟩, 27) := ⟨⟨by decide +kernel, by decide +kernel⟩, List.mem_of_getElem? (i := 830) (by decide +kernel), List.mem_of_getElem? (i := 1099) (by decide +kernel), List.mem_of_getElem? (i := 1100) (by decide +kernel)⟩
theorem lw_p43 : lw_okq (⟨"LearnLoansModel", "beginRun", "()V"⟩, 27) := ⟨⟨by decide +kernel, by decide +kernel⟩, List.mem_of_getElem? (i := 830) (by decide +kernel), List.mem_of_getElem? (i := 1103) (by decide +kernel), List.mem_of_getElem? (i := 1104) (by decide +kernel)⟩
theorem lw_p44 : lw_okq (⟨"LearnLoansModel", "stepYea\x72", "(IIIIZJ)V"⟩, 27) := ⟨⟨by decide +kernel, by decide +kernel⟩, List.mem_of_getElem? (i := 830) (by decide +kernel), List.mem_of_getElem? (i := 1107) (by decide +kernel), List.mem_of_getElem? (i := 1108) (by decide +kernel)⟩
theorem lw_p45 : lw_okq (⟨"LearnLoansModel", "begin", "(IIIIZ)V"⟩, 27) := ⟨⟨by decide +kernel, by decide +kernel⟩, List.mem_of_getElem? (i := 830) (by decide +kernel), List.mem_of_getElem? (i := 1111) (by decide +kernel), List.mem_of_getElem? (i := 1112) (by decide +kernel)⟩
theorem lw_p46 : lw_okq (⟨"LearnLoansModel", "rateOf", "(IIII)I"⟩, 27) := ⟨⟨by decide +kernel, by decide +kernel⟩, List.mem_of_getElem? (i := 830) (by decide +kernel), List.mem_of_getElem? (i := 1115) (by decide +kernel), List.mem_of_getElem? (i := 1116) (by decide +kernel)⟩
theorem lw_p47 : lw_okq (⟨"LearnLoansModel", "isIn", "(IIII)Z"⟩, 27) := ⟨⟨by decide +kernel, by decide +kernel⟩, List.mem_of_getElem? (i := 830) (by decide +kernel), List.mem_of_getElem? (i := 1120) (by decide +kernel), List.mem_of_getElem? (i := 1121) (by decide +kernel)⟩
def lw_privs_3 : List (MethodName × Nat) := [(⟨"LearnLoansModel", "planAt", "(II)I"⟩, 27), (⟨"LearnLoansModel", "work", "(I)Z"⟩, 27), (⟨"LearnLoansModel", "lay", "(J)V"⟩, 27), (⟨"LearnLoansModel", "top", "()I"⟩, 27), (⟨"LearnLoansModel", "opened", "()I"⟩, 27), (⟨"LearnLoansModel", "wait", "(I)V"⟩, 27), (⟨"LearnLoansModel", "behind", "(I)Z"⟩, 27), (⟨"LearnLoansModel", "reduce", "(I)V"⟩, 27), (⟨"LearnLoansModel", "choose", "()V"⟩, 27), (⟨"LearnLoansModel", "ofLoan", "(II)I"⟩, 27), (⟨"LearnLoansModel", "run", "(III)V"⟩, 27), (⟨"LearnLoansModel", "beginRun", "()V"⟩, 27), (⟨"LearnLoansModel", "stepYea\x72", "(IIIIZJ)V"⟩, 27), (⟨"LearnLoansModel", "begin", "(IIIIZ)V"⟩, 27), (⟨"LearnLoansModel", "rateOf", "(IIII)I"⟩, 27), (⟨"LearnLoansModel", "isIn", "(IIII)Z"⟩, 27)]
theorem lw_r3 : ∀ q ∈ lw_privs_3, lw_okq q := List.forall_mem_cons.mpr ⟨lw_p32, List.forall_mem_cons.mpr ⟨lw_p33, List.forall_mem_cons.mpr ⟨lw_p34, List.forall_mem_cons.mpr ⟨lw_p35, List.forall_mem_cons.mpr ⟨lw_p36, List.forall_mem_cons.mpr ⟨lw_p37, List.forall_mem_cons.mpr ⟨lw_p38, List.forall_mem_cons.mpr ⟨lw_p39, List.forall_mem_cons.mpr ⟨lw_p40, List.forall_mem_cons.mpr ⟨lw_p41, List.forall_mem_cons.mpr ⟨lw_p42, List.forall_mem_cons.mpr ⟨lw_p43, List.forall_mem_cons.mpr ⟨lw_p44, List.forall_mem_cons.mpr ⟨lw_p45, List.forall_mem_cons.mpr ⟨lw_p46, List.forall_mem_cons.mpr ⟨lw_p47, fun _ h => absurd h List.not_mem_nil⟩⟩⟩⟩⟩⟩⟩⟩⟩⟩⟩⟩⟩⟩⟩⟩
theorem lw_p48 : lw_okq (⟨"LearnLoansModel", "dueOf", "(IIII)J"⟩, 27) := ⟨⟨by decide +kernel, by decide +kernel⟩, List.mem_of_getElem? (i := 830) (by decide +kernel), List.mem_of_getElem? (i := 1124) (by decide +kernel), List.mem_of_getElem? (i := 1125) (by decide +kernel)⟩
theorem lw_p49 : lw_okq (⟨"LearnLoansModel", "runOf", "(II)J"⟩, 27) := ⟨⟨by decide +kernel, by decide +kernel⟩, List.mem_of_getElem? (i := 830) (by decide +kernel), List.mem_of_getElem? (i := 1128) (by decide +kernel), List.mem_of_getElem? (i := 1129) (by decide +kernel)⟩
theorem lw_p50 : lw_okq (⟨"LearnLoansModel", "allOf", "(II)J"⟩, 27) := ⟨⟨by decide +kernel, by decide +kernel⟩, List.mem_of_getElem? (i := 830) (by decide +kernel), List.mem_of_getElem? (i := 1136) (by decide +kernel), List.mem_of_getElem? (i := 1137) (by decide +kernel)⟩
theorem lw_p51 : lw_okq (⟨"LearnLoansModel", "lived", "(IIIIJ)J"⟩, 27) := ⟨⟨by decide +kernel, by decide +kernel⟩, List.mem_of_getElem? (i := 830) (by decide +kernel), List.mem_of_getElem? (i := 1173) (by decide +kernel), List.mem_of_getElem? (i := 1174) (by decide +kernel)⟩
theorem lw_p52 : lw_okq (⟨"LearnLoansModel", "keep", "()V"⟩, 27) := ⟨⟨by decide +kernel, by decide +kernel⟩, List.mem_of_getElem? (i := 830) (by decide +kernel), List.mem_of_getElem? (i := 1190) (by decide +kernel), List.mem_of_getElem? (i := 1191) (by decide +kernel)⟩
theorem lw_p53 : lw_okq (⟨"LearnLoansModel", "goWay", "(IIIIII)J"⟩, 27) := ⟨⟨by decide +kernel, by decide +kernel⟩, List.mem_of_getElem? (i := 830) (by decide +kernel), List.mem_of_getElem? (i := 1195) (by decide +kernel), List.mem_of_getElem? (i := 1196) (by decide +kernel)⟩
theorem lw_p54 : lw_okq (⟨"LearnLoansModel", "back", "()V"⟩, 27) := ⟨⟨by decide +kernel, by decide +kernel⟩, List.mem_of_getElem? (i := 830) (by decide +kernel), List.mem_of_getElem? (i := 1199) (by decide +kernel), List.mem_of_getElem? (i := 1200) (by decide +kernel)⟩
theorem lw_p55 : lw_okq (⟨"LearnLoansModel", "chanceOf", "(II)I"⟩, 27) := ⟨⟨by decide +kernel, by decide +kernel⟩, List.mem_of_getElem? (i := 830) (by decide +kernel), List.mem_of_getElem? (i := 1203) (by decide +kernel), List.mem_of_getElem? (i := 1204) (by decide +kernel)⟩
theorem lw_p56 : lw_okq (⟨"LearnLoansModel", "triedOf", "(IIIII)J"⟩, 27) := ⟨⟨by decide +kernel, by decide +kernel⟩, List.mem_of_getElem? (i := 830) (by decide +kernel), List.mem_of_getElem? (i := 1211) (by decide +kernel), List.mem_of_getElem? (i := 1212) (by decide +kernel)⟩
def lw_privs_4 : List (MethodName × Nat) := [(⟨"LearnLoansModel", "dueOf", "(IIII)J"⟩, 27), (⟨"LearnLoansModel", "runOf", "(II)J"⟩, 27), (⟨"LearnLoansModel", "allOf", "(II)J"⟩, 27), (⟨"LearnLoansModel", "lived", "(IIIIJ)J"⟩, 27), (⟨"LearnLoansModel", "keep", "()V"⟩, 27), (⟨"LearnLoansModel", "goWay", "(IIIIII)J"⟩, 27), (⟨"LearnLoansModel", "back", "()V"⟩, 27), (⟨"LearnLoansModel", "chanceOf", "(II)I"⟩, 27), (⟨"LearnLoansModel", "triedOf", "(IIIII)J"⟩, 27)]
theorem lw_r4 : ∀ q ∈ lw_privs_4, lw_okq q := List.forall_mem_cons.mpr ⟨lw_p48, List.forall_mem_cons.mpr ⟨lw_p49, List.forall_mem_cons.mpr ⟨lw_p50, List.forall_mem_cons.mpr ⟨lw_p51, List.forall_mem_cons.mpr ⟨lw_p52, List.forall_mem_cons.mpr ⟨lw_p53, List.forall_mem_cons.mpr ⟨lw_p54, List.forall_mem_cons.mpr ⟨lw_p55, List.forall_mem_cons.mpr ⟨lw_p56, fun _ h => absurd h List.not_mem_nil⟩⟩⟩⟩⟩⟩⟩⟩⟩
def lw_privs : List (MethodName × Nat) := lw_privs_1 ++ (lw_privs_2 ++ (lw_privs_3 ++ (lw_privs_4)))
def lw_tbl : List Cond := k2_sels lw_privs ++ tables_1
theorem lw_privs_ok : ∀ q ∈ lw_privs, lw_okq q := by
  show ∀ q ∈ lw_privs_1 ++ (lw_privs_2 ++ (lw_privs_3 ++ (lw_privs_4))), lw_okq q
  exact List.forall_mem_append.mpr ⟨lw_r1, List.forall_mem_append.mpr ⟨lw_r2, List.forall_mem_append.mpr ⟨lw_r3, lw_r4⟩⟩⟩

/-! names of the classes and methods, out of the printed names -/
def RX0 : String := "LearnLoans$House"
def TX0 : u_T := fun k => match k with
  | 0 => ("LearnLoans$House", "people", "LLearnLoans$People;", true)
  | 1 => ("LearnLoans$House", "scales", "[I", true)
  | 2 => ("LearnLoans$House", "prices", "[I", true)
  | 3 => ("LearnLoans$House", "acts", "LLearnLoans$Rows;", true)
  | 4 => ("LearnLoans$House", "loans", "LLearnLoans$Rows;", true)
  | 5 => ("LearnLoans$House", "moves", "LLearnLoans$Rows;", true)
  | 6 => ("LearnLoans$House", "planAt", "[I", true)
  | 7 => ("LearnLoans$House", "texts", "[LLearnLoans$Text;", true)
  | 8 => ("LearnLoans$House", "promises", "LLearnLoans$Rows;", true)
  | 9 => ("LearnLoans$House", "lives", "[I", true)
  | 10 => ("LearnLoans$House", "chances", "[I", true)
  | 11 => ("LearnLoans$House", "told", "[I", true)
  | _ => ("LearnLoans$House", "toldSize", "I", false)
def tyX0 : Nat → FieldType := fun k => match k with
  | 0 => .object "LearnLoans$People"
  | 1 => .array .int
  | 2 => .array .int
  | 3 => .object "LearnLoans$Rows"
  | 4 => .object "LearnLoans$Rows"
  | 5 => .object "LearnLoans$Rows"
  | 6 => .array .int
  | 7 => .array (.object "LearnLoans$Text")
  | 8 => .object "LearnLoans$Rows"
  | 9 => .array .int
  | 10 => .array .int
  | 11 => .array .int
  | _ => .int
theorem nmX0 : ∀ a, a < 13 → ∀ b, b < 13 → a ≠ b → (TX0 a).2.1 ≠ (TX0 b).2.1 := by decide +kernel
theorem tyX0_ok : ∀ k, k < 13 → parseFieldDescriptor (TX0 k).2.2.1 = some (tyX0 k) := by decide +kernel
abbrev cX0_init : ByteArray := prog_2_method_1_code
def yX0_init : MethodName := ⟨RX0, "<init>", "()V"⟩
abbrev cX0_addAct : ByteArray := prog_2_method_2_code
def yX0_addAct : MethodName := ⟨RX0, "addAct", "(IIIIII)I"⟩
abbrev cX0_givenBack : ByteArray := prog_2_method_3_code
def yX0_givenBack : MethodName := ⟨RX0, "givenBack", "(I)J"⟩
abbrev cX0_promised : ByteArray := prog_2_method_4_code
def yX0_promised : MethodName := ⟨RX0, "promised", "(II)J"⟩
abbrev cX0_takeOver : ByteArray := prog_2_method_5_code
def yX0_takeOver : MethodName := ⟨RX0, "takeOve\x72", "(LLearnLoans$House;)V"⟩
def RX1 : String := "LearnLoans$Letters"
def TX1 : u_T := fun k => match k with
  | 0 => ("LearnLoans$Letters", "rate", "J", false)
  | 1 => ("LearnLoans$Letters", "prices", "J", false)
  | 2 => ("LearnLoans$Letters", "earned", "J", false)
  | 3 => ("LearnLoans$Letters", "line", "J", false)
  | 4 => ("LearnLoans$Letters", "years", "J", false)
  | 5 => ("LearnLoans$Letters", "owed", "J", false)
  | _ => ("LearnLoans$Letters", "land", "J", false)
def tyX1 : Nat → FieldType := fun k => match k with
  | 0 => .long
  | 1 => .long
  | 2 => .long
  | 3 => .long
  | 4 => .long
  | 5 => .long
  | _ => .long
theorem nmX1 : ∀ a, a < 7 → ∀ b, b < 7 → a ≠ b → (TX1 a).2.1 ≠ (TX1 b).2.1 := by decide +kernel
theorem tyX1_ok : ∀ k, k < 7 → parseFieldDescriptor (TX1 k).2.2.1 = some (tyX1 k) := by decide +kernel
abbrev cX1_init : ByteArray := prog_3_method_1_code
def yX1_init : MethodName := ⟨RX1, "<init>", "()V"⟩
abbrev cX1_valueOf : ByteArray := prog_3_method_2_code
def yX1_valueOf : MethodName := ⟨RX1, "valueOf", "(I)J"⟩
def RX2 : String := "LearnLoans$People"
def TX2 : u_T := fun k => match k with
  | 0 => ("LearnLoans$People", "began", "[I", true)
  | 1 => ("LearnLoans$People", "died", "[I", true)
  | 2 => ("LearnLoans$People", "lands", "[I", true)
  | 3 => ("LearnLoans$People", "first", "[I", true)
  | 4 => ("LearnLoans$People", "firstKnown", "[I", true)
  | 5 => ("LearnLoans$People", "second", "[I", true)
  | 6 => ("LearnLoans$People", "secondKnown", "[I", true)
  | _ => ("LearnLoans$People", "size", "I", false)
def tyX2 : Nat → FieldType := fun k => match k with
  | 0 => .array .int
  | 1 => .array .int
  | 2 => .array .int
  | 3 => .array .int
  | 4 => .array .int
  | 5 => .array .int
  | 6 => .array .int
  | _ => .int
theorem nmX2 : ∀ a, a < 8 → ∀ b, b < 8 → a ≠ b → (TX2 a).2.1 ≠ (TX2 b).2.1 := by decide +kernel
theorem tyX2_ok : ∀ k, k < 8 → parseFieldDescriptor (TX2 k).2.2.1 = some (tyX2 k) := by decide +kernel
abbrev cX2_init : ByteArray := prog_4_method_1_code
def yX2_init : MethodName := ⟨RX2, "<init>", "()V"⟩
abbrev cX2_earned : ByteArray := prog_4_method_2_code
def yX2_earned : MethodName := ⟨RX2, "earned", "(III)I"⟩
abbrev cX2_isDead : ByteArray := prog_4_method_3_code
def yX2_isDead : MethodName := ⟨RX2, "isDead", "(II)Z"⟩
abbrev cX2_takeOver : ByteArray := prog_4_method_4_code
def yX2_takeOver : MethodName := ⟨RX2, "takeOve\x72", "(LLearnLoans$People;)V"⟩
abbrev cX2_mixed : ByteArray := prog_4_method_5_code
def yX2_mixed : MethodName := ⟨RX2, "mixed", "(J)J"⟩
def RX3 : String := "LearnLoans$Rows"
def TX3 : u_T := fun k => match k with
  | 0 => ("LearnLoans$Rows", "cells", "[I", true)
  | 1 => ("LearnLoans$Rows", "wide", "I", true)
  | _ => ("LearnLoans$Rows", "size", "I", false)
def tyX3 : Nat → FieldType := fun k => match k with
  | 0 => .array .int
  | 1 => .int
  | _ => .int
theorem nmX3 : ∀ a, a < 3 → ∀ b, b < 3 → a ≠ b → (TX3 a).2.1 ≠ (TX3 b).2.1 := by decide +kernel
theorem tyX3_ok : ∀ k, k < 3 → parseFieldDescriptor (TX3 k).2.2.1 = some (tyX3 k) := by decide +kernel
abbrev cX3_init : ByteArray := prog_5_method_1_code
def yX3_init : MethodName := ⟨RX3, "<init>", "([II)V"⟩
abbrev cX3_at : ByteArray := prog_5_method_2_code
def yX3_at : MethodName := ⟨RX3, "at", "(II)I"⟩
abbrev cX3_put : ByteArray := prog_5_method_3_code
def yX3_put : MethodName := ⟨RX3, "put", "(III)V"⟩
abbrev cX3_add : ByteArray := prog_5_method_4_code
def yX3_add : MethodName := ⟨RX3, "add", "(III)I"⟩
abbrev cX3_dropLast : ByteArray := prog_5_method_5_code
def yX3_dropLast : MethodName := ⟨RX3, "dropLast", "()V"⟩
abbrev cX3_takeOver : ByteArray := prog_5_method_6_code
def yX3_takeOver : MethodName := ⟨RX3, "takeOve\x72", "(LLearnLoans$Rows;)V"⟩
abbrev cX3_mixed : ByteArray := prog_5_method_7_code
def yX3_mixed : MethodName := ⟨RX3, "mixed", "(J)J"⟩
def RX4 : String := "LearnLoans$Run"
def TX4 : u_T := fun k => match k with
  | 0 => ("LearnLoans$Run", "house", "LLearnLoans$House;", true)
  | 1 => ("LearnLoans$Run", "numbers", "[I", true)
  | 2 => ("LearnLoans$Run", "sums", "[J", true)
  | 3 => ("LearnLoans$Run", "mine", "[I", true)
  | 4 => ("LearnLoans$Run", "queue", "[I", true)
  | 5 => ("LearnLoans$Run", "letters", "LLearnLoans$Letters;", true)
  | 6 => ("LearnLoans$Run", "stack", "[J", true)
  | 7 => ("LearnLoans$Run", "size", "I", false)
  | 8 => ("LearnLoans$Run", "person", "I", false)
  | 9 => ("LearnLoans$Run", "known", "I", false)
  | 10 => ("LearnLoans$Run", "nextYea\x72", "I", false)
  | 11 => ("LearnLoans$Run", "life", "I", false)
  | 12 => ("LearnLoans$Run", "plan", "I", false)
  | 13 => ("LearnLoans$Run", "due", "J", false)
  | 14 => ("LearnLoans$Run", "paid", "J", false)
  | 15 => ("LearnLoans$Run", "earned", "I", false)
  | 16 => ("LearnLoans$Run", "land", "I", false)
  | _ => ("LearnLoans$Run", "dead", "Z", false)
def tyX4 : Nat → FieldType := fun k => match k with
  | 0 => .object "LearnLoans$House"
  | 1 => .array .int
  | 2 => .array .long
  | 3 => .array .int
  | 4 => .array .int
  | 5 => .object "LearnLoans$Letters"
  | 6 => .array .long
  | 7 => .int
  | 8 => .int
  | 9 => .int
  | 10 => .int
  | 11 => .int
  | 12 => .int
  | 13 => .long
  | 14 => .long
  | 15 => .int
  | 16 => .int
  | _ => .boolean
theorem nmX4 : ∀ a, a < 18 → ∀ b, b < 18 → a ≠ b → (TX4 a).2.1 ≠ (TX4 b).2.1 := by decide +kernel
theorem tyX4_ok : ∀ k, k < 18 → parseFieldDescriptor (TX4 k).2.2.1 = some (tyX4 k) := by decide +kernel
abbrev cX4_init : ByteArray := prog_6_method_1_code
def yX4_init : MethodName := ⟨RX4, "<init>", "()V"⟩
abbrev cX4_begin : ByteArray := prog_6_method_2_code
def yX4_begin : MethodName := ⟨RX4, "begin", "(II)V"⟩
abbrev cX4_turnTo : ByteArray := prog_6_method_3_code
def yX4_turnTo : MethodName := ⟨RX4, "turnTo", "(IIJ)V"⟩
abbrev cX4_go : ByteArray := prog_6_method_4_code
def yX4_go : MethodName := ⟨RX4, "go", "(I)V"⟩
abbrev cX4_layNumbers : ByteArray := prog_6_method_5_code
def yX4_layNumbers : MethodName := ⟨RX4, "layNumbers", "(I)V"⟩
abbrev cX4_layAct : ByteArray := prog_6_method_6_code
def yX4_layAct : MethodName := ⟨RX4, "layAct", "(III)V"⟩
abbrev cX4_look : ByteArray := prog_6_method_7_code
def yX4_look : MethodName := ⟨RX4, "look", "(I)V"⟩
abbrev cX4_suppose : ByteArray := prog_6_method_8_code
def yX4_suppose : MethodName := ⟨RX4, "suppose", "(IIZ)V"⟩
abbrev cX4_turn : ByteArray := prog_6_method_9_code
def yX4_turn : MethodName := ⟨RX4, "turn", "(I)V"⟩
abbrev cX4_isStruck : ByteArray := prog_6_method_10_code
def yX4_isStruck : MethodName := ⟨RX4, "isStruck", "(II)Z"⟩
abbrev cX4_grow : ByteArray := prog_6_method_11_code
def yX4_grow : MethodName := ⟨RX4, "grow", "(II)V"⟩
abbrev cX4_draw : ByteArray := prog_6_method_12_code
def yX4_draw : MethodName := ⟨RX4, "draw", "(II)V"⟩
abbrev cX4_planIn : ByteArray := prog_6_method_13_code
def yX4_planIn : MethodName := ⟨RX4, "planIn", "(II)I"⟩
abbrev cX4_cellOf : ByteArray := prog_6_method_14_code
def yX4_cellOf : MethodName := ⟨RX4, "cellOf", "(II)I"⟩
abbrev cX4_rateOf : ByteArray := prog_6_method_15_code
def yX4_rateOf : MethodName := ⟨RX4, "rateOf", "(II)I"⟩
abbrev cX4_lineUp : ByteArray := prog_6_method_16_code
def yX4_lineUp : MethodName := ⟨RX4, "lineUp", "(I)V"⟩
abbrev cX4_payAhead : ByteArray := prog_6_method_17_code
def yX4_payAhead : MethodName := ⟨RX4, "payAhead", "()V"⟩
abbrev cX4_takeAll : ByteArray := prog_6_method_18_code
def yX4_takeAll : MethodName := ⟨RX4, "takeAll", "(I)V"⟩
abbrev cX4_asked : ByteArray := prog_6_method_19_code
def yX4_asked : MethodName := ⟨RX4, "asked", "(I)J"⟩
abbrev cX4_together : ByteArray := prog_6_method_20_code
def yX4_together : MethodName := ⟨RX4, "togethe\x72", "(I)J"⟩
def RX5 : String := "LearnLoans$Text"
def TX5 : u_T := fun k => match k with
  | 0 => ("LearnLoans$Text", "signs", "[I", true)
  | 1 => ("LearnLoans$Text", "code", "[I", true)
  | 2 => ("LearnLoans$Text", "codes", "I", false)
  | 3 => ("LearnLoans$Text", "place", "I", false)
  | 4 => ("LearnLoans$Text", "open", "I", false)
  | 5 => ("LearnLoans$Text", "size", "I", false)
  | _ => ("LearnLoans$Text", "wrong", "I", false)
def tyX5 : Nat → FieldType := fun k => match k with
  | 0 => .array .int
  | 1 => .array .int
  | 2 => .int
  | 3 => .int
  | 4 => .int
  | 5 => .int
  | _ => .int
theorem nmX5 : ∀ a, a < 7 → ∀ b, b < 7 → a ≠ b → (TX5 a).2.1 ≠ (TX5 b).2.1 := by decide +kernel
theorem tyX5_ok : ∀ k, k < 7 → parseFieldDescriptor (TX5 k).2.2.1 = some (tyX5 k) := by decide +kernel
abbrev cX5_init : ByteArray := prog_7_method_1_code
def yX5_init : MethodName := ⟨RX5, "<init>", "()V"⟩
abbrev cX5_add : ByteArray := prog_7_method_2_code
def yX5_add : MethodName := ⟨RX5, "add", "(I)V"⟩
abbrev cX5_clear : ByteArray := prog_7_method_3_code
def yX5_clear : MethodName := ⟨RX5, "clea\x72", "()V"⟩
abbrev cX5_takeOver : ByteArray := prog_7_method_4_code
def yX5_takeOver : MethodName := ⟨RX5, "takeOve\x72", "(LLearnLoans$Text;)V"⟩
abbrev cX5_mixed : ByteArray := prog_7_method_5_code
def yX5_mixed : MethodName := ⟨RX5, "mixed", "(J)J"⟩
abbrev cX5_blame : ByteArray := prog_7_method_6_code
def yX5_blame : MethodName := ⟨RX5, "blame", "(II)V"⟩
abbrev cX5_emit : ByteArray := prog_7_method_7_code
def yX5_emit : MethodName := ⟨RX5, "emit", "(I)V"⟩
abbrev cX5_next : ByteArray := prog_7_method_8_code
def yX5_next : MethodName := ⟨RX5, "next", "()I"⟩
abbrev cX5_pass : ByteArray := prog_7_method_9_code
def yX5_pass : MethodName := ⟨RX5, "pass", "(I)V"⟩
abbrev cX5_readValue : ByteArray := prog_7_method_10_code
def yX5_readValue : MethodName := ⟨RX5, "readValue", "(I)V"⟩
abbrev cX5_readChain : ByteArray := prog_7_method_11_code
def yX5_readChain : MethodName := ⟨RX5, "readChain", "(II)V"⟩
abbrev cX5_levelOf : ByteArray := prog_7_method_12_code
def yX5_levelOf : MethodName := ⟨RX5, "levelOf", "(I)I"⟩
abbrev cX5_passSigns : ByteArray := prog_7_method_13_code
def yX5_passSigns : MethodName := ⟨RX5, "passSigns", "()I"⟩
abbrev cX5_emitSigns : ByteArray := prog_7_method_14_code
def yX5_emitSigns : MethodName := ⟨RX5, "emitSigns", "(II)V"⟩
abbrev cX5_readPlain : ByteArray := prog_7_method_15_code
def yX5_readPlain : MethodName := ⟨RX5, "readPlain", "(I)V"⟩
abbrev cX5_readDigits : ByteArray := prog_7_method_16_code
def yX5_readDigits : MethodName := ⟨RX5, "readDigits", "()V"⟩
abbrev cX5_isDigit : ByteArray := prog_7_method_17_code
def yX5_isDigit : MethodName := ⟨RX5, "isDigit", "(I)Z"⟩
abbrev cX5_worked : ByteArray := prog_7_method_18_code
def yX5_worked : MethodName := ⟨RX5, "worked", "(LLearnLoans$Letters;[J)J"⟩
abbrev cX5_operands : ByteArray := prog_7_method_19_code
def yX5_operands : MethodName := ⟨RX5, "operands", "(I)I"⟩
abbrev cX5_joined : ByteArray := prog_7_method_20_code
def yX5_joined : MethodName := ⟨RX5, "joined", "(IJJ)J"⟩
def RX6 : String := "LearnLoans$Ways"
def TX6 : u_T := fun k => match k with
  | 0 => ("LearnLoans$Ways", "run", "LLearnLoans$Run;", true)
  | 1 => ("LearnLoans$Ways", "owedAhead", "[J", true)
  | 2 => ("LearnLoans$Ways", "yea\x72", "I", false)
  | 3 => ("LearnLoans$Ways", "years", "I", false)
  | 4 => ("LearnLoans$Ways", "pence", "I", false)
  | 5 => ("LearnLoans$Ways", "mean", "J", false)
  | 6 => ("LearnLoans$Ways", "least", "J", false)
  | 7 => ("LearnLoans$Ways", "greatest", "J", false)
  | _ => ("LearnLoans$Ways", "neve\x72", "J", false)
def tyX6 : Nat → FieldType := fun k => match k with
  | 0 => .object "LearnLoans$Run"
  | 1 => .array .long
  | 2 => .int
  | 3 => .int
  | 4 => .int
  | 5 => .long
  | 6 => .long
  | 7 => .long
  | _ => .long
theorem nmX6 : ∀ a, a < 9 → ∀ b, b < 9 → a ≠ b → (TX6 a).2.1 ≠ (TX6 b).2.1 := by decide +kernel
theorem tyX6_ok : ∀ k, k < 9 → parseFieldDescriptor (TX6 k).2.2.1 = some (tyX6 k) := by decide +kernel
abbrev cX6_init : ByteArray := prog_8_method_1_code
def yX6_init : MethodName := ⟨RX6, "<init>", "()V"⟩
abbrev cX6_follow : ByteArray := prog_8_method_2_code
def yX6_follow : MethodName := ⟨RX6, "follow", "(IIIII)V"⟩
abbrev cX6_walk : ByteArray := prog_8_method_3_code
def yX6_walk : MethodName := ⟨RX6, "walk", "(LLearnLoans$Ways;IIJJJ)V"⟩
abbrev cX6_end : ByteArray := prog_8_method_4_code
def yX6_end : MethodName := ⟨RX6, "end", "(JJJ)V"⟩
def RX7 : String := "LearnLoans"
def TX7 : u_T := fun k => match k with
  | 0 => ("LearnLoans", "house", "LLearnLoans$House;", true)
  | 1 => ("LearnLoans", "images", "[LLearnLoans$House;", true)
  | 2 => ("LearnLoans", "run", "LLearnLoans$Run;", true)
  | _ => ("LearnLoans", "ways", "LLearnLoans$Ways;", true)
def tyX7 : Nat → FieldType := fun k => match k with
  | 0 => .object "LearnLoans$House"
  | 1 => .array (.object "LearnLoans$House")
  | 2 => .object "LearnLoans$Run"
  | _ => .object "LearnLoans$Ways"
theorem nmX7 : ∀ a, a < 4 → ∀ b, b < 4 → a ≠ b → (TX7 a).2.1 ≠ (TX7 b).2.1 := by decide +kernel
theorem tyX7_ok : ∀ k, k < 4 → parseFieldDescriptor (TX7 k).2.2.1 = some (tyX7 k) := by decide +kernel
abbrev cX7_init : ByteArray := prog_1_method_1_code
def yX7_init : MethodName := ⟨RX7, "<init>", "()V"⟩
abbrev cX7_person : ByteArray := prog_1_method_2_code
def yX7_person : MethodName := ⟨RX7, "person", "(I)I"⟩
abbrev cX7_land : ByteArray := prog_1_method_3_code
def yX7_land : MethodName := ⟨RX7, "land", "(IIII)I"⟩
abbrev cX7_scale : ByteArray := prog_1_method_4_code
def yX7_scale : MethodName := ⟨RX7, "scale", "(II)I"⟩
abbrev cX7_prices : ByteArray := prog_1_method_5_code
def yX7_prices : MethodName := ⟨RX7, "prices", "(II)I"⟩
abbrev cX7_dies : ByteArray := prog_1_method_6_code
def yX7_dies : MethodName := ⟨RX7, "dies", "(II)I"⟩
abbrev cX7_earn : ByteArray := prog_1_method_7_code
def yX7_earn : MethodName := ⟨RX7, "earn", "(IIII)I"⟩
abbrev cX7_right : ByteArray := prog_1_method_8_code
def yX7_right : MethodName := ⟨RX7, "right", "(IIII)I"⟩
abbrev cX7_earnings : ByteArray := prog_1_method_9_code
def yX7_earnings : MethodName := ⟨RX7, "earnings", "(III)I"⟩
abbrev cX7_act : ByteArray := prog_1_method_10_code
def yX7_act : MethodName := ⟨RX7, "act", "(IIIIII)I"⟩
abbrev cX7_force : ByteArray := prog_1_method_11_code
def yX7_force : MethodName := ⟨RX7, "force", "(IIII)I"⟩
abbrev cX7_loan : ByteArray := prog_1_method_12_code
def yX7_loan : MethodName := ⟨RX7, "loan", "(IIIIZ)I"⟩
abbrev cX7_leave : ByteArray := prog_1_method_13_code
def yX7_leave : MethodName := ⟨RX7, "leave", "(II)I"⟩
abbrev cX7_move : ByteArray := prog_1_method_14_code
def yX7_move : MethodName := ⟨RX7, "move", "(III)I"⟩
abbrev cX7_planOf : ByteArray := prog_1_method_15_code
def yX7_planOf : MethodName := ⟨RX7, "planOf", "(II)I"⟩
abbrev cX7_owes : ByteArray := prog_1_method_16_code
def yX7_owes : MethodName := ⟨RX7, "owes", "(IIII)J"⟩
abbrev cX7_all : ByteArray := prog_1_method_17_code
def yX7_all : MethodName := ⟨RX7, "all", "(IIII)J"⟩
abbrev cX7_rate : ByteArray := prog_1_method_18_code
def yX7_rate : MethodName := ⟨RX7, "rate", "(III)I"⟩
abbrev cX7_over : ByteArray := prog_1_method_19_code
def yX7_over : MethodName := ⟨RX7, "ove\x72", "(III)J"⟩
abbrev cX7_write : ByteArray := prog_1_method_20_code
def yX7_write : MethodName := ⟨RX7, "write", "(II)I"⟩
abbrev cX7_erase : ByteArray := prog_1_method_21_code
def yX7_erase : MethodName := ⟨RX7, "erase", "(I)I"⟩
abbrev cX7_fault : ByteArray := prog_1_method_22_code
def yX7_fault : MethodName := ⟨RX7, "fault", "(I)I"⟩
abbrev cX7_sell : ByteArray := prog_1_method_23_code
def yX7_sell : MethodName := ⟨RX7, "sell", "(III)I"⟩
abbrev cX7_promise : ByteArray := prog_1_method_24_code
def yX7_promise : MethodName := ⟨RX7, "promise", "(III)I"⟩
abbrev cX7_book : ByteArray := prog_1_method_25_code
def yX7_book : MethodName := ⟨RX7, "book", "(IIII)J"⟩
abbrev cX7_live : ByteArray := prog_1_method_26_code
def yX7_live : MethodName := ⟨RX7, "live", "(IIII)I"⟩
abbrev cX7_early : ByteArray := prog_1_method_27_code
def yX7_early : MethodName := ⟨RX7, "early", "(IIII)I"⟩
abbrev cX7_choice : ByteArray := prog_1_method_28_code
def yX7_choice : MethodName := ⟨RX7, "choice", "(IIIII)J"⟩
abbrev cX7_chances : ByteArray := prog_1_method_29_code
def yX7_chances : MethodName := ⟨RX7, "chances", "(IIIII)I"⟩
abbrev cX7_foretold : ByteArray := prog_1_method_30_code
def yX7_foretold : MethodName := ⟨RX7, "foretold", "(IIIIII)J"⟩
abbrev cX7_tried : ByteArray := prog_1_method_31_code
def yX7_tried : MethodName := ⟨RX7, "tried", "(IIIII)J"⟩
abbrev cX7_tell : ByteArray := prog_1_method_32_code
def yX7_tell : MethodName := ⟨RX7, "tell", "(I)I"⟩
abbrev cX7_untell : ByteArray := prog_1_method_33_code
def yX7_untell : MethodName := ⟨RX7, "untell", "()I"⟩
abbrev cX7_best : ByteArray := prog_1_method_34_code
def yX7_best : MethodName := ⟨RX7, "best", "(IIIIIJ)I"⟩
abbrev cX7_image : ByteArray := prog_1_method_35_code
def yX7_image : MethodName := ⟨RX7, "image", "(I)I"⟩
abbrev cX7_from : ByteArray := prog_1_method_36_code
def yX7_from : MethodName := ⟨RX7, "from", "(I)I"⟩
abbrev cX7_count : ByteArray := prog_1_method_37_code
def yX7_count : MethodName := ⟨RX7, "count", "(I)I"⟩
abbrev cX7_digest : ByteArray := prog_1_method_38_code
def yX7_digest : MethodName := ⟨RX7, "digest", "()J"⟩
abbrev cX7_within : ByteArray := prog_1_method_39_code
def yX7_within : MethodName := ⟨RX7, "within", "(III)Z"⟩
abbrev cX7_isYear : ByteArray := prog_1_method_40_code
def yX7_isYear : MethodName := ⟨RX7, "isYea\x72", "(I)Z"⟩
abbrev cX7_isSpan : ByteArray := prog_1_method_41_code
def yX7_isSpan : MethodName := ⟨RX7, "isSpan", "(II)Z"⟩
abbrev cX7_isPence : ByteArray := prog_1_method_42_code
def yX7_isPence : MethodName := ⟨RX7, "isPence", "(I)Z"⟩
abbrev cX7_isPlan : ByteArray := prog_1_method_43_code
def yX7_isPlan : MethodName := ⟨RX7, "isPlan", "(I)Z"⟩
abbrev cX7_isNumber : ByteArray := prog_1_method_44_code
def yX7_isNumber : MethodName := ⟨RX7, "isNumbe\x72", "(II)Z"⟩
abbrev cX7_isChance : ByteArray := prog_1_method_45_code
def yX7_isChance : MethodName := ⟨RX7, "isChance", "(I)Z"⟩
abbrev cX7_isPerson : ByteArray := prog_1_method_46_code
def yX7_isPerson : MethodName := ⟨RX7, "isPerson", "(I)Z"⟩
abbrev cX7_isLoan : ByteArray := prog_1_method_47_code
def yX7_isLoan : MethodName := ⟨RX7, "isLoan", "(I)Z"⟩
abbrev cX7_lay : ByteArray := prog_1_method_48_code
def yX7_lay : MethodName := ⟨RX7, "lay", "([IIII)V"⟩
abbrev cX7_together : ByteArray := prog_1_method_49_code
def yX7_together : MethodName := ⟨RX7, "togethe\x72", "(IIII)J"⟩
abbrev cX7_runEverybody : ByteArray := prog_1_method_50_code
def yX7_runEverybody : MethodName := ⟨RX7, "runEverybody", "(II)V"⟩
abbrev cX7_takenByLife : ByteArray := prog_1_method_51_code
def yX7_takenByLife : MethodName := ⟨RX7, "takenByLife", "(IIIIII)J"⟩
abbrev cX7_takenIf : ByteArray := prog_1_method_52_code
def yX7_takenIf : MethodName := ⟨RX7, "takenIf", "(IIIII)J"⟩
abbrev cX7_isNearer : ByteArray := prog_1_method_53_code
def yX7_isNearer : MethodName := ⟨RX7, "isNeare\x72", "(III)Z"⟩
def RX8 : String := "LearnLoansModel"
def TX8 : u_T := fun k => match k with
  | 0 => ("LearnLoansModel", "cells", "[I", true)
  | 1 => ("LearnLoansModel", "images", "[I", true)
  | 2 => ("LearnLoansModel", "hasImage", "[Z", true)
  | 3 => ("LearnLoansModel", "tryPlan", "I", false)
  | 4 => ("LearnLoansModel", "tryWhat", "I", false)
  | 5 => ("LearnLoansModel", "tryIs", "I", false)
  | 6 => ("LearnLoansModel", "tryFrom", "I", false)
  | 7 => ("LearnLoansModel", "leadPlan", "I", false)
  | 8 => ("LearnLoansModel", "leadFrom", "I", false)
  | 9 => ("LearnLoansModel", "waits", "[I", true)
  | 10 => ("LearnLoansModel", "worked", "[J", true)
  | 11 => ("LearnLoansModel", "waitMany", "I", false)
  | 12 => ("LearnLoansModel", "workedMany", "I", false)
  | 13 => ("LearnLoansModel", "facts", "[J", true)
  | 14 => ("LearnLoansModel", "faultAt", "I", false)
  | 15 => ("LearnLoansModel", "owed", "[J", true)
  | 16 => ("LearnLoansModel", "taken", "[J", true)
  | 17 => ("LearnLoansModel", "takenAll", "[J", true)
  | 18 => ("LearnLoansModel", "takenSold", "[J", true)
  | 19 => ("LearnLoansModel", "struck", "[J", true)
  | 20 => ("LearnLoansModel", "grown", "[J", true)
  | 21 => ("LearnLoansModel", "isStruck", "[Z", true)
  | 22 => ("LearnLoansModel", "paid", "J", false)
  | 23 => ("LearnLoansModel", "owedThen", "[J", true)
  | 24 => ("LearnLoansModel", "struckThen", "[Z", true)
  | 25 => ("LearnLoansModel", "takenWay", "J", false)
  | _ => ("LearnLoansModel", "neverWay", "J", false)
def tyX8 : Nat → FieldType := fun k => match k with
  | 0 => .array .int
  | 1 => .array .int
  | 2 => .array .boolean
  | 3 => .int
  | 4 => .int
  | 5 => .int
  | 6 => .int
  | 7 => .int
  | 8 => .int
  | 9 => .array .int
  | 10 => .array .long
  | 11 => .int
  | 12 => .int
  | 13 => .array .long
  | 14 => .int
  | 15 => .array .long
  | 16 => .array .long
  | 17 => .array .long
  | 18 => .array .long
  | 19 => .array .long
  | 20 => .array .long
  | 21 => .array .boolean
  | 22 => .long
  | 23 => .array .long
  | 24 => .array .boolean
  | 25 => .long
  | _ => .long
theorem nmX8 : ∀ a, a < 27 → ∀ b, b < 27 → a ≠ b → (TX8 a).2.1 ≠ (TX8 b).2.1 := by decide +kernel
theorem tyX8_ok : ∀ k, k < 27 → parseFieldDescriptor (TX8 k).2.2.1 = some (tyX8 k) := by decide +kernel
abbrev cX8_init : ByteArray := prog_10_method_1_code
def yX8_init : MethodName := ⟨RX8, "<init>", "()V"⟩
abbrev cX8_in : ByteArray := prog_10_method_3_code
def yX8_in : MethodName := ⟨RX8, "in", "(JJJ)Z"⟩
abbrev cX8_isYear : ByteArray := prog_10_method_4_code
def yX8_isYear : MethodName := ⟨RX8, "isYea\x72", "(I)Z"⟩
abbrev cX8_isPerson : ByteArray := prog_10_method_5_code
def yX8_isPerson : MethodName := ⟨RX8, "isPerson", "(I)Z"⟩
abbrev cX8_isLoan : ByteArray := prog_10_method_6_code
def yX8_isLoan : MethodName := ⟨RX8, "isLoan", "(I)Z"⟩
abbrev cX8_isPlan : ByteArray := prog_10_method_7_code
def yX8_isPlan : MethodName := ⟨RX8, "isPlan", "(I)Z"⟩
abbrev cX8_person : ByteArray := prog_10_method_8_code
def yX8_person : MethodName := ⟨RX8, "person", "(I)I"⟩
abbrev cX8_land : ByteArray := prog_10_method_9_code
def yX8_land : MethodName := ⟨RX8, "land", "(IIII)I"⟩
abbrev cX8_scale : ByteArray := prog_10_method_10_code
def yX8_scale : MethodName := ⟨RX8, "scale", "(II)I"⟩
abbrev cX8_prices : ByteArray := prog_10_method_11_code
def yX8_prices : MethodName := ⟨RX8, "prices", "(II)I"⟩
abbrev cX8_dies : ByteArray := prog_10_method_12_code
def yX8_dies : MethodName := ⟨RX8, "dies", "(II)I"⟩
abbrev cX8_earn : ByteArray := prog_10_method_13_code
def yX8_earn : MethodName := ⟨RX8, "earn", "(IIII)I"⟩
abbrev cX8_right : ByteArray := prog_10_method_14_code
def yX8_right : MethodName := ⟨RX8, "right", "(IIII)I"⟩
abbrev cX8_earningsOf : ByteArray := prog_10_method_15_code
def yX8_earningsOf : MethodName := ⟨RX8, "earningsOf", "(III)I"⟩
abbrev cX8_earnings : ByteArray := prog_10_method_16_code
def yX8_earnings : MethodName := ⟨RX8, "earnings", "(III)I"⟩
abbrev cX8_atFirst : ByteArray := prog_10_method_17_code
def yX8_atFirst : MethodName := ⟨RX8, "atFirst", "(I)I"⟩
abbrev cX8_mayBe : ByteArray := prog_10_method_18_code
def yX8_mayBe : MethodName := ⟨RX8, "mayBe", "(II)Z"⟩
abbrev cX8_isWhat : ByteArray := prog_10_method_19_code
def yX8_isWhat : MethodName := ⟨RX8, "isWhat", "(I)Z"⟩
abbrev cX8_act : ByteArray := prog_10_method_20_code
def yX8_act : MethodName := ⟨RX8, "act", "(IIIIII)I"⟩
abbrev cX8_inForce : ByteArray := prog_10_method_21_code
def yX8_inForce : MethodName := ⟨RX8, "inForce", "(IIII)I"⟩
abbrev cX8_force : ByteArray := prog_10_method_22_code
def yX8_force : MethodName := ⟨RX8, "force", "(IIII)I"⟩
abbrev cX8_loan : ByteArray := prog_10_method_23_code
def yX8_loan : MethodName := ⟨RX8, "loan", "(IIIIZ)I"⟩
abbrev cX8_given : ByteArray := prog_10_method_24_code
def yX8_given : MethodName := ⟨RX8, "given", "(II)I"⟩
abbrev cX8_leave : ByteArray := prog_10_method_25_code
def yX8_leave : MethodName := ⟨RX8, "leave", "(II)I"⟩
abbrev cX8_move : ByteArray := prog_10_method_26_code
def yX8_move : MethodName := ⟨RX8, "move", "(III)I"⟩
abbrev cX8_planAt : ByteArray := prog_10_method_27_code
def yX8_planAt : MethodName := ⟨RX8, "planAt", "(II)I"⟩
abbrev cX8_planOf : ByteArray := prog_10_method_28_code
def yX8_planOf : MethodName := ⟨RX8, "planOf", "(II)I"⟩
abbrev cX8_write : ByteArray := prog_10_method_29_code
def yX8_write : MethodName := ⟨RX8, "write", "(II)I"⟩
abbrev cX8_erase : ByteArray := prog_10_method_30_code
def yX8_erase : MethodName := ⟨RX8, "erase", "(I)I"⟩
abbrev cX8_factOf : ByteArray := prog_10_method_31_code
def yX8_factOf : MethodName := ⟨RX8, "factOf", "(I)I"⟩
abbrev cX8_closeness : ByteArray := prog_10_method_32_code
def yX8_closeness : MethodName := ⟨RX8, "closeness", "(I)I"⟩
abbrev cX8_told : ByteArray := prog_10_method_33_code
def yX8_told : MethodName := ⟨RX8, "told", "(Z)J"⟩
abbrev cX8_between : ByteArray := prog_10_method_34_code
def yX8_between : MethodName := ⟨RX8, "between", "(IJJ)J"⟩
abbrev cX8_top : ByteArray := prog_10_method_35_code
def yX8_top : MethodName := ⟨RX8, "top", "()I"⟩
abbrev cX8_lay : ByteArray := prog_10_method_36_code
def yX8_lay : MethodName := ⟨RX8, "lay", "(J)V"⟩
abbrev cX8_reduce : ByteArray := prog_10_method_37_code
def yX8_reduce : MethodName := ⟨RX8, "reduce", "(I)V"⟩
abbrev cX8_choose : ByteArray := prog_10_method_38_code
def yX8_choose : MethodName := ⟨RX8, "choose", "()V"⟩
abbrev cX8_wait : ByteArray := prog_10_method_39_code
def yX8_wait : MethodName := ⟨RX8, "wait", "(I)V"⟩
abbrev cX8_opened : ByteArray := prog_10_method_40_code
def yX8_opened : MethodName := ⟨RX8, "opened", "()I"⟩
abbrev cX8_behind : ByteArray := prog_10_method_41_code
def yX8_behind : MethodName := ⟨RX8, "behind", "(I)Z"⟩
abbrev cX8_work : ByteArray := prog_10_method_42_code
def yX8_work : MethodName := ⟨RX8, "work", "(I)Z"⟩
abbrev cX8_fault : ByteArray := prog_10_method_43_code
def yX8_fault : MethodName := ⟨RX8, "fault", "(I)I"⟩
abbrev cX8_ofLoan : ByteArray := prog_10_method_44_code
def yX8_ofLoan : MethodName := ⟨RX8, "ofLoan", "(II)I"⟩
abbrev cX8_rateOf : ByteArray := prog_10_method_45_code
def yX8_rateOf : MethodName := ⟨RX8, "rateOf", "(IIII)I"⟩
abbrev cX8_beginRun : ByteArray := prog_10_method_46_code
def yX8_beginRun : MethodName := ⟨RX8, "beginRun", "()V"⟩
abbrev cX8_begin : ByteArray := prog_10_method_47_code
def yX8_begin : MethodName := ⟨RX8, "begin", "(IIIIZ)V"⟩
abbrev cX8_dueOf : ByteArray := prog_10_method_48_code
def yX8_dueOf : MethodName := ⟨RX8, "dueOf", "(IIII)J"⟩
abbrev cX8_isIn : ByteArray := prog_10_method_49_code
def yX8_isIn : MethodName := ⟨RX8, "isIn", "(IIII)Z"⟩
abbrev cX8_stepYear : ByteArray := prog_10_method_50_code
def yX8_stepYear : MethodName := ⟨RX8, "stepYea\x72", "(IIIIZJ)V"⟩
abbrev cX8_run : ByteArray := prog_10_method_51_code
def yX8_run : MethodName := ⟨RX8, "run", "(III)V"⟩
abbrev cX8_runOf : ByteArray := prog_10_method_52_code
def yX8_runOf : MethodName := ⟨RX8, "runOf", "(II)J"⟩
abbrev cX8_allOf : ByteArray := prog_10_method_53_code
def yX8_allOf : MethodName := ⟨RX8, "allOf", "(II)J"⟩
abbrev cX8_owes : ByteArray := prog_10_method_54_code
def yX8_owes : MethodName := ⟨RX8, "owes", "(IIII)J"⟩
abbrev cX8_all : ByteArray := prog_10_method_55_code
def yX8_all : MethodName := ⟨RX8, "all", "(IIII)J"⟩
abbrev cX8_rate : ByteArray := prog_10_method_56_code
def yX8_rate : MethodName := ⟨RX8, "rate", "(III)I"⟩
abbrev cX8_over : ByteArray := prog_10_method_57_code
def yX8_over : MethodName := ⟨RX8, "ove\x72", "(III)J"⟩
abbrev cX8_sell : ByteArray := prog_10_method_58_code
def yX8_sell : MethodName := ⟨RX8, "sell", "(III)I"⟩
abbrev cX8_promise : ByteArray := prog_10_method_59_code
def yX8_promise : MethodName := ⟨RX8, "promise", "(III)I"⟩
abbrev cX8_book : ByteArray := prog_10_method_60_code
def yX8_book : MethodName := ⟨RX8, "book", "(IIII)J"⟩
abbrev cX8_isLife : ByteArray := prog_10_method_61_code
def yX8_isLife : MethodName := ⟨RX8, "isLife", "(I)Z"⟩
abbrev cX8_live : ByteArray := prog_10_method_62_code
def yX8_live : MethodName := ⟨RX8, "live", "(IIII)I"⟩
abbrev cX8_lived : ByteArray := prog_10_method_63_code
def yX8_lived : MethodName := ⟨RX8, "lived", "(IIIIJ)J"⟩
abbrev cX8_early : ByteArray := prog_10_method_64_code
def yX8_early : MethodName := ⟨RX8, "early", "(IIII)I"⟩
abbrev cX8_choice : ByteArray := prog_10_method_65_code
def yX8_choice : MethodName := ⟨RX8, "choice", "(IIIII)J"⟩
abbrev cX8_chances : ByteArray := prog_10_method_66_code
def yX8_chances : MethodName := ⟨RX8, "chances", "(IIIII)I"⟩
abbrev cX8_chanceOf : ByteArray := prog_10_method_67_code
def yX8_chanceOf : MethodName := ⟨RX8, "chanceOf", "(II)I"⟩
abbrev cX8_keep : ByteArray := prog_10_method_68_code
def yX8_keep : MethodName := ⟨RX8, "keep", "()V"⟩
abbrev cX8_back : ByteArray := prog_10_method_69_code
def yX8_back : MethodName := ⟨RX8, "back", "()V"⟩
abbrev cX8_goWay : ByteArray := prog_10_method_70_code
def yX8_goWay : MethodName := ⟨RX8, "goWay", "(IIIIII)J"⟩
abbrev cX8_foretold : ByteArray := prog_10_method_71_code
def yX8_foretold : MethodName := ⟨RX8, "foretold", "(IIIIII)J"⟩
abbrev cX8_triedOf : ByteArray := prog_10_method_72_code
def yX8_triedOf : MethodName := ⟨RX8, "triedOf", "(IIIII)J"⟩
abbrev cX8_tried : ByteArray := prog_10_method_73_code
def yX8_tried : MethodName := ⟨RX8, "tried", "(IIIII)J"⟩
abbrev cX8_tell : ByteArray := prog_10_method_74_code
def yX8_tell : MethodName := ⟨RX8, "tell", "(I)I"⟩
abbrev cX8_untell : ByteArray := prog_10_method_75_code
def yX8_untell : MethodName := ⟨RX8, "untell", "()I"⟩
abbrev cX8_far : ByteArray := prog_10_method_76_code
def yX8_far : MethodName := ⟨RX8, "fa\x72", "(II)I"⟩
abbrev cX8_best : ByteArray := prog_10_method_77_code
def yX8_best : MethodName := ⟨RX8, "best", "(IIIIIJ)I"⟩
abbrev cX8_image : ByteArray := prog_10_method_78_code
def yX8_image : MethodName := ⟨RX8, "image", "(I)I"⟩
abbrev cX8_from : ByteArray := prog_10_method_79_code
def yX8_from : MethodName := ⟨RX8, "from", "(I)I"⟩
abbrev cX8_count : ByteArray := prog_10_method_80_code
def yX8_count : MethodName := ⟨RX8, "count", "(I)I"⟩
abbrev cX8_digest : ByteArray := prog_10_method_81_code
def yX8_digest : MethodName := ⟨RX8, "digest", "()J"⟩
def RJ9 : String := "java/lang/Math"
abbrev cJ9_abs_0f7a4 : ByteArray := prog_11_method_59_code
def yJ9_abs_0f7a4 : MethodName := ⟨RJ9, "abs", "(I)I"⟩
abbrev cJ9_max_7cf53 : ByteArray := prog_11_method_65_code
def yJ9_max_7cf53 : MethodName := ⟨RJ9, "max", "(II)I"⟩
abbrev cJ9_max_f86c9 : ByteArray := prog_11_method_66_code
def yJ9_max_f86c9 : MethodName := ⟨RJ9, "max", "(JJ)J"⟩
abbrev cJ9_min_7cf53 : ByteArray := prog_11_method_69_code
def yJ9_min_7cf53 : MethodName := ⟨RJ9, "min", "(II)I"⟩
abbrev cJ9_min_f86c9 : ByteArray := prog_11_method_70_code
def yJ9_min_f86c9 : MethodName := ⟨RJ9, "min", "(JJ)J"⟩
def RJ10 : String := "java/lang/System"
def RJ7 : String := "java/util/Arrays"
abbrev cJ7_fill_53178 : ByteArray := prog_13_method_103_code
def yJ7_fill_53178 : MethodName := ⟨RJ7, "fill", "([II)V"⟩
def RL : String := "LearnLoansLaw"
abbrev cL_law : ByteArray := code
def yL_law : MethodName := ⟨RL, "law", "([I)Z"⟩
end
section
/-! the shape of the cells: what each name is -/
abbrev am_cl : List vw_C := [(RX0, TX0, 13), (RX1, TX1, 7), (RX2, TX2, 8), (RX3, TX3, 3), (RX4, TX4, 18), (RX5, TX5, 7), (RX6, TX6, 9), (RX7, TX7, 4), (RX8, TX8, 27)]
def am_nfl : List Nat := [13, 7, 8, 3, 18, 7, 9, 4, 27]
def am_nf (ci : Nat) : Nat := am_nfl.getD ci 0
def am_ftl : List (List Nat) := [[2, 2, 2, 2, 2, 2, 2, 2, 2, 2, 2, 2, 0], [1, 1, 1, 1, 1, 1, 1], [2, 2, 2, 2, 2, 2, 2, 0], [2, 0, 0], [2, 2, 2, 2, 2, 2, 2, 0, 0, 0, 0, 0, 0, 1, 1, 0, 0, 0], [2, 2, 0, 0, 0, 0, 0], [2, 2, 0, 0, 0, 1, 1, 1, 1], [2, 2, 2, 2], [2, 2, 2, 0, 0, 0, 0, 0, 0, 2, 2, 0, 0, 2, 0, 2, 2, 2, 2, 2, 2, 2, 1, 2, 2, 1, 1]]
def am_ft (ci k : Nat) : Nat := (am_ftl.getD ci []).getD k 0
abbrev am_tys (cA : Nat → ClassId) : List (ClassId × FieldType) := [(cA 0, .int), (cA 1, .long), (cA 2, .boolean), (cA 3, .object "LearnLoans$Text"), (cA 4, .object "LearnLoans$House")]
def am_tk (t : Nat) : Nat := match t with
  | 0 => 0
  | 1 => 1
  | 2 => 0
  | _ => 2
def am_sh0 : List (Nat ⊕ (Nat × Nat)) := [.inl 7, .inr (4, 2), .inl 6, .inr (1, 150), .inl 4, .inr (0, 1200), .inr (1, 180), .inr (0, 30), .inr (0, 30), .inl 1, .inr (1, 50)]
def am_sh1 : List (Nat ⊕ (Nat × Nat)) := [.inl 0, .inl 2, .inr (0, 12), .inr (0, 12), .inr (0, 480), .inr (0, 480), .inr (0, 480), .inr (0, 480), .inr (0, 480), .inr (0, 4), .inr (0, 40), .inl 3, .inr (0, 366), .inl 3, .inr (0, 240), .inl 3, .inr (0, 180), .inr (0, 1200), .inr (3, 5), .inl 5, .inr (0, 50), .inr (0, 50), .inl 5, .inr (0, 50), .inr (0, 50), .inl 5, .inr (0, 50), .inr (0, 50), .inl 5, .inr (0, 50), .inr (0, 50), .inl 5, .inr (0, 50), .inr (0, 50), .inl 3, .inr (0, 60), .inr (0, 160), .inr (0, 16), .inr (0, 9)]
def am_sh2 : List (Nat ⊕ (Nat × Nat)) := [.inl 8, .inr (0, 3760), .inr (0, 7520), .inr (2, 2), .inr (0, 120), .inr (1, 120), .inr (1, 7), .inr (1, 30), .inr (1, 30), .inr (1, 30), .inr (1, 30), .inr (1, 30), .inr (1, 30), .inr (2, 30), .inr (1, 30), .inr (2, 30)]
def am_sh (n : Nat) : Nat ⊕ (Nat × Nat) := match Nat.ble n 19 with
  | true => am_sh0.getD n (.inl 99)
  | false => match Nat.ble n 139 with
    | true => am_sh1.getD ((n - 20) % 40) (.inl 99)
    | false => am_sh2.getD (n - 200) (.inl 99)
def am_ns : Nat := 3
def am_sC (k : Nat) : String × String × String := match k with
  | 0 => ("LearnLoans", "AT_FIRST", "[I")
  | 1 => ("LearnLoans", "LEAST", "[I")
  | _ => ("LearnLoans", "MOST", "[I")
def am_sN (k : Nat) : Nat := 6
def am_sfl : List (List Int32) := [[2000000, 90, 30, 30, 0, 10000], [0, 0, 0, 1, 0, 0], [10000000, 1000, 500, 60, 9, 1000000]]
def am_sf (k j : Nat) : Int32 := (am_sfl.getD k []).getD j 0
def am_nest : List (String × Nat × String × String × String × String) := [("LearnLoans$Run", 93, "LearnLoans", "AT_FIRST", "[I", "LearnLoans"), ("LearnLoans$Run", 229, "LearnLoans", "MOST", "[I", "LearnLoans")]
def am_top : Nat := 216
def am_q8 : List (List (Option Nat)) := [[some 201, some 202, some 203, none, none, none, none, none, none, some 204, some 205, none, none, some 206, none, some 207, some 208, some 209, some 210, some 211, some 212, some 213, none, some 214, some 215, none, none]]
def am_nestM : List (String × Nat × MethodName × String) := [("LearnLoans", 11, yX6_init, "LearnLoans"), ("LearnLoans$House", 66, yX5_init, "LearnLoans"), ("LearnLoans$Run", 34, yX1_init, "LearnLoans"), ("LearnLoans$Ways", 11, yX4_init, "LearnLoans")]
def am_over : List String := ["LearnLoans$House", "LearnLoans$Text"]
def am_q0 : List (List (Option Nat)) := [[some 20, some 1, some 4, some 2], [], [some 4, some 3], [], [some 20, some 5, some 6, some 7, some 8, some 9, some 10], [], [], [], [], [], [], [], [], [], [], [], [], [], [], []]
def am_q1 : List (List (Option Nat)) := [[some 21, some 29, some 30, some 31, some 33, some 35, some 37, some 38, some 54, some 56, some 57, some 58], [some 22, some 23, some 24, some 25, some 26, some 27, some 28], [], [], [], [], [], [], [], [], [], [some 32], [], [some 34], [], [some 36], [], [], [some 39, some 42, some 45, some 48, some 51], [some 40, some 41], [], [], [some 43, some 44], [], [], [some 46, some 47], [], [], [some 49, some 50], [], [], [some 52, some 53], [], [], [some 55], [], [], [], [], []]
def am_q2 : List (List (Option Nat)) := [[some 61, some 69, some 70, some 71, some 73, some 75, some 77, some 78, some 94, some 96, some 97, some 98], [some 62, some 63, some 64, some 65, some 66, some 67, some 68], [], [], [], [], [], [], [], [], [], [some 72], [], [some 74], [], [some 76], [], [], [some 79, some 82, some 85, some 88, some 91], [some 80, some 81], [], [], [some 83, some 84], [], [], [some 86, some 87], [], [], [some 89, some 90], [], [], [some 92, some 93], [], [], [some 95], [], [], [], [], []]
def am_q3 : List (List (Option Nat)) := [[some 101, some 109, some 110, some 111, some 113, some 115, some 117, some 118, some 134, some 136, some 137, some 138], [some 102, some 103, some 104, some 105, some 106, some 107, some 108], [], [], [], [], [], [], [], [], [], [some 112], [], [some 114], [], [some 116], [], [], [some 119, some 122, some 125, some 128, some 131], [some 120, some 121], [], [], [some 123, some 124], [], [], [some 126, some 127], [], [], [some 129, some 130], [], [], [some 132, some 133], [], [], [some 135], [], [], [], [], []]
def am_qs (n : Nat) : List (Option Nat) := match Nat.blt n 20 with
  | true => am_q0.getD n []
  | false => match Nat.blt n 60 with
    | true => am_q1.getD (n - 20) []
    | false => match Nat.blt n 100 with
      | true => am_q2.getD (n - 60) []
      | false => match Nat.blt n 140 with
        | true => am_q3.getD (n - 100) []
        | false => am_q8.getD (n - 200) []
/-- which names stand for cells -/
def am_lv (i1 i2 : Bool) (n : Nat) : Bool := match Nat.blt n 20 with
  | true => Nat.blt n 11
  | false => match Nat.blt n 60 with
    | true => Nat.blt n 59
    | false => match Nat.blt n 100 with
      | true => i1 && Nat.blt n 99
      | false => match Nat.blt n 140 with
        | true => i2 && Nat.blt n 139
        | false => Nat.ble 200 n && Nat.blt n am_top
/-- what the references hold: all is fixed but the images -/
def am_q (i1 i2 : Bool) (n k : Nat) : Option Nat := match am_lv i1 i2 n with
  | false => none
  | true => match Nat.beq n 1 with
    | true => (match k with
      | 0 => (match i1 with | true => some 60 | false => none)
      | 1 => (match i2 with | true => some 100 | false => none)
      | _ => none)
    | false => (am_qs n).getD k none
end
section
/-! AM: a machine of names over the kit's rows. A name stands for a cell; the memory holds int-like, long and reference contents by name and place. -/
/-- the words that every method of ours is given -/
def am_ws : List Cond := lw_tbl.filter goodWord
theorem am_wsi {w : Cond} (h : w ∈ lw_tbl) (hg : goodWord w = true) : w ∈ am_ws := List.mem_filter.mpr ⟨h, hg⟩
theorem am_wsg {w : Cond} (h : w ∈ am_ws) : goodWord w = true := (List.mem_filter.mp h).2
def am_N (s : State) : Prop := (∀ q ∈ am_nest, va_Nw (.fieldLinkNest q.1 q.2.1 q.2.2.1 q.2.2.2.1 q.2.2.2.2.1 q.2.2.2.2.2) s) ∧ (∀ q ∈ am_nestM, va_Nw (.methodLinkNest q.1 q.2.1 q.2.2.1 q.2.2.2) s) ∧ ∀ C ∈ am_over, va_AO C s
theorem am_N.vm {s U : State} (h : s.vm = U.vm) (hN : am_N s) : am_N U := ⟨fun q hq => va_Nw.same rfl h (hN.1 q hq), fun q hq => va_Nw.same rfl h (hN.2.1 q hq), fun C hC => va_AO.moved (by rw [h]; exact Vm.Alike.refl U.vm) (hN.2.2 C hC)⟩
theorem am_N.warm {s U : State} (hW : s.WarmedH U.vm) (hN : am_N s) : am_N U := ⟨fun q hq => va_Nw.warmF hW (hN.1 q hq), fun q hq => va_Nw.warmM hW (hN.2.1 q hq), fun C hC => va_AO.moved hW.alike (hN.2.2 C hC)⟩
abbrev am_M : Type := (Nat → Nat → Int32) × (Nat → Nat → Int64)
/-- which names stand for cells, and what the references hold -/
abbrev am_E : Type := (Nat → Bool) × (Nat → Nat → Option Nat)
abbrev am_L : Type := List (Nat × Value)
abbrev am_K : Type := Nat → am_L → List Value → am_M → Prop
abbrev am_S : Type := am_L → List Value → am_M → am_K → Prop
abbrev am_R : Type := Option Value → am_M → Prop
abbrev am_T : Type := am_E → List Value → am_M → am_R → Prop
def am_wI (M : am_M) (n k : Nat) (v : Int32) : am_M := (fun a b => if a = n ∧ b = k then v else M.1 a b, M.2)
def am_wJ (M : am_M) (n k : Nat) (v : Int64) : am_M := (M.1, fun a b => if a = n ∧ b = k then v else M.2 a b)
def am_cI (M : am_M) (n : Nat) (f : Nat → Int32) : am_M := (fun a b => if a = n then f b else M.1 a b, M.2)
def am_cJ (M : am_M) (n : Nat) (f : Nat → Int64) : am_M := (M.1, fun a b => if a = n then f b else M.2 a b)
def am_cv (al : Nat → Nat) (v : Value) : Value := match v with
  | .ref n => .ref (al n)
  | w => w
theorem am_cv_cat (al : Nat → Nat) (v : Value) : (am_cv al v).category = v.category := by cases v <;> rfl
def am_g : am_L → Nat → Option Value
  | [], _ => none
  | q :: r, i => match Nat.beq q.1 i with
    | true => some q.2
    | false => am_g r i
theorem am_g_mem : ∀ {L : am_L} {i : Nat} {v : Value}, am_g L i = some v → (i, v) ∈ L
  | [], _, _, h => by cases h
  | q :: r, i, v, h => by
    unfold am_g at h
    cases hb : Nat.beq q.1 i with
    | true =>
      rw [hb] at h
      have e : q.1 = i := Nat.eq_of_beq_eq_true hb
      have e2 : q.2 = v := Option.some.inj h
      rw [← e, ← e2]
      exact List.mem_cons_self
    | false =>
      rw [hb] at h
      exact List.mem_cons_of_mem _ (am_g_mem h)
def am_lc (al : Nat → Nat) (L : am_L) : am_L := L.map (fun q => (q.1, am_cv al q.2))
theorem am_lc_mem {al : Nat → Nat} {L : am_L} {i : Nat} {v : Value} (h : (i, v) ∈ L) : (i, am_cv al v) ∈ am_lc al L := List.mem_map.mpr ⟨(i, v), h, rfl⟩
theorem am_lc_at {al : Nat → Nat} {L : am_L} {i : Nat} {v : Value} {ls : Array Slot} {nL : Nat} (hl : lv_has ls nL (am_lc al L)) (h : am_g L i = some v) : ls[i]? = some (.val (am_cv al v)) := hl.2.2 (i, am_cv al v) (am_lc_mem (am_g_mem h))
theorem am_lc_pl {al : Nat → Nat} {L : am_L} {i : Nat} {v : Value} (h : am_g L i = some v) : ∃ k : Nat, (am_lc al L)[k]? = some (i, am_cv al v) := List.getElem?_of_mem (am_lc_mem (am_g_mem h))
def am_s1 (i : Nat) (v : Value) (L : am_L) : am_L := (i, v) :: L.filter (fun q => !(q.1 == i) && !(q.1 + 1 == i && q.2.category == 2))
def am_s2 (i : Nat) (v : Value) (L : am_L) : am_L := (i, v) :: L.filter (fun q => !(q.1 == i) && (!(q.1 == i + 1) && !(q.1 + 1 == i && q.2.category == 2)))
theorem am_lc_s1 (al : Nat → Nat) (i : Nat) (v : Value) (L : am_L) : (i, am_cv al v) :: (am_lc al L).filter (fun q => !(q.1 == i) && !(q.1 + 1 == i && q.2.category == 2)) = am_lc al (am_s1 i v L) := by
  unfold am_s1 am_lc
  rw [List.map_cons, List.filter_map]
  refine congrArg _ (congrArg _ (congrArg (fun f => List.filter f L) ?_))
  funext q
  simp [Function.comp, am_cv_cat]
theorem am_lc_s2 (al : Nat → Nat) (i : Nat) (v : Value) (L : am_L) : (i, am_cv al v) :: (am_lc al L).filter (fun q => !(q.1 == i) && (!(q.1 == i + 1) && !(q.1 + 1 == i && q.2.category == 2))) = am_lc al (am_s2 i v L) := by
  unfold am_s2 am_lc
  rw [List.map_cons, List.filter_map]
  refine congrArg _ (congrArg _ (congrArg (fun f => List.filter f L) ?_))
  funext q
  simp [Function.comp, am_cv_cat]
def am_force : am_L → (am_L → Prop) → Prop
  | [], K => K []
  | q :: r, K => am_force r (fun r' => K (q :: r'))
theorem am_force_iff : ∀ (L : am_L) (K : am_L → Prop), am_force L K ↔ K L
  | [], _ => Iff.rfl
  | q :: r, K => am_force_iff r (fun r' => K (q :: r'))
def am_if (b : Bool) (P : Prop) : Prop := b = true ∧ P
theorem am_if_mp {b : Bool} {P : Prop} (h : am_if b P) : b = true ∧ P := h
theorem am_if_in {b : Bool} {P : Prop} (h : b = true) (k : P) : am_if b P := ⟨h, k⟩
def am_ex (o : Option Nat) (P : Nat → Prop) : Prop := ∃ q, o = some q ∧ P q
theorem am_qm {q : Option Nat} {P : Nat → Prop} (h : am_ex q P) : ∃ x, q = some x ∧ P x := h
def am_swc (x : Int32) : List (Int32 × Nat) → Nat → (Nat → Prop) → Prop
  | [], d, K => K d
  | q :: cs, d, K => (x = q.1 → K q.2) ∧ (¬ x = q.1 → am_swc x cs d K)
/-! the cells that names stand for -/
def am_fv (Q : Nat → Nat → Option Nat) (al : Nat → Nat) (M : am_M) (n ci k : Nat) : Value := match am_ft ci k with
  | 0 => .int (M.1 n k)
  | 1 => .long (M.2 n k)
  | _ => va_rf ((Q n k).map al)
def am_ae (Q : Nat → Nat → Option Nat) (al : Nat → Nat) (M : am_M) (n t : Nat) : (Nat → Int32) ⊕ (Nat → Int64) ⊕ (Nat → UInt32) ⊕ (Nat → UInt64) ⊕ (Nat → Option Nat) := match am_tk t with
  | 0 => .inl (M.1 n)
  | 1 => .inr (.inl (M.2 n))
  | _ => .inr (.inr (.inr (.inr (fun k => (Q n k).map al))))
def am_ce (Q : Nat → Nat → Option Nat) (cA : Nat → ClassId) (al : Nat → Nat) (M : am_M) (n : Nat) : va_E := match am_sh n with
  | .inl ci => .inr (ci, (List.range (am_nf ci)).map (am_fv Q al M n ci))
  | .inr q => .inl (cA q.1, q.2, am_ae Q al M n q.1)
def am_P (D : va_G) (cA : Nat → ClassId) (al : Nat → Nat) (B : Nat) (live : am_E) (M : am_M) (H : Heap) : Prop :=
  (∀ n, live.1 n = true → va_at D am_cl (al n, am_ce live.2 cA al M n) H) ∧ (∀ n m, live.1 n = true → live.1 m = true → al n = al m → n = m) ∧ (∀ n, live.1 n = true → B ≤ al n) ∧ (∀ n, live.1 n = true → n < 400)
theorem am_P.put {D : va_G} {cA : Nat → ClassId} {al : Nat → Nat} {B : Nat} {live : am_E} {M M' : am_M} {H H1 : Heap} {n : Nat} (h : am_P D cA al B live M H) (hn : live.1 n = true) (he : va_at D am_cl (al n, am_ce live.2 cA al M' n) H1)
    (ho : ∀ m, m ≠ n → am_ce live.2 cA al M' m = am_ce live.2 cA al M m) (oq : ∀ q : Nat, q ≠ al n → H1[q]? = H[q]?) : am_P D cA al B live M' H1 := by
  refine ⟨fun m hm => ?_, h.2.1, h.2.2⟩
  by_cases e : m = n
  · subst e; exact he
  · rw [ho m e]
    exact (h.1 m hm).kept (oq _ (fun q => e (h.2.1 m n hm hn q)))
def am_isO (live : am_E) (ci n : Nat) : Bool := live.1 n && (match am_sh n with
  | .inl c => Nat.beq c ci
  | .inr _ => false)
def am_isA (live : am_E) (t n : Nat) : Bool := live.1 n && (match am_sh n with
  | .inl _ => false
  | .inr q => Nat.beq q.1 t)
def am_len (n : Nat) : Nat := match am_sh n with
  | .inl _ => 0
  | .inr q => q.2
theorem am_isO_spec {live : am_E} {ci n : Nat} (h : am_isO live ci n = true) : live.1 n = true ∧ am_sh n = .inl ci := by
  unfold am_isO at h
  rw [Bool.and_eq_true] at h
  refine ⟨h.1, ?_⟩
  have h2 := h.2
  revert h2
  cases am_sh n with
  | inl c => intro h2; exact congrArg Sum.inl (Nat.eq_of_beq_eq_true h2)
  | inr q => intro h2; cases h2
theorem am_isA_spec {live : am_E} {t n : Nat} (h : am_isA live t n = true) : live.1 n = true ∧ am_sh n = .inr (t, am_len n) := by
  unfold am_isA at h
  rw [Bool.and_eq_true] at h
  refine ⟨h.1, ?_⟩
  have h2 := h.2
  revert h2
  unfold am_len
  cases am_sh n with
  | inl c => intro h2; cases h2
  | inr q => intro h2; rw [← Nat.eq_of_beq_eq_true h2]
/-- the static arrays, by their names from 1000 on -/
def am_Z (al : Nat → Nat) (B : Nat) (s : State) : Prop := ∀ k, k < am_ns → va_Z (am_sC k).1 (am_sC k).2.1 (am_sC k).2.2 (.ref (al (1000 + k))) (fun q => B ≤ q) s s.heap ∧ va_T .int (al (1000 + k)) (am_sN k) (fun j => .int (am_sf k j)) (fun q => B ≤ q) s s.heap
def am_C (p : Program) (s : State) (m : MethodId) (args : Array Value) (meth : Method) (c : Code) (D : va_G) (cA : Nat → ClassId) (al : Nat → Nat) (B : Nat) (own : String) (cc : ByteArray) (nL : Nat) (rt : Option FieldType) : Prop :=
  p.tables.exec = Jvm.exec ∧ c.code = cc ∧ c.maxLocals = nL ∧ s.vm.findClass own = some m.cls ∧ (∀ w ∈ am_ws, w.before args s = true) ∧ meth.locks = false ∧ meth.sig.returnType = rt ∧ va_K D am_cl (am_tys cA) s ∧ B ≤ s.heap.size ∧ am_Z al B s ∧ am_N s
def am_Qc (D : va_G) (cA : Nat → ClassId) (al : Nat → Nat) (B : Nat) (live : am_E) (Ret : am_R) : Array Value → State → Outcome → State → Prop := fun _ st o t =>
  ∃ (r : Option Value) (M' : am_M), Ret r M' ∧ o = .returned (r.map (am_cv al)) ∧ am_P D cA al B live M' t.heap ∧ va_F (fun q => B ≤ q) st t
def am_Pc (D : va_G) (cA : Nat → ClassId) (al : Nat → Nat) (B : Nat) (live : am_E) (as : List Value) (M : am_M) : Array Value → State → Prop := fun v U =>
  v = (as.map (am_cv al)).toArray ∧ B ≤ U.heap.size ∧ am_P D cA al B live M U.heap ∧ va_K D am_cl (am_tys cA) U ∧ am_Z al B U ∧ am_N U
def am_rm (rf rl : Nat) : Room := { frames := rf, cells := 0, slots := 0, locals := rl }
/-- room, cells and slots made so far, aim -/
abbrev am_Y : Type := Room × Nat × Nat × (State → Prop)
def am_W (p : Program) (l : Launch) (e : Env) (Y : am_Y) (s : State) (m : MethodId) (args : Array Value) (below : List Frame) (meth : Method) (c : Code) (D : va_G) (cA : Nat → ClassId) (al : Nat → Nat) (B : Nat) (live : am_E) (nL : Nat) : am_K := fun pc L st M =>
  ∀ (H : Heap) (locs : List Loc) (ls : Array Slot), am_P D cA al B live M H → va_S (fun q => B ≤ q) s.heap H locs → lv_has ls nL (am_lc al L) →
    W p l e Y.1 s m args below meth c H locs Y.2.1 Y.2.2.1 Y.2.2.2 (F0 m pc ls (st.map (am_cv al)))
def am_Yk (s : State) (args : Array Value) (below : List Frame) (D : va_G) (cA : Nat → ClassId) (al : Nat → Nat) (B : Nat) (live : am_E) (Ret : am_R) (rf rl : Nat) (Y : am_Y) : Prop :=
  rf ≤ Y.1.frames ∧ rl ≤ Y.1.locals ∧ Y.2.1 ≤ Y.1.cells ∧ Y.2.2.1 ≤ Y.1.slots ∧ ((Y.2.1 = 0 ∧ Y.2.2.1 = 0 ∧ Y.2.2.2 = MQ below (am_Qc D cA al B live Ret) args s 0 0 (fun q => B ≤ q)) ∨ ∀ r M', ¬ Ret r M')
def am_ok (own : String) (cc : ByteArray) (nL : Nat) (rt : Option FieldType) (rf rl : Nat) (live : am_E) (Ret : am_R) (pc : Nat) (sem : am_S) : Prop :=
  ∀ (p : Program) (l : Launch) (e : Env) (s : State) (m : MethodId) (args : Array Value) (below : List Frame) (meth : Method) (c : Code) (D : va_G) (cA : Nat → ClassId) (al : Nat → Nat) (B : Nat), am_C p s m args meth c D cA al B own cc nL rt →
    ∀ (Y : am_Y), am_Yk s args below D cA al B live Ret rf rl Y → ∀ (L : am_L) (st : List Value) (M : am_M) (K : am_K), (∀ pc' L' st' M', K pc' L' st' M' → am_W p l e Y s m args below meth c D cA al B live nL pc' L' st' M') → sem L st M K → am_W p l e Y s m args below meth c D cA al B live nL pc L st M
/-! a method as a list of what its instructions do; its run with cuts -/
abbrev am_code : Type := List (Nat × am_S)
def am_go : am_code → Nat → am_code
  | [], _ => []
  | q :: r, pc => match Nat.beq q.1 pc with
    | true => q :: r
    | false => am_go r pc
def am_nxt (code rest : am_code) (pc : Nat) : am_code := match rest with
  | [] => am_go code pc
  | r :: rs => match Nat.beq r.1 pc with
    | true => r :: rs
    | false => am_go code pc
abbrev am_cut : Type := Nat → Option (am_L → List Value → am_M → Prop)
/-- by the recursor itself: so the kernel unfolds it step by step -/
noncomputable def am_wp (code : am_code) (cut : am_cut) (n : Nat) : am_code → am_L → List Value → am_M → Prop :=
  @Nat.rec (fun _ => am_code → am_L → List Value → am_M → Prop) (fun _ _ _ _ => False) (fun _ ih cs L st M => match cs with
    | [] => False
    | q :: rest => q.2 L st M (fun pc' L' st' M' => match cut pc' with
      | some I => I L' st' M'
      | none => ih (am_nxt code rest pc') L' st' M')) n
theorem am_go_hd : ∀ (code : am_code) (pc : Nat) (q : Nat × am_S) (r : am_code), am_go code pc = q :: r → q.1 = pc
  | [], _, _, _, h => by cases h
  | a :: rs, pc, q, r, h => by
    unfold am_go at h
    cases hb : Nat.beq a.1 pc with
    | true =>
      rw [hb] at h
      have e : a :: rs = q :: r := h
      cases e
      exact Nat.eq_of_beq_eq_true hb
    | false =>
      rw [hb] at h
      exact am_go_hd rs pc q r h
theorem am_go_in : ∀ (code : am_code) (pc : Nat) (q : Nat × am_S), q ∈ am_go code pc → q ∈ code
  | [], _, _, h => by cases h
  | a :: rs, pc, q, h => by
    unfold am_go at h
    cases hb : Nat.beq a.1 pc with
    | true => rw [hb] at h; exact h
    | false => rw [hb] at h; exact List.mem_cons_of_mem _ (am_go_in rs pc q h)
theorem am_nxt_hd {code rest : am_code} {pc : Nat} {q : Nat × am_S} {r : am_code} (h : am_nxt code rest pc = q :: r) : q.1 = pc := by
  unfold am_nxt at h
  cases rest with
  | nil => exact am_go_hd _ _ _ _ h
  | cons a rs =>
    cases hb : Nat.beq a.1 pc with
    | true =>
      simp only [hb] at h
      cases h
      exact Nat.eq_of_beq_eq_true hb
    | false =>
      simp only [hb] at h
      exact am_go_hd _ _ _ _ h
theorem am_nxt_in {code rest : am_code} {pc : Nat} {q : Nat × am_S} (hr : ∀ x ∈ rest, x ∈ code) (h : q ∈ am_nxt code rest pc) : q ∈ code := by
  unfold am_nxt at h
  cases rest with
  | nil => exact am_go_in _ _ _ h
  | cons a rs =>
    cases hb : Nat.beq a.1 pc with
    | true =>
      simp only [hb] at h
      exact hr _ h
    | false =>
      simp only [hb] at h
      exact am_go_in _ _ _ h
section AMW
variable {own : String} {cc : ByteArray} {nL : Nat} {rt : Option FieldType} {rf rl : Nat} {live : am_E} {Ret : am_R} {p : Program} {l : Launch} {e : Env} {s : State} {m : MethodId} {args : Array Value} {below : List Frame} {meth : Method} {c : Code} {D : va_G} {cA : Nat → ClassId} {al : Nat → Nat} {B : Nat} {Y : am_Y}
theorem am_wp_ok {code : am_code} {cut : am_cut} (hok : ∀ q ∈ code, am_ok own cc nL rt rf rl live Ret q.1 q.2) (hC : am_C p s m args meth c D cA al B own cc nL rt) (hY : am_Yk s args below D cA al B live Ret rf rl Y)
    (hcut : ∀ pc I, cut pc = some I → ∀ L st M, I L st M → am_W p l e Y s m args below meth c D cA al B live nL pc L st M) :
    ∀ (n : Nat) (cs : am_code) (L : am_L) (st : List Value) (M : am_M), (∀ q ∈ cs, q ∈ code) → am_wp code cut n cs L st M → ∃ pc, (∃ q r, cs = q :: r ∧ q.1 = pc) ∧ am_W p l e Y s m args below meth c D cA al B live nL pc L st M
  | 0, _, _, _, _, _, h => h.elim
  | n + 1, [], _, _, _, _, h => h.elim
  | n + 1, q :: rest, L, st, M, hin, h => by
    refine ⟨q.1, ⟨q, rest, rfl, rfl⟩, ?_⟩
    refine hok q (hin q List.mem_cons_self) p l e s m args below meth c D cA al B hC Y hY L st M _ (fun pc' L' st' M' hk => ?_) h
    cases hc : cut pc' with
    | some I =>
      simp only [hc] at hk
      exact hcut pc' I hc L' st' M' hk
    | none =>
      simp only [hc] at hk
      obtain ⟨pc2, ⟨q2, r2, e1, e2⟩, hw⟩ := am_wp_ok hok hC hY hcut n _ L' st' M' (fun x hx => am_nxt_in (fun y hy => hin y (List.mem_cons_of_mem _ hy)) hx) hk
      have e3 := am_nxt_hd e1
      rw [← e3, e2]
      exact hw
/-- loops: invariants with a pair that falls -/
def am_lt (a b : Nat × Nat) : Prop := a.1 < b.1 ∨ (a.1 = b.1 ∧ a.2 < b.2)
abbrev am_inv : Type := Nat → Option (List Nat × (Nat × Nat → am_L → List Value → am_M → Prop))
def am_nm (ks : List Nat) (L : am_L) : am_L := ks.filterMap (fun k => (am_g L k).map (fun v => (k, v)))
theorem am_nm_mem {ks : List Nat} {L : am_L} {q : Nat × Value} (h : q ∈ am_nm ks L) : q ∈ L := by
  obtain ⟨k, -, hk⟩ := List.mem_filterMap.mp h
  cases hg : am_g L k with
  | none => rw [hg] at hk; cases hk
  | some v =>
    rw [hg] at hk
    cases hk
    exact am_g_mem hg
theorem am_W_nm {ks : List Nat} {pc : Nat} {L : am_L} {st : List Value} {M : am_M} (h : am_W p l e Y s m args below meth c D cA al B live nL pc (am_nm ks L) st M) : am_W p l e Y s m args below meth c D cA al B live nL pc L st M := by
  intro H locs ls hP hS hl
  refine h H locs ls hP hS ⟨hl.1, hl.2.1, fun q hq => ?_⟩
  obtain ⟨x, hx, rfl⟩ := List.mem_map.mp hq
  exact hl.2.2 _ (List.mem_map.mpr ⟨x, am_nm_mem hx, rfl⟩)
def am_cutl (inv : am_inv) (k : Nat × Nat) : am_cut := fun pc => match inv pc with
  | some I => some (fun L st M => ∃ k', am_lt k' k ∧ I.2 k' (am_nm I.1 L) st M)
  | none => none
def am_cut0 (inv : am_inv) : am_cut := fun pc => match inv pc with
  | some I => some (fun L st M => ∃ k', I.2 k' (am_nm I.1 L) st M)
  | none => none
theorem am_loops {code : am_code} {inv : am_inv} (hok : ∀ q ∈ code, am_ok own cc nL rt rf rl live Ret q.1 q.2) (hC : am_C p s m args meth c D cA al B own cc nL rt) (hY : am_Yk s args below D cA al B live Ret rf rl Y)
    (N : Nat) (h : ∀ (k : Nat × Nat) (pc : Nat) I, inv pc = some I → ∀ L st M, I.2 k L st M → am_wp code (am_cutl inv k) N (am_go code pc) L st M) :
    ∀ (a b : Nat) (pc : Nat) I, inv pc = some I → ∀ L st M, I.2 (a, b) L st M → am_W p l e Y s m args below meth c D cA al B live nL pc L st M := by
  intro a
  induction a using Nat.strongRecOn with
  | ind a iha =>
    intro b
    induction b using Nat.strongRecOn with
    | ind b ihb =>
      intro pc I hI L st M hi
      have hw := h (a, b) pc I hI L st M hi
      obtain ⟨pc2, ⟨q, r, e1, e2⟩, w⟩ := am_wp_ok (l := l) (e := e) (below := below) hok hC hY (cut := am_cutl inv (a, b)) (fun pc' I' hc L' st' M' hh => by
        unfold am_cutl at hc
        cases hi' : inv pc' with
        | none => rw [hi'] at hc; cases hc
        | some J =>
          rw [hi'] at hc
          cases hc
          obtain ⟨⟨a', b'⟩, hlt, hj⟩ := hh
          refine am_W_nm (ks := J.1) ?_
          rcases hlt with hlt | ⟨e, hlt⟩
          · exact iha a' hlt b' pc' J hi' _ st' M' hj
          · have e' : a' = a := e
            subst e'
            exact ihb b' hlt pc' J hi' _ st' M' hj) N _ L st M (fun x hx => am_go_in _ _ _ hx) hw
      rw [← am_go_hd _ _ _ _ e1, e2]
      exact w
end AMW
/-- a method's contract -/
def am_Met (y : MethodName) (cc : ByteArray) (nL : Nat) (rt : Option FieldType) (rf rl : Nat) (T : am_T) : Prop :=
  ∀ (l : Launch) (D : va_G) (cA : Nat → ClassId) (al : Nat → Nat) (B : Nat) (live : am_E) (as : List Value) (M : am_M) (Ret : am_R), T live as M Ret →
    Met l y (.code y cc nL rt :: am_ws) (am_rm rf rl) (am_Pc D cA al B live as M) (am_Qc D cA al B live Ret) 0 0 (fun q => B ≤ q)
theorem am_args : ∀ (al : Nat → Nat) (i : Nat) (vs : List Value), lv_args i (vs.map (am_cv al)) = am_lc al (lv_args i vs)
  | _, _, [] => rfl
  | al, i, v :: vs => by
    show (i, am_cv al v) :: lv_args (if (am_cv al v).category = 2 then i + 2 else i + 1) (vs.map (am_cv al)) = _
    rw [am_cv_cat, am_args al _ vs]
    rfl
theorem am_slen (al : Nat → Nat) : ∀ vs : List Value, (lg_sl (vs.map (am_cv al))).length = (lg_sl vs).length
  | [] => rfl
  | v :: vs => by
    show (lg_sl (am_cv al v :: vs.map (am_cv al))).length = (lg_sl (v :: vs)).length
    have ih := am_slen al vs
    unfold lg_sl at ih ⊢
    rw [List.flatMap_cons, List.flatMap_cons, List.length_append, List.length_append, ih, am_cv_cat]
    split <;> rfl
theorem am_met {y : MethodName} {own : String} {cc : ByteArray} {nL : Nat} {rt : Option FieldType} {rf rl : Nat} {T : am_T} (hy : plainName y.cls = true) (hown : y.cls = own) (code : am_E → am_R → am_code)
    (hok : ∀ live Ret, ∀ q ∈ code live Ret, am_ok own cc nL rt rf rl live Ret q.1 q.2) (N : Nat) (inv : am_E → List Value → am_M → am_R → am_inv)
    (hin : ∀ live as M Ret, T live as M Ret → (lg_sl as).length ≤ nL ∧ am_wp (code live Ret) (am_cut0 (inv live as M Ret)) N (am_go (code live Ret) 0) (lv_args 0 as) [] M)
    (hl : ∀ live as M0 Ret, T live as M0 Ret → ∀ (k : Nat × Nat) (pc : Nat) I, inv live as M0 Ret pc = some I → ∀ L st M, I.2 k L st M → am_wp (code live Ret) (am_cutl (inv live as M0 Ret) k) N (am_go (code live Ret) pc) L st M) :
    am_Met y cc nL rt rf rl T := by
  intro l D cA al B live as M Ret hT
  refine Met.ofW (cc := cc) (maxL := nL) (ret := rt) hy rfl ?_
  intro p e s m args below meth c s₁ Bd hml hv
  obtain ⟨rfl, hsz, hP, hK, hZ, hN⟩ := hv
  have hts0 := atoms_spec (ws := Cond.code y cc nL rt :: am_ws) Bd.pre
  have hC : am_C p s m (as.map (am_cv al)).toArray meth c D cA al B own cc nL rt := ⟨Bd.exec, Bd.bytes, hml, hown ▸ findClass_of_methodNamed Bd.named, fun w hw => hts0 w (List.mem_cons_of_mem _ hw), Bd.notSynchronized, Bd.returns, hK, hsz, hZ, hN⟩
  have hY : am_Yk s (as.map (am_cv al)).toArray below D cA al B live Ret rf rl (am_rm rf rl, 0, 0, MQ below (am_Qc D cA al B live Ret) (as.map (am_cv al)).toArray s 0 0 (fun q => B ≤ q)) := ⟨Nat.le_refl _, Nat.le_refl _, Nat.le_refl _, Nat.le_refl _, Or.inl ⟨rfl, rfl, rfl⟩⟩
  obtain ⟨hlen, hwp⟩ := hin live as M Ret hT
  obtain ⟨pc2, ⟨q, r, e1, e2⟩, w⟩ := am_wp_ok (l := l) (e := e) (below := below) (hok live Ret) hC hY (cut := am_cut0 (inv live as M Ret)) (fun pc' I' hc L' st' M' hh => by
    unfold am_cut0 at hc
    cases hi' : inv live as M Ret pc' with
    | none => rw [hi'] at hc; cases hc
    | some J =>
      rw [hi'] at hc
      cases hc
      obtain ⟨⟨a', b'⟩, hj⟩ := hh
      exact am_W_nm (ks := J.1) (am_loops (hok live Ret) hC hY N (hl live as M Ret hT) a' b' pc' J hi' _ st' M' hj)) N _ _ _ _ (fun x hx => am_go_in _ _ _ hx) hwp
  have e3 := am_go_hd _ _ _ _ e1
  have e4 : pc2 = 0 := by rw [← e2, e3]
  subst e4
  have hle := lv_entry (as.map (am_cv al)) (n := nL) (by rw [am_slen]; exact hlen)
  rw [am_args] at hle
  rw [lg_entry_eq]
  exact w s.heap [] _ hP va_S.rf hle
theorem am_met0 {y : MethodName} {own : String} {cc : ByteArray} {nL : Nat} {rt : Option FieldType} {rf rl : Nat} {T : am_T} (hy : plainName y.cls = true) (hown : y.cls = own) (code : am_E → am_R → am_code)
    (hok : ∀ live Ret, ∀ q ∈ code live Ret, am_ok own cc nL rt rf rl live Ret q.1 q.2) (N : Nat) (inv : am_E → List Value → am_M → am_R → am_inv)
    (hin : ∀ live as M Ret, T live as M Ret → (lg_sl as).length ≤ nL ∧ ∃ I k, inv live as M Ret 0 = some I ∧ I.2 k (am_nm I.1 (lv_args 0 as)) [] M)
    (hl : ∀ live as M0 Ret, T live as M0 Ret → ∀ (k : Nat × Nat) (pc : Nat) I, inv live as M0 Ret pc = some I → ∀ L st M, I.2 k L st M → am_wp (code live Ret) (am_cutl (inv live as M0 Ret) k) N (am_go (code live Ret) pc) L st M) :
    am_Met y cc nL rt rf rl T := by
  intro l D cA al B live as M Ret hT
  refine Met.ofW (cc := cc) (maxL := nL) (ret := rt) hy rfl ?_
  intro p e s m args below meth c s₁ Bd hml hv
  obtain ⟨rfl, hsz, hP, hK, hZ, hN⟩ := hv
  have hts0 := atoms_spec (ws := Cond.code y cc nL rt :: am_ws) Bd.pre
  have hC : am_C p s m (as.map (am_cv al)).toArray meth c D cA al B own cc nL rt := ⟨Bd.exec, Bd.bytes, hml, hown ▸ findClass_of_methodNamed Bd.named, fun w hw => hts0 w (List.mem_cons_of_mem _ hw), Bd.notSynchronized, Bd.returns, hK, hsz, hZ, hN⟩
  have hY : am_Yk s (as.map (am_cv al)).toArray below D cA al B live Ret rf rl (am_rm rf rl, 0, 0, MQ below (am_Qc D cA al B live Ret) (as.map (am_cv al)).toArray s 0 0 (fun q => B ≤ q)) := ⟨Nat.le_refl _, Nat.le_refl _, Nat.le_refl _, Nat.le_refl _, Or.inl ⟨rfl, rfl, rfl⟩⟩
  obtain ⟨hlen, J, ⟨a', b'⟩, hi', hj⟩ := hin live as M Ret hT
  have w := am_W_nm (ks := J.1) (am_loops (l := l) (e := e) (below := below) (hok live Ret) hC hY N (hl live as M Ret hT) a' b' 0 J hi' _ [] M hj)
  have hle := lv_entry (as.map (am_cv al)) (n := nL) (by rw [am_slen]; exact hlen)
  rw [am_args] at hle
  rw [lg_entry_eq]
  exact w s.heap [] _ hP va_S.rf hle
end
section
/-! what each instruction does to names, and that the machine does so -/
def am_const (v : Value) (nx : Nat) : am_S := fun L st M K => K nx L (v :: st) M
def am_iload (i nx : Nat) : am_S := fun L st M K => match am_g L i with
  | some (.int x) => K nx L (.int x :: st) M
  | _ => False
def am_lload (i nx : Nat) : am_S := fun L st M K => match am_g L i with
  | some (.long x) => K nx L (.long x :: st) M
  | _ => False
def am_aload (i nx : Nat) : am_S := fun L st M K => match am_g L i with
  | some (.ref x) => K nx L (.ref x :: st) M
  | _ => False
def am_istore (i nL nx : Nat) : am_S := fun L st M K => match st with
  | .int x :: r => am_if (Nat.blt i nL) (am_force (am_s1 i (.int x) L) (fun L' => K nx L' r M))
  | _ => False
def am_astore (i nL nx : Nat) : am_S := fun L st M K => match st with
  | .ref x :: r => am_if (Nat.blt i nL) (am_force (am_s1 i (.ref x) L) (fun L' => K nx L' r M))
  | _ => False
def am_lstore (i nL nx : Nat) : am_S := fun L st M K => match st with
  | .long x :: r => am_if (Nat.blt (i + 1) nL) (am_force (am_s2 i (.long x) L) (fun L' => K nx L' r M))
  | _ => False
def am_iinc (i nL : Nat) (d : Int32) (nx : Nat) : am_S := fun L st M K => match am_g L i with
  | some (.int x) => am_if (Nat.blt i nL) (am_force (am_s1 i (.int (x + d)) L) (fun L' => K nx L' st M))
  | _ => False
def am_i2 (f : Int32 → Int32 → Int32) (nx : Nat) : am_S := fun L st M K => match st with
  | .int y :: .int x :: r => K nx L (.int (f x y) :: r) M
  | _ => False
def am_i2z (f : Int32 → Int32 → Int32) (nx : Nat) : am_S := fun L st M K => match st with
  | .int y :: .int x :: r => (¬ y = 0) ∧ K nx L (.int (f x y) :: r) M
  | _ => False
def am_i1 (f : Int32 → Int32) (nx : Nat) : am_S := fun L st M K => match st with
  | .int x :: r => K nx L (.int (f x) :: r) M
  | _ => False
def am_l2 (f : Int64 → Int64 → Int64) (nx : Nat) : am_S := fun L st M K => match st with
  | .long y :: .long x :: r => K nx L (.long (f x y) :: r) M
  | _ => False
def am_l2z (f : Int64 → Int64 → Int64) (nx : Nat) : am_S := fun L st M K => match st with
  | .long y :: .long x :: r => (¬ y = 0) ∧ K nx L (.long (f x y) :: r) M
  | _ => False
def am_l1 (f : Int64 → Int64) (nx : Nat) : am_S := fun L st M K => match st with
  | .long x :: r => K nx L (.long (f x) :: r) M
  | _ => False
def am_lsh (f : Int64 → Int32 → Int64) (nx : Nat) : am_S := fun L st M K => match st with
  | .int y :: .long x :: r => K nx L (.long (f x y) :: r) M
  | _ => False
def am_i2l (nx : Nat) : am_S := fun L st M K => match st with
  | .int x :: r => K nx L (.long x.toInt64 :: r) M
  | _ => False
def am_l2i (nx : Nat) : am_S := fun L st M K => match st with
  | .long x :: r => K nx L (.int x.toInt32 :: r) M
  | _ => False
def am_lcmp (nx : Nat) : am_S := fun L st M K => match st with
  | .long y :: .long x :: r => K nx L (.int (lg_cmp x y) :: r) M
  | _ => False
def am_dup (nx : Nat) : am_S := fun L st M K => match st with
  | v :: r => am_if (Nat.beq v.category 1) (K nx L (v :: v :: r) M)
  | _ => False
def am_dup2 (nx : Nat) : am_S := fun L st M K => match st with
  | .long x :: r => K nx L (.long x :: .long x :: r) M
  | v :: w :: r => am_if (Nat.beq v.category 1 && Nat.beq w.category 1) (K nx L (v :: w :: v :: w :: r) M)
  | _ => False
def am_pop (nx : Nat) : am_S := fun L st M K => match st with
  | v :: r => am_if (Nat.beq v.category 1) (K nx L r M)
  | _ => False
def am_pop2 (nx : Nat) : am_S := fun L st M K => match st with
  | .long _ :: r => K nx L r M
  | _ => False
def am_if1 (cd : Int32 → Prop) (tg nx : Nat) : am_S := fun L st M K => match st with
  | .int x :: r => (cd x → K tg L r M) ∧ (¬ cd x → K nx L r M)
  | _ => False
def am_if2 (cd : Int32 → Int32 → Prop) (tg nx : Nat) : am_S := fun L st M K => match st with
  | .int y :: .int x :: r => (cd x y → K tg L r M) ∧ (¬ cd x y → K nx L r M)
  | _ => False
def am_goto (tg : Nat) : am_S := fun L st M K => K tg L st M
def am_switch (cs : List (Int32 × Nat)) (d : Nat) : am_S := fun L st M K => match st with
  | .int x :: r => am_swc x cs d (fun t => K t L r M)
  | _ => False
def am_getI (live : am_E) (ci k nx : Nat) : am_S := fun L st M K => match st with
  | .ref n :: r => am_if (am_isO live ci n) (K nx L (.int (M.1 n k) :: r) M)
  | _ => False
def am_getJ (live : am_E) (ci k nx : Nat) : am_S := fun L st M K => match st with
  | .ref n :: r => am_if (am_isO live ci n) (K nx L (.long (M.2 n k) :: r) M)
  | _ => False
def am_getR (live : am_E) (ci k nx : Nat) : am_S := fun L st M K => match st with
  | .ref n :: r => am_if (am_isO live ci n) (am_ex (live.2 n k) (fun q => K nx L (.ref q :: r) M))
  | _ => False
def am_putI (live : am_E) (ci k nx : Nat) : am_S := fun L st M K => match st with
  | .int x :: .ref n :: r => am_if (am_isO live ci n) (K nx L r (am_wI M n k x))
  | _ => False
def am_putZ (live : am_E) (ci k nx : Nat) : am_S := fun L st M K => match st with
  | .int x :: .ref n :: r => am_if (am_isO live ci n) ((x = 0 ∨ x = 1) ∧ K nx L r (am_wI M n k x))
  | _ => False
def am_putJ (live : am_E) (ci k nx : Nat) : am_S := fun L st M K => match st with
  | .long x :: .ref n :: r => am_if (am_isO live ci n) (K nx L r (am_wJ M n k x))
  | _ => False
def am_in (j : Int32) (N : Nat) : Prop := 0 ≤ j.toInt ∧ j.toInt < (N : Int)
def am_ald (live : am_E) (t nx : Nat) : am_S := fun L st M K => match st with
  | .int j :: .ref n :: r => am_if (am_isA live t n) (am_in j (am_len n) ∧ K nx L (.int (M.1 n j.toNatClampNeg) :: r) M)
  | _ => False
def am_sld (k nx : Nat) : am_S := fun L st M K => match st with
  | .int j :: .ref n :: r => am_if (Nat.beq n (1000 + k)) (am_in j (am_sN k) ∧ K nx L (.int (am_sf k j.toNatClampNeg) :: r) M)
  | _ => False
def am_lald (live : am_E) (t nx : Nat) : am_S := fun L st M K => match st with
  | .int j :: .ref n :: r => am_if (am_isA live t n) (am_in j (am_len n) ∧ K nx L (.long (M.2 n j.toNatClampNeg) :: r) M)
  | _ => False
def am_aald (live : am_E) (t nx : Nat) : am_S := fun L st M K => match st with
  | .int j :: .ref n :: r => am_if (am_isA live t n) (am_in j (am_len n) ∧ (am_ex (live.2 n j.toNatClampNeg) (fun q => K nx L (.ref q :: r) M)))
  | _ => False
def am_ast (live : am_E) (t nx : Nat) : am_S := fun L st M K => match st with
  | .int x :: .int j :: .ref n :: r => am_if (am_isA live t n) (am_in j (am_len n) ∧ K nx L r (am_wI M n j.toNatClampNeg x))
  | _ => False
def am_zst (live : am_E) (t nx : Nat) : am_S := fun L st M K => match st with
  | .int x :: .int j :: .ref n :: r => am_if (am_isA live t n) (am_in j (am_len n) ∧ K nx L r (am_wI M n j.toNatClampNeg (vp_nar .boolean x)))
  | _ => False
def am_last (live : am_E) (t nx : Nat) : am_S := fun L st M K => match st with
  | .long x :: .int j :: .ref n :: r => am_if (am_isA live t n) (am_in j (am_len n) ∧ K nx L r (am_wJ M n j.toNatClampNeg x))
  | _ => False
def am_alen (live : am_E) (t nx : Nat) : am_S := fun L st M K => match st with
  | .ref n :: r => am_if (am_isA live t n) (K nx L (.int (Int32.ofNat (am_len n)) :: r) M)
  | _ => False
def am_retI (Ret : am_R) : am_S := fun L st M K => match st with
  | [.int v] => Ret (some (.int v)) M
  | _ => False
def am_retZ (Ret : am_R) : am_S := fun L st M K => match st with
  | [.int v] => (v = 0 ∨ v = 1) ∧ Ret (some (.int v)) M
  | _ => False
def am_retL (Ret : am_R) : am_S := fun L st M K => match st with
  | [.long v] => Ret (some (.long v)) M
  | _ => False
def am_retV (Ret : am_R) : am_S := fun L st M K => match st with
  | [] => Ret none M
  | _ => False
def am_cats (st : List Value) : Nat := (st.map fun v => v.category).sum
def am_callV (live : am_E) (ci n : Nat) (T : am_T) (nx : Nat) : am_S := fun L st M K => match st.drop n with
  | .ref q :: r => am_if (am_isO live ci q && Nat.beq (st.take n).length n && Nat.ble (am_cats r) 8) (T live (.ref q :: (st.take n).reverse) M (fun v M' => K nx L (v.toList ++ r) M'))
  | _ => False
def am_callS (live : am_E) (n : Nat) (T : am_T) (nx : Nat) : am_S := fun L st M K => am_if (Nat.beq (st.take n).length n && Nat.ble (am_cats (st.drop n)) 8) (T live (st.take n).reverse M (fun v M' => K nx L (v.toList ++ st.drop n) M'))
def am_math2 (f : Int32 → Int32 → Int32) (rl nx : Nat) : am_S := fun L st M K => match st with
  | .int y :: .int x :: r => am_if (Nat.ble (am_cats r + 13) rl) (K nx L (.int (f x y) :: r) M)
  | _ => False
def am_math1 (f : Int32 → Int32) (rl nx : Nat) : am_S := fun L st M K => match st with
  | .int x :: r => am_if (Nat.ble (am_cats r + 13) rl) (K nx L (.int (f x) :: r) M)
  | _ => False
def am_mathl (f : Int64 → Int64 → Int64) (rl nx : Nat) : am_S := fun L st M K => match st with
  | .long y :: .long x :: r => am_if (Nat.ble (am_cats r + 15) rl) (K nx L (.long (f x y) :: r) M)
  | _ => False
theorem am_in_vp {j : Int32} {N : Nat} (h : am_in j N) : vp_in j N := vp_in_iff.mpr h
theorem am_cats_cv (al : Nat → Nat) : ∀ st : List Value, ((st.map (am_cv al)).map fun v => v.category).sum = am_cats st
  | [] => rfl
  | v :: r => by
    show (am_cv al v).category + _ = v.category + am_cats r
    rw [am_cv_cat]
    exact congrArg (v.category + ·) (am_cats_cv al r)
section AK
variable {own : String} {cc : ByteArray} {nL : Nat} {rt : Option FieldType} {rf rl : Nat} {live : am_E} {Ret : am_R} {pc nx : Nat}
theorem ak_iconst {n : Int} {v : Int32} (hd : decode cc pc = .ok (.iconst n, 1)) (hv : Int32.ofInt n = v) (hn : pc + 1 = nx) : am_ok own cc nL rt rf rl live Ret pc (am_const (.int v) nx) := by
  subst hn
  intro p l e s m args below meth c D cA al B hC Y hY L st M K hK h H locs ls hP hS hl
  exact lv_iconst hC.1 hC.2.1 hd hv (hK _ _ _ _ h H locs ls hP hS hl)
theorem ak_bipush {n : Int} {v : Int32} (hd : decode cc pc = .ok (.bipush n, 2)) (hv : (Int8.ofInt n).toInt32 = v) (hn : pc + 2 = nx) : am_ok own cc nL rt rf rl live Ret pc (am_const (.int v) nx) := by
  subst hn
  intro p l e s m args below meth c D cA al B hC Y hY L st M K hK h H locs ls hP hS hl
  exact lv_bipush hC.1 hC.2.1 hd hv (hK _ _ _ _ h H locs ls hP hS hl)
theorem ak_sipush {n : Int} {v : Int32} (hd : decode cc pc = .ok (.sipush n, 3)) (hv : (Int16.ofInt n).toInt32 = v) (hn : pc + 3 = nx) : am_ok own cc nL rt rf rl live Ret pc (am_const (.int v) nx) := by
  subst hn
  intro p l e s m args below meth c D cA al B hC Y hY L st M K hK h H locs ls hP hS hl
  exact lv_sipush hC.1 hC.2.1 hd hv (hK _ _ _ _ h H locs ls hP hS hl)
theorem ak_lconst {n : Fin 2} {v : Int64} (hd : decode cc pc = .ok (.lconst n, 1)) (hv : Int64.ofNat (n : Nat) = v) (hn : pc + 1 = nx) : am_ok own cc nL rt rf rl live Ret pc (am_const (.long v) nx) := by
  subst hn
  intro p l e s m args below meth c D cA al B hC Y hY L st M K hK h H locs ls hP hS hl
  exact lv_lconst hC.1 hC.2.1 hd hv (hK _ _ _ _ h H locs ls hP hS hl)
theorem ak_ldc {idx : Nat} {v : Int32} (hw : Jvm.Cond.constant own idx v ∈ am_ws) (hd : decode cc pc = .ok (.ldc idx, 2)) (hn : pc + 2 = nx) : am_ok own cc nL rt rf rl live Ret pc (am_const (.int v) nx) := by
  subst hn
  intro p l e s m args below meth c D cA al B hC Y hY L st M K hK h H locs ls hP hS hl
  exact lv_ldc hC.1 hC.2.1 hC.2.2.2.1 (hC.2.2.2.2.1 _ hw) hd (hK _ _ _ _ h H locs ls hP hS hl)
theorem ak_ldcw {idx : Nat} {v : Int32} (hw : Jvm.Cond.constant own idx v ∈ am_ws) (hd : decode cc pc = .ok (.ldc_w idx, 3)) (hn : pc + 3 = nx) : am_ok own cc nL rt rf rl live Ret pc (am_const (.int v) nx) := by
  subst hn
  intro p l e s m args below meth c D cA al B hC Y hY L st M K hK h H locs ls hP hS hl
  exact lv_ldcw hC.1 hC.2.1 hC.2.2.2.1 (hC.2.2.2.2.1 _ hw) hd (hK _ _ _ _ h H locs ls hP hS hl)
theorem ak_ldc2 {idx : Nat} {v : Int64} (hw : Jvm.Cond.constantLong own idx v ∈ am_ws) (hd : decode cc pc = .ok (.ldc2_w idx, 3)) (hn : pc + 3 = nx) : am_ok own cc nL rt rf rl live Ret pc (am_const (.long v) nx) := by
  subst hn
  intro p l e s m args below meth c D cA al B hC Y hY L st M K hK h H locs ls hP hS hl
  exact lv_ldc2 hC.1 hC.2.1 hC.2.2.2.1 (hC.2.2.2.2.1 _ hw) hd (hK _ _ _ _ h H locs ls hP hS hl)
theorem am_ild {L : am_L} {i : Nat} {P : Int32 → Prop} (h : match am_g L i with | some (.int x) => P x | _ => False) : ∃ x, am_g L i = some (.int x) ∧ P x := by
  split at h
  · next x hx => exact ⟨x, hx, h⟩
  · exact h.elim
theorem am_lld {L : am_L} {i : Nat} {P : Int64 → Prop} (h : match am_g L i with | some (.long x) => P x | _ => False) : ∃ x, am_g L i = some (.long x) ∧ P x := by
  split at h
  · next x hx => exact ⟨x, hx, h⟩
  · exact h.elim
theorem am_all {L : am_L} {i : Nat} {P : Nat → Prop} (h : match am_g L i with | some (.ref x) => P x | _ => False) : ∃ x, am_g L i = some (.ref x) ∧ P x := by
  split at h
  · next x hx => exact ⟨x, hx, h⟩
  · exact h.elim
theorem ak_iload_n {k : Fin 4} {i : Nat} (hd : decode cc pc = .ok (.iload_n k, 1)) (hi : (k : Nat) = i) (hn : pc + 1 = nx) : am_ok own cc nL rt rf rl live Ret pc (am_iload i nx) := by
  subst hn
  intro p l e s m args below meth c D cA al B hC Y hY L st M K hK h H locs ls hP hS hl
  obtain ⟨x, hx, h⟩ := am_ild (P := fun x => K (pc + 1) L (.int x :: st) M) h
  exact lv_iload_n hC.1 hC.2.1 hd hi (am_lc_at hl hx) (hK _ _ _ _ h H locs ls hP hS hl)
theorem ak_iload {i : Nat} (hd : decode cc pc = .ok (.iload i, 2)) (hn : pc + 2 = nx) : am_ok own cc nL rt rf rl live Ret pc (am_iload i nx) := by
  subst hn
  intro p l e s m args below meth c D cA al B hC Y hY L st M K hK h H locs ls hP hS hl
  obtain ⟨x, hx, h⟩ := am_ild (P := fun x => K (pc + 2) L (.int x :: st) M) h
  exact lv_iload hC.1 hC.2.1 hd (am_lc_at hl hx) (hK _ _ _ _ h H locs ls hP hS hl)
theorem ak_lload_n {k : Fin 4} {i : Nat} (hd : decode cc pc = .ok (.lload_n k, 1)) (hi : (k : Nat) = i) (hn : pc + 1 = nx) : am_ok own cc nL rt rf rl live Ret pc (am_lload i nx) := by
  subst hn
  intro p l e s m args below meth c D cA al B hC Y hY L st M K hK h H locs ls hP hS hl
  obtain ⟨x, hx, h⟩ := am_lld (P := fun x => K (pc + 1) L (.long x :: st) M) h
  exact lv_lload_n hC.1 hC.2.1 hd hi (am_lc_at hl hx) (hK _ _ _ _ h H locs ls hP hS hl)
theorem ak_lload {i : Nat} (hd : decode cc pc = .ok (.lload i, 2)) (hn : pc + 2 = nx) : am_ok own cc nL rt rf rl live Ret pc (am_lload i nx) := by
  subst hn
  intro p l e s m args below meth c D cA al B hC Y hY L st M K hK h H locs ls hP hS hl
  obtain ⟨x, hx, h⟩ := am_lld (P := fun x => K (pc + 2) L (.long x :: st) M) h
  exact lv_lload hC.1 hC.2.1 hd (am_lc_at hl hx) (hK _ _ _ _ h H locs ls hP hS hl)
theorem ak_aload_n {k : Fin 4} {i : Nat} (hd : decode cc pc = .ok (.aload_n k, 1)) (hi : (k : Nat) = i) (hn : pc + 1 = nx) : am_ok own cc nL rt rf rl live Ret pc (am_aload i nx) := by
  subst hn
  intro p l e s m args below meth c D cA al B hC Y hY L st M K hK h H locs ls hP hS hl
  obtain ⟨x, hx, h⟩ := am_all (P := fun x => K (pc + 1) L (.ref x :: st) M) h
  exact lv_aload_n hC.1 hC.2.1 hd hi (am_lc_at hl hx) (hK _ _ _ _ h H locs ls hP hS hl)
theorem ak_aload {i : Nat} (hd : decode cc pc = .ok (.aload i, 2)) (hn : pc + 2 = nx) : am_ok own cc nL rt rf rl live Ret pc (am_aload i nx) := by
  subst hn
  intro p l e s m args below meth c D cA al B hC Y hY L st M K hK h H locs ls hP hS hl
  obtain ⟨x, hx, h⟩ := am_all (P := fun x => K (pc + 2) L (.ref x :: st) M) h
  exact lv_aload hC.1 hC.2.1 hd (am_lc_at hl hx) (hK _ _ _ _ h H locs ls hP hS hl)
theorem ak_istore_n {k : Fin 4} {i : Nat} (hd : decode cc pc = .ok (.istore_n k, 1)) (hi : (k : Nat) = i) (hn : pc + 1 = nx) : am_ok own cc nL rt rf rl live Ret pc (am_istore i nL nx) := by
  subst hn
  intro p l e s m args below meth c D cA al B hC Y hY L st M K hK h H locs ls hP hS hl
  unfold am_istore at h
  split at h
  · next x r =>
    obtain ⟨hb, h⟩ := am_if_mp h
    rw [am_force_iff] at h
    exact lv_istore_n hC.1 hC.2.1 hd hi hl (Nat.le_of_ble_eq_true hb) (am_lc_s1 al i (.int x) L) (fun ls' hl' => hK _ _ _ _ h H locs ls' hP hS hl')
  · exact h.elim
theorem ak_istore {i : Nat} (hd : decode cc pc = .ok (.istore i, 2)) (hn : pc + 2 = nx) : am_ok own cc nL rt rf rl live Ret pc (am_istore i nL nx) := by
  subst hn
  intro p l e s m args below meth c D cA al B hC Y hY L st M K hK h H locs ls hP hS hl
  unfold am_istore at h
  split at h
  · next x r =>
    obtain ⟨hb, h⟩ := am_if_mp h
    rw [am_force_iff] at h
    exact lv_istore hC.1 hC.2.1 hd hl (Nat.le_of_ble_eq_true hb) (am_lc_s1 al i (.int x) L) (fun ls' hl' => hK _ _ _ _ h H locs ls' hP hS hl')
  · exact h.elim
theorem ak_astore_n {k : Fin 4} {i : Nat} (hd : decode cc pc = .ok (.astore_n k, 1)) (hi : (k : Nat) = i) (hn : pc + 1 = nx) : am_ok own cc nL rt rf rl live Ret pc (am_astore i nL nx) := by
  subst hn
  intro p l e s m args below meth c D cA al B hC Y hY L st M K hK h H locs ls hP hS hl
  unfold am_astore at h
  split at h
  · next x r =>
    obtain ⟨hb, h⟩ := am_if_mp h
    rw [am_force_iff] at h
    exact lv_astore_n hC.1 hC.2.1 hd hi hl (Nat.le_of_ble_eq_true hb) (am_lc_s1 al i (.ref x) L) (fun ls' hl' => hK _ _ _ _ h H locs ls' hP hS hl')
  · exact h.elim
theorem ak_astore {i : Nat} (hd : decode cc pc = .ok (.astore i, 2)) (hn : pc + 2 = nx) : am_ok own cc nL rt rf rl live Ret pc (am_astore i nL nx) := by
  subst hn
  intro p l e s m args below meth c D cA al B hC Y hY L st M K hK h H locs ls hP hS hl
  unfold am_astore at h
  split at h
  · next x r =>
    obtain ⟨hb, h⟩ := am_if_mp h
    rw [am_force_iff] at h
    exact lv_astore hC.1 hC.2.1 hd hl (Nat.le_of_ble_eq_true hb) (am_lc_s1 al i (.ref x) L) (fun ls' hl' => hK _ _ _ _ h H locs ls' hP hS hl')
  · exact h.elim
theorem ak_lstore_n {k : Fin 4} {i : Nat} (hd : decode cc pc = .ok (.lstore_n k, 1)) (hi : (k : Nat) = i) (hn : pc + 1 = nx) : am_ok own cc nL rt rf rl live Ret pc (am_lstore i nL nx) := by
  subst hn
  intro p l e s m args below meth c D cA al B hC Y hY L st M K hK h H locs ls hP hS hl
  unfold am_lstore at h
  split at h
  · next x r =>
    obtain ⟨hb, h⟩ := am_if_mp h
    rw [am_force_iff] at h
    exact lv_lstore_n hC.1 hC.2.1 hd hi hl (Nat.le_of_ble_eq_true hb) (am_lc_s2 al i (.long x) L) (fun ls' hl' => hK _ _ _ _ h H locs ls' hP hS hl')
  · exact h.elim
theorem ak_lstore {i : Nat} (hd : decode cc pc = .ok (.lstore i, 2)) (hn : pc + 2 = nx) : am_ok own cc nL rt rf rl live Ret pc (am_lstore i nL nx) := by
  subst hn
  intro p l e s m args below meth c D cA al B hC Y hY L st M K hK h H locs ls hP hS hl
  unfold am_lstore at h
  split at h
  · next x r =>
    obtain ⟨hb, h⟩ := am_if_mp h
    rw [am_force_iff] at h
    exact lv_lstore hC.1 hC.2.1 hd hl (Nat.le_of_ble_eq_true hb) (am_lc_s2 al i (.long x) L) (fun ls' hl' => hK _ _ _ _ h H locs ls' hP hS hl')
  · exact h.elim
theorem ak_iinc {i : Nat} {n : Int} {d : Int32} (hd : decode cc pc = .ok (.iinc i n, 3)) (hv : Int32.ofInt n = d) (hn : pc + 3 = nx) : am_ok own cc nL rt rf rl live Ret pc (am_iinc i nL d nx) := by
  subst hn
  subst hv
  intro p l e s m args below meth c D cA al B hC Y hY L st M K hK h H locs ls hP hS hl
  obtain ⟨x, hx, h⟩ := am_ild (P := fun x => am_if (Nat.blt i nL) (am_force (am_s1 i (.int (x + Int32.ofInt n)) L) (fun L' => K (pc + 3) L' st M))) h
  obtain ⟨hb, h⟩ := am_if_mp h
  rw [am_force_iff] at h
  obtain ⟨k, hk⟩ := am_lc_pl (al := al) hx
  exact lv_iinc hC.1 hC.2.1 hd hl hk rfl (Nat.le_of_ble_eq_true hb) (am_lc_s1 al i (.int (x + Int32.ofInt n)) L) (fun ls' hl' => hK _ _ _ _ h H locs ls' hP hS hl')
theorem ak_iadd (hd : decode cc pc = .ok (.iadd, 1)) (hn : pc + 1 = nx) : am_ok own cc nL rt rf rl live Ret pc (am_i2 (fun x y => x + y) nx) := by
  subst hn
  intro p l e s m args below meth c D cA al B hC Y hY L st M K hK h H locs ls hP hS hl
  unfold am_i2 at h
  split at h
  · exact lv_iadd hC.1 hC.2.1 hd (hK _ _ _ _ h H locs ls hP hS hl)
  · exact h.elim
theorem ak_isub (hd : decode cc pc = .ok (.isub, 1)) (hn : pc + 1 = nx) : am_ok own cc nL rt rf rl live Ret pc (am_i2 (fun x y => x - y) nx) := by
  subst hn
  intro p l e s m args below meth c D cA al B hC Y hY L st M K hK h H locs ls hP hS hl
  unfold am_i2 at h
  split at h
  · exact lv_isub hC.1 hC.2.1 hd (hK _ _ _ _ h H locs ls hP hS hl)
  · exact h.elim
theorem ak_imul (hd : decode cc pc = .ok (.imul, 1)) (hn : pc + 1 = nx) : am_ok own cc nL rt rf rl live Ret pc (am_i2 (fun x y => x * y) nx) := by
  subst hn
  intro p l e s m args below meth c D cA al B hC Y hY L st M K hK h H locs ls hP hS hl
  unfold am_i2 at h
  split at h
  · exact lv_imul hC.1 hC.2.1 hd (hK _ _ _ _ h H locs ls hP hS hl)
  · exact h.elim
theorem ak_iand (hd : decode cc pc = .ok (.iand, 1)) (hn : pc + 1 = nx) : am_ok own cc nL rt rf rl live Ret pc (am_i2 (fun x y => x &&& y) nx) := by
  subst hn
  intro p l e s m args below meth c D cA al B hC Y hY L st M K hK h H locs ls hP hS hl
  unfold am_i2 at h
  split at h
  · exact lv_iand hC.1 hC.2.1 hd (hK _ _ _ _ h H locs ls hP hS hl)
  · exact h.elim
theorem ak_ior (hd : decode cc pc = .ok (.ior, 1)) (hn : pc + 1 = nx) : am_ok own cc nL rt rf rl live Ret pc (am_i2 (fun x y => x ||| y) nx) := by
  subst hn
  intro p l e s m args below meth c D cA al B hC Y hY L st M K hK h H locs ls hP hS hl
  unfold am_i2 at h
  split at h
  · exact lv_ior hC.1 hC.2.1 hd (hK _ _ _ _ h H locs ls hP hS hl)
  · exact h.elim
theorem ak_ixor (hd : decode cc pc = .ok (.ixor, 1)) (hn : pc + 1 = nx) : am_ok own cc nL rt rf rl live Ret pc (am_i2 (fun x y => x ^^^ y) nx) := by
  subst hn
  intro p l e s m args below meth c D cA al B hC Y hY L st M K hK h H locs ls hP hS hl
  unfold am_i2 at h
  split at h
  · exact lv_ixor hC.1 hC.2.1 hd (hK _ _ _ _ h H locs ls hP hS hl)
  · exact h.elim
theorem ak_ishl (hd : decode cc pc = .ok (.ishl, 1)) (hn : pc + 1 = nx) : am_ok own cc nL rt rf rl live Ret pc (am_i2 (fun x y => x <<< (y &&& 31)) nx) := by
  subst hn
  intro p l e s m args below meth c D cA al B hC Y hY L st M K hK h H locs ls hP hS hl
  unfold am_i2 at h
  split at h
  · exact lv_ishl hC.1 hC.2.1 hd (hK _ _ _ _ h H locs ls hP hS hl)
  · exact h.elim
theorem ak_idiv (hd : decode cc pc = .ok (.idiv, 1)) (hn : pc + 1 = nx) : am_ok own cc nL rt rf rl live Ret pc (am_i2z (fun x y => x / y) nx) := by
  subst hn
  intro p l e s m args below meth c D cA al B hC Y hY L st M K hK h H locs ls hP hS hl
  unfold am_i2z at h
  split at h
  · exact lv_idiv hC.1 hC.2.1 hd h.1 (hK _ _ _ _ h.2 H locs ls hP hS hl)
  · exact h.elim
theorem ak_irem (hd : decode cc pc = .ok (.irem, 1)) (hn : pc + 1 = nx) : am_ok own cc nL rt rf rl live Ret pc (am_i2z (fun x y => x - x / y * y) nx) := by
  subst hn
  intro p l e s m args below meth c D cA al B hC Y hY L st M K hK h H locs ls hP hS hl
  unfold am_i2z at h
  split at h
  · exact lv_irem hC.1 hC.2.1 hd h.1 (hK _ _ _ _ h.2 H locs ls hP hS hl)
  · exact h.elim
theorem ak_ladd (hd : decode cc pc = .ok (.ladd, 1)) (hn : pc + 1 = nx) : am_ok own cc nL rt rf rl live Ret pc (am_l2 (fun x y => x + y) nx) := by
  subst hn
  intro p l e s m args below meth c D cA al B hC Y hY L st M K hK h H locs ls hP hS hl
  unfold am_l2 at h
  split at h
  · exact lv_ladd hC.1 hC.2.1 hd (hK _ _ _ _ h H locs ls hP hS hl)
  · exact h.elim
theorem ak_lsub (hd : decode cc pc = .ok (.lsub, 1)) (hn : pc + 1 = nx) : am_ok own cc nL rt rf rl live Ret pc (am_l2 (fun x y => x - y) nx) := by
  subst hn
  intro p l e s m args below meth c D cA al B hC Y hY L st M K hK h H locs ls hP hS hl
  unfold am_l2 at h
  split at h
  · exact lv_lsub hC.1 hC.2.1 hd (hK _ _ _ _ h H locs ls hP hS hl)
  · exact h.elim
theorem ak_lmul (hd : decode cc pc = .ok (.lmul, 1)) (hn : pc + 1 = nx) : am_ok own cc nL rt rf rl live Ret pc (am_l2 (fun x y => x * y) nx) := by
  subst hn
  intro p l e s m args below meth c D cA al B hC Y hY L st M K hK h H locs ls hP hS hl
  unfold am_l2 at h
  split at h
  · exact lv_lmul hC.1 hC.2.1 hd (hK _ _ _ _ h H locs ls hP hS hl)
  · exact h.elim
theorem ak_land (hd : decode cc pc = .ok (.land, 1)) (hn : pc + 1 = nx) : am_ok own cc nL rt rf rl live Ret pc (am_l2 (fun x y => x &&& y) nx) := by
  subst hn
  intro p l e s m args below meth c D cA al B hC Y hY L st M K hK h H locs ls hP hS hl
  unfold am_l2 at h
  split at h
  · exact lv_land hC.1 hC.2.1 hd (hK _ _ _ _ h H locs ls hP hS hl)
  · exact h.elim
theorem ak_lor (hd : decode cc pc = .ok (.lor, 1)) (hn : pc + 1 = nx) : am_ok own cc nL rt rf rl live Ret pc (am_l2 (fun x y => x ||| y) nx) := by
  subst hn
  intro p l e s m args below meth c D cA al B hC Y hY L st M K hK h H locs ls hP hS hl
  unfold am_l2 at h
  split at h
  · exact lv_lor hC.1 hC.2.1 hd (hK _ _ _ _ h H locs ls hP hS hl)
  · exact h.elim
theorem ak_lxor (hd : decode cc pc = .ok (.lxor, 1)) (hn : pc + 1 = nx) : am_ok own cc nL rt rf rl live Ret pc (am_l2 (fun x y => x ^^^ y) nx) := by
  subst hn
  intro p l e s m args below meth c D cA al B hC Y hY L st M K hK h H locs ls hP hS hl
  unfold am_l2 at h
  split at h
  · exact lv_lxor hC.1 hC.2.1 hd (hK _ _ _ _ h H locs ls hP hS hl)
  · exact h.elim
theorem ak_ldiv (hd : decode cc pc = .ok (.ldiv, 1)) (hn : pc + 1 = nx) : am_ok own cc nL rt rf rl live Ret pc (am_l2z (fun x y => x / y) nx) := by
  subst hn
  intro p l e s m args below meth c D cA al B hC Y hY L st M K hK h H locs ls hP hS hl
  unfold am_l2z at h
  split at h
  · exact lv_ldiv hC.1 hC.2.1 hd h.1 (hK _ _ _ _ h.2 H locs ls hP hS hl)
  · exact h.elim
theorem ak_lrem (hd : decode cc pc = .ok (.lrem, 1)) (hn : pc + 1 = nx) : am_ok own cc nL rt rf rl live Ret pc (am_l2z (fun x y => x - x / y * y) nx) := by
  subst hn
  intro p l e s m args below meth c D cA al B hC Y hY L st M K hK h H locs ls hP hS hl
  unfold am_l2z at h
  split at h
  · exact lv_lrem hC.1 hC.2.1 hd h.1 (hK _ _ _ _ h.2 H locs ls hP hS hl)
  · exact h.elim
theorem ak_ineg (hd : decode cc pc = .ok (.ineg, 1)) (hn : pc + 1 = nx) : am_ok own cc nL rt rf rl live Ret pc (am_i1 (fun x => -x) nx) := by
  subst hn
  intro p l e s m args below meth c D cA al B hC Y hY L st M K hK h H locs ls hP hS hl
  unfold am_i1 at h
  split at h
  · exact lv_ineg hC.1 hC.2.1 hd (hK _ _ _ _ h H locs ls hP hS hl)
  · exact h.elim
theorem ak_lneg (hd : decode cc pc = .ok (.lneg, 1)) (hn : pc + 1 = nx) : am_ok own cc nL rt rf rl live Ret pc (am_l1 (fun x => -x) nx) := by
  subst hn
  intro p l e s m args below meth c D cA al B hC Y hY L st M K hK h H locs ls hP hS hl
  unfold am_l1 at h
  split at h
  · exact lv_lneg hC.1 hC.2.1 hd (hK _ _ _ _ h H locs ls hP hS hl)
  · exact h.elim
theorem ak_i2l (hd : decode cc pc = .ok (.i2l, 1)) (hn : pc + 1 = nx) : am_ok own cc nL rt rf rl live Ret pc (am_i2l nx) := by
  subst hn
  intro p l e s m args below meth c D cA al B hC Y hY L st M K hK h H locs ls hP hS hl
  unfold am_i2l at h
  split at h
  · exact lv_i2l hC.1 hC.2.1 hd rfl (hK _ _ _ _ h H locs ls hP hS hl)
  · exact h.elim
theorem ak_l2i (hd : decode cc pc = .ok (.l2i, 1)) (hn : pc + 1 = nx) : am_ok own cc nL rt rf rl live Ret pc (am_l2i nx) := by
  subst hn
  intro p l e s m args below meth c D cA al B hC Y hY L st M K hK h H locs ls hP hS hl
  unfold am_l2i at h
  split at h
  · exact lv_l2i hC.1 hC.2.1 hd rfl (hK _ _ _ _ h H locs ls hP hS hl)
  · exact h.elim
theorem ak_lcmp (hd : decode cc pc = .ok (.lcmp, 1)) (hn : pc + 1 = nx) : am_ok own cc nL rt rf rl live Ret pc (am_lcmp nx) := by
  subst hn
  intro p l e s m args below meth c D cA al B hC Y hY L st M K hK h H locs ls hP hS hl
  unfold am_lcmp at h
  split at h
  · exact W.lcmp hC.1 hC.2.1 hd (hK _ _ _ _ h H locs ls hP hS hl)
  · exact h.elim
theorem ak_lshl (hd : decode cc pc = .ok (.lshl, 1)) (hn : pc + 1 = nx) : am_ok own cc nL rt rf rl live Ret pc (am_lsh (fun x y => x <<< (y.toInt64 &&& 63)) nx) := by
  subst hn
  intro p l e s m args below meth c D cA al B hC Y hY L st M K hK h H locs ls hP hS hl
  unfold am_lsh at h
  split at h
  · exact lv_lshl hC.1 hC.2.1 hd rfl (hK _ _ _ _ h H locs ls hP hS hl)
  · exact h.elim
theorem ak_dup (hd : decode cc pc = .ok (.dup, 1)) (hn : pc + 1 = nx) : am_ok own cc nL rt rf rl live Ret pc (am_dup nx) := by
  subst hn
  intro p l e s m args below meth c D cA al B hC Y hY L st M K hK h H locs ls hP hS hl
  unfold am_dup at h
  split at h
  · obtain ⟨hb, h⟩ := am_if_mp h
    exact lv_dup hC.1 hC.2.1 hd (by rw [am_cv_cat]; exact Nat.eq_of_beq_eq_true hb) (hK _ _ _ _ h H locs ls hP hS hl)
  · exact h.elim
theorem ak_pop (hd : decode cc pc = .ok (.pop, 1)) (hn : pc + 1 = nx) : am_ok own cc nL rt rf rl live Ret pc (am_pop nx) := by
  subst hn
  intro p l e s m args below meth c D cA al B hC Y hY L st M K hK h H locs ls hP hS hl
  unfold am_pop at h
  split at h
  · obtain ⟨hb, h⟩ := am_if_mp h
    exact lv_pop hC.1 hC.2.1 hd (by rw [am_cv_cat]; exact Nat.eq_of_beq_eq_true hb) (hK _ _ _ _ h H locs ls hP hS hl)
  · exact h.elim
theorem ak_pop2 (hd : decode cc pc = .ok (.pop2, 1)) (hn : pc + 1 = nx) : am_ok own cc nL rt rf rl live Ret pc (am_pop2 nx) := by
  subst hn
  intro p l e s m args below meth c D cA al B hC Y hY L st M K hK h H locs ls hP hS hl
  unfold am_pop2 at h
  split at h
  · exact lv_pop2_2 hC.1 hC.2.1 hd rfl (hK _ _ _ _ h H locs ls hP hS hl)
  · exact h.elim
theorem ak_dup2 (hd : decode cc pc = .ok (.dup2, 1)) (hn : pc + 1 = nx) : am_ok own cc nL rt rf rl live Ret pc (am_dup2 nx) := by
  subst hn
  intro p l e s m args below meth c D cA al B hC Y hY L st M K hK h H locs ls hP hS hl
  unfold am_dup2 at h
  split at h
  · exact lv_dup2_2 hC.1 hC.2.1 hd rfl (hK _ _ _ _ h H locs ls hP hS hl)
  · obtain ⟨hb, h⟩ := am_if_mp h
    rw [Bool.and_eq_true] at hb
    exact lv_dup2_11 hC.1 hC.2.1 hd (by rw [am_cv_cat]; exact Nat.eq_of_beq_eq_true hb.1) (by rw [am_cv_cat]; exact Nat.eq_of_beq_eq_true hb.2) (hK _ _ _ _ h H locs ls hP hS hl)
  · exact h.elim
theorem ak_goto {off : Int} {tg : Nat} (hd : decode cc pc = .ok (.goto off, 3)) (ht : (pc : Int) + off = (tg : Int)) : am_ok own cc nL rt rf rl live Ret pc (am_goto tg) := by
  intro p l e s m args below meth c D cA al B hC Y hY L st M K hK h H locs ls hP hS hl
  exact lv_goto hC.1 hC.2.1 hd ht (hK _ _ _ _ h H locs ls hP hS hl)
theorem ak_if_eq {off : Int} {tg : Nat} (hd : decode cc pc = .ok (.ifCond .eq off, 3)) (ht : (pc : Int) + off = (tg : Int)) (hn : pc + 3 = nx) : am_ok own cc nL rt rf rl live Ret pc (am_if1 (fun x => x = 0) tg nx) := by
  subst hn
  intro p l e s m args below meth c D cA al B hC Y hY L st M K hK h H locs ls hP hS hl
  unfold am_if1 at h
  split at h
  · exact lv_if_eq hC.1 hC.2.1 hd ht (fun z => hK _ _ _ _ (h.1 z) H locs ls hP hS hl) (fun z => hK _ _ _ _ (h.2 z) H locs ls hP hS hl)
  · exact h.elim
theorem ak_icmp_eq {off : Int} {tg : Nat} (hd : decode cc pc = .ok (.if_icmp .eq off, 3)) (ht : (pc : Int) + off = (tg : Int)) (hn : pc + 3 = nx) : am_ok own cc nL rt rf rl live Ret pc (am_if2 (fun x y => x = y) tg nx) := by
  subst hn
  intro p l e s m args below meth c D cA al B hC Y hY L st M K hK h H locs ls hP hS hl
  unfold am_if2 at h
  split at h
  · exact lv_icmp_eq hC.1 hC.2.1 hd ht (fun z => hK _ _ _ _ (h.1 z) H locs ls hP hS hl) (fun z => hK _ _ _ _ (h.2 z) H locs ls hP hS hl)
  · exact h.elim
theorem ak_if_ne {off : Int} {tg : Nat} (hd : decode cc pc = .ok (.ifCond .ne off, 3)) (ht : (pc : Int) + off = (tg : Int)) (hn : pc + 3 = nx) : am_ok own cc nL rt rf rl live Ret pc (am_if1 (fun x => x = 0) nx tg) := by
  subst hn
  intro p l e s m args below meth c D cA al B hC Y hY L st M K hK h H locs ls hP hS hl
  unfold am_if1 at h
  split at h
  · exact lv_if_ne hC.1 hC.2.1 hd ht (fun z => hK _ _ _ _ (h.2 z) H locs ls hP hS hl) (fun z => hK _ _ _ _ (h.1 z) H locs ls hP hS hl)
  · exact h.elim
theorem ak_icmp_ne {off : Int} {tg : Nat} (hd : decode cc pc = .ok (.if_icmp .ne off, 3)) (ht : (pc : Int) + off = (tg : Int)) (hn : pc + 3 = nx) : am_ok own cc nL rt rf rl live Ret pc (am_if2 (fun x y => x = y) nx tg) := by
  subst hn
  intro p l e s m args below meth c D cA al B hC Y hY L st M K hK h H locs ls hP hS hl
  unfold am_if2 at h
  split at h
  · exact lv_icmp_ne hC.1 hC.2.1 hd ht (fun z => hK _ _ _ _ (h.2 z) H locs ls hP hS hl) (fun z => hK _ _ _ _ (h.1 z) H locs ls hP hS hl)
  · exact h.elim
theorem ak_if_lt {off : Int} {tg : Nat} (hd : decode cc pc = .ok (.ifCond .lt off, 3)) (ht : (pc : Int) + off = (tg : Int)) (hn : pc + 3 = nx) : am_ok own cc nL rt rf rl live Ret pc (am_if1 (fun x => x < 0) tg nx) := by
  subst hn
  intro p l e s m args below meth c D cA al B hC Y hY L st M K hK h H locs ls hP hS hl
  unfold am_if1 at h
  split at h
  · exact lv_if_lt hC.1 hC.2.1 hd ht (fun z => hK _ _ _ _ (h.1 z) H locs ls hP hS hl) (fun z => hK _ _ _ _ (h.2 z) H locs ls hP hS hl)
  · exact h.elim
theorem ak_icmp_lt {off : Int} {tg : Nat} (hd : decode cc pc = .ok (.if_icmp .lt off, 3)) (ht : (pc : Int) + off = (tg : Int)) (hn : pc + 3 = nx) : am_ok own cc nL rt rf rl live Ret pc (am_if2 (fun x y => x < y) tg nx) := by
  subst hn
  intro p l e s m args below meth c D cA al B hC Y hY L st M K hK h H locs ls hP hS hl
  unfold am_if2 at h
  split at h
  · exact lv_icmp_lt hC.1 hC.2.1 hd ht (fun z => hK _ _ _ _ (h.1 z) H locs ls hP hS hl) (fun z => hK _ _ _ _ (h.2 z) H locs ls hP hS hl)
  · exact h.elim
theorem ak_if_ge {off : Int} {tg : Nat} (hd : decode cc pc = .ok (.ifCond .ge off, 3)) (ht : (pc : Int) + off = (tg : Int)) (hn : pc + 3 = nx) : am_ok own cc nL rt rf rl live Ret pc (am_if1 (fun x => 0 ≤ x) tg nx) := by
  subst hn
  intro p l e s m args below meth c D cA al B hC Y hY L st M K hK h H locs ls hP hS hl
  unfold am_if1 at h
  split at h
  · exact lv_if_ge hC.1 hC.2.1 hd ht (fun z => hK _ _ _ _ (h.1 z) H locs ls hP hS hl) (fun z => hK _ _ _ _ (h.2 z) H locs ls hP hS hl)
  · exact h.elim
theorem ak_icmp_ge {off : Int} {tg : Nat} (hd : decode cc pc = .ok (.if_icmp .ge off, 3)) (ht : (pc : Int) + off = (tg : Int)) (hn : pc + 3 = nx) : am_ok own cc nL rt rf rl live Ret pc (am_if2 (fun x y => y ≤ x) tg nx) := by
  subst hn
  intro p l e s m args below meth c D cA al B hC Y hY L st M K hK h H locs ls hP hS hl
  unfold am_if2 at h
  split at h
  · exact lv_icmp_ge hC.1 hC.2.1 hd ht (fun z => hK _ _ _ _ (h.1 z) H locs ls hP hS hl) (fun z => hK _ _ _ _ (h.2 z) H locs ls hP hS hl)
  · exact h.elim
theorem ak_if_gt {off : Int} {tg : Nat} (hd : decode cc pc = .ok (.ifCond .gt off, 3)) (ht : (pc : Int) + off = (tg : Int)) (hn : pc + 3 = nx) : am_ok own cc nL rt rf rl live Ret pc (am_if1 (fun x => 0 < x) tg nx) := by
  subst hn
  intro p l e s m args below meth c D cA al B hC Y hY L st M K hK h H locs ls hP hS hl
  unfold am_if1 at h
  split at h
  · exact lv_if_gt hC.1 hC.2.1 hd ht (fun z => hK _ _ _ _ (h.1 z) H locs ls hP hS hl) (fun z => hK _ _ _ _ (h.2 z) H locs ls hP hS hl)
  · exact h.elim
theorem ak_icmp_gt {off : Int} {tg : Nat} (hd : decode cc pc = .ok (.if_icmp .gt off, 3)) (ht : (pc : Int) + off = (tg : Int)) (hn : pc + 3 = nx) : am_ok own cc nL rt rf rl live Ret pc (am_if2 (fun x y => y < x) tg nx) := by
  subst hn
  intro p l e s m args below meth c D cA al B hC Y hY L st M K hK h H locs ls hP hS hl
  unfold am_if2 at h
  split at h
  · exact lv_icmp_gt hC.1 hC.2.1 hd ht (fun z => hK _ _ _ _ (h.1 z) H locs ls hP hS hl) (fun z => hK _ _ _ _ (h.2 z) H locs ls hP hS hl)
  · exact h.elim
theorem ak_if_le {off : Int} {tg : Nat} (hd : decode cc pc = .ok (.ifCond .le off, 3)) (ht : (pc : Int) + off = (tg : Int)) (hn : pc + 3 = nx) : am_ok own cc nL rt rf rl live Ret pc (am_if1 (fun x => x ≤ 0) tg nx) := by
  subst hn
  intro p l e s m args below meth c D cA al B hC Y hY L st M K hK h H locs ls hP hS hl
  unfold am_if1 at h
  split at h
  · exact lv_if_le hC.1 hC.2.1 hd ht (fun z => hK _ _ _ _ (h.1 z) H locs ls hP hS hl) (fun z => hK _ _ _ _ (h.2 z) H locs ls hP hS hl)
  · exact h.elim
theorem ak_icmp_le {off : Int} {tg : Nat} (hd : decode cc pc = .ok (.if_icmp .le off, 3)) (ht : (pc : Int) + off = (tg : Int)) (hn : pc + 3 = nx) : am_ok own cc nL rt rf rl live Ret pc (am_if2 (fun x y => x ≤ y) tg nx) := by
  subst hn
  intro p l e s m args below meth c D cA al B hC Y hY L st M K hK h H locs ls hP hS hl
  unfold am_if2 at h
  split at h
  · exact lv_icmp_le hC.1 hC.2.1 hd ht (fun z => hK _ _ _ _ (h.1 z) H locs ls hP hS hl) (fun z => hK _ _ _ _ (h.2 z) H locs ls hP hS hl)
  · exact h.elim
end AK
end
section
/-! fields, arrays, statics, returns -/
theorem am_P1 {D : va_G} {cl : List vw_C} {q : Nat × va_E} {H : Heap} (h : va_at D cl q H) : va_P D cl [q] H := by
  intro k r hr
  cases k with
  | zero => cases hr; exact h
  | succ k => simp at hr
theorem am_V {N j : Nat} (f : Nat → Value) (h : j < N) : vp_V ((List.range N).map f) j = f j := by
  unfold vp_V
  rw [List.getD_eq_getElem?_getD, List.getElem?_map, List.getElem?_range h]
  rfl
theorem am_fvO {Q : Nat → Nat → Option Nat} {al : Nat → Nat} {M M' : am_M} {n ci : Nat} (h1 : ∀ k, M'.1 n k = M.1 n k) (h2 : ∀ k, M'.2 n k = M.2 n k) : am_fv Q al M' n ci = am_fv Q al M n ci := by
  funext k
  unfold am_fv
  rw [h1, h2]
theorem am_ceO {Q : Nat → Nat → Option Nat} {cA : Nat → ClassId} {al : Nat → Nat} {M M' : am_M} {n : Nat} (h1 : M'.1 n = M.1 n) (h2 : M'.2 n = M.2 n) : am_ce Q cA al M' n = am_ce Q cA al M n := by
  unfold am_ce
  cases am_sh n with
  | inl ci => exact congrArg (fun f => Sum.inr (ci, (List.range (am_nf ci)).map f)) (am_fvO (M := M) (M' := M') (fun k => congrFun h1 k) (fun k => congrFun h2 k))
  | inr q =>
    refine congrArg (fun f => Sum.inl (cA q.1, q.2, f)) ?_
    unfold am_ae
    rw [h1, h2]
theorem am_ce_wI {Q : Nat → Nat → Option Nat} {cA : Nat → ClassId} {al : Nat → Nat} {M : am_M} {n k m : Nat} {x : Int32} (h : m ≠ n) : am_ce Q cA al (am_wI M n k x) m = am_ce Q cA al M m := by
  refine am_ceO ?_ rfl
  funext j
  show (if m = n ∧ j = k then x else M.1 m j) = _
  rw [if_neg (fun q => h q.1)]
theorem am_ce_wJ {Q : Nat → Nat → Option Nat} {cA : Nat → ClassId} {al : Nat → Nat} {M : am_M} {n k m : Nat} {x : Int64} (h : m ≠ n) : am_ce Q cA al (am_wJ M n k x) m = am_ce Q cA al M m := by
  refine am_ceO rfl ?_
  funext j
  show (if m = n ∧ j = k then x else M.2 m j) = _
  rw [if_neg (fun q => h q.1)]
theorem am_ceA {Q : Nat → Nat → Option Nat} {cA : Nat → ClassId} {al : Nat → Nat} {M : am_M} {n t len : Nat} (hsh : am_sh n = .inr (t, len)) : am_ce Q cA al M n = .inl (cA t, len, am_ae Q al M n t) := by
  unfold am_ce; rw [hsh]
theorem am_ceF {Q : Nat → Nat → Option Nat} {cA : Nat → ClassId} {al : Nat → Nat} {M : am_M} {n ci : Nat} (hsh : am_sh n = .inl ci) : am_ce Q cA al M n = .inr (ci, (List.range (am_nf ci)).map (am_fv Q al M n ci)) := by
  unfold am_ce; rw [hsh]
theorem am_ae0 {Q : Nat → Nat → Option Nat} {al : Nat → Nat} {M : am_M} {n t : Nat} (h : am_tk t = 0) : am_ae Q al M n t = .inl (M.1 n) := by unfold am_ae; rw [h]; rfl
theorem am_ae1 {Q : Nat → Nat → Option Nat} {al : Nat → Nat} {M : am_M} {n t : Nat} (h : am_tk t = 1) : am_ae Q al M n t = .inr (.inl (M.2 n)) := by unfold am_ae; rw [h]; rfl
theorem am_ae2 {Q : Nat → Nat → Option Nat} {al : Nat → Nat} {M : am_M} {n t : Nat} (h : am_tk t = 2) : am_ae Q al M n t = .inr (.inr (.inr (.inr (fun k => (Q n k).map al)))) := by unfold am_ae; rw [h]; rfl
theorem am_fv0 {Q : Nat → Nat → Option Nat} {al : Nat → Nat} {M : am_M} {n ci k : Nat} (h : am_ft ci k = 0) : am_fv Q al M n ci k = .int (M.1 n k) := by unfold am_fv; rw [h]; rfl
theorem am_fv1 {Q : Nat → Nat → Option Nat} {al : Nat → Nat} {M : am_M} {n ci k : Nat} (h : am_ft ci k = 1) : am_fv Q al M n ci k = .long (M.2 n k) := by unfold am_fv; rw [h]; rfl
theorem am_fv2 {Q : Nat → Nat → Option Nat} {al : Nat → Nat} {M : am_M} {n ci k : Nat} (h : am_ft ci k = 2) : am_fv Q al M n ci k = va_rf ((Q n k).map al) := by unfold am_fv; rw [h]; rfl
theorem am_wI_row (M : am_M) (n k : Nat) (x : Int32) : (am_wI M n k x).1 n = upd (M.1 n) k x := by
  funext j
  show (if n = n ∧ j = k then x else M.1 n j) = if j = k then x else M.1 n j
  by_cases h : j = k
  · rw [if_pos ⟨rfl, h⟩, if_pos h]
  · rw [if_neg (fun q => h q.2), if_neg h]
theorem am_wJ_row (M : am_M) (n k : Nat) (x : Int64) : (am_wJ M n k x).2 n = vp_updL (M.2 n) k x := by
  funext j
  show (if n = n ∧ j = k then x else M.2 n j) = if j = k then x else M.2 n j
  by_cases h : j = k
  · rw [if_pos ⟨rfl, h⟩, if_pos h]
  · rw [if_neg (fun q => h q.2), if_neg h]
theorem am_arr_i (cA : ClassId) (n k : Nat) (f : Nat → Int32) (x : Int32) : (vp_cell cA (n, .inl f)).setSlot k (.int x) = vp_cell cA (n, .inl (upd f k x)) := by
  rw [vp_cell_i, vp_cell_i, arrV_store]
  congr 1
  funext q
  by_cases hq : q = k
  · subst hq
    simp [updV, upd]
  · simp [updV, upd, hq]
theorem am_arr_l (cA : ClassId) (n k : Nat) (f : Nat → Int64) (x : Int64) : (vp_cell cA (n, .inr (.inl f))).setSlot k (.long x) = vp_cell cA (n, .inr (.inl (vp_updL f k x))) := by
  rw [vp_cell_l, vp_cell_l, arrV_store]
  congr 1
  funext q
  by_cases hq : q = k
  · subst hq
    simp [updV, vp_updL]
  · simp [updV, vp_updL, hq]
section AKM
variable {own : String} {cc : ByteArray} {nL : Nat} {rt : Option FieldType} {rf rl : Nat} {live : am_E} {Ret : am_R} {pc nx : Nat}
theorem ak_iald {t : Nat} (ht : ∀ cA : Nat → ClassId, (am_tys cA)[t]? = some (cA t, .int)) (hk : am_tk t = 0) (hd : decode cc pc = .ok (.iaload, 1)) (hn : pc + 1 = nx) : am_ok own cc nL rt rf rl live Ret pc (am_ald live t nx) := by
  subst hn
  intro p l e s m args below meth c D cA al B hC Y hY L st M K hKK h H locs ls hP hS hl
  obtain ⟨hx, hb, hml, hown, hts, hlk, hr, hK, hB, hZ, hN⟩ := hC
  unfold am_ald at h
  split at h
  · next j n r =>
    obtain ⟨hbb, hin, h⟩ := am_if_mp h
    obtain ⟨hlv, hsh⟩ := am_isA_spec hbb
    have hcell := hP.1 n hlv
    rw [am_ceA hsh, am_ae0 hk] at hcell
    exact va_iald (D := D) (cl := am_cl) (tys := am_tys cA) hx hb hK (am_P1 hcell) 0 t rfl (ht cA) (am_in_vp hin) hd (hKK _ _ _ _ h H locs ls hP hS hl)
  · exact h.elim
theorem ak_zald {t : Nat} (ht : ∀ cA : Nat → ClassId, (am_tys cA)[t]? = some (cA t, .boolean)) (hk : am_tk t = 0) (hd : decode cc pc = .ok (.baload, 1)) (hn : pc + 1 = nx) : am_ok own cc nL rt rf rl live Ret pc (am_ald live t nx) := by
  subst hn
  intro p l e s m args below meth c D cA al B hC Y hY L st M K hKK h H locs ls hP hS hl
  obtain ⟨hx, hb, hml, hown, hts, hlk, hr, hK, hB, hZ, hN⟩ := hC
  unfold am_ald at h
  split at h
  · next j n r =>
    obtain ⟨hbb, hin, h⟩ := am_if_mp h
    obtain ⟨hlv, hsh⟩ := am_isA_spec hbb
    have hcell := hP.1 n hlv
    rw [am_ceA hsh, am_ae0 hk] at hcell
    exact va_zald (D := D) (cl := am_cl) (tys := am_tys cA) hx hb hK (am_P1 hcell) 0 t rfl (ht cA) (am_in_vp hin) hd (hKK _ _ _ _ h H locs ls hP hS hl)
  · exact h.elim
theorem ak_lald {t : Nat} (ht : ∀ cA : Nat → ClassId, (am_tys cA)[t]? = some (cA t, .long)) (hk : am_tk t = 1) (hd : decode cc pc = .ok (.laload, 1)) (hn : pc + 1 = nx) : am_ok own cc nL rt rf rl live Ret pc (am_lald live t nx) := by
  subst hn
  intro p l e s m args below meth c D cA al B hC Y hY L st M K hKK h H locs ls hP hS hl
  obtain ⟨hx, hb, hml, hown, hts, hlk, hr, hK, hB, hZ, hN⟩ := hC
  unfold am_lald at h
  split at h
  · next j n r =>
    obtain ⟨hbb, hin, h⟩ := am_if_mp h
    obtain ⟨hlv, hsh⟩ := am_isA_spec hbb
    have hcell := hP.1 n hlv
    rw [am_ceA hsh, am_ae1 hk] at hcell
    exact va_lald (D := D) (cl := am_cl) (tys := am_tys cA) hx hb hK (am_P1 hcell) 0 t rfl (ht cA) (am_in_vp hin) hd (hKK _ _ _ _ h H locs ls hP hS hl)
  · exact h.elim
theorem ak_aald {t : Nat} {C : String} (ht : ∀ cA : Nat → ClassId, (am_tys cA)[t]? = some (cA t, .object C)) (hk : am_tk t = 2) (hd : decode cc pc = .ok (.aaload, 1)) (hn : pc + 1 = nx) : am_ok own cc nL rt rf rl live Ret pc (am_aald live t nx) := by
  subst hn
  intro p l e s m args below meth c D cA al B hC Y hY L st M K hKK h H locs ls hP hS hl
  obtain ⟨hx, hb, hml, hown, hts, hlk, hr, hK, hB, hZ, hN⟩ := hC
  unfold am_aald at h
  split at h
  · next j n r =>
    obtain ⟨hbb, hin, h⟩ := am_if_mp h
    obtain ⟨hlv, hsh⟩ := am_isA_spec hbb
    have hcell := hP.1 n hlv
    rw [am_ceA hsh, am_ae2 hk] at hcell
    obtain ⟨q, hq, h⟩ := am_qm (P := fun q => K (pc + 1) L (.ref q :: r) M) h
    refine va_aldq (D := D) (cl := am_cl) (tys := am_tys cA) hx hb hK (am_P1 hcell) 0 t rfl (ht cA) (am_in_vp hin) hd ?_
    show W p l e _ s m args below meth c H locs Y.2.1 Y.2.2.1 _ (F0 m (pc + 1) ls (va_rf ((live.2 n j.toNatClampNeg).map al) :: r.map (am_cv al)))
    rw [hq]
    exact hKK _ _ _ _ h H locs ls hP hS hl
  · exact h.elim
theorem ak_iast {t : Nat} (ht : ∀ cA : Nat → ClassId, (am_tys cA)[t]? = some (cA t, .int)) (hk : am_tk t = 0) (hd : decode cc pc = .ok (.iastore, 1)) (hn : pc + 1 = nx) : am_ok own cc nL rt rf rl live Ret pc (am_ast live t nx) := by
  subst hn
  intro p l e s m args below meth c D cA al B hC Y hY L st M K hKK h H locs ls hP hS hl
  obtain ⟨hx, hb, hml, hown, hts, hlk, hr, hK, hB, hZ, hN⟩ := hC
  unfold am_ast at h
  split at h
  · next x j n r =>
    obtain ⟨hbb, hin, h⟩ := am_if_mp h
    obtain ⟨hlv, hsh⟩ := am_isA_spec hbb
    have hcell := hP.1 n hlv
    rw [am_ceA hsh, am_ae0 hk] at hcell
    refine W.iast hx hb (cell := vp_cell (cA t) (am_len n, .inl (M.1 n))) hcell ((hK.2 t _ (ht cA)).1 (am_len n) (fun j => .int (M.1 n j))) (fun q => by cases q) (by show ¬ (j < 0 ∨ (arrV _ _ _).slots.size ≤ _); rw [arrV_size]; exact am_in_vp hin) rfl rfl hd fun H1 e1 z oq => ?_
    refine hKK _ _ _ _ h H1 _ ls (hP.put hlv ?_ (fun m hm => am_ce_wI hm) oq) (hS.put z oq (hP.2.2.1 n hlv)) hl
    rw [am_ceA hsh, am_ae0 hk, am_wI_row]
    show H1[al n]? = some (vp_cell _ _)
    rw [e1, am_arr_i]
  · exact h.elim
theorem ak_zast {t : Nat} (ht : ∀ cA : Nat → ClassId, (am_tys cA)[t]? = some (cA t, .boolean)) (hk : am_tk t = 0) (hd : decode cc pc = .ok (.bastore, 1)) (hn : pc + 1 = nx) : am_ok own cc nL rt rf rl live Ret pc (am_zst live t nx) := by
  subst hn
  intro p l e s m args below meth c D cA al B hC Y hY L st M K hKK h H locs ls hP hS hl
  obtain ⟨hx, hb, hml, hown, hts, hlk, hr, hK, hB, hZ, hN⟩ := hC
  unfold am_zst at h
  split at h
  · next x j n r =>
    obtain ⟨hbb, hin, h⟩ := am_if_mp h
    obtain ⟨hlv, hsh⟩ := am_isA_spec hbb
    have hcell := hP.1 n hlv
    rw [am_ceA hsh, am_ae0 hk] at hcell
    refine W.zast hx hb (cell := vp_cell (cA t) (am_len n, .inl (M.1 n))) hcell ((hK.2 t _ (ht cA)).1 (am_len n) (fun j => .int (M.1 n j))) (fun q => by cases q) (by show ¬ (j < 0 ∨ (arrV _ _ _).slots.size ≤ _); rw [arrV_size]; exact am_in_vp hin) rfl rfl hd fun H1 e1 z oq => ?_
    refine hKK _ _ _ _ h H1 _ ls (hP.put hlv ?_ (fun m hm => am_ce_wI hm) oq) (hS.put z oq (hP.2.2.1 n hlv)) hl
    rw [am_ceA hsh, am_ae0 hk, am_wI_row]
    show H1[al n]? = some (vp_cell _ _)
    rw [e1]
    exact congrArg some (am_arr_i _ _ _ _ (vp_nar .boolean x))
  · exact h.elim
theorem ak_last {t : Nat} (ht : ∀ cA : Nat → ClassId, (am_tys cA)[t]? = some (cA t, .long)) (hk : am_tk t = 1) (hd : decode cc pc = .ok (.lastore, 1)) (hn : pc + 1 = nx) : am_ok own cc nL rt rf rl live Ret pc (am_last live t nx) := by
  subst hn
  intro p l e s m args below meth c D cA al B hC Y hY L st M K hKK h H locs ls hP hS hl
  obtain ⟨hx, hb, hml, hown, hts, hlk, hr, hK, hB, hZ, hN⟩ := hC
  unfold am_last at h
  split at h
  · next x j n r =>
    obtain ⟨hbb, hin, h⟩ := am_if_mp h
    obtain ⟨hlv, hsh⟩ := am_isA_spec hbb
    have hcell := hP.1 n hlv
    rw [am_ceA hsh, am_ae1 hk] at hcell
    refine W.last hx hb (cell := vp_cell (cA t) (am_len n, .inr (.inl (M.2 n)))) hcell ((hK.2 t _ (ht cA)).1 (am_len n) (fun j => .long (M.2 n j))) (fun q => by cases q) (by show ¬ (j < 0 ∨ (arrV _ _ _).slots.size ≤ _); rw [arrV_size]; exact am_in_vp hin) rfl rfl hd fun H1 e1 z oq => ?_
    refine hKK _ _ _ _ h H1 _ ls (hP.put hlv ?_ (fun m hm => am_ce_wJ hm) oq) (hS.put z oq (hP.2.2.1 n hlv)) hl
    rw [am_ceA hsh, am_ae1 hk, am_wJ_row]
    show H1[al n]? = some (vp_cell _ _)
    rw [e1, am_arr_l]
  · exact h.elim
theorem ak_alen {t : Nat} {ty : FieldType} (ht : ∀ cA : Nat → ClassId, (am_tys cA)[t]? = some (cA t, ty)) (hd : decode cc pc = .ok (.arraylength, 1)) (hn : pc + 1 = nx) : am_ok own cc nL rt rf rl live Ret pc (am_alen live t nx) := by
  subst hn
  intro p l e s m args below meth c D cA al B hC Y hY L st M K hKK h H locs ls hP hS hl
  obtain ⟨hx, hb, hml, hown, hts, hlk, hr, hK, hB, hZ, hN⟩ := hC
  unfold am_alen at h
  split at h
  · next n r =>
    obtain ⟨hbb, h⟩ := am_if_mp h
    obtain ⟨hlv, hsh⟩ := am_isA_spec hbb
    have hcell := hP.1 n hlv
    rw [am_ceA hsh] at hcell
    exact va_alen (D := D) (cl := am_cl) (tys := am_tys cA) hx hb hK (am_P1 hcell) 0 t rfl (ht cA) rfl hd (hKK _ _ _ _ h H locs ls hP hS hl)
  · exact h.elim
theorem ak_getI {ci k N idx : Nat} {C : String} {T : u_T} (hc : am_cl[ci]? = some (C, T, N)) (hin : ∀ w ∈ u_ws C T N, w ∈ am_ws) (hk : k < N) (hnf : am_nf ci = N) (hft : am_ft ci k = 0) (hdc : (T k).1 = C) (hw : Cond.fieldLink own idx C (T k).2.1 (T k).2.2.1 ∈ am_ws) (hd : decode cc pc = .ok (.getfield idx, 3)) (hn : pc + 3 = nx) : am_ok own cc nL rt rf rl live Ret pc (am_getI live ci k nx) := by
  subst hn
  intro p l e s m args below meth c D cA al B hC Y hY L st M K hKK h H locs ls hP hS hl
  obtain ⟨hx, hb, hml, hown, hts, hlk, hr, hK, hB, hZ, hN⟩ := hC
  unfold am_getI at h
  split at h
  · next n r =>
    obtain ⟨hbb, h⟩ := am_if_mp h
    obtain ⟨hlv, hsh⟩ := am_isO_spec hbb
    have hcell := hP.1 n hlv
    rw [am_ceF hsh] at hcell
    exact va_get (D := D) (cl := am_cl) (tys := am_tys cA) hx hb hts hin hown hK (am_P1 hcell) 0 rfl hc k hk (hts _ hw) (fun x hx => by rw [hdc] at hx; exact hx) (by rw [hnf, List.getElem?_map, List.getElem?_range hk]; exact congrArg some (am_fv0 hft)) hd (hKK _ _ _ _ h H locs ls hP hS hl)
  · exact h.elim
theorem ak_getJ {ci k N idx : Nat} {C : String} {T : u_T} (hc : am_cl[ci]? = some (C, T, N)) (hin : ∀ w ∈ u_ws C T N, w ∈ am_ws) (hk : k < N) (hnf : am_nf ci = N) (hft : am_ft ci k = 1) (hdc : (T k).1 = C) (hw : Cond.fieldLink own idx C (T k).2.1 (T k).2.2.1 ∈ am_ws) (hd : decode cc pc = .ok (.getfield idx, 3)) (hn : pc + 3 = nx) : am_ok own cc nL rt rf rl live Ret pc (am_getJ live ci k nx) := by
  subst hn
  intro p l e s m args below meth c D cA al B hC Y hY L st M K hKK h H locs ls hP hS hl
  obtain ⟨hx, hb, hml, hown, hts, hlk, hr, hK, hB, hZ, hN⟩ := hC
  unfold am_getJ at h
  split at h
  · next n r =>
    obtain ⟨hbb, h⟩ := am_if_mp h
    obtain ⟨hlv, hsh⟩ := am_isO_spec hbb
    have hcell := hP.1 n hlv
    rw [am_ceF hsh] at hcell
    exact va_get (D := D) (cl := am_cl) (tys := am_tys cA) hx hb hts hin hown hK (am_P1 hcell) 0 rfl hc k hk (hts _ hw) (fun x hx => by rw [hdc] at hx; exact hx) (by rw [hnf, List.getElem?_map, List.getElem?_range hk]; exact congrArg some (am_fv1 hft)) hd (hKK _ _ _ _ h H locs ls hP hS hl)
  · exact h.elim
theorem ak_getR {ci k N idx : Nat} {C : String} {T : u_T} (hc : am_cl[ci]? = some (C, T, N)) (hin : ∀ w ∈ u_ws C T N, w ∈ am_ws) (hk : k < N) (hnf : am_nf ci = N) (hft : am_ft ci k = 2) (hdc : (T k).1 = C) (hw : Cond.fieldLink own idx C (T k).2.1 (T k).2.2.1 ∈ am_ws) (hd : decode cc pc = .ok (.getfield idx, 3)) (hn : pc + 3 = nx) : am_ok own cc nL rt rf rl live Ret pc (am_getR live ci k nx) := by
  subst hn
  intro p l e s m args below meth c D cA al B hC Y hY L st M K hKK h H locs ls hP hS hl
  obtain ⟨hx, hb, hml, hown, hts, hlk, hr, hK, hB, hZ, hN⟩ := hC
  unfold am_getR at h
  split at h
  · next n r =>
    obtain ⟨hbb, h⟩ := am_if_mp h
    obtain ⟨hlv, hsh⟩ := am_isO_spec hbb
    have hcell := hP.1 n hlv
    rw [am_ceF hsh] at hcell
    obtain ⟨q, hq, h⟩ := am_qm (P := fun q => K (pc + 3) L (.ref q :: r) M) h
    exact va_get (D := D) (cl := am_cl) (tys := am_tys cA) (v := .ref (al q)) hx hb hts hin hown hK (am_P1 hcell) 0 rfl hc k hk (hts _ hw) (fun x hx => by rw [hdc] at hx; exact hx) (by rw [hnf, List.getElem?_map, List.getElem?_range hk]; exact congrArg some ((am_fv2 hft).trans (by rw [hq]; rfl))) hd (hKK _ _ _ _ h H locs ls hP hS hl)
  · exact h.elim
/-- a store into a field of a kind -/
theorem am_pf {p : Program} {l : Launch} {e : Env} {R : Room} {s : State} {m : MethodId} {args : Array Value} {below : List Frame} {meth : Method} {c : Code} {H : Heap} {locs : List Loc} {Q : State → Prop} {kc kn : Nat} {ls : Array Slot} {D : va_G} {cA : Nat → ClassId} {al : Nat → Nat} {B n : Nat} {M M' : am_M} {rest : List Value} {v : Value}
    {ci k N idx : Nat} {C : String} {T : u_T} {ty0 : Nat → FieldType} {ty : FieldType} (hx : p.tables.exec = Jvm.exec) (hb : c.code = cc) (hown : s.vm.findClass own = some m.cls) (hts : ∀ w ∈ am_ws, w.before args s = true) (hK : va_K D am_cl (am_tys cA) s) (hP : am_P D cA al B live M H) (hlv : live.1 n = true) (hsh : am_sh n = .inl ci)
    (hc : am_cl[ci]? = some (C, T, N)) (hin : ∀ w ∈ u_ws C T N, w ∈ am_ws) (hty : ∀ k, k < N → parseFieldDescriptor (T k).2.2.1 = some (ty0 k)) (hnm : ∀ a, a < N → ∀ b, b < N → a ≠ b → (T a).2.1 ≠ (T b).2.1) (hk : k < N) (hnf : am_nf ci = N) (hdc : (T k).1 = C) (hfin : (T k).2.2.2 = false) (hd0 : parseFieldDescriptor (T k).2.2.1 = some ty) (hnr : narrow ty v = v) (hfit : fits ty v = true) (hw : Cond.fieldLink own idx C (T k).2.1 (T k).2.2.1 ∈ am_ws) (hd : decode cc pc = .ok (.putfield idx, 3))
    (hm1 : am_fv live.2 al M' n ci k = v) (hm2 : ∀ j, j ≠ k → am_fv live.2 al M' n ci j = am_fv live.2 al M n ci j) (hm3 : ∀ m, m ≠ n → am_ce live.2 cA al M' m = am_ce live.2 cA al M m)
    (kk : ∀ (H1 : Heap) (k2 : Nat), am_P D cA al B live M' H1 → H1.size = H.size → (∀ q : Nat, q ≠ al n → H1[q]? = H[q]?) → W p l e R s m args below meth c H1 (locs ++ [⟨al n, k2⟩]) kc kn Q (F0 m (pc + 3) ls rest)) : W p l e R s m args below meth c H locs kc kn Q (F0 m pc ls (v :: .ref (al n) :: rest)) := by
  have hap := va_apart (own := own) (D := D) (s := s) (args := args) hts hin ty0 hty hnm hK hc
  have hcell := hP.1 n hlv
  rw [am_ceF hsh] at hcell
  obtain ⟨r, h1, cell, q1, q2, q3, q4⟩ := hcell
  have hr : r = (C, T, N) := Option.some.inj (h1.symm.trans hc)
  subst hr
  obtain ⟨hS, hfc, kC, hkC, hkind⟩ := hK.1 ci _ hc
  obtain ⟨cf, kf, fi, f, hi, hsl⟩ := hS k hk
  have hlay := hts _ (hin _ (u_in_lay hk))
  unfold u_lay at hlay
  rw [if_neg (by rw [hfin]; decide)] at hlay
  have hst := (u_facts hfc hkC (u_lays hts hin hk) hi).1
  have h6 := u_store hfc hkC hkind hlay hi hd0 hnr hfit
  have hi2 : s.fieldFound? C (T k).2.1 (T k).2.2.1 = some (cf, kf, fi, f) := by rw [← hdc]; exact hi
  refine W.putK hx hb (f := f) ⟨hown, hts _ hw, ⟨_, _, _, hi2⟩, hst⟩ (by rw [q2]; exact h6) q1 q3 (by rw [hsl]; exact k2_hasslot (q4 k hk)) rfl rfl hd fun H' e1 e2 e3 => ?_
  rw [hsl] at e1 ⊢
  refine kk H' _ (hP.put hlv ?_ hm3 e3) e2 e3
  rw [am_ceF hsh]
  refine ⟨(C, T, N), hc, t_OB.to (V := updV (vp_V ((List.range (am_nf ci)).map (am_fv live.2 al M n ci))) k v) ⟨_, e1, q2, q3, t_set q4 hap hk v⟩ (fun j hj => ?_)⟩
  rw [hnf, am_V _ hj]
  unfold updV
  by_cases hjk : j = k
  · subst hjk
    rw [if_pos rfl, hm1]
  · rw [if_neg hjk, am_V _ hj, hm2 j hjk]
theorem ak_putI {ci k N idx : Nat} {C : String} {T : u_T} {ty0 : Nat → FieldType} (hc : am_cl[ci]? = some (C, T, N)) (hin : ∀ w ∈ u_ws C T N, w ∈ am_ws) (hty : ∀ k, k < N → parseFieldDescriptor (T k).2.2.1 = some (ty0 k)) (hnm : ∀ a, a < N → ∀ b, b < N → a ≠ b → (T a).2.1 ≠ (T b).2.1) (hk : k < N) (hnf : am_nf ci = N) (hft : am_ft ci k = 0) (hdc : (T k).1 = C) (hfin : (T k).2.2.2 = false) (hd0 : parseFieldDescriptor (T k).2.2.1 = some .int) (hw : Cond.fieldLink own idx C (T k).2.1 (T k).2.2.1 ∈ am_ws) (hd : decode cc pc = .ok (.putfield idx, 3)) (hn : pc + 3 = nx) : am_ok own cc nL rt rf rl live Ret pc (am_putI live ci k nx) := by
  subst hn
  intro p l e s m args below meth c D cA al B hC Y hY L st M K hKK h H locs ls hP hS hl
  obtain ⟨hx, hb, hml, hown, hts, hlk, hr, hK, hB, hZ, hN⟩ := hC
  unfold am_putI at h
  split at h
  · next x n r =>
    obtain ⟨hbb, h⟩ := am_if_mp h
    obtain ⟨hlv, hsh⟩ := am_isO_spec hbb
    refine am_pf (M' := am_wI M n k x) (v := .int x) hx hb hown hts hK hP hlv hsh hc hin hty hnm hk hnf hdc hfin hd0 rfl rfl hw hd ?_ (fun j hj => ?_) (fun m hm => am_ce_wI hm) (fun H1 k2 hP1 z oq => hKK _ _ _ _ h H1 _ ls hP1 (hS.put z oq (hP.2.2.1 n hlv)) hl)
    · rw [am_fv0 hft]
      exact congrArg Value.int (if_pos ⟨rfl, rfl⟩)
    · unfold am_fv
      rw [show (am_wI M n k x).1 n j = M.1 n j from if_neg (fun q => hj q.2)]
      rfl
  · exact h.elim
theorem ak_putZ {ci k N idx : Nat} {C : String} {T : u_T} {ty0 : Nat → FieldType} (hc : am_cl[ci]? = some (C, T, N)) (hin : ∀ w ∈ u_ws C T N, w ∈ am_ws) (hty : ∀ k, k < N → parseFieldDescriptor (T k).2.2.1 = some (ty0 k)) (hnm : ∀ a, a < N → ∀ b, b < N → a ≠ b → (T a).2.1 ≠ (T b).2.1) (hk : k < N) (hnf : am_nf ci = N) (hft : am_ft ci k = 0) (hdc : (T k).1 = C) (hfin : (T k).2.2.2 = false) (hd0 : parseFieldDescriptor (T k).2.2.1 = some .boolean) (hw : Cond.fieldLink own idx C (T k).2.1 (T k).2.2.1 ∈ am_ws) (hd : decode cc pc = .ok (.putfield idx, 3)) (hn : pc + 3 = nx) : am_ok own cc nL rt rf rl live Ret pc (am_putZ live ci k nx) := by
  subst hn
  intro p l e s m args below meth c D cA al B hC Y hY L st M K hKK h H locs ls hP hS hl
  obtain ⟨hx, hb, hml, hown, hts, hlk, hr, hK, hB, hZ, hN⟩ := hC
  unfold am_putZ at h
  split at h
  · next x n r =>
    obtain ⟨hbb, h01, h⟩ := am_if_mp h
    obtain ⟨hlv, hsh⟩ := am_isO_spec hbb
    have hnr : narrow .boolean (.int x) = .int x := by rcases h01 with rfl | rfl <;> rfl
    have hfi : fits .boolean (.int x) = true := by rcases h01 with rfl | rfl <;> rfl
    refine am_pf (M' := am_wI M n k x) (v := .int x) hx hb hown hts hK hP hlv hsh hc hin hty hnm hk hnf hdc hfin hd0 hnr hfi hw hd ?_ (fun j hj => ?_) (fun m hm => am_ce_wI hm) (fun H1 k2 hP1 z oq => hKK _ _ _ _ h H1 _ ls hP1 (hS.put z oq (hP.2.2.1 n hlv)) hl)
    · rw [am_fv0 hft]
      exact congrArg Value.int (if_pos ⟨rfl, rfl⟩)
    · unfold am_fv
      rw [show (am_wI M n k x).1 n j = M.1 n j from if_neg (fun q => hj q.2)]
      rfl
  · exact h.elim
theorem ak_putJ {ci k N idx : Nat} {C : String} {T : u_T} {ty0 : Nat → FieldType} (hc : am_cl[ci]? = some (C, T, N)) (hin : ∀ w ∈ u_ws C T N, w ∈ am_ws) (hty : ∀ k, k < N → parseFieldDescriptor (T k).2.2.1 = some (ty0 k)) (hnm : ∀ a, a < N → ∀ b, b < N → a ≠ b → (T a).2.1 ≠ (T b).2.1) (hk : k < N) (hnf : am_nf ci = N) (hft : am_ft ci k = 1) (hdc : (T k).1 = C) (hfin : (T k).2.2.2 = false) (hd0 : parseFieldDescriptor (T k).2.2.1 = some .long) (hw : Cond.fieldLink own idx C (T k).2.1 (T k).2.2.1 ∈ am_ws) (hd : decode cc pc = .ok (.putfield idx, 3)) (hn : pc + 3 = nx) : am_ok own cc nL rt rf rl live Ret pc (am_putJ live ci k nx) := by
  subst hn
  intro p l e s m args below meth c D cA al B hC Y hY L st M K hKK h H locs ls hP hS hl
  obtain ⟨hx, hb, hml, hown, hts, hlk, hr, hK, hB, hZ, hN⟩ := hC
  unfold am_putJ at h
  split at h
  · next x n r =>
    obtain ⟨hbb, h⟩ := am_if_mp h
    obtain ⟨hlv, hsh⟩ := am_isO_spec hbb
    refine am_pf (M' := am_wJ M n k x) (v := .long x) hx hb hown hts hK hP hlv hsh hc hin hty hnm hk hnf hdc hfin hd0 rfl rfl hw hd ?_ (fun j hj => ?_) (fun m hm => am_ce_wJ hm) (fun H1 k2 hP1 z oq => hKK _ _ _ _ h H1 _ ls hP1 (hS.put z oq (hP.2.2.1 n hlv)) hl)
    · rw [am_fv1 hft]
      exact congrArg Value.long (if_pos ⟨rfl, rfl⟩)
    · unfold am_fv
      rw [show (am_wJ M n k x).2 n j = M.2 n j from if_neg (fun q => hj q.2)]
      rfl
  · exact h.elim
theorem ak_gets {k idx : Nat} {C n d : String} (hk : k < am_ns) (hs : am_sC k = (C, n, d)) (hw : Cond.fieldLink own idx C n d ∈ am_ws) (hd : decode cc pc = .ok (.getstatic idx, 3)) (hn : pc + 3 = nx) : am_ok own cc nL rt rf rl live Ret pc (am_const (.ref (1000 + k)) nx) := by
  subst hn
  intro p l e s m args below meth c D cA al B hC Y hY L st M K hKK h H locs ls hP hS hl
  obtain ⟨hx, hb, hml, hown, hts, hlk, hr, hK, hB, hZ, hN⟩ := hC
  have hz := (hZ k hk).1
  rw [hs] at hz
  exact va_gets hx hb hz hS hown (hts _ hw) (fun _ h => h) hd (hKK _ _ _ _ h H locs ls hP hS hl)
theorem ak_getsN {k idx : Nat} {C n d host : String} (hk : k < am_ns) (hs : am_sC k = (C, n, d)) (hw : (own, idx, C, n, d, host) ∈ am_nest) (hd : decode cc pc = .ok (.getstatic idx, 3)) (hn : pc + 3 = nx) : am_ok own cc nL rt rf rl live Ret pc (am_const (.ref (1000 + k)) nx) := by
  subst hn
  intro p l e s m args below meth c D cA al B hC Y hY L st M K hKK h H locs ls hP hS hl
  obtain ⟨hx, hb, hml, hown, hts, hlk, hr, hK, hB, hZ, hN⟩ := hC
  have hz := (hZ k hk).1
  rw [hs] at hz
  exact va_getsN hx hb hz hS hown (va_Nw.use rfl (hN.1 _ hw)) (fun _ h => h) hd (hKK _ _ _ _ h H locs ls hP hS hl)
theorem ak_sld {k : Nat} (hk : k < am_ns) (hd : decode cc pc = .ok (.iaload, 1)) (hn : pc + 1 = nx) : am_ok own cc nL rt rf rl live Ret pc (am_sld k nx) := by
  subst hn
  intro p l e s m args below meth c D cA al B hC Y hY L st M K hKK h H locs ls hP hS hl
  obtain ⟨hx, hb, hml, hown, hts, hlk, hr, hK, hB, hZ, hN⟩ := hC
  unfold am_sld at h
  split at h
  · next j n r =>
    obtain ⟨hbb, hin, h2⟩ := am_if_mp h
    clear h
    have hn := Nat.eq_of_beq_eq_true hbb
    subst hn
    exact va_ti hx hb (hZ k hk).2 hS (am_in_vp hin) rfl hd (hKK _ _ _ _ h2 H locs ls hP hS hl)
  · exact h.elim
theorem am_ro {p : Program} {s : State} {m : MethodId} {args : Array Value} {meth : Method} {c : Code} {D : va_G} {cA : Nat → ClassId} {al : Nat → Nat} {B : Nat} {H : Heap} {locs : List Loc} {M : am_M} {r : Option Value} (hC : am_C p s m args meth c D cA al B own cc nL rt) (hP : am_P D cA al B live M H) (hS : va_S (fun q => B ≤ q) s.heap H locs) (h : Ret r M) :
    ∀ t : State, t.heap = H → s.WarmedH t.vm → am_Qc D cA al B live Ret args s (.returned (r.map (am_cv al))) t := fun t ht _ => ⟨r, M, h, rfl, by rw [ht]; exact hP, hS.F ht⟩
theorem am_rt {s : State} {args : Array Value} {below : List Frame} {D : va_G} {cA : Nat → ClassId} {al : Nat → Nat} {B : Nat} {Y : am_Y} {r : Option Value} {M : am_M} {P : Prop} (hY : am_Yk s args below D cA al B live Ret rf rl Y) (h : Ret r M) (k : Y.2.1 = 0 → Y.2.2.1 = 0 → Y.2.2.2 = MQ below (am_Qc D cA al B live Ret) args s 0 0 (fun q => B ≤ q) → P) : P := by
  rcases hY.2.2.2.2 with ⟨e1, e2, e3⟩ | hn
  · exact k e1 e2 e3
  · exact absurd h (hn r M)
theorem ak_retI (hd : decode cc pc = .ok (.ireturn, 1)) : am_ok own cc nL (some .int) rf rl live Ret pc (am_retI Ret) := by
  intro p l e s m args below meth c D cA al B hC Y hY L st M K hKK h H locs ls hP hS hl
  unfold am_retI at h
  split at h
  · next v => exact am_rt hY h (fun e1 e2 e3 => by rw [e1, e2, e3]; exact W.iret hC.1 hC.2.1 hC.2.2.2.2.2.2.1 (am_ro (r := some (.int v)) hC hP hS h) hS.2.2 hd (hlocks := hC.2.2.2.2.2.1))
  · exact h.elim
theorem ak_retZ (hd : decode cc pc = .ok (.ireturn, 1)) : am_ok own cc nL (some .boolean) rf rl live Ret pc (am_retZ Ret) := by
  intro p l e s m args below meth c D cA al B hC Y hY L st M K hKK h H locs ls hP hS hl
  unfold am_retZ at h
  split at h
  · next v => exact am_rt hY h.2 (fun e1 e2 e3 => by rw [e1, e2, e3]; exact W.zret hC.1 hC.2.1 hC.2.2.2.2.2.2.1 (by rcases h.1 with rfl | rfl <;> rfl) (am_ro (r := some (.int v)) hC hP hS h.2) hS.2.2 hd (hlocks := hC.2.2.2.2.2.1))
  · exact h.elim
theorem ak_retL (hd : decode cc pc = .ok (.lreturn, 1)) : am_ok own cc nL (some .long) rf rl live Ret pc (am_retL Ret) := by
  intro p l e s m args below meth c D cA al B hC Y hY L st M K hKK h H locs ls hP hS hl
  unfold am_retL at h
  split at h
  · next v => exact am_rt hY h (fun e1 e2 e3 => by rw [e1, e2, e3]; exact W.lret hC.1 hC.2.1 hC.2.2.2.2.2.2.1 (am_ro (r := some (.long v)) hC hP hS h) hS.2.2 hd (hlocks := hC.2.2.2.2.2.1))
  · exact h.elim
theorem ak_retV (hd : decode cc pc = .ok (.return_, 1)) : am_ok own cc nL none rf rl live Ret pc (am_retV Ret) := by
  intro p l e s m args below meth c D cA al B hC Y hY L st M K hKK h H locs ls hP hS hl
  unfold am_retV at h
  split at h
  · exact am_rt hY h (fun e1 e2 e3 => by rw [e1, e2, e3]; exact W.vret hC.1 hC.2.1 hC.2.2.2.2.2.2.1 (am_ro (r := none) hC hP hS h) hS.2.2 hd (hlocks := hC.2.2.2.2.2.1))
  · exact h.elim
end AKM
end
section
/-! calls by contract, Math, arraycopy, switches -/
theorem am_good_all {big : List Cond} (ws : List Cond) (h1 : ∀ w ∈ ws, w ∈ am_ws) (hb : big = am_ws) : GoodIn big ws := fun w hw => ⟨by rw [hb]; exact h1 w hw, good_of_word (am_wsg (h1 w hw))⟩
theorem am_Z.moved {al : Nat → Nat} {B : Nat} {s U : State} (h : am_Z al B s) (hvm : s.vm.Alike U.vm) (hS : ∀ q : Nat, q < s.heap.size → ¬ B ≤ q → U.heap[q]? = s.heap[q]?) : am_Z al B U := fun k hk =>
  ⟨((h k hk).1.moved hvm).kept (fun a h1 h2 => hS a h1 h2), ((h k hk).2.moved hvm).kept (fun a h1 h2 => hS a h1 h2)⟩
theorem am_blind {D : va_G} {cA : Nat → ClassId} {al : Nat → Nat} {B : Nat} {live : am_E} {as : List Value} {M : am_M} : FrameBlind (am_Pc D cA al B live as M) := by
  intro a U g mk q
  obtain ⟨q1, q2, q3, q4, q5, q6⟩ := q
  exact ⟨q1, q2, q3, va_K.moved (u := U) (U := U.calling g mk a) (Vm.Alike.refl U.vm) q4, q5.moved (U := U.calling g mk a) (Vm.Alike.refl U.vm) (fun _ _ _ => rfl), q6.vm rfl⟩
section AKC
variable {own : String} {cc : ByteArray} {nL : Nat} {rt : Option FieldType} {rf rl : Nat} {live : am_E} {Ret : am_R} {pc nx : Nat}
theorem am_frm {s : State} {args : Array Value} {below : List Frame} {D : va_G} {cA : Nat → ClassId} {al : Nat → Nat} {B : Nat} {Y : am_Y} {a b : Nat} (hY : am_Yk s args below D cA al B live Ret rf rl Y) (h : a ≤ rf ∧ b ≤ rl) : a ≤ Y.1.frames ∧ b ≤ Y.1.locals := ⟨Nat.le_trans h.1 hY.1, Nat.le_trans h.2 hY.2.1⟩
theorem am_pcU {p : Program} {s : State} {m : MethodId} {args : Array Value} {meth : Method} {c : Code} {D : va_G} {cA : Nat → ClassId} {al : Nat → Nat} {B : Nat} {H : Heap} {locs : List Loc} {M : am_M} {as : List Value} (hC : am_C p s m args meth c D cA al B own cc nL rt) (hP : am_P D cA al B live M H) (hS : va_S (fun q => B ≤ q) s.heap H locs) :
    ∀ U : State, U.heap = H → s.WarmedH U.vm → am_Pc D cA al B live as M (as.map (am_cv al)).toArray U := by
  intro U hU hW
  obtain ⟨hx, hb, hml, hown, hts, hlk, hr, hK, hB, hZ, hN⟩ := hC
  exact ⟨rfl, by rw [hU]; exact Nat.le_trans hB hS.1, by rw [hU]; exact hP, va_K.moved hW.alike hK, hZ.moved hW.alike (fun q h1 h2 => by rw [hU]; exact hS.2.1 q h1 h2), hN.warm hW⟩
theorem am_after {p : Program} {l : Launch} {e : Env} {s : State} {m : MethodId} {args a : Array Value} {below : List Frame} {meth : Method} {c : Code} {H : Heap} {locs : List Loc} {ls : Array Slot} {D : va_G} {cA : Nat → ClassId} {al : Nat → Nat} {B : Nat} {L : am_L} {st0 : List Value} {rest : List Value} {K : am_K} {R2 : am_R} {Y : am_Y}
    (hr : va_Run p l e Y.1 s m args below meth c H locs Y.2.1 Y.2.2.1 0 0 (F0 m pc ls st0) (rest.map (am_cv al)) (am_Qc D cA al B live R2 a) (fun q => B ≤ q)) (hS : va_S (fun q => B ≤ q) s.heap H locs) (hl : lv_has ls nL (am_lc al L))
    (hKK : ∀ pc' L' st' M', K pc' L' st' M' → am_W p l e Y s m args below meth c D cA al B live nL pc' L' st' M') (hR2 : ∀ v M', R2 v M' → K (pc + 3) L (v.toList ++ rest) M') :
    W p l e Y.1 s m args below meth c H locs Y.2.1 Y.2.2.1 Y.2.2.2 (F0 m pc ls st0) := by
  intro T hT X
  obtain ⟨v, st₀, t, T', L2, h0, X', hL, e1, e2, ⟨r, M', hk, hv, hP', hz, hkp⟩, st⟩ := hr T hT X
  have hv2 : v = r.map (am_cv al) := by injection hv
  subst hv2
  rw [h0] at hz hkp
  obtain ⟨t2, a1, b1⟩ := hKK _ _ _ _ (hR2 r M' hk) T'.heap (locs ++ L2) ls (by rw [e1]; exact hP')
    ⟨Nat.le_trans hS.1 (by rw [e1]; exact hz), fun q h1 h2 => by rw [e1, hkp q (Nat.lt_of_lt_of_le h1 hS.1) h2]; exact hS.2.1 q h1 h2, fun q hq => by
      rcases List.mem_append.mp hq with h | h
      · exact hS.2.2 q h
      · exact hL q h⟩ hl T' rfl X'
  refine ⟨t2, st t2 ?_, b1⟩
  cases r with
  | none => exact a1
  | some w => exact a1
theorem ak_callV {ci n idx maxL rf' rl' N : Nat} {y : MethodName} {bytes : ByteArray} {ret' : Option FieldType} {C : String} {F : u_T} {T : am_T} (hM : am_Met y bytes maxL ret' rf' rl' T) (hc : am_cl[ci]? = some (C, F, N)) (hy : y.cls = C ∧ y.cls ≠ "java/lang/invoke/MethodHandle" ∧ y.cls ≠ "java/lang/invoke/VarHandle" ∧ (parseMethodDescriptor y.desc).map (fun d => d.parameters.length) = some n)
    (hw : ∀ w ∈ ([.methodLink own idx y, .instanceMethod y, .selects C y y, .initialized C, .code y bytes maxL ret'] : List Cond), w ∈ am_ws) (hfr : rf' + 1 ≤ rf ∧ 8 + (maxL + 11) + rl' ≤ rl) (hd : decode cc pc = .ok (.invokevirtual idx, 3)) (hn : pc + 3 = nx) :
    am_ok own cc nL rt rf rl live Ret pc (am_callV live ci n T nx) := by
  subst hn
  intro p l e s m args below meth c D cA al B hC Y hY L st M K hKK h H locs ls hP hS hl
  unfold am_callV at h
  split at h
  · next q r hst =>
    obtain ⟨hbb, h⟩ := am_if_mp h
    rw [Bool.and_eq_true, Bool.and_eq_true] at hbb
    obtain ⟨⟨hO, hln⟩, hle⟩ := hbb
    obtain ⟨hlv, hsh⟩ := am_isO_spec hO
    have hln := Nat.eq_of_beq_eq_true hln
    have hle := Nat.le_of_ble_eq_true hle
    have hcell := hP.1 q hlv
    rw [am_ceF hsh] at hcell
    have hstk : st.map (am_cv al) = ((st.take n).reverse.map (am_cv al)).reverse ++ .ref (al q) :: r.map (am_cv al) := by
      rw [List.map_reverse, List.reverse_reverse]
      have e1 : st = st.take n ++ .ref q :: r := by rw [← hst]; exact (List.take_append_drop n st).symm
      conv => lhs; rw [e1]
      rw [List.map_append]
      rfl
    have hG : GoodIn am_ws (wsV own idx C y (.code y bytes maxL ret' :: am_ws)) := am_good_all _ (fun w hh => by
      rcases List.mem_append.mp hh with h1 | h1
      · exact hw w (by
          simp only [List.mem_cons, List.not_mem_nil, or_false] at h1 ⊢
          rcases h1 with h1 | h1 | h1 | h1
          · exact Or.inl h1
          · exact Or.inr (Or.inl h1)
          · exact Or.inr (Or.inr (Or.inl h1))
          · exact Or.inr (Or.inr (Or.inr (Or.inl h1))))
      · rcases List.mem_cons.mp h1 with h2 | h2
        · exact hw w (by rw [h2]; simp)
        · exact h2) rfl
    obtain ⟨hx, hb, hml, hown, hts, hlk, hr, hK, hB, hZ, hN⟩ := id hC
    have hrun := va_runV (p := p) (l := l) (e := e) (R := Y.1) (s := s) (m := m) (args := args) (below := below) (meth := meth) (c := c) (H := H) (locs := locs) (cells := Y.2.1) (slots := Y.2.2.1) (g := F0 m pc ls (st.map (am_cv al))) (As := (st.take n).reverse.map (am_cv al)) (rest := r.map (am_cv al)) (b := al q)
      ⟨hx, hb, hml, hown, hts⟩ (hM l D cA al B live (.ref q :: (st.take n).reverse) M _ h) (cwV n hts hG rfl rfl rfl hy (am_frm hY hfr)) ⟨am_blind, va_recv hK (am_P1 hcell) (ci := ci) (q0 := 0) hc rfl, am_pcU hC hP hS⟩ rfl (by rw [List.length_map, List.length_reverse]; exact hln) hl.1 hstk (lv_room (by rw [am_cats_cv]; exact hle)) hd ⟨hY.2.2.1, hY.2.2.2.1⟩
    exact am_after hrun hS hl hKK (fun v M' hk => hk)
  · exact h.elim
theorem ak_callS {n idx maxL rf' rl' : Nat} {y : MethodName} {bytes : ByteArray} {ret' : Option FieldType} {T : am_T} (hM : am_Met y bytes maxL ret' rf' rl' T) (hy : y.cls = own ∧ y.cls ≠ "java/lang/invoke/MethodHandle" ∧ y.cls ≠ "java/lang/invoke/VarHandle" ∧ (parseMethodDescriptor y.desc).map (fun d => d.parameters.length) = some n)
    (hw : ∀ w ∈ ([.methodLink own idx y, .static y, .initialized own, .code y bytes maxL ret'] : List Cond), w ∈ am_ws) (hfr : rf' + 1 ≤ rf ∧ 8 + (maxL + 11) + rl' ≤ rl) (hd : decode cc pc = .ok (.invokestatic idx, 3)) (hn : pc + 3 = nx) :
    am_ok own cc nL rt rf rl live Ret pc (am_callS live n T nx) := by
  subst hn
  intro p l e s m args below meth c D cA al B hC Y hY L st M K hKK h H locs ls hP hS hl
  unfold am_callS at h
  obtain ⟨hbb, h⟩ := am_if_mp h
  rw [Bool.and_eq_true] at hbb
  obtain ⟨hln, hle⟩ := hbb
  have hln := Nat.eq_of_beq_eq_true hln
  have hle := Nat.le_of_ble_eq_true hle
  have hstk : st.map (am_cv al) = ((st.take n).reverse.map (am_cv al)).reverse ++ (st.drop n).map (am_cv al) := by
    rw [List.map_reverse, List.reverse_reverse, ← List.map_append, List.take_append_drop]
  have hG : GoodIn am_ws (wsS own idx y (.code y bytes maxL ret' :: am_ws)) := am_good_all _ (fun w hh => by
    rcases List.mem_append.mp hh with h1 | h1
    · exact hw w (by
        simp only [List.mem_cons, List.not_mem_nil, or_false] at h1 ⊢
        rcases h1 with h1 | h1 | h1
        · exact Or.inl h1
        · exact Or.inr (Or.inl h1)
        · exact Or.inr (Or.inr (Or.inl h1)))
    · rcases List.mem_cons.mp h1 with h2 | h2
      · exact hw w (by rw [h2]; simp)
      · exact h2) rfl
  obtain ⟨hx, hb, hml, hown, hts, hlk, hr, hK, hB, hZ, hN⟩ := id hC
  have hrun := va_runS (p := p) (l := l) (e := e) (R := Y.1) (s := s) (m := m) (args := args) (below := below) (meth := meth) (c := c) (H := H) (locs := locs) (cells := Y.2.1) (slots := Y.2.2.1) (g := F0 m pc ls (st.map (am_cv al))) (As := (st.take n).reverse.map (am_cv al)) (rest := (st.drop n).map (am_cv al))
    ⟨hx, hb, hml, hown, hts⟩ (hM l D cA al B live (st.take n).reverse M _ h) (cwS n hts hG rfl rfl rfl hy (am_frm hY hfr)) ⟨am_blind, am_pcU hC hP hS⟩ rfl (by rw [List.length_map, List.length_reverse]; exact hln) hl.1 hstk (lv_room (by rw [am_cats_cv]; exact hle)) hd ⟨hY.2.2.1, hY.2.2.2.1⟩
  exact am_after hrun hS hl hKK (fun v M' hk => hk)
theorem ak_imax {idx : Nat} (hw : ∀ w ∈ ([.methodLink own idx Lib.Math.max.name, .static Lib.Math.max.name, .initialized "java/lang/Math", .code Lib.Math.max.name Lib.Math.max.code 2 (some .int)] : List Cond), w ∈ am_ws) (hfr : 1 ≤ rf) (hd : decode cc pc = .ok (.invokestatic idx, 3)) (hn : pc + 3 = nx) : am_ok own cc nL rt rf rl live Ret pc (am_math2 (fun x y => if x < y then y else x) rl nx) := by
  subst hn
  intro p l e s m args below meth c D cA al B hC Y hY L st M K hKK h H locs ls hP hS hl
  obtain ⟨hx, hb, hml, hown, hts, hlk, hr, hK, hB, hZ, hN⟩ := id hC
  unfold am_math2 at h
  split at h
  · obtain ⟨hbb, h⟩ := am_if_mp h
    have hle := Nat.le_of_ble_eq_true hbb
    exact va_mmax hx hb (by rw [hml]; exact hl.1.symm) hown (hts _ (hw _ (by simp))) (hts _ (hw _ (by simp))) (hts _ (hw _ (by simp))) (hts _ (hw _ (by simp))) (Nat.le_trans hfr hY.1) (by rw [am_cats_cv]; exact Nat.le_trans hle hY.2.1) hY.2.2.1 hY.2.2.2.1 hd (hKK _ _ _ _ h H locs ls hP hS hl)
  · exact h.elim
theorem ak_imin {idx : Nat} (hw : ∀ w ∈ ([.methodLink own idx Lib.Math.min.name, .static Lib.Math.min.name, .initialized "java/lang/Math", .code Lib.Math.min.name Lib.Math.min.code 2 (some .int)] : List Cond), w ∈ am_ws) (hfr : 1 ≤ rf) (hd : decode cc pc = .ok (.invokestatic idx, 3)) (hn : pc + 3 = nx) : am_ok own cc nL rt rf rl live Ret pc (am_math2 (fun x y => if y < x then y else x) rl nx) := by
  subst hn
  intro p l e s m args below meth c D cA al B hC Y hY L st M K hKK h H locs ls hP hS hl
  obtain ⟨hx, hb, hml, hown, hts, hlk, hr, hK, hB, hZ, hN⟩ := id hC
  unfold am_math2 at h
  split at h
  · obtain ⟨hbb, h⟩ := am_if_mp h
    have hle := Nat.le_of_ble_eq_true hbb
    exact va_mmin hx hb (by rw [hml]; exact hl.1.symm) hown (hts _ (hw _ (by simp))) (hts _ (hw _ (by simp))) (hts _ (hw _ (by simp))) (hts _ (hw _ (by simp))) (Nat.le_trans hfr hY.1) (by rw [am_cats_cv]; exact Nat.le_trans hle hY.2.1) hY.2.2.1 hY.2.2.2.1 hd (hKK _ _ _ _ h H locs ls hP hS hl)
  · exact h.elim
theorem ak_iabs {idx : Nat} (hw : ∀ w ∈ ([.methodLink own idx Lib.Math.abs.name, .static Lib.Math.abs.name, .initialized "java/lang/Math", .code Lib.Math.abs.name Lib.Math.abs.code 1 (some .int)] : List Cond), w ∈ am_ws) (hfr : 1 ≤ rf) (hd : decode cc pc = .ok (.invokestatic idx, 3)) (hn : pc + 3 = nx) : am_ok own cc nL rt rf rl live Ret pc (am_math1 (fun x => if 0 ≤ x then x else 0 - x) rl nx) := by
  subst hn
  intro p l e s m args below meth c D cA al B hC Y hY L st M K hKK h H locs ls hP hS hl
  obtain ⟨hx, hb, hml, hown, hts, hlk, hr, hK, hB, hZ, hN⟩ := id hC
  unfold am_math1 at h
  split at h
  · obtain ⟨hbb, h⟩ := am_if_mp h
    have hle := Nat.le_of_ble_eq_true hbb
    exact va_mabs hx hb (by rw [hml]; exact hl.1.symm) hown (hts _ (hw _ (by simp))) (hts _ (hw _ (by simp))) (hts _ (hw _ (by simp))) (hts _ (hw _ (by simp))) (Nat.le_trans hfr hY.1) (by rw [am_cats_cv]; exact Nat.le_trans hle hY.2.1) hY.2.2.1 hY.2.2.2.1 hd (hKK _ _ _ _ h H locs ls hP hS hl)
  · exact h.elim
theorem ak_lmax {idx : Nat} (hw : ∀ w ∈ ([.methodLink own idx Lib.MathLoose.max_long.x, .static Lib.MathLoose.max_long.x, .initialized "java/lang/Math", .code Lib.MathLoose.max_long.x Lib.MathLoose.max_long.code 4 (some .long)] : List Cond), w ∈ am_ws) (hfr : 1 ≤ rf) (hd : decode cc pc = .ok (.invokestatic idx, 3)) (hn : pc + 3 = nx) : am_ok own cc nL rt rf rl live Ret pc (am_mathl (fun x y => if y < x then x else y) rl nx) := by
  subst hn
  intro p l e s m args below meth c D cA al B hC Y hY L st M K hKK h H locs ls hP hS hl
  obtain ⟨hx, hb, hml, hown, hts, hlk, hr, hK, hB, hZ, hN⟩ := id hC
  unfold am_mathl at h
  split at h
  · obtain ⟨hbb, h⟩ := am_if_mp h
    have hle := Nat.le_of_ble_eq_true hbb
    exact va_mmax_long hx hb (by rw [hml]; exact hl.1.symm) hown (hts _ (hw _ (by simp))) (hts _ (hw _ (by simp))) (hts _ (hw _ (by simp))) (hts _ (hw _ (by simp))) (Nat.le_trans hfr hY.1) (by rw [am_cats_cv]; exact Nat.le_trans hle hY.2.1) hY.2.2.1 hY.2.2.2.1 hd (hKK _ _ _ _ h H locs ls hP hS hl)
  · exact h.elim
theorem ak_lmin {idx : Nat} (hw : ∀ w ∈ ([.methodLink own idx Lib.MathLoose.min_long.x, .static Lib.MathLoose.min_long.x, .initialized "java/lang/Math", .code Lib.MathLoose.min_long.x Lib.MathLoose.min_long.code 4 (some .long)] : List Cond), w ∈ am_ws) (hfr : 1 ≤ rf) (hd : decode cc pc = .ok (.invokestatic idx, 3)) (hn : pc + 3 = nx) : am_ok own cc nL rt rf rl live Ret pc (am_mathl (fun x y => if y < x then y else x) rl nx) := by
  subst hn
  intro p l e s m args below meth c D cA al B hC Y hY L st M K hKK h H locs ls hP hS hl
  obtain ⟨hx, hb, hml, hown, hts, hlk, hr, hK, hB, hZ, hN⟩ := id hC
  unfold am_mathl at h
  split at h
  · obtain ⟨hbb, h⟩ := am_if_mp h
    have hle := Nat.le_of_ble_eq_true hbb
    exact va_mmin_long hx hb (by rw [hml]; exact hl.1.symm) hown (hts _ (hw _ (by simp))) (hts _ (hw _ (by simp))) (hts _ (hw _ (by simp))) (hts _ (hw _ (by simp))) (Nat.le_trans hfr hY.1) (by rw [am_cats_cv]; exact Nat.le_trans hle hY.2.1) hY.2.2.1 hY.2.2.2.1 hd (hKK _ _ _ _ h H locs ls hP hS hl)
  · exact h.elim
/-- switches: what the bytes say, as a list of values and targets -/
def am_tsc (pc : Nat) (lo : Int) : List Int → List (Int32 × Nat)
  | [] => []
  | o :: os => (Int32.ofInt lo, ((pc : Int) + o).toNat) :: am_tsc pc (lo + 1) os
theorem ak_tswitch {dflt lo hi : Int} {offs : Array Int} {len d : Nat} {cs : List (Int32 × Nat)} (hd : decode cc pc = .ok (.tableswitch dflt lo hi offs, len)) (hcs : cs.map Prod.fst = (List.range offs.size).map (fun i : Nat => Int32.ofInt (lo + (i : Int)))) (htg : cs.map (fun q => (q.2 : Int)) = offs.toList.map (fun o => (pc : Int) + o)) (hdf : (pc : Int) + dflt = (d : Int))
    (hb1 : (-2147483648) ≤ lo) (hb2 : hi < 2147483648) (hsz : hi = lo + (offs.size : Int) - 1) : am_ok own cc nL rt rf rl live Ret pc (am_switch cs d) := by
  intro p l e s m args below meth c D cA al B hC Y hY L st M K hKK h H locs ls hP hS hl
  unfold am_switch at h
  split at h
  · next x r =>
    have key : ∀ (cs : List (Int32 × Nat)) (P : Nat → Prop), am_swc x cs d P → (∃ (i : Nat) (q : Int32 × Nat), cs[i]? = some q ∧ x = q.1 ∧ P q.2) ∨ ((∀ (i : Nat) (q : Int32 × Nat), cs[i]? = some q → x ≠ q.1) ∧ P d) := by
      intro cs
      induction cs with
      | nil => intro P hp; exact Or.inr ⟨fun i q hq => by simp at hq, hp⟩
      | cons a cs ih =>
        intro P hp
        by_cases hx : x = a.1
        · exact Or.inl ⟨0, a, rfl, hx, hp.1 hx⟩
        · rcases ih P (hp.2 hx) with ⟨i, q, h1, h2, h3⟩ | ⟨h1, h2⟩
          · exact Or.inl ⟨i + 1, q, h1, h2, h3⟩
          · refine Or.inr ⟨fun i q hq => ?_, h2⟩
            cases i with
            | zero => cases hq; exact hx
            | succ i => exact h1 i q hq
    have hsz2 : cs.length = offs.size := by
      have := congrArg List.length hcs
      simpa using this
    have hfst : ∀ (i : Nat) (q : Int32 × Nat), cs[i]? = some q → i < offs.size ∧ q.1 = Int32.ofInt (lo + (i : Int)) := by
      intro i q hq
      have hi : i < offs.size := by rw [← hsz2]; exact (List.getElem?_eq_some_iff.mp hq).1
      have h1 : (cs.map Prod.fst)[i]? = some q.1 := by rw [List.getElem?_map, hq]; rfl
      rw [hcs, List.getElem?_map, List.getElem?_range hi] at h1
      exact ⟨hi, (Option.some.inj h1).symm⟩
    have htoi : ∀ i : Nat, i < offs.size → (Int32.ofInt (lo + (i : Int))).toInt = lo + (i : Int) := by
      intro i hi
      exact Int32.toInt_ofInt_of_le (by omega) (by omega)
    rcases key cs _ h with ⟨i, q, h1, h2, h3⟩ | ⟨h1, h2⟩
    · obtain ⟨hi, hq⟩ := hfst i q h1
      have hxi : x.toInt = lo + (i : Int) := by rw [h2, hq]; exact htoi i hi
      have ho : (cs.map (fun q => (q.2 : Int)))[i]? = some (q.2 : Int) := by rw [List.getElem?_map, h1]; rfl
      rw [htg, List.getElem?_map] at ho
      cases hoo : offs.toList[i]? with
      | none => rw [hoo] at ho; cases ho
      | some off =>
        rw [hoo] at ho
        exact lv_tableIn hC.1 hC.2.1 hd (by omega) (by omega) (off := off) (by rw [show (x.toInt - lo).toNat = i by omega, ← Array.getElem?_toList]; exact hoo) (Option.some.inj ho) (hKK _ _ _ _ h3 H locs ls hP hS hl)
    · refine lv_tableOut hC.1 hC.2.1 hd ?_ hdf (hKK _ _ _ _ h2 H locs ls hP hS hl)
      rcases Int.lt_or_le x.toInt lo with h3 | h3
      · exact Or.inl h3
      · refine Or.inr ?_
        rcases Int.lt_or_le hi x.toInt with h4 | h4
        · exact h4
        · exfalso
          have hi2 : (x.toInt - lo).toNat < offs.size := by omega
          have hi3 : (x.toInt - lo).toNat < cs.length := by omega
          have h5 := List.getElem?_eq_getElem hi3
          have h6 := (hfst _ _ h5).2
          refine h1 _ _ h5 ?_
          rw [h6]
          apply Int32.toInt_inj.mp
          rw [htoi _ hi2]
          omega
  · exact h.elim
theorem ak_lswitch {dflt : Int} {ps : Array (Int × Int)} {len d : Nat} {cs : List (Int32 × Nat)} (hd : decode cc pc = .ok (.lookupswitch dflt ps, len)) (hp : (ps.toList.zip (ps.toList.drop 1)).all (fun (a, next) => a.1 < next.1) = true) (hcs : cs.map (fun q => (q.1.toInt, (q.2 : Int))) = ps.toList.map (fun q => (q.1, (pc : Int) + q.2))) (hdf : (pc : Int) + dflt = (d : Int)) : am_ok own cc nL rt rf rl live Ret pc (am_switch cs d) := by
  intro p l e s m args below meth c D cA al B hC Y hY L st M K hKK h H locs ls hP hS hl
  unfold am_switch at h
  split at h
  · next x r =>
    have key : ∀ (cs : List (Int32 × Nat)) (qs : List (Int × Int)) (P : Nat → Prop), cs.map (fun q => (q.1.toInt, (q.2 : Int))) = qs.map (fun q => (q.1, (pc : Int) + q.2)) → am_swc x cs d P → ∃ (off : Int) (tg : Nat), Op.lookupswitch.offset qs dflt x.toInt = off ∧ (pc : Int) + off = (tg : Int) ∧ P tg := by
      intro cs
      induction cs with
      | nil =>
        intro qs P he hp
        cases qs with
        | nil => exact ⟨dflt, d, rfl, hdf, hp⟩
        | cons b qs => simp at he
      | cons a cs ih =>
        intro qs P he hp
        cases qs with
        | nil => simp at he
        | cons b qs =>
          rw [List.map_cons, List.map_cons] at he
          injection he with he1 he2
          have e1 : a.1.toInt = b.1 := congrArg Prod.fst he1
          have e2 : (a.2 : Int) = (pc : Int) + b.2 := congrArg Prod.snd he1
          obtain ⟨b1, b2⟩ := b
          by_cases hx : x = a.1
          · refine ⟨b2, a.2, ?_, e2.symm, hp.1 hx⟩
            have e3 : x.toInt = b1 := by rw [hx]; exact e1
            simp [Op.lookupswitch.offset, e3]
          · obtain ⟨off, tg, h1, h2, h3⟩ := ih qs P he2 (hp.2 hx)
            refine ⟨off, tg, ?_, h2, h3⟩
            rw [lv_osw hx e1]
            exact h1
    obtain ⟨off, tg, h1, h2, h3⟩ := key cs ps.toList _ hcs h
    exact lv_lookup hC.1 hC.2.1 hd hp h1 h2 (hKK _ _ _ _ h3 H locs ls hP hS hl)
  · exact h.elim
end AKC
end
section
/-! System.arraycopy: the whole memory as one world of the kit's -/
def am_wl (live : am_E) : List Nat := (List.range 400).filter live.1
def am_ws0 (cA : Nat → ClassId) (al : Nat → Nat) (live : am_E) (M : am_M) : va_W := (am_wl live).map (fun n => (al n, am_ce live.2 cA al M n))
theorem am_wl_nd (live : am_E) : (am_wl live).Pairwise (fun a b => a ≠ b) := List.Pairwise.filter _ List.nodup_range
theorem am_wl_at {live : am_E} {n : Nat} (h : live.1 n = true) (hb : n < 400) : ∃ k : Nat, (am_wl live)[k]? = some n := List.getElem?_of_mem (List.mem_filter.mpr ⟨List.mem_range.mpr hb, h⟩)
theorem am_wl_live {live : am_E} {k n : Nat} (h : (am_wl live)[k]? = some n) : live.1 n = true := (List.mem_filter.mp (List.mem_of_getElem? h)).2
theorem am_ws0_at {cA : Nat → ClassId} {al : Nat → Nat} {live : am_E} {M : am_M} {k n : Nat} (h : (am_wl live)[k]? = some n) : (am_ws0 cA al live M)[k]? = some (al n, am_ce live.2 cA al M n) := by
  unfold am_ws0
  rw [List.getElem?_map, h]
  rfl
theorem am_ws0_of {cA : Nat → ClassId} {al : Nat → Nat} {live : am_E} {M : am_M} {k : Nat} {q : Nat × va_E} (h : (am_ws0 cA al live M)[k]? = some q) : ∃ n, (am_wl live)[k]? = some n ∧ q = (al n, am_ce live.2 cA al M n) := by
  unfold am_ws0 at h
  rw [List.getElem?_map] at h
  cases hn : (am_wl live)[k]? with
  | none => rw [hn] at h; cases h
  | some n => rw [hn] at h; exact ⟨n, rfl, (Option.some.inj h).symm⟩
theorem am_wl_inj {live : am_E} {i j n : Nat} (hi : (am_wl live)[i]? = some n) (hj : (am_wl live)[j]? = some n) : i = j := by
  obtain ⟨h1, e1⟩ := List.getElem?_eq_some_iff.mp hi
  obtain ⟨h2, e2⟩ := List.getElem?_eq_some_iff.mp hj
  have hp := List.pairwise_iff_getElem.mp (am_wl_nd live)
  rcases Nat.lt_trichotomy i j with h | h | h
  · exact absurd (e1.trans e2.symm) (hp i j h1 h2 h)
  · exact h
  · exact absurd (e2.trans e1.symm) (hp j i h2 h1 h)
theorem am_P_ws {D : va_G} {cA : Nat → ClassId} {al : Nat → Nat} {B : Nat} {live : am_E} {M : am_M} {H : Heap} (h : am_P D cA al B live M H) : va_P D am_cl (am_ws0 cA al live M) H ∧ va_D (fun q => B ≤ q) (am_ws0 cA al live M) := by
  refine ⟨fun k q hq => ?_, fun i j x y hx hy hxy => ?_, fun k q hq => ?_⟩
  · obtain ⟨n, hn, rfl⟩ := am_ws0_of hq
    exact h.1 n (am_wl_live hn)
  · obtain ⟨n, hn, rfl⟩ := am_ws0_of hx
    obtain ⟨m, hm, rfl⟩ := am_ws0_of hy
    have e := h.2.1 n m (am_wl_live hn) (am_wl_live hm) hxy
    subst e
    exact am_wl_inj hn hm
  · obtain ⟨n, hn, rfl⟩ := am_ws0_of hq
    exact h.2.2.1 n (am_wl_live hn)
theorem am_ws_P {D : va_G} {cA : Nat → ClassId} {al : Nat → Nat} {B : Nat} {live : am_E} {M M' : am_M} {H H1 : Heap} {d k : Nat} {e : va_E} (h : am_P D cA al B live M H) (hk : (am_wl live)[k]? = some d) (hP1 : va_P D am_cl ((am_ws0 cA al live M).set k (al d, e)) H1) (he : am_ce live.2 cA al M' d = e) (ho : ∀ m, m ≠ d → am_ce live.2 cA al M' m = am_ce live.2 cA al M m) : am_P D cA al B live M' H1 := by
  refine ⟨fun n hn => ?_, h.2⟩
  obtain ⟨j, hj⟩ := am_wl_at hn (h.2.2.2 n hn)
  have hlt : j < (am_ws0 cA al live M).length := by
    unfold am_ws0
    rw [List.length_map]
    exact (List.getElem?_eq_some_iff.mp hj).1
  by_cases hd : n = d
  · subst hd
    have hjk := am_wl_inj hj hk
    subst hjk
    have := hP1 j (al n, e) (by rw [List.getElem?_set_self hlt])
    rw [he]
    exact this
  · have hjk : k ≠ j := fun q => by
      subst q
      rw [hj] at hk
      exact hd (Option.some.inj hk)
    rw [ho n hd]
    exact hP1 j _ (by rw [List.getElem?_set_ne hjk]; exact am_ws0_at hj)
def am_cpw : Nat := nativeFrameWords "java/lang/System" "arraycopy" 5 + 11
def am_cpin (sp dp n : Int32) (ls ld : Nat) : Prop := 0 ≤ sp.toInt ∧ 0 ≤ dp.toInt ∧ 0 ≤ n.toInt ∧ sp.toInt + n.toInt ≤ (ls : Int) ∧ dp.toInt + n.toInt ≤ (ld : Int)
def am_copyI (live : am_E) (rl nx : Nat) : am_S := fun L st M K => match st with
  | .int n :: .int dp :: .ref d :: .int sp :: .ref q :: r => am_if (am_isA live 0 q && am_isA live 0 d && Nat.ble (am_cats r + 23) rl) (am_cpin sp dp n (am_len q) (am_len d) ∧ K nx L r (am_cI M d (va_cpy (M.1 q) (M.1 d) sp.toNatClampNeg dp.toNatClampNeg n.toNatClampNeg)))
  | _ => False
def am_copyJ (live : am_E) (rl nx : Nat) : am_S := fun L st M K => match st with
  | .int n :: .int dp :: .ref d :: .int sp :: .ref q :: r => am_if (am_isA live 1 q && am_isA live 1 d && Nat.ble (am_cats r + 23) rl) (am_cpin sp dp n (am_len q) (am_len d) ∧ K nx L r (am_cJ M d (va_cpy (M.2 q) (M.2 d) sp.toNatClampNeg dp.toNatClampNeg n.toNatClampNeg)))
  | _ => False
theorem am_cpw_le : am_cpw ≤ 23 := by decide +kernel
theorem am_nneg {z : Int32} (h : 0 ≤ z.toInt) : ¬ z < 0 ∧ (z.toNatClampNeg : Int) = z.toInt := by
  refine ⟨fun q => ?_, ?_⟩
  · have := Int32.lt_iff_toInt_lt.mp q
    rw [Int32.toInt_zero] at this
    omega
  · show ((z.toInt.toNat : Nat) : Int) = z.toInt
    omega
theorem ak_copyI {own : String} {cc : ByteArray} {nL : Nat} {rt : Option FieldType} {rf rl : Nat} {live : am_E} {Ret : am_R} {pc nx idx : Nat} (hw : ∀ w ∈ ([.methodLink own idx arraycopyName, .native arraycopyName, .static arraycopyName, .initialized "java/lang/System"] : List Cond), w ∈ am_ws) (hfr : 1 ≤ rf) (hd : decode cc pc = .ok (.invokestatic idx, 3)) (hn : pc + 3 = nx) : am_ok own cc nL rt rf rl live Ret pc (am_copyI live rl nx) := by
  subst hn
  intro p l e s m args below meth c D cA al B hC Y hY L st M K hKK h H locs ls hP hS hl
  obtain ⟨hx, hb, hml, hown, hts, hlk, hr, hK, hB, hZ, hN⟩ := id hC
  unfold am_copyI at h
  split at h
  · next n dp d sp q r =>
    obtain ⟨hbb, ⟨c1, c2, c3, c4, c5⟩, h⟩ := am_if_mp h
    rw [Bool.and_eq_true, Bool.and_eq_true] at hbb
    obtain ⟨⟨hq, hd2⟩, hle⟩ := hbb
    have hle := Nat.le_of_ble_eq_true hle
    obtain ⟨hlq, hsq⟩ := am_isA_spec hq
    obtain ⟨hld, hsd⟩ := am_isA_spec hd2
    obtain ⟨kq, hkq⟩ := am_wl_at hlq (hP.2.2.2 q hlq)
    obtain ⟨kd, hkd⟩ := am_wl_at hld (hP.2.2.2 d hld)
    obtain ⟨hP0, hD0⟩ := am_P_ws hP
    have e0 := am_ws0_at (cA := cA) (al := al) (M := M) hkq
    have e1 := am_ws0_at (cA := cA) (al := al) (M := M) hkd
    rw [am_ceA hsq, am_ae0 (t := 0) rfl] at e0
    rw [am_ceA hsd, am_ae0 (t := 0) rfl] at e1
    obtain ⟨n1, m1⟩ := am_nneg c1
    obtain ⟨n2, m2⟩ := am_nneg c2
    obtain ⟨n3, m3⟩ := am_nneg c3
    refine va_copyi (D := D) (cl := am_cl) (tys := am_tys cA) (ty := .int) hx hb (by rw [hml]; exact hl.1.symm) hown (hts _ (hw _ (by simp))) (hts _ (hw _ (by simp))) (hts _ (hw _ (by simp))) (hts _ (hw _ (by simp))) hK hP0 hD0 hS kq kd 0 0 e0 e1 rfl rfl rfl n1 n2 n3 (by omega) (by omega) (fun _ _ => rfl) (Nat.le_trans hfr hY.1) (by rw [am_cats_cv]; have := am_cpw_le; unfold am_cpw at this; refine Nat.le_trans ?_ hY.2.1; omega) hd (fun H1 locs1 hP1 hD1 hS1 => ?_)
    refine hKK _ _ _ _ h H1 locs1 ls (am_ws_P hP hkd hP1 ?_ (fun m hm => ?_)) hS1 hl
    · rw [am_ceA hsd, am_ae0 (t := 0) rfl]
      refine congrArg (fun f => Sum.inl (cA 0, am_len d, Sum.inl f)) ?_
      funext j
      exact if_pos rfl
    · refine am_ceO ?_ rfl
      funext j
      exact if_neg hm
  · exact h.elim
theorem ak_copyJ {own : String} {cc : ByteArray} {nL : Nat} {rt : Option FieldType} {rf rl : Nat} {live : am_E} {Ret : am_R} {pc nx idx : Nat} (hw : ∀ w ∈ ([.methodLink own idx arraycopyName, .native arraycopyName, .static arraycopyName, .initialized "java/lang/System"] : List Cond), w ∈ am_ws) (hfr : 1 ≤ rf) (hd : decode cc pc = .ok (.invokestatic idx, 3)) (hn : pc + 3 = nx) : am_ok own cc nL rt rf rl live Ret pc (am_copyJ live rl nx) := by
  subst hn
  intro p l e s m args below meth c D cA al B hC Y hY L st M K hKK h H locs ls hP hS hl
  obtain ⟨hx, hb, hml, hown, hts, hlk, hr, hK, hB, hZ, hN⟩ := id hC
  unfold am_copyJ at h
  split at h
  · next n dp d sp q r =>
    obtain ⟨hbb, ⟨c1, c2, c3, c4, c5⟩, h⟩ := am_if_mp h
    rw [Bool.and_eq_true, Bool.and_eq_true] at hbb
    obtain ⟨⟨hq, hd2⟩, hle⟩ := hbb
    have hle := Nat.le_of_ble_eq_true hle
    obtain ⟨hlq, hsq⟩ := am_isA_spec hq
    obtain ⟨hld, hsd⟩ := am_isA_spec hd2
    obtain ⟨kq, hkq⟩ := am_wl_at hlq (hP.2.2.2 q hlq)
    obtain ⟨kd, hkd⟩ := am_wl_at hld (hP.2.2.2 d hld)
    obtain ⟨hP0, hD0⟩ := am_P_ws hP
    have e0 := am_ws0_at (cA := cA) (al := al) (M := M) hkq
    have e1 := am_ws0_at (cA := cA) (al := al) (M := M) hkd
    rw [am_ceA hsq, am_ae1 (t := 1) rfl] at e0
    rw [am_ceA hsd, am_ae1 (t := 1) rfl] at e1
    obtain ⟨n1, m1⟩ := am_nneg c1
    obtain ⟨n2, m2⟩ := am_nneg c2
    obtain ⟨n3, m3⟩ := am_nneg c3
    refine va_copyl (D := D) (cl := am_cl) (tys := am_tys cA) (ty := .long) hx hb (by rw [hml]; exact hl.1.symm) hown (hts _ (hw _ (by simp))) (hts _ (hw _ (by simp))) (hts _ (hw _ (by simp))) (hts _ (hw _ (by simp))) hK hP0 hD0 hS kq kd 1 1 e0 e1 rfl rfl rfl n1 n2 n3 (by omega) (by omega) (fun _ _ => rfl) (Nat.le_trans hfr hY.1) (by rw [am_cats_cv]; have := am_cpw_le; unfold am_cpw at this; refine Nat.le_trans ?_ hY.2.1; omega) hd (fun H1 locs1 hP1 hD1 hS1 => ?_)
    refine hKK _ _ _ _ h H1 locs1 ls (am_ws_P hP hkd hP1 ?_ (fun m hm => ?_)) hS1 hl
    · rw [am_ceA hsd, am_ae1 (t := 1) rfl]
      refine congrArg (fun f => Sum.inl (cA 1, am_len d, Sum.inr (Sum.inl f))) ?_
      funext j
      exact if_pos rfl
    · refine am_ceO rfl ?_
      funext j
      exact if_neg hm
  · exact h.elim
end
section
/-! words by their places; helpers -/
theorem am_in_r (ws : List Cond) (ps : List Nat) (hp : ws = ps.filterMap (fun i => lw_tbl[i]?)) (h : ws.all goodWord = true) : ∀ w ∈ ws, w ∈ am_ws := by
  intro w hw
  have h1 := List.all_eq_true.mp h w hw
  rw [hp] at hw
  obtain ⟨i, -, hi⟩ := List.mem_filterMap.mp hw
  exact am_wsi (List.mem_of_getElem? hi) h1
theorem am_w4 {a b c d : Cond} (h1 : a ∈ am_ws) (h2 : b ∈ am_ws) (h3 : c ∈ am_ws) (h4 : d ∈ am_ws) : ∀ w ∈ ([a, b, c, d] : List Cond), w ∈ am_ws := by
  intro w hw
  simp only [List.mem_cons, List.not_mem_nil, or_false] at hw
  rcases hw with rfl | rfl | rfl | rfl <;> assumption
theorem am_w5 {a b c d e : Cond} (h1 : a ∈ am_ws) (h2 : b ∈ am_ws) (h3 : c ∈ am_ws) (h4 : d ∈ am_ws) (h5 : e ∈ am_ws) : ∀ w ∈ ([a, b, c, d, e] : List Cond), w ∈ am_ws := by
  intro w hw
  simp only [List.mem_cons, List.not_mem_nil, or_false] at hw
  rcases hw with rfl | rfl | rfl | rfl | rfl <;> assumption
theorem am_kc {P : Nat × am_S → Prop} {a : Nat × am_S} {l : am_code} (h : P a) (hl : ∀ q ∈ l, P q) : ∀ q ∈ a :: l, P q := fun q hq => by
  rcases List.mem_cons.mp hq with rfl | h2
  · exact h
  · exact hl q h2
theorem am_kn {P : Nat × am_S → Prop} : ∀ q ∈ ([] : am_code), P q := fun _ h => absurd h List.not_mem_nil
theorem inX0w : ∀ w ∈ u_ws RX0 TX0 13, w ∈ am_ws := am_in_r _ [228, 230, 232, 234, 236, 238, 240, 242, 244, 246, 248, 250, 252] (by decide +kernel) (by decide +kernel)
theorem inX1w : ∀ w ∈ u_ws RX1 TX1 7, w ∈ am_ws := am_in_r _ [275, 277, 279, 281, 283, 285, 287] (by decide +kernel) (by decide +kernel)
theorem inX2w : ∀ w ∈ u_ws RX2 TX2 8, w ∈ am_ws := am_in_r _ [123, 125, 127, 129, 131, 133, 135, 137] (by decide +kernel) (by decide +kernel)
theorem inX3w : ∀ w ∈ u_ws RX3 TX3 3, w ∈ am_ws := am_in_r _ [153, 155, 157] (by decide +kernel) (by decide +kernel)
theorem inX4w : ∀ w ∈ u_ws RX4 TX4 18, w ∈ am_ws := am_in_r _ [315, 317, 319, 321, 323, 325, 327, 329, 331, 333, 335, 337, 339, 341, 343, 345, 347, 349] (by decide +kernel) (by decide +kernel)
theorem inX5w : ∀ w ∈ u_ws RX5 TX5 7, w ∈ am_ws := am_in_r _ [178, 180, 182, 184, 186, 188, 190] (by decide +kernel) (by decide +kernel)
theorem inX6w : ∀ w ∈ u_ws RX6 TX6 9, w ∈ am_ws := am_in_r _ [366, 368, 370, 372, 374, 376, 378, 380, 382] (by decide +kernel) (by decide +kernel)
theorem inX7w : ∀ w ∈ u_ws RX7 TX7 4, w ∈ am_ws := am_in_r _ [391, 393, 395, 397] (by decide +kernel) (by decide +kernel)
theorem inX8w : ∀ w ∈ u_ws RX8 TX8 27, w ∈ am_ws := am_in_r _ [919, 921, 923, 925, 927, 929, 931, 933, 935, 937, 939, 941, 943, 945, 947, 949, 951, 953, 955, 957, 959, 961, 963, 965, 967, 969, 971] (by decide +kernel) (by decide +kernel)
end
section
/-! helpers for the conditions that come out -/
theorem i_lt (x y : Int32) : x < y ↔ x.toInt < y.toInt := Int32.lt_iff_toInt_lt
theorem i_le (x y : Int32) : x ≤ y ↔ x.toInt ≤ y.toInt := Int32.le_iff_toInt_le
theorem i_eq (x y : Int32) : x = y ↔ x.toInt = y.toInt := Int32.toInt_inj.symm
theorem am_in_of {j : Int32} {n : Nat} (h : n < 100000) (h1 : ¬ j < 0) (h2 : ¬ Int32.ofNat n ≤ j) : am_in j n := by
  have e : (Int32.ofNat n).toInt = (n : Int) := Int32.toInt_ofNat_small (by omega)
  rw [i_lt, Int32.toInt_zero] at h1
  rw [i_le, e] at h2
  exact ⟨by omega, by omega⟩
theorem am_in_no1 {j : Int32} {n : Nat} (h1 : j < 0) : ¬ am_in j n := by
  rw [i_lt, Int32.toInt_zero] at h1
  exact fun q => by have := q.1; omega
theorem am_in_no2 {j : Int32} {n : Nat} (h : n < 100000) (h2 : Int32.ofNat n ≤ j) : ¬ am_in j n := by
  have e : (Int32.ofNat n).toInt = (n : Int) := Int32.toInt_ofNat_small (by omega)
  rw [i_le, e] at h2
  exact fun q => by have := q.2; omega
def am_at (f : Nat → Int32) (n : Nat) (i : Int32) : Int32 := if 0 ≤ i.toInt ∧ i.toInt < (n : Int) then f i.toNatClampNeg else -1
theorem am_at_in {f : Nat → Int32} {n : Nat} {i : Int32} (h : am_in i n) : am_at f n i = f i.toNatClampNeg := if_pos h
theorem am_at_no {f : Nat → Int32} {n : Nat} {i : Int32} (h : ¬ am_in i n) : am_at f n i = -1 := if_neg h
/-- a store that may be left out -/
def am_wIc (q : Prop) [Decidable q] (M : am_M) (n k : Nat) (v : Int32) : am_M := (fun a b => if q ∧ a = n ∧ b = k then v else M.1 a b, M.2)
theorem am_wIc_t {q : Prop} [Decidable q] {M : am_M} {n k : Nat} {v : Int32} (h : q) : am_wIc q M n k v = am_wI M n k v := by
  unfold am_wIc am_wI
  simp only [h, true_and]
theorem am_wIc_f {q : Prop} [Decidable q] {M : am_M} {n k : Nat} {v : Int32} (h : ¬ q) : am_wIc q M n k v = M := by
  unfold am_wIc
  simp only [h, false_and, if_false]
/-- a stretch of an array laid with one number -/
def am_lay (M : am_M) (n : Nat) (lo hi : Int) (v : Int32) : am_M := (fun a b => if a = n ∧ lo ≤ (b : Int) ∧ (b : Int) ≤ hi then v else M.1 a b, M.2)
theorem i_add {x y : Int32} (h1 : -2147483648 ≤ x.toInt + y.toInt) (h2 : x.toInt + y.toInt < 2147483648) : (x + y).toInt = x.toInt + y.toInt := by
  rw [Int32.toInt_add]
  exact Int.bmod_eq_of_le (by omega) (by omega)
theorem i_sub {x y : Int32} (h1 : -2147483648 ≤ x.toInt - y.toInt) (h2 : x.toInt - y.toInt < 2147483648) : (x - y).toInt = x.toInt - y.toInt := by
  rw [Int32.toInt_sub]
  exact Int.bmod_eq_of_le (by omega) (by omega)
theorem i_mul {x y : Int32} (h1 : -2147483648 ≤ x.toInt * y.toInt) (h2 : x.toInt * y.toInt < 2147483648) : (x * y).toInt = x.toInt * y.toInt := by
  rw [Int32.toInt_mul]
  exact Int.bmod_eq_of_le (by omega) (by omega)
theorem i_nat {n : Nat} (h : n < 2147483648) : (Int32.ofNat n).toInt = (n : Int) := Int32.toInt_ofNat_small (by omega)
theorem i_clamp {x : Int32} (h : 0 ≤ x.toInt) : (x.toNatClampNeg : Int) = x.toInt := by
  show ((x.toInt.toNat : Nat) : Int) = x.toInt
  omega
theorem i_lo (x : Int32) : -2147483648 ≤ x.toInt := Int32.le_toInt x
theorem i_hi (x : Int32) : x.toInt < 2147483648 := Int32.toInt_lt x
/-- the main cells stand, the references are as they are made -/
def am_mn (live : am_E) : Prop := ∃ i1 i2 : Bool, live = (am_lv i1 i2, am_q i1 i2)
theorem am_lay_eq {M : am_M} {n : Nat} {lo hi lo' hi' : Int} {v : Int32} (h : ∀ b : Nat, (lo ≤ (b : Int) ∧ (b : Int) ≤ hi) ↔ (lo' ≤ (b : Int) ∧ (b : Int) ≤ hi')) : am_lay M n lo hi v = am_lay M n lo' hi' v := by
  unfold am_lay
  refine Prod.ext ?_ rfl
  funext a b
  simp only [h b]
theorem am_Mext {M M' : am_M} (h : ∀ a b, M.1 a b = M'.1 a b) (h2 : M.2 = M'.2) : M = M' := Prod.ext (funext fun a => funext fun b => h a b) h2
theorem am_lay_1 (M : am_M) (n : Nat) (lo hi : Int) (v : Int32) (a b : Nat) : (am_lay M n lo hi v).1 a b = if a = n ∧ lo ≤ (b : Int) ∧ (b : Int) ≤ hi then v else M.1 a b := rfl
theorem am_wI_1 (M : am_M) (n k : Nat) (v : Int32) (a b : Nat) : (am_wI M n k v).1 a b = if a = n ∧ b = k then v else M.1 a b := rfl
theorem am_wJ_1 (M : am_M) (n k : Nat) (v : Int64) (a b : Nat) : (am_wJ M n k v).2 a b = if a = n ∧ b = k then v else M.2 a b := rfl
theorem am_lay_nil {M : am_M} {n : Nat} {lo hi : Int} {v : Int32} (h : hi < lo) : am_lay M n lo hi v = M := by
  refine am_Mext (fun a b => ?_) rfl
  rw [am_lay_1, if_neg (fun q => by have := q.2; omega)]
theorem am_lay_put {M : am_M} {n k : Nat} {lo i : Int} {v : Int32} (h1 : lo ≤ i) (h2 : (k : Int) = i) : am_wI (am_lay M n lo (i - 1) v) n k v = am_lay M n lo i v := by
  refine am_Mext (fun a b => ?_) rfl
  rw [am_wI_1, am_lay_1, am_lay_1]
  by_cases e : a = n
  · subst e
    by_cases e2 : b = k
    · subst e2
      rw [if_pos ⟨rfl, rfl⟩, if_pos ⟨rfl, by omega, by omega⟩]
    · rw [if_neg (fun q => e2 q.2)]
      have : ((lo ≤ (b : Int) ∧ (b : Int) ≤ i - 1) ↔ (lo ≤ (b : Int) ∧ (b : Int) ≤ i)) := by omega
      simp only [this]
  · rw [if_neg (fun q => e q.1), if_neg (fun q => e q.1), if_neg (fun q => e q.1)]
/-! rows of numbers: the object r, its array c, of len numbers -/
def am_rc (live : am_E) (r c : Nat) : Bool := am_isO live 3 r && am_isA live 0 c && Nat.blt (am_len c) 100000
theorem am_rc_spec {live : am_E} {r c : Nat} (h : am_rc live r c = true) : am_isO live 3 r = true ∧ am_isA live 0 c = true ∧ am_len c < 100000 ∧ r ≠ c := by
  unfold am_rc at h
  rw [Bool.and_eq_true, Bool.and_eq_true] at h
  refine ⟨h.1.1, h.1.2, Nat.le_of_ble_eq_true h.2, fun e => ?_⟩
  subst e
  have h1 := (am_isO_spec h.1.1).2
  have h2 := (am_isA_spec h.1.2).2
  rw [h1] at h2
  cases h2
theorem am_OA {live : am_E} {r c ci t : Nat} (h1 : am_isO live ci r = true) (h2 : am_isA live t c = true) : r ≠ c := by
  intro e
  subst e
  have h1 := (am_isO_spec h1).2
  have h2 := (am_isA_spec h2).2
  rw [h1] at h2
  cases h2
theorem am_cI_1 (M : am_M) (n : Nat) (f : Nat → Int32) (a b : Nat) : (am_cI M n f).1 a b = if a = n then f b else M.1 a b := rfl
def am_ix (i : Int32) (n : Nat) : Prop := 0 ≤ i.toInt ∧ i.toInt < (n : Int)
/-- Rows.put as one store that may be left out -/
def am_rput (M : am_M) (r c : Nat) (a b v : Int32) : am_M := am_wIc (b < M.1 r 1 ∧ 0 ≤ (a * M.1 r 1 + b).toInt ∧ (a * M.1 r 1 + b).toInt < (am_len c : Int)) M c (a * M.1 r 1 + b).toNatClampNeg v
theorem am_rput_ne {M : am_M} {r c n k : Nat} {a b v : Int32} (h : n ≠ c) : (am_rput M r c a b v).1 n k = M.1 n k := by
  show (if _ ∧ n = c ∧ k = _ then v else M.1 n k) = _
  rw [if_neg (fun q => h q.2.1)]
theorem am_rput_t {M : am_M} {r c : Nat} {a b v : Int32} (h : b < M.1 r 1) (h2 : am_in (a * M.1 r 1 + b) (am_len c)) : am_rput M r c a b v = am_wI M c (a * M.1 r 1 + b).toNatClampNeg v := am_wIc_t ⟨h, h2⟩
theorem am_rput_f {M : am_M} {r c : Nat} {a b v : Int32} (h : ¬ (b < M.1 r 1 ∧ am_in (a * M.1 r 1 + b) (am_len c))) : am_rput M r c a b v = M := am_wIc_f h
def am_mixI (f : Nat → Int32) : Nat → Int64 → Int64
  | 0, h => h
  | n + 1, h => 31 * am_mixI f n h + (f n).toInt64
/-! what has changed at most -/
def am_ch (S : Nat → Nat → Prop) (M M' : am_M) : Prop := (∀ a b, ¬ S a b → M'.1 a b = M.1 a b) ∧ (∀ a b, ¬ S a b → M'.2 a b = M.2 a b)
theorem am_ch.rf {S : Nat → Nat → Prop} {M : am_M} : am_ch S M M := ⟨fun _ _ _ => rfl, fun _ _ _ => rfl⟩
theorem am_ch.tr {S : Nat → Nat → Prop} {M M' M'' : am_M} (h : am_ch S M M') (h2 : am_ch S M' M'') : am_ch S M M'' := ⟨fun a b q => (h2.1 a b q).trans (h.1 a b q), fun a b q => (h2.2 a b q).trans (h.2 a b q)⟩
theorem am_ch.mono {S S' : Nat → Nat → Prop} {M M' : am_M} (h : am_ch S M M') (hs : ∀ a b, S a b → S' a b) : am_ch S' M M' := ⟨fun a b q => h.1 a b (fun z => q (hs a b z)), fun a b q => h.2 a b (fun z => q (hs a b z))⟩
theorem am_ch.wI {S : Nat → Nat → Prop} {M M' : am_M} {n k : Nat} {v : Int32} (h : am_ch S M M') (hs : S n k) : am_ch S M (am_wI M' n k v) := by
  refine ⟨fun a b q => ?_, h.2⟩
  rw [am_wI_1, if_neg (fun z => q (by rw [z.1, z.2]; exact hs))]
  exact h.1 a b q
theorem am_ch.wJ {S : Nat → Nat → Prop} {M M' : am_M} {n k : Nat} {v : Int64} (h : am_ch S M M') (hs : S n k) : am_ch S M (am_wJ M' n k v) := by
  refine ⟨h.1, fun a b q => ?_⟩
  rw [am_wJ_1, if_neg (fun z => q (by rw [z.1, z.2]; exact hs))]
  exact h.2 a b q
theorem am_ch.cI {S : Nat → Nat → Prop} {M M' : am_M} {n : Nat} {f : Nat → Int32} (h : am_ch S M M') (hs : ∀ k, S n k) : am_ch S M (am_cI M' n f) := by
  refine ⟨fun a b q => ?_, h.2⟩
  rw [am_cI_1, if_neg (fun z => q (by rw [z]; exact hs b))]
  exact h.1 a b q
/-! texts: the object t, its characters s, its code c -/
def am_tc (live : am_E) (t s c : Nat) : Bool := am_isO live 5 t && am_isA live 0 s && am_isA live 0 c && Nat.beq (am_len s) 50 && Nat.beq (am_len c) 50 && !(Nat.beq s c)
theorem am_tc_spec {live : am_E} {t s c : Nat} (h : am_tc live t s c = true) : am_isO live 5 t = true ∧ am_isA live 0 s = true ∧ am_isA live 0 c = true ∧ am_len s = 50 ∧ am_len c = 50 ∧ s ≠ c ∧ t ≠ s ∧ t ≠ c := by
  unfold am_tc at h
  simp only [Bool.and_eq_true, Bool.not_eq_true'] at h
  obtain ⟨⟨⟨⟨⟨h1, h2⟩, h3⟩, h4⟩, h5⟩, h6⟩ := h
  exact ⟨h1, h2, h3, Nat.eq_of_beq_eq_true h4, Nat.eq_of_beq_eq_true h5, Nat.ne_of_beq_eq_false h6, am_OA h1 h2, am_OA h1 h3⟩
/-- a text's numbers are in their ranges -/
def am_tI (M : am_M) (t : Nat) : Prop := ∃ _ : Unit, (0 ≤ (M.1 t 2).toInt ∧ (M.1 t 2).toInt ≤ 50) ∧ (0 ≤ (M.1 t 3).toInt ∧ (M.1 t 3).toInt ≤ (M.1 t 5).toInt) ∧ (M.1 t 5).toInt ≤ 50
/-- what reading a text may change -/
def am_tS (t c a b : Nat) : Prop := a = c ∨ (a = t ∧ (b = 2 ∨ b = 3 ∨ b = 4 ∨ b = 6))
def am_tP (live : am_E) (t : Nat) (P : Nat → Nat → Prop) : Prop := ∃ s c, live.2 t 0 = some s ∧ live.2 t 1 = some c ∧ am_tc live t s c = true ∧ P s c
theorem am_tP_mp {live : am_E} {t : Nat} {P : Nat → Nat → Prop} (h : am_tP live t P) : ∃ s c, live.2 t 0 = some s ∧ live.2 t 1 = some c ∧ am_tc live t s c = true ∧ am_isO live 5 t = true ∧ am_isA live 0 s = true ∧ am_isA live 0 c = true ∧ am_len s = 50 ∧ am_len c = 50 ∧ s ≠ c ∧ t ≠ s ∧ t ≠ c ∧ P s c := by
  obtain ⟨s, c, h1, h2, hb, h⟩ := h
  obtain ⟨a1, a2, a3, a4, a5, a6, a7, a8⟩ := am_tc_spec hb
  exact ⟨s, c, h1, h2, hb, a1, a2, a3, a4, a5, a6, a7, a8, h⟩
theorem am_tI_of {M : am_M} {t : Nat} (h1 : 0 ≤ (M.1 t 2).toInt) (h2 : (M.1 t 2).toInt ≤ 50) (h3 : 0 ≤ (M.1 t 3).toInt) (h4 : (M.1 t 3).toInt ≤ (M.1 t 5).toInt) (h5 : (M.1 t 5).toInt ≤ 50) : am_tI M t := ⟨(), ⟨h1, h2⟩, ⟨h3, h4⟩, h5⟩
theorem am_tS_c {t c b : Nat} : am_tS t c c b := Or.inl rfl
theorem am_tS_2 {t c : Nat} : am_tS t c t 2 := Or.inr ⟨rfl, Or.inl rfl⟩
theorem am_tS_3 {t c : Nat} : am_tS t c t 3 := Or.inr ⟨rfl, Or.inr (Or.inl rfl)⟩
theorem am_tS_4 {t c : Nat} : am_tS t c t 4 := Or.inr ⟨rfl, Or.inr (Or.inr (Or.inl rfl))⟩
theorem am_tS_6 {t c : Nat} : am_tS t c t 6 := Or.inr ⟨rfl, Or.inr (Or.inr (Or.inr rfl))⟩
theorem am_ch.wIc {S : Nat → Nat → Prop} {M M' : am_M} {n k : Nat} {v : Int32} {q : Prop} [Decidable q] (h : am_ch S M M') (hs : S n k) : am_ch S M (am_wIc q M' n k v) := by
  by_cases hq : q
  · rw [am_wIc_t hq]; exact h.wI hs
  · rw [am_wIc_f hq]; exact h
theorem am_wIc_1 (q : Prop) [Decidable q] (M : am_M) (n k : Nat) (v : Int32) (a b : Nat) : (am_wIc q M n k v).1 a b = if q ∧ a = n ∧ b = k then v else M.1 a b := rfl
/-- the signs and the size stay -/
theorem am_ch_t5 {M M' : am_M} {t c : Nat} (h : am_ch (am_tS t c) M M') (hn : t ≠ c) : M'.1 t 5 = M.1 t 5 := h.1 t 5 (fun q => by
  rcases q with q | ⟨-, q | q | q | q⟩
  · exact hn q
  all_goals exact absurd q (by decide))
theorem am_ch_s {M M' : am_M} {t c s : Nat} (h : am_ch (am_tS t c) M M') (h1 : s ≠ c) (h2 : t ≠ s) (j : Nat) : M'.1 s j = M.1 s j := h.1 s j (fun q => by
  rcases q with q | ⟨q, -⟩
  · exact h1 q
  · exact h2 q.symm)
end
section
/-! small methods of the class -/
theorem dX7_within_0 : decode cX7_within 0 = .ok (.iload_n 0, 1) := by decide +kernel
theorem dX7_within_1 : decode cX7_within 1 = .ok (.iload_n 1, 1) := by decide +kernel
theorem dX7_within_2 : decode cX7_within 2 = .ok (.if_icmp .lt 12, 3) := by decide +kernel
theorem dX7_within_5 : decode cX7_within 5 = .ok (.iload_n 0, 1) := by decide +kernel
theorem dX7_within_6 : decode cX7_within 6 = .ok (.iload_n 2, 1) := by decide +kernel
theorem dX7_within_7 : decode cX7_within 7 = .ok (.if_icmp .gt 7, 3) := by decide +kernel
theorem dX7_within_10 : decode cX7_within 10 = .ok (.iconst 1, 1) := by decide +kernel
theorem dX7_within_11 : decode cX7_within 11 = .ok (.goto 4, 3) := by decide +kernel
theorem dX7_within_14 : decode cX7_within 14 = .ok (.iconst 0, 1) := by decide +kernel
theorem dX7_within_15 : decode cX7_within 15 = .ok (.ireturn, 1) := by decide +kernel
def kX7_within (live : am_E) (Ret : am_R) : am_code := [(0, am_iload 0 1), (1, am_iload 1 2), (2, am_if2 (fun x y => x < y) 14 5), (5, am_iload 0 6), (6, am_iload 2 7), (7, am_if2 (fun x y => y < x) 14 10), (10, am_const (.int 1) 11), (11, am_goto 15), (14, am_const (.int 0) 15), (15, am_retZ Ret)]
theorem koX7_within (live : am_E) (Ret : am_R) : ∀ q ∈ kX7_within live Ret, am_ok RX7 cX7_within 3 (some .boolean) 0 0 live Ret q.1 q.2 :=
  am_kc (ak_iload_n dX7_within_0 rfl rfl) <|
  am_kc (ak_iload_n dX7_within_1 rfl rfl) <|
  am_kc (ak_icmp_lt dX7_within_2 (by decide +kernel) rfl) <|
  am_kc (ak_iload_n dX7_within_5 rfl rfl) <|
  am_kc (ak_iload_n dX7_within_6 rfl rfl) <|
  am_kc (ak_icmp_gt dX7_within_7 (by decide +kernel) rfl) <|
  am_kc (ak_iconst dX7_within_10 (by decide +kernel) rfl) <|
  am_kc (ak_goto dX7_within_11 (by decide +kernel)) <|
  am_kc (ak_iconst dX7_within_14 (by decide +kernel) rfl) <|
  am_kc (ak_retZ dX7_within_15) <| am_kn
def TX7_within : am_T := fun _ as M R => match as with
  | [.int v, .int a, .int b] => R (some (.int (if a ≤ v ∧ v ≤ b then 1 else 0))) M
  | _ => False
set_option maxRecDepth 100000 in
set_option maxHeartbeats 4000000 in
theorem metX7_within : am_Met yX7_within cX7_within 3 (some .boolean) (0) (0) TX7_within := by
  refine am_met (own := RX7) (by decide +kernel) rfl kX7_within koX7_within 60 (fun _ _ _ _ _ => none) (fun live as M Ret h => ?_) (fun _ _ _ _ _ _ _ _ hI => by cases hI)
  unfold TX7_within at h
  split at h
  · next v a b =>
    refine ⟨Nat.le_of_ble_eq_true rfl, ?_⟩
    change am_wp _ _ _ _ [(0, Value.int v), (1, Value.int a), (2, Value.int b)] _ _
    repeat' (first | exact rfl | apply And.intro | intro hx | (refine Exists.intro _ (And.intro rfl ?_)))
    all_goals try first | (with_reducible change am_tI _ _) | (change Ret _ _) | (change Ret _ _ _) | (change Exists _)
    all_goals try dsimp only at *
    all_goals try exact absurd ‹(1000 : Int64) = 0› (by decide)
    all_goals first | (left; rfl) | (right; rfl) | grind
  · exact h.elim
theorem dX7_isYear_0 : decode cX7_isYear 0 = .ok (.iload_n 0, 1) := by decide +kernel
theorem dX7_isYear_1 : decode cX7_isYear 1 = .ok (.ifCond .lt 13, 3) := by decide +kernel
theorem dX7_isYear_4 : decode cX7_isYear 4 = .ok (.iload_n 0, 1) := by decide +kernel
theorem dX7_isYear_5 : decode cX7_isYear 5 = .ok (.bipush 40, 2) := by decide +kernel
theorem dX7_isYear_7 : decode cX7_isYear 7 = .ok (.if_icmp .ge 7, 3) := by decide +kernel
theorem dX7_isYear_10 : decode cX7_isYear 10 = .ok (.iconst 1, 1) := by decide +kernel
theorem dX7_isYear_11 : decode cX7_isYear 11 = .ok (.goto 4, 3) := by decide +kernel
theorem dX7_isYear_14 : decode cX7_isYear 14 = .ok (.iconst 0, 1) := by decide +kernel
theorem dX7_isYear_15 : decode cX7_isYear 15 = .ok (.ireturn, 1) := by decide +kernel
def kX7_isYear (live : am_E) (Ret : am_R) : am_code := [(0, am_iload 0 1), (1, am_if1 (fun x => x < 0) 14 4), (4, am_iload 0 5), (5, am_const (.int 40) 7), (7, am_if2 (fun x y => y ≤ x) 14 10), (10, am_const (.int 1) 11), (11, am_goto 15), (14, am_const (.int 0) 15), (15, am_retZ Ret)]
theorem koX7_isYear (live : am_E) (Ret : am_R) : ∀ q ∈ kX7_isYear live Ret, am_ok RX7 cX7_isYear 1 (some .boolean) 0 0 live Ret q.1 q.2 :=
  am_kc (ak_iload_n dX7_isYear_0 rfl rfl) <|
  am_kc (ak_if_lt dX7_isYear_1 (by decide +kernel) rfl) <|
  am_kc (ak_iload_n dX7_isYear_4 rfl rfl) <|
  am_kc (ak_bipush dX7_isYear_5 (by decide +kernel) rfl) <|
  am_kc (ak_icmp_ge dX7_isYear_7 (by decide +kernel) rfl) <|
  am_kc (ak_iconst dX7_isYear_10 (by decide +kernel) rfl) <|
  am_kc (ak_goto dX7_isYear_11 (by decide +kernel)) <|
  am_kc (ak_iconst dX7_isYear_14 (by decide +kernel) rfl) <|
  am_kc (ak_retZ dX7_isYear_15) <| am_kn
def TX7_isYear : am_T := fun _ as M R => match as with
  | [.int v] => R (some (.int (if 0 ≤ v ∧ v < 40 then 1 else 0))) M
  | _ => False
set_option maxRecDepth 100000 in
set_option maxHeartbeats 4000000 in
theorem metX7_isYear : am_Met yX7_isYear cX7_isYear 1 (some .boolean) (0) (0) TX7_isYear := by
  refine am_met (own := RX7) (by decide +kernel) rfl kX7_isYear koX7_isYear 60 (fun _ _ _ _ _ => none) (fun live as M Ret h => ?_) (fun _ _ _ _ _ _ _ _ hI => by cases hI)
  unfold TX7_isYear at h
  split at h
  · next v =>
    refine ⟨Nat.le_of_ble_eq_true rfl, ?_⟩
    change am_wp _ _ _ _ [(0, Value.int v)] _ _
    repeat' (first | exact rfl | apply And.intro | intro hx | (refine Exists.intro _ (And.intro rfl ?_)))
    all_goals try first | (with_reducible change am_tI _ _) | (change Ret _ _) | (change Ret _ _ _) | (change Exists _)
    all_goals try dsimp only at *
    all_goals try exact absurd ‹(1000 : Int64) = 0› (by decide)
    all_goals first | (left; rfl) | (right; rfl) | grind
  · exact h.elim
theorem dX7_isSpan_0 : decode cX7_isSpan 0 = .ok (.iload_n 0, 1) := by decide +kernel
theorem dX7_isSpan_1 : decode cX7_isSpan 1 = .ok (.ifCond .lt 18, 3) := by decide +kernel
theorem dX7_isSpan_4 : decode cX7_isSpan 4 = .ok (.iload_n 0, 1) := by decide +kernel
theorem dX7_isSpan_5 : decode cX7_isSpan 5 = .ok (.iload_n 1, 1) := by decide +kernel
theorem dX7_isSpan_6 : decode cX7_isSpan 6 = .ok (.if_icmp .gt 13, 3) := by decide +kernel
theorem dX7_isSpan_9 : decode cX7_isSpan 9 = .ok (.iload_n 1, 1) := by decide +kernel
theorem dX7_isSpan_10 : decode cX7_isSpan 10 = .ok (.bipush 40, 2) := by decide +kernel
theorem dX7_isSpan_12 : decode cX7_isSpan 12 = .ok (.if_icmp .ge 7, 3) := by decide +kernel
theorem dX7_isSpan_15 : decode cX7_isSpan 15 = .ok (.iconst 1, 1) := by decide +kernel
theorem dX7_isSpan_16 : decode cX7_isSpan 16 = .ok (.goto 4, 3) := by decide +kernel
theorem dX7_isSpan_19 : decode cX7_isSpan 19 = .ok (.iconst 0, 1) := by decide +kernel
theorem dX7_isSpan_20 : decode cX7_isSpan 20 = .ok (.ireturn, 1) := by decide +kernel
def kX7_isSpan (live : am_E) (Ret : am_R) : am_code := [(0, am_iload 0 1), (1, am_if1 (fun x => x < 0) 19 4), (4, am_iload 0 5), (5, am_iload 1 6), (6, am_if2 (fun x y => y < x) 19 9), (9, am_iload 1 10), (10, am_const (.int 40) 12), (12, am_if2 (fun x y => y ≤ x) 19 15), (15, am_const (.int 1) 16), (16, am_goto 20), (19, am_const (.int 0) 20), (20, am_retZ Ret)]
theorem koX7_isSpan (live : am_E) (Ret : am_R) : ∀ q ∈ kX7_isSpan live Ret, am_ok RX7 cX7_isSpan 2 (some .boolean) 0 0 live Ret q.1 q.2 :=
  am_kc (ak_iload_n dX7_isSpan_0 rfl rfl) <|
  am_kc (ak_if_lt dX7_isSpan_1 (by decide +kernel) rfl) <|
  am_kc (ak_iload_n dX7_isSpan_4 rfl rfl) <|
  am_kc (ak_iload_n dX7_isSpan_5 rfl rfl) <|
  am_kc (ak_icmp_gt dX7_isSpan_6 (by decide +kernel) rfl) <|
  am_kc (ak_iload_n dX7_isSpan_9 rfl rfl) <|
  am_kc (ak_bipush dX7_isSpan_10 (by decide +kernel) rfl) <|
  am_kc (ak_icmp_ge dX7_isSpan_12 (by decide +kernel) rfl) <|
  am_kc (ak_iconst dX7_isSpan_15 (by decide +kernel) rfl) <|
  am_kc (ak_goto dX7_isSpan_16 (by decide +kernel)) <|
  am_kc (ak_iconst dX7_isSpan_19 (by decide +kernel) rfl) <|
  am_kc (ak_retZ dX7_isSpan_20) <| am_kn
def TX7_isSpan : am_T := fun _ as M R => match as with
  | [.int a, .int b] => R (some (.int (if 0 ≤ a ∧ a ≤ b ∧ b < 40 then 1 else 0))) M
  | _ => False
set_option maxRecDepth 100000 in
set_option maxHeartbeats 4000000 in
theorem metX7_isSpan : am_Met yX7_isSpan cX7_isSpan 2 (some .boolean) (0) (0) TX7_isSpan := by
  refine am_met (own := RX7) (by decide +kernel) rfl kX7_isSpan koX7_isSpan 60 (fun _ _ _ _ _ => none) (fun live as M Ret h => ?_) (fun _ _ _ _ _ _ _ _ hI => by cases hI)
  unfold TX7_isSpan at h
  split at h
  · next a b =>
    refine ⟨Nat.le_of_ble_eq_true rfl, ?_⟩
    change am_wp _ _ _ _ [(0, Value.int a), (1, Value.int b)] _ _
    repeat' (first | exact rfl | apply And.intro | intro hx | (refine Exists.intro _ (And.intro rfl ?_)))
    all_goals try first | (with_reducible change am_tI _ _) | (change Ret _ _) | (change Ret _ _ _) | (change Exists _)
    all_goals try dsimp only at *
    all_goals try exact absurd ‹(1000 : Int64) = 0› (by decide)
    all_goals first | (left; rfl) | (right; rfl) | grind
  · exact h.elim
theorem wd_446 : Cond.constant "LearnLoans" 275 10000000 ∈ am_ws := am_wsi (List.mem_of_getElem? (i := 446) (by decide +kernel)) (by decide +kernel)
theorem dX7_isPence_0 : decode cX7_isPence 0 = .ok (.iload_n 0, 1) := by decide +kernel
theorem dX7_isPence_1 : decode cX7_isPence 1 = .ok (.ifCond .lt 14, 3) := by decide +kernel
theorem dX7_isPence_4 : decode cX7_isPence 4 = .ok (.iload_n 0, 1) := by decide +kernel
theorem dX7_isPence_5 : decode cX7_isPence 5 = .ok (.ldc_w 275, 3) := by decide +kernel
theorem dX7_isPence_8 : decode cX7_isPence 8 = .ok (.if_icmp .gt 7, 3) := by decide +kernel
theorem dX7_isPence_11 : decode cX7_isPence 11 = .ok (.iconst 1, 1) := by decide +kernel
theorem dX7_isPence_12 : decode cX7_isPence 12 = .ok (.goto 4, 3) := by decide +kernel
theorem dX7_isPence_15 : decode cX7_isPence 15 = .ok (.iconst 0, 1) := by decide +kernel
theorem dX7_isPence_16 : decode cX7_isPence 16 = .ok (.ireturn, 1) := by decide +kernel
def kX7_isPence (live : am_E) (Ret : am_R) : am_code := [(0, am_iload 0 1), (1, am_if1 (fun x => x < 0) 15 4), (4, am_iload 0 5), (5, am_const (.int 10000000) 8), (8, am_if2 (fun x y => y < x) 15 11), (11, am_const (.int 1) 12), (12, am_goto 16), (15, am_const (.int 0) 16), (16, am_retZ Ret)]
theorem koX7_isPence (live : am_E) (Ret : am_R) : ∀ q ∈ kX7_isPence live Ret, am_ok RX7 cX7_isPence 1 (some .boolean) 0 0 live Ret q.1 q.2 :=
  am_kc (ak_iload_n dX7_isPence_0 rfl rfl) <|
  am_kc (ak_if_lt dX7_isPence_1 (by decide +kernel) rfl) <|
  am_kc (ak_iload_n dX7_isPence_4 rfl rfl) <|
  am_kc (ak_ldcw wd_446 dX7_isPence_5 rfl) <|
  am_kc (ak_icmp_gt dX7_isPence_8 (by decide +kernel) rfl) <|
  am_kc (ak_iconst dX7_isPence_11 (by decide +kernel) rfl) <|
  am_kc (ak_goto dX7_isPence_12 (by decide +kernel)) <|
  am_kc (ak_iconst dX7_isPence_15 (by decide +kernel) rfl) <|
  am_kc (ak_retZ dX7_isPence_16) <| am_kn
def TX7_isPence : am_T := fun _ as M R => match as with
  | [.int v] => R (some (.int (if 0 ≤ v ∧ v ≤ 10000000 then 1 else 0))) M
  | _ => False
set_option maxRecDepth 100000 in
set_option maxHeartbeats 4000000 in
theorem metX7_isPence : am_Met yX7_isPence cX7_isPence 1 (some .boolean) (0) (0) TX7_isPence := by
  refine am_met (own := RX7) (by decide +kernel) rfl kX7_isPence koX7_isPence 60 (fun _ _ _ _ _ => none) (fun live as M Ret h => ?_) (fun _ _ _ _ _ _ _ _ hI => by cases hI)
  unfold TX7_isPence at h
  split at h
  · next v =>
    refine ⟨Nat.le_of_ble_eq_true rfl, ?_⟩
    change am_wp _ _ _ _ [(0, Value.int v)] _ _
    repeat' (first | exact rfl | apply And.intro | intro hx | (refine Exists.intro _ (And.intro rfl ?_)))
    all_goals try first | (with_reducible change am_tI _ _) | (change Ret _ _) | (change Ret _ _ _) | (change Exists _)
    all_goals try dsimp only at *
    all_goals try exact absurd ‹(1000 : Int64) = 0› (by decide)
    all_goals first | (left; rfl) | (right; rfl) | grind
  · exact h.elim
theorem dX7_isPlan_0 : decode cX7_isPlan 0 = .ok (.iload_n 0, 1) := by decide +kernel
theorem dX7_isPlan_1 : decode cX7_isPlan 1 = .ok (.ifCond .lt 12, 3) := by decide +kernel
theorem dX7_isPlan_4 : decode cX7_isPlan 4 = .ok (.iload_n 0, 1) := by decide +kernel
theorem dX7_isPlan_5 : decode cX7_isPlan 5 = .ok (.iconst 5, 1) := by decide +kernel
theorem dX7_isPlan_6 : decode cX7_isPlan 6 = .ok (.if_icmp .ge 7, 3) := by decide +kernel
theorem dX7_isPlan_9 : decode cX7_isPlan 9 = .ok (.iconst 1, 1) := by decide +kernel
theorem dX7_isPlan_10 : decode cX7_isPlan 10 = .ok (.goto 4, 3) := by decide +kernel
theorem dX7_isPlan_13 : decode cX7_isPlan 13 = .ok (.iconst 0, 1) := by decide +kernel
theorem dX7_isPlan_14 : decode cX7_isPlan 14 = .ok (.ireturn, 1) := by decide +kernel
def kX7_isPlan (live : am_E) (Ret : am_R) : am_code := [(0, am_iload 0 1), (1, am_if1 (fun x => x < 0) 13 4), (4, am_iload 0 5), (5, am_const (.int 5) 6), (6, am_if2 (fun x y => y ≤ x) 13 9), (9, am_const (.int 1) 10), (10, am_goto 14), (13, am_const (.int 0) 14), (14, am_retZ Ret)]
theorem koX7_isPlan (live : am_E) (Ret : am_R) : ∀ q ∈ kX7_isPlan live Ret, am_ok RX7 cX7_isPlan 1 (some .boolean) 0 0 live Ret q.1 q.2 :=
  am_kc (ak_iload_n dX7_isPlan_0 rfl rfl) <|
  am_kc (ak_if_lt dX7_isPlan_1 (by decide +kernel) rfl) <|
  am_kc (ak_iload_n dX7_isPlan_4 rfl rfl) <|
  am_kc (ak_iconst dX7_isPlan_5 (by decide +kernel) rfl) <|
  am_kc (ak_icmp_ge dX7_isPlan_6 (by decide +kernel) rfl) <|
  am_kc (ak_iconst dX7_isPlan_9 (by decide +kernel) rfl) <|
  am_kc (ak_goto dX7_isPlan_10 (by decide +kernel)) <|
  am_kc (ak_iconst dX7_isPlan_13 (by decide +kernel) rfl) <|
  am_kc (ak_retZ dX7_isPlan_14) <| am_kn
def TX7_isPlan : am_T := fun _ as M R => match as with
  | [.int v] => R (some (.int (if 0 ≤ v ∧ v < 5 then 1 else 0))) M
  | _ => False
set_option maxRecDepth 100000 in
set_option maxHeartbeats 4000000 in
theorem metX7_isPlan : am_Met yX7_isPlan cX7_isPlan 1 (some .boolean) (0) (0) TX7_isPlan := by
  refine am_met (own := RX7) (by decide +kernel) rfl kX7_isPlan koX7_isPlan 60 (fun _ _ _ _ _ => none) (fun live as M Ret h => ?_) (fun _ _ _ _ _ _ _ _ hI => by cases hI)
  unfold TX7_isPlan at h
  split at h
  · next v =>
    refine ⟨Nat.le_of_ble_eq_true rfl, ?_⟩
    change am_wp _ _ _ _ [(0, Value.int v)] _ _
    repeat' (first | exact rfl | apply And.intro | intro hx | (refine Exists.intro _ (And.intro rfl ?_)))
    all_goals try first | (with_reducible change am_tI _ _) | (change Ret _ _) | (change Ret _ _ _) | (change Exists _)
    all_goals try dsimp only at *
    all_goals try exact absurd ‹(1000 : Int64) = 0› (by decide)
    all_goals first | (left; rfl) | (right; rfl) | grind
  · exact h.elim
theorem dX7_isChance_0 : decode cX7_isChance 0 = .ok (.iload_n 0, 1) := by decide +kernel
theorem dX7_isChance_1 : decode cX7_isChance 1 = .ok (.ifCond .lt 13, 3) := by decide +kernel
theorem dX7_isChance_4 : decode cX7_isChance 4 = .ok (.iload_n 0, 1) := by decide +kernel
theorem dX7_isChance_5 : decode cX7_isChance 5 = .ok (.bipush 10, 2) := by decide +kernel
theorem dX7_isChance_7 : decode cX7_isChance 7 = .ok (.if_icmp .gt 7, 3) := by decide +kernel
theorem dX7_isChance_10 : decode cX7_isChance 10 = .ok (.iconst 1, 1) := by decide +kernel
theorem dX7_isChance_11 : decode cX7_isChance 11 = .ok (.goto 4, 3) := by decide +kernel
theorem dX7_isChance_14 : decode cX7_isChance 14 = .ok (.iconst 0, 1) := by decide +kernel
theorem dX7_isChance_15 : decode cX7_isChance 15 = .ok (.ireturn, 1) := by decide +kernel
def kX7_isChance (live : am_E) (Ret : am_R) : am_code := [(0, am_iload 0 1), (1, am_if1 (fun x => x < 0) 14 4), (4, am_iload 0 5), (5, am_const (.int 10) 7), (7, am_if2 (fun x y => y < x) 14 10), (10, am_const (.int 1) 11), (11, am_goto 15), (14, am_const (.int 0) 15), (15, am_retZ Ret)]
theorem koX7_isChance (live : am_E) (Ret : am_R) : ∀ q ∈ kX7_isChance live Ret, am_ok RX7 cX7_isChance 1 (some .boolean) 0 0 live Ret q.1 q.2 :=
  am_kc (ak_iload_n dX7_isChance_0 rfl rfl) <|
  am_kc (ak_if_lt dX7_isChance_1 (by decide +kernel) rfl) <|
  am_kc (ak_iload_n dX7_isChance_4 rfl rfl) <|
  am_kc (ak_bipush dX7_isChance_5 (by decide +kernel) rfl) <|
  am_kc (ak_icmp_gt dX7_isChance_7 (by decide +kernel) rfl) <|
  am_kc (ak_iconst dX7_isChance_10 (by decide +kernel) rfl) <|
  am_kc (ak_goto dX7_isChance_11 (by decide +kernel)) <|
  am_kc (ak_iconst dX7_isChance_14 (by decide +kernel) rfl) <|
  am_kc (ak_retZ dX7_isChance_15) <| am_kn
def TX7_isChance : am_T := fun _ as M R => match as with
  | [.int v] => R (some (.int (if 0 ≤ v ∧ v ≤ 10 then 1 else 0))) M
  | _ => False
set_option maxRecDepth 100000 in
set_option maxHeartbeats 4000000 in
theorem metX7_isChance : am_Met yX7_isChance cX7_isChance 1 (some .boolean) (0) (0) TX7_isChance := by
  refine am_met (own := RX7) (by decide +kernel) rfl kX7_isChance koX7_isChance 60 (fun _ _ _ _ _ => none) (fun live as M Ret h => ?_) (fun _ _ _ _ _ _ _ _ hI => by cases hI)
  unfold TX7_isChance at h
  split at h
  · next v =>
    refine ⟨Nat.le_of_ble_eq_true rfl, ?_⟩
    change am_wp _ _ _ _ [(0, Value.int v)] _ _
    repeat' (first | exact rfl | apply And.intro | intro hx | (refine Exists.intro _ (And.intro rfl ?_)))
    all_goals try first | (with_reducible change am_tI _ _) | (change Ret _ _) | (change Ret _ _ _) | (change Exists _)
    all_goals try dsimp only at *
    all_goals try exact absurd ‹(1000 : Int64) = 0› (by decide)
    all_goals first | (left; rfl) | (right; rfl) | grind
  · exact h.elim
theorem wd_148 : Cond.fieldLink "LearnLoans$Rows" 15 "LearnLoans$Rows" "wide" "I" ∈ am_ws := am_wsi (List.mem_of_getElem? (i := 148) (by decide +kernel)) (by decide +kernel)
theorem wd_147 : Cond.fieldLink "LearnLoans$Rows" 9 "LearnLoans$Rows" "cells" "[I" ∈ am_ws := am_wsi (List.mem_of_getElem? (i := 147) (by decide +kernel)) (by decide +kernel)
theorem dX3_at_0 : decode cX3_at 0 = .ok (.iload_n 1, 1) := by decide +kernel
theorem dX3_at_1 : decode cX3_at 1 = .ok (.aload_n 0, 1) := by decide +kernel
theorem dX3_at_2 : decode cX3_at 2 = .ok (.getfield 15, 3) := by decide +kernel
theorem dX3_at_5 : decode cX3_at 5 = .ok (.imul, 1) := by decide +kernel
theorem dX3_at_6 : decode cX3_at 6 = .ok (.iload_n 2, 1) := by decide +kernel
theorem dX3_at_7 : decode cX3_at 7 = .ok (.iadd, 1) := by decide +kernel
theorem dX3_at_8 : decode cX3_at 8 = .ok (.istore_n 3, 1) := by decide +kernel
theorem dX3_at_9 : decode cX3_at 9 = .ok (.iload_n 3, 1) := by decide +kernel
theorem dX3_at_10 : decode cX3_at 10 = .ok (.ifCond .lt 21, 3) := by decide +kernel
theorem dX3_at_13 : decode cX3_at 13 = .ok (.iload_n 3, 1) := by decide +kernel
theorem dX3_at_14 : decode cX3_at 14 = .ok (.aload_n 0, 1) := by decide +kernel
theorem dX3_at_15 : decode cX3_at 15 = .ok (.getfield 9, 3) := by decide +kernel
theorem dX3_at_18 : decode cX3_at 18 = .ok (.arraylength, 1) := by decide +kernel
theorem dX3_at_19 : decode cX3_at 19 = .ok (.if_icmp .ge 12, 3) := by decide +kernel
theorem dX3_at_22 : decode cX3_at 22 = .ok (.aload_n 0, 1) := by decide +kernel
theorem dX3_at_23 : decode cX3_at 23 = .ok (.getfield 9, 3) := by decide +kernel
theorem dX3_at_26 : decode cX3_at 26 = .ok (.iload_n 3, 1) := by decide +kernel
theorem dX3_at_27 : decode cX3_at 27 = .ok (.iaload, 1) := by decide +kernel
theorem dX3_at_28 : decode cX3_at 28 = .ok (.goto 4, 3) := by decide +kernel
theorem dX3_at_31 : decode cX3_at 31 = .ok (.iconst (-1), 1) := by decide +kernel
theorem dX3_at_32 : decode cX3_at 32 = .ok (.ireturn, 1) := by decide +kernel
def kX3_at (live : am_E) (Ret : am_R) : am_code := [(0, am_iload 1 1), (1, am_aload 0 2), (2, am_getI live 3 1 5), (5, am_i2 (fun x y => x * y) 6), (6, am_iload 2 7), (7, am_i2 (fun x y => x + y) 8), (8, am_istore 3 4 9), (9, am_iload 3 10), (10, am_if1 (fun x => x < 0) 31 13), (13, am_iload 3 14), (14, am_aload 0 15), (15, am_getR live 3 0 18), (18, am_alen live 0 19), (19, am_if2 (fun x y => y ≤ x) 31 22), (22, am_aload 0 23), (23, am_getR live 3 0 26), (26, am_iload 3 27), (27, am_ald live 0 28), (28, am_goto 32), (31, am_const (.int (-1)) 32), (32, am_retI Ret)]
theorem koX3_at (live : am_E) (Ret : am_R) : ∀ q ∈ kX3_at live Ret, am_ok RX3 cX3_at 4 (some .int) 0 0 live Ret q.1 q.2 :=
  am_kc (ak_iload_n dX3_at_0 rfl rfl) <|
  am_kc (ak_aload_n dX3_at_1 rfl rfl) <|
  am_kc (ak_getI (C := RX3) (T := TX3) (N := 3) rfl inX3w (by decide) rfl rfl rfl wd_148 dX3_at_2 rfl) <|
  am_kc (ak_imul dX3_at_5 rfl) <|
  am_kc (ak_iload_n dX3_at_6 rfl rfl) <|
  am_kc (ak_iadd dX3_at_7 rfl) <|
  am_kc (ak_istore_n dX3_at_8 rfl rfl) <|
  am_kc (ak_iload_n dX3_at_9 rfl rfl) <|
  am_kc (ak_if_lt dX3_at_10 (by decide +kernel) rfl) <|
  am_kc (ak_iload_n dX3_at_13 rfl rfl) <|
  am_kc (ak_aload_n dX3_at_14 rfl rfl) <|
  am_kc (ak_getR (C := RX3) (T := TX3) (N := 3) rfl inX3w (by decide) rfl rfl rfl wd_147 dX3_at_15 rfl) <|
  am_kc (ak_alen (t := 0) (fun _ => rfl) dX3_at_18 rfl) <|
  am_kc (ak_icmp_ge dX3_at_19 (by decide +kernel) rfl) <|
  am_kc (ak_aload_n dX3_at_22 rfl rfl) <|
  am_kc (ak_getR (C := RX3) (T := TX3) (N := 3) rfl inX3w (by decide) rfl rfl rfl wd_147 dX3_at_23 rfl) <|
  am_kc (ak_iload_n dX3_at_26 rfl rfl) <|
  am_kc (ak_iald (t := 0) (fun _ => rfl) rfl dX3_at_27 rfl) <|
  am_kc (ak_goto dX3_at_28 (by decide +kernel)) <|
  am_kc (ak_iconst dX3_at_31 (by decide +kernel) rfl) <|
  am_kc (ak_retI dX3_at_32) <| am_kn
/-- Rows.at: this at the name r, its numbers at c -/
def TX3_at : am_T := fun live as M R => match as with
  | [.ref r, .int a, .int b] => am_ex (live.2 r 0) (fun c => am_if (am_isO live 3 r && am_isA live 0 c && Nat.blt (am_len c) 100000) (R (some (.int (am_at (M.1 c) (am_len c) (a * M.1 r 1 + b)))) M))
  | _ => False
set_option maxRecDepth 100000 in
set_option maxHeartbeats 4000000 in
theorem metX3_at : am_Met yX3_at cX3_at 4 (some .int) (0) (0) TX3_at := by
  refine am_met (own := RX3) (by decide +kernel) rfl kX3_at koX3_at 60 (fun _ _ _ _ _ => none) (fun live as M Ret h => ?_) (fun _ _ _ _ _ _ _ _ hI => by cases hI)
  unfold TX3_at at h
  split at h
  · next r a b =>
    refine ⟨Nat.le_of_ble_eq_true rfl, ?_⟩
    change am_wp _ _ _ _ [(0, Value.ref r), (1, Value.int a), (2, Value.int b)] _ _
    have hh := am_qm h
    clear h
    obtain ⟨c, h2, h⟩ := hh
    have hh := am_if_mp h
    clear h
    obtain ⟨hb, h⟩ := hh
    rw [Bool.and_eq_true, Bool.and_eq_true] at hb
    obtain ⟨⟨h1, h3⟩, h4⟩ := hb
    have h4 : am_len c < 100000 := Nat.le_of_ble_eq_true h4
    repeat' (first | exact rfl | (with_reducible exact h1) | (with_reducible exact h2) | (with_reducible exact h3) | (refine Exists.intro _ (And.intro h2 ?_)) | apply And.intro | intro hx | (refine Exists.intro _ (And.intro rfl ?_)) | ((with_reducible change _ = true); simp only [h1, h2, h3, Bool.true_and]; rfl))
    all_goals try first | (with_reducible change am_tI _ _) | (change Ret _ _) | (change Ret _ _ _) | (change Exists _)
    all_goals try dsimp only at *
    all_goals try exact absurd ‹(1000 : Int64) = 0› (by decide)
    · rw [am_at_no (am_in_no1 ‹_›)] at h; exact h
    · rw [am_at_no (am_in_no2 h4 ‹_›)] at h; exact h
    · exact (am_in_of h4 ‹_› ‹_›).1
    · exact (am_in_of h4 ‹_› ‹_›).2
    · rw [am_at_in (am_in_of h4 ‹_› ‹_›)] at h; exact h
  · exact h.elim
end
section
/-! the class: whether a person, a loan; a stretch laid; which is nearer -/
theorem wd_387 : Cond.fieldLink "LearnLoans" 27 "LearnLoans" "house" "LLearnLoans$House;" ∈ am_ws := am_wsi (List.mem_of_getElem? (i := 387) (by decide +kernel)) (by decide +kernel)
theorem wd_194 : Cond.fieldLink "LearnLoans" 38 "LearnLoans$House" "people" "LLearnLoans$People;" ∈ am_ws := am_wsi (List.mem_of_getElem? (i := 194) (by decide +kernel)) (by decide +kernel)
theorem wd_121 : Cond.fieldLink "LearnLoans" 42 "LearnLoans$People" "size" "I" ∈ am_ws := am_wsi (List.mem_of_getElem? (i := 121) (by decide +kernel)) (by decide +kernel)
theorem dX7_isPerson_0 : decode cX7_isPerson 0 = .ok (.iload_n 1, 1) := by decide +kernel
theorem dX7_isPerson_1 : decode cX7_isPerson 1 = .ok (.ifCond .lt 21, 3) := by decide +kernel
theorem dX7_isPerson_4 : decode cX7_isPerson 4 = .ok (.iload_n 1, 1) := by decide +kernel
theorem dX7_isPerson_5 : decode cX7_isPerson 5 = .ok (.aload_n 0, 1) := by decide +kernel
theorem dX7_isPerson_6 : decode cX7_isPerson 6 = .ok (.getfield 27, 3) := by decide +kernel
theorem dX7_isPerson_9 : decode cX7_isPerson 9 = .ok (.getfield 38, 3) := by decide +kernel
theorem dX7_isPerson_12 : decode cX7_isPerson 12 = .ok (.getfield 42, 3) := by decide +kernel
theorem dX7_isPerson_15 : decode cX7_isPerson 15 = .ok (.if_icmp .ge 7, 3) := by decide +kernel
theorem dX7_isPerson_18 : decode cX7_isPerson 18 = .ok (.iconst 1, 1) := by decide +kernel
theorem dX7_isPerson_19 : decode cX7_isPerson 19 = .ok (.goto 4, 3) := by decide +kernel
theorem dX7_isPerson_22 : decode cX7_isPerson 22 = .ok (.iconst 0, 1) := by decide +kernel
theorem dX7_isPerson_23 : decode cX7_isPerson 23 = .ok (.ireturn, 1) := by decide +kernel
def kX7_isPerson (live : am_E) (Ret : am_R) : am_code := [(0, am_iload 1 1), (1, am_if1 (fun x => x < 0) 22 4), (4, am_iload 1 5), (5, am_aload 0 6), (6, am_getR live 7 0 9), (9, am_getR live 0 0 12), (12, am_getI live 2 7 15), (15, am_if2 (fun x y => y ≤ x) 22 18), (18, am_const (.int 1) 19), (19, am_goto 23), (22, am_const (.int 0) 23), (23, am_retZ Ret)]
theorem koX7_isPerson (live : am_E) (Ret : am_R) : ∀ q ∈ kX7_isPerson live Ret, am_ok RX7 cX7_isPerson 2 (some .boolean) 0 0 live Ret q.1 q.2 :=
  am_kc (ak_iload_n dX7_isPerson_0 rfl rfl) <|
  am_kc (ak_if_lt dX7_isPerson_1 (by decide +kernel) rfl) <|
  am_kc (ak_iload_n dX7_isPerson_4 rfl rfl) <|
  am_kc (ak_aload_n dX7_isPerson_5 rfl rfl) <|
  am_kc (ak_getR (C := RX7) (T := TX7) (N := 4) rfl inX7w (by decide) rfl rfl rfl wd_387 dX7_isPerson_6 rfl) <|
  am_kc (ak_getR (C := RX0) (T := TX0) (N := 13) rfl inX0w (by decide) rfl rfl rfl wd_194 dX7_isPerson_9 rfl) <|
  am_kc (ak_getI (C := RX2) (T := TX2) (N := 8) rfl inX2w (by decide) rfl rfl rfl wd_121 dX7_isPerson_12 rfl) <|
  am_kc (ak_icmp_ge dX7_isPerson_15 (by decide +kernel) rfl) <|
  am_kc (ak_iconst dX7_isPerson_18 (by decide +kernel) rfl) <|
  am_kc (ak_goto dX7_isPerson_19 (by decide +kernel)) <|
  am_kc (ak_iconst dX7_isPerson_22 (by decide +kernel) rfl) <|
  am_kc (ak_retZ dX7_isPerson_23) <| am_kn
def TX7_isPerson : am_T := fun live as M R => match as with
  | [.ref n, .int v] => am_mn live ∧ n = 0 ∧ R (some (.int (if 0 ≤ v ∧ v < M.1 21 7 then 1 else 0))) M
  | _ => False
set_option maxRecDepth 100000 in
set_option maxHeartbeats 4000000 in
theorem metX7_isPerson : am_Met yX7_isPerson cX7_isPerson 2 (some .boolean) (0) (0) TX7_isPerson := by
  refine am_met (own := RX7) (by decide +kernel) rfl kX7_isPerson koX7_isPerson 60 (fun _ _ _ _ _ => none) (fun live as M Ret h => ?_) (fun _ _ _ _ _ _ _ _ hI => by cases hI)
  unfold TX7_isPerson at h
  split at h
  · next n v =>
    refine ⟨Nat.le_of_ble_eq_true rfl, ?_⟩
    change am_wp _ _ _ _ [(0, Value.ref n), (1, Value.int v)] _ _
    obtain ⟨⟨i1, i2, rfl⟩, rfl, h⟩ := h
    repeat' (first | exact rfl | apply And.intro | intro hx | (refine Exists.intro _ (And.intro rfl ?_)))
    all_goals try first | (with_reducible change am_tI _ _) | (change Ret _ _) | (change Ret _ _ _) | (change Exists _)
    all_goals try dsimp only at *
    all_goals try exact absurd ‹(1000 : Int64) = 0› (by decide)
    all_goals first | (left; rfl) | (right; rfl) | grind
  · exact h.elim
theorem wd_207 : Cond.fieldLink "LearnLoans" 122 "LearnLoans$House" "loans" "LLearnLoans$Rows;" ∈ am_ws := am_wsi (List.mem_of_getElem? (i := 207) (by decide +kernel)) (by decide +kernel)
theorem wd_152 : Cond.fieldLink "LearnLoans" 108 "LearnLoans$Rows" "size" "I" ∈ am_ws := am_wsi (List.mem_of_getElem? (i := 152) (by decide +kernel)) (by decide +kernel)
theorem dX7_isLoan_0 : decode cX7_isLoan 0 = .ok (.iload_n 1, 1) := by decide +kernel
theorem dX7_isLoan_1 : decode cX7_isLoan 1 = .ok (.ifCond .lt 21, 3) := by decide +kernel
theorem dX7_isLoan_4 : decode cX7_isLoan 4 = .ok (.iload_n 1, 1) := by decide +kernel
theorem dX7_isLoan_5 : decode cX7_isLoan 5 = .ok (.aload_n 0, 1) := by decide +kernel
theorem dX7_isLoan_6 : decode cX7_isLoan 6 = .ok (.getfield 27, 3) := by decide +kernel
theorem dX7_isLoan_9 : decode cX7_isLoan 9 = .ok (.getfield 122, 3) := by decide +kernel
theorem dX7_isLoan_12 : decode cX7_isLoan 12 = .ok (.getfield 108, 3) := by decide +kernel
theorem dX7_isLoan_15 : decode cX7_isLoan 15 = .ok (.if_icmp .ge 7, 3) := by decide +kernel
theorem dX7_isLoan_18 : decode cX7_isLoan 18 = .ok (.iconst 1, 1) := by decide +kernel
theorem dX7_isLoan_19 : decode cX7_isLoan 19 = .ok (.goto 4, 3) := by decide +kernel
theorem dX7_isLoan_22 : decode cX7_isLoan 22 = .ok (.iconst 0, 1) := by decide +kernel
theorem dX7_isLoan_23 : decode cX7_isLoan 23 = .ok (.ireturn, 1) := by decide +kernel
def kX7_isLoan (live : am_E) (Ret : am_R) : am_code := [(0, am_iload 1 1), (1, am_if1 (fun x => x < 0) 22 4), (4, am_iload 1 5), (5, am_aload 0 6), (6, am_getR live 7 0 9), (9, am_getR live 0 4 12), (12, am_getI live 3 2 15), (15, am_if2 (fun x y => y ≤ x) 22 18), (18, am_const (.int 1) 19), (19, am_goto 23), (22, am_const (.int 0) 23), (23, am_retZ Ret)]
theorem koX7_isLoan (live : am_E) (Ret : am_R) : ∀ q ∈ kX7_isLoan live Ret, am_ok RX7 cX7_isLoan 2 (some .boolean) 0 0 live Ret q.1 q.2 :=
  am_kc (ak_iload_n dX7_isLoan_0 rfl rfl) <|
  am_kc (ak_if_lt dX7_isLoan_1 (by decide +kernel) rfl) <|
  am_kc (ak_iload_n dX7_isLoan_4 rfl rfl) <|
  am_kc (ak_aload_n dX7_isLoan_5 rfl rfl) <|
  am_kc (ak_getR (C := RX7) (T := TX7) (N := 4) rfl inX7w (by decide) rfl rfl rfl wd_387 dX7_isLoan_6 rfl) <|
  am_kc (ak_getR (C := RX0) (T := TX0) (N := 13) rfl inX0w (by decide) rfl rfl rfl wd_207 dX7_isLoan_9 rfl) <|
  am_kc (ak_getI (C := RX3) (T := TX3) (N := 3) rfl inX3w (by decide) rfl rfl rfl wd_152 dX7_isLoan_12 rfl) <|
  am_kc (ak_icmp_ge dX7_isLoan_15 (by decide +kernel) rfl) <|
  am_kc (ak_iconst dX7_isLoan_18 (by decide +kernel) rfl) <|
  am_kc (ak_goto dX7_isLoan_19 (by decide +kernel)) <|
  am_kc (ak_iconst dX7_isLoan_22 (by decide +kernel) rfl) <|
  am_kc (ak_retZ dX7_isLoan_23) <| am_kn
def TX7_isLoan : am_T := fun live as M R => match as with
  | [.ref n, .int v] => am_mn live ∧ n = 0 ∧ R (some (.int (if 0 ≤ v ∧ v < M.1 33 2 then 1 else 0))) M
  | _ => False
set_option maxRecDepth 100000 in
set_option maxHeartbeats 4000000 in
theorem metX7_isLoan : am_Met yX7_isLoan cX7_isLoan 2 (some .boolean) (0) (0) TX7_isLoan := by
  refine am_met (own := RX7) (by decide +kernel) rfl kX7_isLoan koX7_isLoan 60 (fun _ _ _ _ _ => none) (fun live as M Ret h => ?_) (fun _ _ _ _ _ _ _ _ hI => by cases hI)
  unfold TX7_isLoan at h
  split at h
  · next n v =>
    refine ⟨Nat.le_of_ble_eq_true rfl, ?_⟩
    change am_wp _ _ _ _ [(0, Value.ref n), (1, Value.int v)] _ _
    obtain ⟨⟨i1, i2, rfl⟩, rfl, h⟩ := h
    repeat' (first | exact rfl | apply And.intro | intro hx | (refine Exists.intro _ (And.intro rfl ?_)))
    all_goals try first | (with_reducible change am_tI _ _) | (change Ret _ _) | (change Ret _ _ _) | (change Exists _)
    all_goals try dsimp only at *
    all_goals try exact absurd ‹(1000 : Int64) = 0› (by decide)
    all_goals first | (left; rfl) | (right; rfl) | grind
  · exact h.elim
theorem wd_469 : Cond.fieldLink "LearnLoans" 276 "LearnLoans" "LEAST" "[I" ∈ am_ws := am_wsi (List.mem_of_getElem? (i := 469) (by decide +kernel)) (by decide +kernel)
theorem wd_471 : Cond.fieldLink "LearnLoans" 279 "LearnLoans" "MOST" "[I" ∈ am_ws := am_wsi (List.mem_of_getElem? (i := 471) (by decide +kernel)) (by decide +kernel)
theorem dX7_isNumber_0 : decode cX7_isNumber 0 = .ok (.iload_n 0, 1) := by decide +kernel
theorem dX7_isNumber_1 : decode cX7_isNumber 1 = .ok (.ifCond .lt 31, 3) := by decide +kernel
theorem dX7_isNumber_4 : decode cX7_isNumber 4 = .ok (.iload_n 0, 1) := by decide +kernel
theorem dX7_isNumber_5 : decode cX7_isNumber 5 = .ok (.bipush 6, 2) := by decide +kernel
theorem dX7_isNumber_7 : decode cX7_isNumber 7 = .ok (.if_icmp .ge 25, 3) := by decide +kernel
theorem dX7_isNumber_10 : decode cX7_isNumber 10 = .ok (.iload_n 1, 1) := by decide +kernel
theorem dX7_isNumber_11 : decode cX7_isNumber 11 = .ok (.getstatic 276, 3) := by decide +kernel
theorem dX7_isNumber_14 : decode cX7_isNumber 14 = .ok (.iload_n 0, 1) := by decide +kernel
theorem dX7_isNumber_15 : decode cX7_isNumber 15 = .ok (.iaload, 1) := by decide +kernel
theorem dX7_isNumber_16 : decode cX7_isNumber 16 = .ok (.if_icmp .lt 16, 3) := by decide +kernel
theorem dX7_isNumber_19 : decode cX7_isNumber 19 = .ok (.iload_n 1, 1) := by decide +kernel
theorem dX7_isNumber_20 : decode cX7_isNumber 20 = .ok (.getstatic 279, 3) := by decide +kernel
theorem dX7_isNumber_23 : decode cX7_isNumber 23 = .ok (.iload_n 0, 1) := by decide +kernel
theorem dX7_isNumber_24 : decode cX7_isNumber 24 = .ok (.iaload, 1) := by decide +kernel
theorem dX7_isNumber_25 : decode cX7_isNumber 25 = .ok (.if_icmp .gt 7, 3) := by decide +kernel
theorem dX7_isNumber_28 : decode cX7_isNumber 28 = .ok (.iconst 1, 1) := by decide +kernel
theorem dX7_isNumber_29 : decode cX7_isNumber 29 = .ok (.goto 4, 3) := by decide +kernel
theorem dX7_isNumber_32 : decode cX7_isNumber 32 = .ok (.iconst 0, 1) := by decide +kernel
theorem dX7_isNumber_33 : decode cX7_isNumber 33 = .ok (.ireturn, 1) := by decide +kernel
def kX7_isNumber (live : am_E) (Ret : am_R) : am_code := [(0, am_iload 0 1), (1, am_if1 (fun x => x < 0) 32 4), (4, am_iload 0 5), (5, am_const (.int 6) 7), (7, am_if2 (fun x y => y ≤ x) 32 10), (10, am_iload 1 11), (11, am_const (.ref 1001) 14), (14, am_iload 0 15), (15, am_sld 1 16), (16, am_if2 (fun x y => x < y) 32 19), (19, am_iload 1 20), (20, am_const (.ref 1002) 23), (23, am_iload 0 24), (24, am_sld 2 25), (25, am_if2 (fun x y => y < x) 32 28), (28, am_const (.int 1) 29), (29, am_goto 33), (32, am_const (.int 0) 33), (33, am_retZ Ret)]
theorem koX7_isNumber (live : am_E) (Ret : am_R) : ∀ q ∈ kX7_isNumber live Ret, am_ok RX7 cX7_isNumber 2 (some .boolean) 0 0 live Ret q.1 q.2 :=
  am_kc (ak_iload_n dX7_isNumber_0 rfl rfl) <|
  am_kc (ak_if_lt dX7_isNumber_1 (by decide +kernel) rfl) <|
  am_kc (ak_iload_n dX7_isNumber_4 rfl rfl) <|
  am_kc (ak_bipush dX7_isNumber_5 (by decide +kernel) rfl) <|
  am_kc (ak_icmp_ge dX7_isNumber_7 (by decide +kernel) rfl) <|
  am_kc (ak_iload_n dX7_isNumber_10 rfl rfl) <|
  am_kc (ak_gets (k := 1) (by decide) rfl wd_469 dX7_isNumber_11 rfl) <|
  am_kc (ak_iload_n dX7_isNumber_14 rfl rfl) <|
  am_kc (ak_sld (by decide) dX7_isNumber_15 rfl) <|
  am_kc (ak_icmp_lt dX7_isNumber_16 (by decide +kernel) rfl) <|
  am_kc (ak_iload_n dX7_isNumber_19 rfl rfl) <|
  am_kc (ak_gets (k := 2) (by decide) rfl wd_471 dX7_isNumber_20 rfl) <|
  am_kc (ak_iload_n dX7_isNumber_23 rfl rfl) <|
  am_kc (ak_sld (by decide) dX7_isNumber_24 rfl) <|
  am_kc (ak_icmp_gt dX7_isNumber_25 (by decide +kernel) rfl) <|
  am_kc (ak_iconst dX7_isNumber_28 (by decide +kernel) rfl) <|
  am_kc (ak_goto dX7_isNumber_29 (by decide +kernel)) <|
  am_kc (ak_iconst dX7_isNumber_32 (by decide +kernel) rfl) <|
  am_kc (ak_retZ dX7_isNumber_33) <| am_kn
def am_isNum (w v : Int32) : Prop := (0 ≤ w ∧ w < 6) ∧ am_sf 1 w.toNatClampNeg ≤ v ∧ v ≤ am_sf 2 w.toNatClampNeg
def TX7_isNumber : am_T := fun live as M R => match as with
  | [.int w, .int v] => (am_isNum w v → R (some (.int 1)) M) ∧ (¬ am_isNum w v → R (some (.int 0)) M)
  | _ => False
set_option maxRecDepth 100000 in
set_option maxHeartbeats 4000000 in
theorem metX7_isNumber : am_Met yX7_isNumber cX7_isNumber 2 (some .boolean) (0) (0) TX7_isNumber := by
  refine am_met (own := RX7) (by decide +kernel) rfl kX7_isNumber koX7_isNumber 60 (fun _ _ _ _ _ => none) (fun live as M Ret h => ?_) (fun _ _ _ _ _ _ _ _ hI => by cases hI)
  unfold TX7_isNumber at h
  split at h
  · next w v =>
    refine ⟨Nat.le_of_ble_eq_true rfl, ?_⟩
    change am_wp _ _ _ _ [(0, Value.int w), (1, Value.int v)] _ _
    repeat' (first | exact rfl | apply And.intro | intro hx | (refine Exists.intro _ (And.intro rfl ?_)))
    all_goals try first | (with_reducible change am_tI _ _) | (change Ret _ _) | (change Ret _ _ _) | (change Exists _)
    all_goals try dsimp only at *
    all_goals try exact absurd ‹(1000 : Int64) = 0› (by decide)
    all_goals first | (left; rfl) | (right; rfl) | skip
    all_goals first | grind [am_isNum] | (simp only [i_lt, i_le, am_sN, Int32.reduceToInt] at *; omega)
  · exact h.elim
theorem wd_424 : Cond.methodLink "LearnLoans" 282 Lib.Math.max.name ∈ am_ws := am_wsi (List.mem_of_getElem? (i := 424) (by decide +kernel)) (by decide +kernel)
theorem wd_425 : Cond.static Lib.Math.max.name ∈ am_ws := am_wsi (List.mem_of_getElem? (i := 425) (by decide +kernel)) (by decide +kernel)
theorem wd_68 : Cond.initialized "java/lang/Math" ∈ am_ws := am_wsi (List.mem_of_getElem? (i := 68) (by decide +kernel)) (by decide +kernel)
theorem wd_426 : Cond.code Lib.Math.max.name Lib.Math.max.code 2 (some .int) ∈ am_ws := am_wsi (List.mem_of_getElem? (i := 426) (by decide +kernel)) (by decide +kernel)
theorem dX7_lay_0 : decode cX7_lay 0 = .ok (.iload_n 1, 1) := by decide +kernel
theorem dX7_lay_1 : decode cX7_lay 1 = .ok (.iconst 0, 1) := by decide +kernel
theorem dX7_lay_2 : decode cX7_lay 2 = .ok (.invokestatic 282, 3) := by decide +kernel
theorem dX7_lay_5 : decode cX7_lay 5 = .ok (.istore 4, 2) := by decide +kernel
theorem dX7_lay_7 : decode cX7_lay 7 = .ok (.iload 4, 2) := by decide +kernel
theorem dX7_lay_9 : decode cX7_lay 9 = .ok (.iload_n 2, 1) := by decide +kernel
theorem dX7_lay_10 : decode cX7_lay 10 = .ok (.if_icmp .gt 21, 3) := by decide +kernel
theorem dX7_lay_13 : decode cX7_lay 13 = .ok (.iload 4, 2) := by decide +kernel
theorem dX7_lay_15 : decode cX7_lay 15 = .ok (.aload_n 0, 1) := by decide +kernel
theorem dX7_lay_16 : decode cX7_lay 16 = .ok (.arraylength, 1) := by decide +kernel
theorem dX7_lay_17 : decode cX7_lay 17 = .ok (.if_icmp .ge 14, 3) := by decide +kernel
theorem dX7_lay_20 : decode cX7_lay 20 = .ok (.aload_n 0, 1) := by decide +kernel
theorem dX7_lay_21 : decode cX7_lay 21 = .ok (.iload 4, 2) := by decide +kernel
theorem dX7_lay_23 : decode cX7_lay 23 = .ok (.iload_n 3, 1) := by decide +kernel
theorem dX7_lay_24 : decode cX7_lay 24 = .ok (.iastore, 1) := by decide +kernel
theorem dX7_lay_25 : decode cX7_lay 25 = .ok (.iinc 4 1, 3) := by decide +kernel
theorem dX7_lay_28 : decode cX7_lay 28 = .ok (.goto (-21), 3) := by decide +kernel
theorem dX7_lay_31 : decode cX7_lay 31 = .ok (.return_, 1) := by decide +kernel
def kX7_lay (live : am_E) (Ret : am_R) : am_code := [(0, am_iload 1 1), (1, am_const (.int 0) 2), (2, am_math2 (fun x y => if x < y then y else x) 23 5), (5, am_istore 4 5 7), (7, am_iload 4 9), (9, am_iload 2 10), (10, am_if2 (fun x y => y < x) 31 13), (13, am_iload 4 15), (15, am_aload 0 16), (16, am_alen live 0 17), (17, am_if2 (fun x y => y ≤ x) 31 20), (20, am_aload 0 21), (21, am_iload 4 23), (23, am_iload 3 24), (24, am_ast live 0 25), (25, am_iinc 4 5 1 28), (28, am_goto 7), (31, am_retV Ret)]
theorem koX7_lay (live : am_E) (Ret : am_R) : ∀ q ∈ kX7_lay live Ret, am_ok RX7 cX7_lay 5 none 1 23 live Ret q.1 q.2 :=
  am_kc (ak_iload_n dX7_lay_0 rfl rfl) <|
  am_kc (ak_iconst dX7_lay_1 (by decide +kernel) rfl) <|
  am_kc (ak_imax (am_w4 wd_424 wd_425 wd_68 wd_426) (by decide) dX7_lay_2 rfl) <|
  am_kc (ak_istore dX7_lay_5 rfl) <|
  am_kc (ak_iload dX7_lay_7 rfl) <|
  am_kc (ak_iload_n dX7_lay_9 rfl rfl) <|
  am_kc (ak_icmp_gt dX7_lay_10 (by decide +kernel) rfl) <|
  am_kc (ak_iload dX7_lay_13 rfl) <|
  am_kc (ak_aload_n dX7_lay_15 rfl rfl) <|
  am_kc (ak_alen (t := 0) (fun _ => rfl) dX7_lay_16 rfl) <|
  am_kc (ak_icmp_ge dX7_lay_17 (by decide +kernel) rfl) <|
  am_kc (ak_aload_n dX7_lay_20 rfl rfl) <|
  am_kc (ak_iload dX7_lay_21 rfl) <|
  am_kc (ak_iload_n dX7_lay_23 rfl rfl) <|
  am_kc (ak_iast (t := 0) (fun _ => rfl) rfl dX7_lay_24 rfl) <|
  am_kc (ak_iinc dX7_lay_25 (by decide +kernel) rfl) <|
  am_kc (ak_goto dX7_lay_28 (by decide +kernel)) <|
  am_kc (ak_retV dX7_lay_31) <| am_kn
def TX7_lay : am_T := fun live as M R => match as with
  | [.ref c, .int a, .int b, .int v] => am_if (am_isA live 0 c && Nat.blt (am_len c) 100000) (R none (am_lay M c (max a.toInt 0) (min b.toInt ((am_len c : Int) - 1)) v))
  | _ => False
def JX7_lay : am_E → List Value → am_M → am_R → am_inv := fun live as M0 _ pc => match as with
  | [.ref c, .int a, .int b, .int v] => (match pc with
    | 7 => some ([0, 2, 3, 4], fun k L st M => ∃ i : Int32, L = [(0, .ref c), (2, .int b), (3, .int v), (4, .int i)] ∧ st = [] ∧ k = ((am_len c + 1 - i.toInt).toNat, 0) ∧ max a.toInt 0 ≤ i.toInt ∧ (i.toInt = max a.toInt 0 ∨ i.toInt ≤ min b.toInt ((am_len c : Int) - 1) + 1) ∧ M = am_lay M0 c (max a.toInt 0) (i.toInt - 1) v)
    | _ => none)
  | _ => none
set_option maxRecDepth 100000 in
set_option maxHeartbeats 4000000 in
theorem metX7_lay : am_Met yX7_lay cX7_lay 5 none (1) (23) TX7_lay := by
  refine am_met (own := RX7) (by decide +kernel) rfl kX7_lay koX7_lay 60 JX7_lay ?_ ?_
  · intro live as M Ret h
    unfold TX7_lay at h
    split at h
    · next c a b v =>
      refine ⟨Nat.le_of_ble_eq_true rfl, ?_⟩
      change am_wp _ _ _ _ [(0, Value.ref c), (1, Value.int a), (2, Value.int b), (3, Value.int v)] _ _
      have hh := am_if_mp h
      clear h
      obtain ⟨hb, h⟩ := hh
      rw [Bool.and_eq_true] at hb
      obtain ⟨h1, h4⟩ := hb
      have h4 : am_len c < 100000 := Nat.le_of_ble_eq_true h4
      repeat' (first | exact rfl | (with_reducible exact h1) | apply And.intro | intro hx | (refine Exists.intro _ (And.intro rfl ?_)) | ((with_reducible change _ = true); simp only [h1, Bool.true_and]; rfl))
      all_goals try first | (with_reducible change am_tI _ _) | (change Ret _ _) | (change Ret _ _ _) | (change Exists _)
      all_goals try dsimp only at *
      all_goals try exact absurd ‹(1000 : Int64) = 0› (by decide)
      have hlo := i_lo a
      refine ⟨_, _, rfl, rfl, rfl, ?_, Or.inl ?_, (am_lay_nil ?_).symm⟩
      all_goals
        split
        all_goals
          simp only [i_lt, Int32.reduceToInt] at *
          omega
    · exact h.elim
  · intro live as M0 Ret h k pc I hI L st M hi
    unfold TX7_lay at h
    split at h
    · next c a b v =>
      have hh := am_if_mp h
      clear h
      obtain ⟨hb, h⟩ := hh
      rw [Bool.and_eq_true] at hb
      obtain ⟨h1, h4⟩ := hb
      have h4 : am_len c < 100000 := Nat.le_of_ble_eq_true h4
      change (match pc with | 7 => _ | _ => none) = _ at hI
      split at hI
      · cases hI
        obtain ⟨i, rfl, rfl, rfl, e1, e2, rfl⟩ := hi
        have hn : (Int32.ofNat (am_len c)).toInt = (am_len c : Int) := i_nat (by omega)
        repeat' (first | exact rfl | (with_reducible exact h1) | apply And.intro | intro hx | (refine Exists.intro _ (And.intro rfl ?_)) | ((with_reducible change _ = true); simp only [h1, Bool.true_and]; rfl))
        all_goals try first | (with_reducible change am_tI _ _) | (change Ret _ _) | (change Ret _ _ _) | (change Exists _)
        all_goals try dsimp only at *
        all_goals try exact absurd ‹(1000 : Int64) = 0› (by decide)
        rotate_right
        · refine ⟨_, Or.inl ?_, i + 1, rfl, rfl, rfl, ?_, Or.inr ?_, ?_⟩
          all_goals simp only [i_lt, i_le, hn] at *
          all_goals
            have hi := i_add (x := i) (y := 1) (by simp only [Int32.reduceToInt]; omega) (by simp only [Int32.reduceToInt]; omega)
            simp only [Int32.reduceToInt] at hi
          · simp only [hi]; omega
          · omega
          · omega
          · rw [am_lay_put (by omega) (i_clamp (by omega))]
            exact am_lay_eq (fun q => by omega)
        all_goals simp only [i_lt, i_le, hn] at *
        · rw [am_lay_eq (lo' := max a.toInt 0) (hi' := min b.toInt ((am_len c : Int) - 1)) (fun q => by omega)]; exact h
        · rw [am_lay_eq (lo' := max a.toInt 0) (hi' := min b.toInt ((am_len c : Int) - 1)) (fun q => by omega)]; exact h
        · omega
        · omega
      · cases hI
    · exact h.elim
end
section
/-! Rows -/
theorem dX3_put_0 : decode cX3_put 0 = .ok (.iload_n 1, 1) := by decide +kernel
theorem dX3_put_1 : decode cX3_put 1 = .ok (.aload_n 0, 1) := by decide +kernel
theorem dX3_put_2 : decode cX3_put 2 = .ok (.getfield 15, 3) := by decide +kernel
theorem dX3_put_5 : decode cX3_put 5 = .ok (.imul, 1) := by decide +kernel
theorem dX3_put_6 : decode cX3_put 6 = .ok (.iload_n 2, 1) := by decide +kernel
theorem dX3_put_7 : decode cX3_put 7 = .ok (.iadd, 1) := by decide +kernel
theorem dX3_put_8 : decode cX3_put 8 = .ok (.istore 4, 2) := by decide +kernel
theorem dX3_put_10 : decode cX3_put 10 = .ok (.iload_n 2, 1) := by decide +kernel
theorem dX3_put_11 : decode cX3_put 11 = .ok (.aload_n 0, 1) := by decide +kernel
theorem dX3_put_12 : decode cX3_put 12 = .ok (.getfield 15, 3) := by decide +kernel
theorem dX3_put_15 : decode cX3_put 15 = .ok (.if_icmp .ge 26, 3) := by decide +kernel
theorem dX3_put_18 : decode cX3_put 18 = .ok (.iload 4, 2) := by decide +kernel
theorem dX3_put_20 : decode cX3_put 20 = .ok (.ifCond .lt 21, 3) := by decide +kernel
theorem dX3_put_23 : decode cX3_put 23 = .ok (.iload 4, 2) := by decide +kernel
theorem dX3_put_25 : decode cX3_put 25 = .ok (.aload_n 0, 1) := by decide +kernel
theorem dX3_put_26 : decode cX3_put 26 = .ok (.getfield 9, 3) := by decide +kernel
theorem dX3_put_29 : decode cX3_put 29 = .ok (.arraylength, 1) := by decide +kernel
theorem dX3_put_30 : decode cX3_put 30 = .ok (.if_icmp .ge 11, 3) := by decide +kernel
theorem dX3_put_33 : decode cX3_put 33 = .ok (.aload_n 0, 1) := by decide +kernel
theorem dX3_put_34 : decode cX3_put 34 = .ok (.getfield 9, 3) := by decide +kernel
theorem dX3_put_37 : decode cX3_put 37 = .ok (.iload 4, 2) := by decide +kernel
theorem dX3_put_39 : decode cX3_put 39 = .ok (.iload_n 3, 1) := by decide +kernel
theorem dX3_put_40 : decode cX3_put 40 = .ok (.iastore, 1) := by decide +kernel
theorem dX3_put_41 : decode cX3_put 41 = .ok (.return_, 1) := by decide +kernel
def kX3_put (live : am_E) (Ret : am_R) : am_code := [(0, am_iload 1 1), (1, am_aload 0 2), (2, am_getI live 3 1 5), (5, am_i2 (fun x y => x * y) 6), (6, am_iload 2 7), (7, am_i2 (fun x y => x + y) 8), (8, am_istore 4 5 10), (10, am_iload 2 11), (11, am_aload 0 12), (12, am_getI live 3 1 15), (15, am_if2 (fun x y => y ≤ x) 41 18), (18, am_iload 4 20), (20, am_if1 (fun x => x < 0) 41 23), (23, am_iload 4 25), (25, am_aload 0 26), (26, am_getR live 3 0 29), (29, am_alen live 0 30), (30, am_if2 (fun x y => y ≤ x) 41 33), (33, am_aload 0 34), (34, am_getR live 3 0 37), (37, am_iload 4 39), (39, am_iload 3 40), (40, am_ast live 0 41), (41, am_retV Ret)]
theorem koX3_put (live : am_E) (Ret : am_R) : ∀ q ∈ kX3_put live Ret, am_ok RX3 cX3_put 5 none 0 0 live Ret q.1 q.2 :=
  am_kc (ak_iload_n dX3_put_0 rfl rfl) <|
  am_kc (ak_aload_n dX3_put_1 rfl rfl) <|
  am_kc (ak_getI (C := RX3) (T := TX3) (N := 3) rfl inX3w (by decide) rfl rfl rfl wd_148 dX3_put_2 rfl) <|
  am_kc (ak_imul dX3_put_5 rfl) <|
  am_kc (ak_iload_n dX3_put_6 rfl rfl) <|
  am_kc (ak_iadd dX3_put_7 rfl) <|
  am_kc (ak_istore dX3_put_8 rfl) <|
  am_kc (ak_iload_n dX3_put_10 rfl rfl) <|
  am_kc (ak_aload_n dX3_put_11 rfl rfl) <|
  am_kc (ak_getI (C := RX3) (T := TX3) (N := 3) rfl inX3w (by decide) rfl rfl rfl wd_148 dX3_put_12 rfl) <|
  am_kc (ak_icmp_ge dX3_put_15 (by decide +kernel) rfl) <|
  am_kc (ak_iload dX3_put_18 rfl) <|
  am_kc (ak_if_lt dX3_put_20 (by decide +kernel) rfl) <|
  am_kc (ak_iload dX3_put_23 rfl) <|
  am_kc (ak_aload_n dX3_put_25 rfl rfl) <|
  am_kc (ak_getR (C := RX3) (T := TX3) (N := 3) rfl inX3w (by decide) rfl rfl rfl wd_147 dX3_put_26 rfl) <|
  am_kc (ak_alen (t := 0) (fun _ => rfl) dX3_put_29 rfl) <|
  am_kc (ak_icmp_ge dX3_put_30 (by decide +kernel) rfl) <|
  am_kc (ak_aload_n dX3_put_33 rfl rfl) <|
  am_kc (ak_getR (C := RX3) (T := TX3) (N := 3) rfl inX3w (by decide) rfl rfl rfl wd_147 dX3_put_34 rfl) <|
  am_kc (ak_iload dX3_put_37 rfl) <|
  am_kc (ak_iload_n dX3_put_39 rfl rfl) <|
  am_kc (ak_iast (t := 0) (fun _ => rfl) rfl dX3_put_40 rfl) <|
  am_kc (ak_retV dX3_put_41) <| am_kn
def TX3_put : am_T := fun live as M R => match as with
  | [.ref r, .int a, .int b, .int v] => am_ex (live.2 r 0) (fun c => am_if (am_rc live r c) (R none (am_rput M r c a b v)))
  | _ => False
set_option maxRecDepth 100000 in
set_option maxHeartbeats 4000000 in
theorem metX3_put : am_Met yX3_put cX3_put 5 none (0) (0) TX3_put := by
  refine am_met (own := RX3) (by decide +kernel) rfl kX3_put koX3_put 60 (fun _ _ _ _ _ => none) (fun live as M Ret h => ?_) (fun _ _ _ _ _ _ _ _ hI => by cases hI)
  unfold TX3_put at h
  split at h
  · next r a b v =>
    refine ⟨Nat.le_of_ble_eq_true rfl, ?_⟩
    change am_wp _ _ _ _ [(0, Value.ref r), (1, Value.int a), (2, Value.int b), (3, Value.int v)] _ _
    have hh := am_qm h
    clear h
    obtain ⟨c, h2, h⟩ := hh
    have hh := am_if_mp h
    clear h
    obtain ⟨hb, h⟩ := hh
    obtain ⟨h1, h3, h4, h5⟩ := am_rc_spec hb
    repeat' (first | exact rfl | (with_reducible exact h1) | (with_reducible exact h2) | (with_reducible exact h3) | (refine Exists.intro _ (And.intro h2 ?_)) | apply And.intro | intro hx | (refine Exists.intro _ (And.intro rfl ?_)) | ((with_reducible change _ = true); simp only [h1, h2, h3, Bool.true_and]; rfl))
    all_goals try first | (with_reducible change am_tI _ _) | (change Ret _ _) | (change Ret _ _ _) | (change Exists _)
    all_goals try dsimp only at *
    all_goals try exact absurd ‹(1000 : Int64) = 0› (by decide)
    · rw [am_rput_f (fun q => by have := q.1; simp only [i_lt, i_le] at *; omega)] at h; exact h
    · rw [am_rput_f (fun q => am_in_no1 ‹_› q.2)] at h; exact h
    · rw [am_rput_f (fun q => am_in_no2 h4 ‹_› q.2)] at h; exact h
    · exact (am_in_of h4 ‹_› ‹_›).1
    · exact (am_in_of h4 ‹_› ‹_›).2
    · rw [am_rput_t (by simp only [i_lt, i_le] at *; omega) (am_in_of h4 ‹_› ‹_›)] at h; exact h
  · exact h.elim
theorem wd_150 : Cond.fieldLink "LearnLoans$Rows" 19 "LearnLoans$Rows" "size" "I" ∈ am_ws := am_wsi (List.mem_of_getElem? (i := 150) (by decide +kernel)) (by decide +kernel)
theorem wd_481 : Cond.methodLink "LearnLoans$Rows" 22 yX3_put ∈ am_ws := am_wsi (List.mem_of_getElem? (i := 481) (by decide +kernel)) (by decide +kernel)
theorem wd_482 : Cond.instanceMethod yX3_put ∈ am_ws := am_wsi (List.mem_of_getElem? (i := 482) (by decide +kernel)) (by decide +kernel)
theorem wd_483 : Cond.selects "LearnLoans$Rows" yX3_put yX3_put ∈ am_ws := am_wsi (List.mem_of_getElem? (i := 483) (by decide +kernel)) (by decide +kernel)
theorem wd_64 : Cond.initialized "LearnLoans$Rows" ∈ am_ws := am_wsi (List.mem_of_getElem? (i := 64) (by decide +kernel)) (by decide +kernel)
theorem wd_484 : Cond.code yX3_put cX3_put 5 none ∈ am_ws := am_wsi (List.mem_of_getElem? (i := 484) (by decide +kernel)) (by decide +kernel)
theorem dX3_add_0 : decode cX3_add 0 = .ok (.aload_n 0, 1) := by decide +kernel
theorem dX3_add_1 : decode cX3_add 1 = .ok (.aload_n 0, 1) := by decide +kernel
theorem dX3_add_2 : decode cX3_add 2 = .ok (.getfield 19, 3) := by decide +kernel
theorem dX3_add_5 : decode cX3_add 5 = .ok (.iconst 0, 1) := by decide +kernel
theorem dX3_add_6 : decode cX3_add 6 = .ok (.iload_n 1, 1) := by decide +kernel
theorem dX3_add_7 : decode cX3_add 7 = .ok (.invokevirtual 22, 3) := by decide +kernel
theorem dX3_add_10 : decode cX3_add 10 = .ok (.aload_n 0, 1) := by decide +kernel
theorem dX3_add_11 : decode cX3_add 11 = .ok (.aload_n 0, 1) := by decide +kernel
theorem dX3_add_12 : decode cX3_add 12 = .ok (.getfield 19, 3) := by decide +kernel
theorem dX3_add_15 : decode cX3_add 15 = .ok (.iconst 1, 1) := by decide +kernel
theorem dX3_add_16 : decode cX3_add 16 = .ok (.iload_n 2, 1) := by decide +kernel
theorem dX3_add_17 : decode cX3_add 17 = .ok (.invokevirtual 22, 3) := by decide +kernel
theorem dX3_add_20 : decode cX3_add 20 = .ok (.aload_n 0, 1) := by decide +kernel
theorem dX3_add_21 : decode cX3_add 21 = .ok (.aload_n 0, 1) := by decide +kernel
theorem dX3_add_22 : decode cX3_add 22 = .ok (.getfield 19, 3) := by decide +kernel
theorem dX3_add_25 : decode cX3_add 25 = .ok (.iconst 2, 1) := by decide +kernel
theorem dX3_add_26 : decode cX3_add 26 = .ok (.iload_n 3, 1) := by decide +kernel
theorem dX3_add_27 : decode cX3_add 27 = .ok (.invokevirtual 22, 3) := by decide +kernel
theorem dX3_add_30 : decode cX3_add 30 = .ok (.aload_n 0, 1) := by decide +kernel
theorem dX3_add_31 : decode cX3_add 31 = .ok (.dup, 1) := by decide +kernel
theorem dX3_add_32 : decode cX3_add 32 = .ok (.getfield 19, 3) := by decide +kernel
theorem dX3_add_35 : decode cX3_add 35 = .ok (.iconst 1, 1) := by decide +kernel
theorem dX3_add_36 : decode cX3_add 36 = .ok (.iadd, 1) := by decide +kernel
theorem dX3_add_37 : decode cX3_add 37 = .ok (.putfield 19, 3) := by decide +kernel
theorem dX3_add_40 : decode cX3_add 40 = .ok (.aload_n 0, 1) := by decide +kernel
theorem dX3_add_41 : decode cX3_add 41 = .ok (.getfield 19, 3) := by decide +kernel
theorem dX3_add_44 : decode cX3_add 44 = .ok (.iconst 1, 1) := by decide +kernel
theorem dX3_add_45 : decode cX3_add 45 = .ok (.isub, 1) := by decide +kernel
theorem dX3_add_46 : decode cX3_add 46 = .ok (.ireturn, 1) := by decide +kernel
def kX3_add (live : am_E) (Ret : am_R) : am_code := [(0, am_aload 0 1), (1, am_aload 0 2), (2, am_getI live 3 2 5), (5, am_const (.int 0) 6), (6, am_iload 1 7), (7, am_callV live 3 3 TX3_put 10), (10, am_aload 0 11), (11, am_aload 0 12), (12, am_getI live 3 2 15), (15, am_const (.int 1) 16), (16, am_iload 2 17), (17, am_callV live 3 3 TX3_put 20), (20, am_aload 0 21), (21, am_aload 0 22), (22, am_getI live 3 2 25), (25, am_const (.int 2) 26), (26, am_iload 3 27), (27, am_callV live 3 3 TX3_put 30), (30, am_aload 0 31), (31, am_dup 32), (32, am_getI live 3 2 35), (35, am_const (.int 1) 36), (36, am_i2 (fun x y => x + y) 37), (37, am_putI live 3 2 40), (40, am_aload 0 41), (41, am_getI live 3 2 44), (44, am_const (.int 1) 45), (45, am_i2 (fun x y => x - y) 46), (46, am_retI Ret)]
theorem koX3_add (live : am_E) (Ret : am_R) : ∀ q ∈ kX3_add live Ret, am_ok RX3 cX3_add 4 (some .int) 1 24 live Ret q.1 q.2 :=
  am_kc (ak_aload_n dX3_add_0 rfl rfl) <|
  am_kc (ak_aload_n dX3_add_1 rfl rfl) <|
  am_kc (ak_getI (C := RX3) (T := TX3) (N := 3) rfl inX3w (by decide) rfl rfl rfl wd_150 dX3_add_2 rfl) <|
  am_kc (ak_iconst dX3_add_5 (by decide +kernel) rfl) <|
  am_kc (ak_iload_n dX3_add_6 rfl rfl) <|
  am_kc (ak_callV (C := RX3) (F := TX3) (N := 3) metX3_put rfl ⟨rfl, by decide +kernel, by decide +kernel, by decide +kernel⟩ (am_w5 wd_481 wd_482 wd_483 wd_64 wd_484) (by decide) dX3_add_7 rfl) <|
  am_kc (ak_aload_n dX3_add_10 rfl rfl) <|
  am_kc (ak_aload_n dX3_add_11 rfl rfl) <|
  am_kc (ak_getI (C := RX3) (T := TX3) (N := 3) rfl inX3w (by decide) rfl rfl rfl wd_150 dX3_add_12 rfl) <|
  am_kc (ak_iconst dX3_add_15 (by decide +kernel) rfl) <|
  am_kc (ak_iload_n dX3_add_16 rfl rfl) <|
  am_kc (ak_callV (C := RX3) (F := TX3) (N := 3) metX3_put rfl ⟨rfl, by decide +kernel, by decide +kernel, by decide +kernel⟩ (am_w5 wd_481 wd_482 wd_483 wd_64 wd_484) (by decide) dX3_add_17 rfl) <|
  am_kc (ak_aload_n dX3_add_20 rfl rfl) <|
  am_kc (ak_aload_n dX3_add_21 rfl rfl) <|
  am_kc (ak_getI (C := RX3) (T := TX3) (N := 3) rfl inX3w (by decide) rfl rfl rfl wd_150 dX3_add_22 rfl) <|
  am_kc (ak_iconst dX3_add_25 (by decide +kernel) rfl) <|
  am_kc (ak_iload_n dX3_add_26 rfl rfl) <|
  am_kc (ak_callV (C := RX3) (F := TX3) (N := 3) metX3_put rfl ⟨rfl, by decide +kernel, by decide +kernel, by decide +kernel⟩ (am_w5 wd_481 wd_482 wd_483 wd_64 wd_484) (by decide) dX3_add_27 rfl) <|
  am_kc (ak_aload_n dX3_add_30 rfl rfl) <|
  am_kc (ak_dup dX3_add_31 rfl) <|
  am_kc (ak_getI (C := RX3) (T := TX3) (N := 3) rfl inX3w (by decide) rfl rfl rfl wd_150 dX3_add_32 rfl) <|
  am_kc (ak_iconst dX3_add_35 (by decide +kernel) rfl) <|
  am_kc (ak_iadd dX3_add_36 rfl) <|
  am_kc (ak_putI (C := RX3) (T := TX3) (N := 3) rfl inX3w tyX3_ok nmX3 (by decide) rfl rfl rfl rfl (by decide +kernel) wd_150 dX3_add_37 rfl) <|
  am_kc (ak_aload_n dX3_add_40 rfl rfl) <|
  am_kc (ak_getI (C := RX3) (T := TX3) (N := 3) rfl inX3w (by decide) rfl rfl rfl wd_150 dX3_add_41 rfl) <|
  am_kc (ak_iconst dX3_add_44 (by decide +kernel) rfl) <|
  am_kc (ak_isub dX3_add_45 rfl) <|
  am_kc (ak_retI dX3_add_46) <| am_kn
def am_radd (M : am_M) (r c : Nat) (x y z : Int32) : am_M := am_wI (am_rput (am_rput (am_rput M r c (M.1 r 2) 0 x) r c (M.1 r 2) 1 y) r c (M.1 r 2) 2 z) r 2 (M.1 r 2 + 1)
def TX3_add : am_T := fun live as M R => match as with
  | [.ref r, .int x, .int y, .int z] => am_ex (live.2 r 0) (fun c => am_if (am_rc live r c) (R (some (.int (M.1 r 2 + 1 - 1))) (am_radd M r c x y z)))
  | _ => False
set_option maxRecDepth 100000 in
set_option maxHeartbeats 4000000 in
theorem metX3_add : am_Met yX3_add cX3_add 4 (some .int) (1) (24) TX3_add := by
  refine am_met (own := RX3) (by decide +kernel) rfl kX3_add koX3_add 60 (fun _ _ _ _ _ => none) (fun live as M Ret h => ?_) (fun _ _ _ _ _ _ _ _ hI => by cases hI)
  unfold TX3_add at h
  split at h
  · next r x y z =>
    refine ⟨Nat.le_of_ble_eq_true rfl, ?_⟩
    change am_wp _ _ _ _ [(0, Value.ref r), (1, Value.int x), (2, Value.int y), (3, Value.int z)] _ _
    have hh := am_qm h
    clear h
    obtain ⟨c, h2, h⟩ := hh
    have hh := am_if_mp h
    clear h
    obtain ⟨hb, h⟩ := hh
    obtain ⟨h1, h3, h4, h5⟩ := am_rc_spec hb
    repeat' (first | exact rfl | (with_reducible exact h1) | (with_reducible exact h2) | (with_reducible exact hb) | (refine Exists.intro _ (And.intro h2 ?_)) | apply And.intro | intro hx | (refine Exists.intro _ (And.intro rfl ?_)) | ((with_reducible change _ = true); simp only [h1, h2, hb, Bool.true_and]; rfl))
    all_goals try first | (with_reducible change am_tI _ _) | (change Ret _ _) | (change Ret _ _ _) | (change Exists _)
    all_goals try dsimp only at *
    all_goals try exact absurd ‹(1000 : Int64) = 0› (by decide)
    simp only [am_wI_1, am_rput_ne h5, and_self, if_true]
    exact h
  · exact h.elim
theorem dX3_dropLast_0 : decode cX3_dropLast 0 = .ok (.aload_n 0, 1) := by decide +kernel
theorem dX3_dropLast_1 : decode cX3_dropLast 1 = .ok (.getfield 19, 3) := by decide +kernel
theorem dX3_dropLast_4 : decode cX3_dropLast 4 = .ok (.ifCond .le 13, 3) := by decide +kernel
theorem dX3_dropLast_7 : decode cX3_dropLast 7 = .ok (.aload_n 0, 1) := by decide +kernel
theorem dX3_dropLast_8 : decode cX3_dropLast 8 = .ok (.dup, 1) := by decide +kernel
theorem dX3_dropLast_9 : decode cX3_dropLast 9 = .ok (.getfield 19, 3) := by decide +kernel
theorem dX3_dropLast_12 : decode cX3_dropLast 12 = .ok (.iconst 1, 1) := by decide +kernel
theorem dX3_dropLast_13 : decode cX3_dropLast 13 = .ok (.isub, 1) := by decide +kernel
theorem dX3_dropLast_14 : decode cX3_dropLast 14 = .ok (.putfield 19, 3) := by decide +kernel
theorem dX3_dropLast_17 : decode cX3_dropLast 17 = .ok (.return_, 1) := by decide +kernel
def kX3_dropLast (live : am_E) (Ret : am_R) : am_code := [(0, am_aload 0 1), (1, am_getI live 3 2 4), (4, am_if1 (fun x => x ≤ 0) 17 7), (7, am_aload 0 8), (8, am_dup 9), (9, am_getI live 3 2 12), (12, am_const (.int 1) 13), (13, am_i2 (fun x y => x - y) 14), (14, am_putI live 3 2 17), (17, am_retV Ret)]
theorem koX3_dropLast (live : am_E) (Ret : am_R) : ∀ q ∈ kX3_dropLast live Ret, am_ok RX3 cX3_dropLast 1 none 0 0 live Ret q.1 q.2 :=
  am_kc (ak_aload_n dX3_dropLast_0 rfl rfl) <|
  am_kc (ak_getI (C := RX3) (T := TX3) (N := 3) rfl inX3w (by decide) rfl rfl rfl wd_150 dX3_dropLast_1 rfl) <|
  am_kc (ak_if_le dX3_dropLast_4 (by decide +kernel) rfl) <|
  am_kc (ak_aload_n dX3_dropLast_7 rfl rfl) <|
  am_kc (ak_dup dX3_dropLast_8 rfl) <|
  am_kc (ak_getI (C := RX3) (T := TX3) (N := 3) rfl inX3w (by decide) rfl rfl rfl wd_150 dX3_dropLast_9 rfl) <|
  am_kc (ak_iconst dX3_dropLast_12 (by decide +kernel) rfl) <|
  am_kc (ak_isub dX3_dropLast_13 rfl) <|
  am_kc (ak_putI (C := RX3) (T := TX3) (N := 3) rfl inX3w tyX3_ok nmX3 (by decide) rfl rfl rfl rfl (by decide +kernel) wd_150 dX3_dropLast_14 rfl) <|
  am_kc (ak_retV dX3_dropLast_17) <| am_kn
def TX3_dropLast : am_T := fun live as M R => match as with
  | [.ref r] => am_if (am_isO live 3 r) (R none (am_wIc (0 < M.1 r 2) M r 2 (M.1 r 2 - 1)))
  | _ => False
set_option maxRecDepth 100000 in
set_option maxHeartbeats 4000000 in
theorem metX3_dropLast : am_Met yX3_dropLast cX3_dropLast 1 none (0) (0) TX3_dropLast := by
  refine am_met (own := RX3) (by decide +kernel) rfl kX3_dropLast koX3_dropLast 60 (fun _ _ _ _ _ => none) (fun live as M Ret h => ?_) (fun _ _ _ _ _ _ _ _ hI => by cases hI)
  unfold TX3_dropLast at h
  split at h
  · next r =>
    refine ⟨Nat.le_of_ble_eq_true rfl, ?_⟩
    change am_wp _ _ _ _ [(0, Value.ref r)] _ _
    have hh := am_if_mp h
    clear h
    obtain ⟨h1, h⟩ := hh
    repeat' (first | exact rfl | (with_reducible exact h1) | apply And.intro | intro hx | (refine Exists.intro _ (And.intro rfl ?_)) | ((with_reducible change _ = true); simp only [h1, Bool.true_and]; rfl))
    all_goals try first | (with_reducible change am_tI _ _) | (change Ret _ _) | (change Ret _ _ _) | (change Exists _)
    all_goals try dsimp only at *
    all_goals try exact absurd ‹(1000 : Int64) = 0› (by decide)
    · rw [am_wIc_f (by simp only [i_lt, i_le] at *; omega)] at h; exact h
    · rw [am_wIc_t (by simp only [i_lt, i_le] at *; omega)] at h; exact h
  · exact h.elim
theorem wd_847 : Cond.methodLink "LearnLoans$Rows" 26 Lib.Math.min.name ∈ am_ws := am_wsi (List.mem_of_getElem? (i := 847) (by decide +kernel)) (by decide +kernel)
theorem wd_848 : Cond.static Lib.Math.min.name ∈ am_ws := am_wsi (List.mem_of_getElem? (i := 848) (by decide +kernel)) (by decide +kernel)
theorem wd_849 : Cond.code Lib.Math.min.name Lib.Math.min.code 2 (some .int) ∈ am_ws := am_wsi (List.mem_of_getElem? (i := 849) (by decide +kernel)) (by decide +kernel)
theorem wd_850 : Cond.methodLink "LearnLoans$Rows" 32 arraycopyName ∈ am_ws := am_wsi (List.mem_of_getElem? (i := 850) (by decide +kernel)) (by decide +kernel)
theorem wd_498 : Cond.native arraycopyName ∈ am_ws := am_wsi (List.mem_of_getElem? (i := 498) (by decide +kernel)) (by decide +kernel)
theorem wd_497 : Cond.static arraycopyName ∈ am_ws := am_wsi (List.mem_of_getElem? (i := 497) (by decide +kernel)) (by decide +kernel)
theorem wd_69 : Cond.initialized "java/lang/System" ∈ am_ws := am_wsi (List.mem_of_getElem? (i := 69) (by decide +kernel)) (by decide +kernel)
theorem dX3_takeOver_0 : decode cX3_takeOver 0 = .ok (.aload_n 1, 1) := by decide +kernel
theorem dX3_takeOver_1 : decode cX3_takeOver 1 = .ok (.getfield 9, 3) := by decide +kernel
theorem dX3_takeOver_4 : decode cX3_takeOver 4 = .ok (.iconst 0, 1) := by decide +kernel
theorem dX3_takeOver_5 : decode cX3_takeOver 5 = .ok (.aload_n 0, 1) := by decide +kernel
theorem dX3_takeOver_6 : decode cX3_takeOver 6 = .ok (.getfield 9, 3) := by decide +kernel
theorem dX3_takeOver_9 : decode cX3_takeOver 9 = .ok (.iconst 0, 1) := by decide +kernel
theorem dX3_takeOver_10 : decode cX3_takeOver 10 = .ok (.aload_n 0, 1) := by decide +kernel
theorem dX3_takeOver_11 : decode cX3_takeOver 11 = .ok (.getfield 9, 3) := by decide +kernel
theorem dX3_takeOver_14 : decode cX3_takeOver 14 = .ok (.arraylength, 1) := by decide +kernel
theorem dX3_takeOver_15 : decode cX3_takeOver 15 = .ok (.aload_n 1, 1) := by decide +kernel
theorem dX3_takeOver_16 : decode cX3_takeOver 16 = .ok (.getfield 9, 3) := by decide +kernel
theorem dX3_takeOver_19 : decode cX3_takeOver 19 = .ok (.arraylength, 1) := by decide +kernel
theorem dX3_takeOver_20 : decode cX3_takeOver 20 = .ok (.invokestatic 26, 3) := by decide +kernel
theorem dX3_takeOver_23 : decode cX3_takeOver 23 = .ok (.invokestatic 32, 3) := by decide +kernel
theorem dX3_takeOver_26 : decode cX3_takeOver 26 = .ok (.aload_n 0, 1) := by decide +kernel
theorem dX3_takeOver_27 : decode cX3_takeOver 27 = .ok (.aload_n 1, 1) := by decide +kernel
theorem dX3_takeOver_28 : decode cX3_takeOver 28 = .ok (.getfield 19, 3) := by decide +kernel
theorem dX3_takeOver_31 : decode cX3_takeOver 31 = .ok (.putfield 19, 3) := by decide +kernel
theorem dX3_takeOver_34 : decode cX3_takeOver 34 = .ok (.return_, 1) := by decide +kernel
def kX3_takeOver (live : am_E) (Ret : am_R) : am_code := [(0, am_aload 1 1), (1, am_getR live 3 0 4), (4, am_const (.int 0) 5), (5, am_aload 0 6), (6, am_getR live 3 0 9), (9, am_const (.int 0) 10), (10, am_aload 0 11), (11, am_getR live 3 0 14), (14, am_alen live 0 15), (15, am_aload 1 16), (16, am_getR live 3 0 19), (19, am_alen live 0 20), (20, am_math2 (fun x y => if y < x then y else x) 31 23), (23, am_copyI live 31 26), (26, am_aload 0 27), (27, am_aload 1 28), (28, am_getI live 3 2 31), (31, am_putI live 3 2 34), (34, am_retV Ret)]
theorem koX3_takeOver (live : am_E) (Ret : am_R) : ∀ q ∈ kX3_takeOver live Ret, am_ok RX3 cX3_takeOver 2 none 1 31 live Ret q.1 q.2 :=
  am_kc (ak_aload_n dX3_takeOver_0 rfl rfl) <|
  am_kc (ak_getR (C := RX3) (T := TX3) (N := 3) rfl inX3w (by decide) rfl rfl rfl wd_147 dX3_takeOver_1 rfl) <|
  am_kc (ak_iconst dX3_takeOver_4 (by decide +kernel) rfl) <|
  am_kc (ak_aload_n dX3_takeOver_5 rfl rfl) <|
  am_kc (ak_getR (C := RX3) (T := TX3) (N := 3) rfl inX3w (by decide) rfl rfl rfl wd_147 dX3_takeOver_6 rfl) <|
  am_kc (ak_iconst dX3_takeOver_9 (by decide +kernel) rfl) <|
  am_kc (ak_aload_n dX3_takeOver_10 rfl rfl) <|
  am_kc (ak_getR (C := RX3) (T := TX3) (N := 3) rfl inX3w (by decide) rfl rfl rfl wd_147 dX3_takeOver_11 rfl) <|
  am_kc (ak_alen (t := 0) (fun _ => rfl) dX3_takeOver_14 rfl) <|
  am_kc (ak_aload_n dX3_takeOver_15 rfl rfl) <|
  am_kc (ak_getR (C := RX3) (T := TX3) (N := 3) rfl inX3w (by decide) rfl rfl rfl wd_147 dX3_takeOver_16 rfl) <|
  am_kc (ak_alen (t := 0) (fun _ => rfl) dX3_takeOver_19 rfl) <|
  am_kc (ak_imin (am_w4 wd_847 wd_848 wd_68 wd_849) (by decide) dX3_takeOver_20 rfl) <|
  am_kc (ak_copyI (am_w4 wd_850 wd_498 wd_497 wd_69) (by decide) dX3_takeOver_23 rfl) <|
  am_kc (ak_aload_n dX3_takeOver_26 rfl rfl) <|
  am_kc (ak_aload_n dX3_takeOver_27 rfl rfl) <|
  am_kc (ak_getI (C := RX3) (T := TX3) (N := 3) rfl inX3w (by decide) rfl rfl rfl wd_150 dX3_takeOver_28 rfl) <|
  am_kc (ak_putI (C := RX3) (T := TX3) (N := 3) rfl inX3w tyX3_ok nmX3 (by decide) rfl rfl rfl rfl (by decide +kernel) wd_150 dX3_takeOver_31 rfl) <|
  am_kc (ak_retV dX3_takeOver_34) <| am_kn
def TX3_takeOver : am_T := fun live as M R => match as with
  | [.ref r, .ref r2] => am_ex (live.2 r 0) (fun c => am_ex (live.2 r2 0) (fun c2 => am_if (am_rc live r c && am_rc live r2 c2 && Nat.beq (am_len c) (am_len c2)) (R none (am_wI (am_cI M c (va_cpy (M.1 c2) (M.1 c) 0 0 (am_len c))) r 2 (M.1 r2 2)))))
  | _ => False
set_option maxRecDepth 100000 in
set_option maxHeartbeats 4000000 in
theorem metX3_takeOver : am_Met yX3_takeOver cX3_takeOver 2 none (1) (31) TX3_takeOver := by
  refine am_met (own := RX3) (by decide +kernel) rfl kX3_takeOver koX3_takeOver 60 (fun _ _ _ _ _ => none) (fun live as M Ret h => ?_) (fun _ _ _ _ _ _ _ _ hI => by cases hI)
  unfold TX3_takeOver at h
  split at h
  · next r r2 =>
    refine ⟨Nat.le_of_ble_eq_true rfl, ?_⟩
    change am_wp _ _ _ _ [(0, Value.ref r), (1, Value.ref r2)] _ _
    have hh := am_qm h
    clear h
    obtain ⟨c, h2, h⟩ := hh
    have hh := am_qm h
    clear h
    obtain ⟨c2, h6, h⟩ := hh
    have hh := am_if_mp h
    clear h
    obtain ⟨hb, h⟩ := hh
    simp only [Bool.and_eq_true] at hb
    obtain ⟨⟨hb, hc⟩, he⟩ := hb
    have he := Nat.eq_of_beq_eq_true he
    obtain ⟨h1, h3, h4, h5⟩ := am_rc_spec hb
    obtain ⟨h7, h8, h9, h10⟩ := am_rc_spec hc
    have hne := am_OA h7 h3
    have hn : (Int32.ofNat (am_len c2)).toInt = (am_len c2 : Int) := i_nat (by omega)
    have hn2 : (Int32.ofNat (am_len c2)).toNatClampNeg = am_len c2 := by have := i_clamp (x := Int32.ofNat (am_len c2)) (by omega); omega
    repeat' (first | exact rfl | (with_reducible exact h1) | (with_reducible exact h2) | (with_reducible exact h3) | (with_reducible exact h6) | (with_reducible exact h7) | (with_reducible exact h8) | (refine Exists.intro _ (Exists.intro _ (And.intro h2 (And.intro h6 ?_)))) | (refine Exists.intro _ (And.intro h2 ?_)) | (refine Exists.intro _ (And.intro h6 ?_)) | apply And.intro | intro hx | (refine Exists.intro _ (And.intro rfl ?_)) | ((with_reducible change _ = true); simp only [h1, h2, h3, h6, h7, h8, Bool.true_and]; rfl))
    all_goals try first | (with_reducible change am_tI _ _) | (change Ret _ _) | (change Ret _ _ _) | (change Exists _)
    all_goals try dsimp only at *
    all_goals try exact absurd ‹(1000 : Int64) = 0› (by decide)
    all_goals simp only [he, ite_self, hn, Int32.toInt_zero]
    · omega
    · omega
    · omega
    · omega
    · omega
    · simp only [he, hn2, am_cI_1, hne, if_false] at h ⊢
      exact h
  · exact h.elim
theorem wd_880 : Cond.constantLong "LearnLoans$Rows" 38 31 ∈ am_ws := am_wsi (List.mem_of_getElem? (i := 880) (by decide +kernel)) (by decide +kernel)
theorem dX3_mixed_0 : decode cX3_mixed 0 = .ok (.aload_n 0, 1) := by decide +kernel
theorem dX3_mixed_1 : decode cX3_mixed 1 = .ok (.getfield 19, 3) := by decide +kernel
theorem dX3_mixed_4 : decode cX3_mixed 4 = .ok (.aload_n 0, 1) := by decide +kernel
theorem dX3_mixed_5 : decode cX3_mixed 5 = .ok (.getfield 15, 3) := by decide +kernel
theorem dX3_mixed_8 : decode cX3_mixed 8 = .ok (.imul, 1) := by decide +kernel
theorem dX3_mixed_9 : decode cX3_mixed 9 = .ok (.aload_n 0, 1) := by decide +kernel
theorem dX3_mixed_10 : decode cX3_mixed 10 = .ok (.getfield 9, 3) := by decide +kernel
theorem dX3_mixed_13 : decode cX3_mixed 13 = .ok (.arraylength, 1) := by decide +kernel
theorem dX3_mixed_14 : decode cX3_mixed 14 = .ok (.invokestatic 26, 3) := by decide +kernel
theorem dX3_mixed_17 : decode cX3_mixed 17 = .ok (.istore_n 3, 1) := by decide +kernel
theorem dX3_mixed_18 : decode cX3_mixed 18 = .ok (.iconst 0, 1) := by decide +kernel
theorem dX3_mixed_19 : decode cX3_mixed 19 = .ok (.istore 4, 2) := by decide +kernel
theorem dX3_mixed_21 : decode cX3_mixed 21 = .ok (.iload 4, 2) := by decide +kernel
theorem dX3_mixed_23 : decode cX3_mixed 23 = .ok (.iload_n 3, 1) := by decide +kernel
theorem dX3_mixed_24 : decode cX3_mixed 24 = .ok (.if_icmp .ge 24, 3) := by decide +kernel
theorem dX3_mixed_27 : decode cX3_mixed 27 = .ok (.ldc2_w 38, 3) := by decide +kernel
theorem dX3_mixed_30 : decode cX3_mixed 30 = .ok (.lload_n 1, 1) := by decide +kernel
theorem dX3_mixed_31 : decode cX3_mixed 31 = .ok (.lmul, 1) := by decide +kernel
theorem dX3_mixed_32 : decode cX3_mixed 32 = .ok (.aload_n 0, 1) := by decide +kernel
theorem dX3_mixed_33 : decode cX3_mixed 33 = .ok (.getfield 9, 3) := by decide +kernel
theorem dX3_mixed_36 : decode cX3_mixed 36 = .ok (.iload 4, 2) := by decide +kernel
theorem dX3_mixed_38 : decode cX3_mixed 38 = .ok (.iaload, 1) := by decide +kernel
theorem dX3_mixed_39 : decode cX3_mixed 39 = .ok (.i2l, 1) := by decide +kernel
theorem dX3_mixed_40 : decode cX3_mixed 40 = .ok (.ladd, 1) := by decide +kernel
theorem dX3_mixed_41 : decode cX3_mixed 41 = .ok (.lstore_n 1, 1) := by decide +kernel
theorem dX3_mixed_42 : decode cX3_mixed 42 = .ok (.iinc 4 1, 3) := by decide +kernel
theorem dX3_mixed_45 : decode cX3_mixed 45 = .ok (.goto (-24), 3) := by decide +kernel
theorem dX3_mixed_48 : decode cX3_mixed 48 = .ok (.lload_n 1, 1) := by decide +kernel
theorem dX3_mixed_49 : decode cX3_mixed 49 = .ok (.lreturn, 1) := by decide +kernel
def kX3_mixed (live : am_E) (Ret : am_R) : am_code := [(0, am_aload 0 1), (1, am_getI live 3 2 4), (4, am_aload 0 5), (5, am_getI live 3 1 8), (8, am_i2 (fun x y => x * y) 9), (9, am_aload 0 10), (10, am_getR live 3 0 13), (13, am_alen live 0 14), (14, am_math2 (fun x y => if y < x then y else x) 23 17), (17, am_istore 3 5 18), (18, am_const (.int 0) 19), (19, am_istore 4 5 21), (21, am_iload 4 23), (23, am_iload 3 24), (24, am_if2 (fun x y => y ≤ x) 48 27), (27, am_const (.long 31) 30), (30, am_lload 1 31), (31, am_l2 (fun x y => x * y) 32), (32, am_aload 0 33), (33, am_getR live 3 0 36), (36, am_iload 4 38), (38, am_ald live 0 39), (39, am_i2l 40), (40, am_l2 (fun x y => x + y) 41), (41, am_lstore 1 5 42), (42, am_iinc 4 5 1 45), (45, am_goto 21), (48, am_lload 1 49), (49, am_retL Ret)]
theorem koX3_mixed (live : am_E) (Ret : am_R) : ∀ q ∈ kX3_mixed live Ret, am_ok RX3 cX3_mixed 5 (some .long) 1 23 live Ret q.1 q.2 :=
  am_kc (ak_aload_n dX3_mixed_0 rfl rfl) <|
  am_kc (ak_getI (C := RX3) (T := TX3) (N := 3) rfl inX3w (by decide) rfl rfl rfl wd_150 dX3_mixed_1 rfl) <|
  am_kc (ak_aload_n dX3_mixed_4 rfl rfl) <|
  am_kc (ak_getI (C := RX3) (T := TX3) (N := 3) rfl inX3w (by decide) rfl rfl rfl wd_148 dX3_mixed_5 rfl) <|
  am_kc (ak_imul dX3_mixed_8 rfl) <|
  am_kc (ak_aload_n dX3_mixed_9 rfl rfl) <|
  am_kc (ak_getR (C := RX3) (T := TX3) (N := 3) rfl inX3w (by decide) rfl rfl rfl wd_147 dX3_mixed_10 rfl) <|
  am_kc (ak_alen (t := 0) (fun _ => rfl) dX3_mixed_13 rfl) <|
  am_kc (ak_imin (am_w4 wd_847 wd_848 wd_68 wd_849) (by decide) dX3_mixed_14 rfl) <|
  am_kc (ak_istore_n dX3_mixed_17 rfl rfl) <|
  am_kc (ak_iconst dX3_mixed_18 (by decide +kernel) rfl) <|
  am_kc (ak_istore dX3_mixed_19 rfl) <|
  am_kc (ak_iload dX3_mixed_21 rfl) <|
  am_kc (ak_iload_n dX3_mixed_23 rfl rfl) <|
  am_kc (ak_icmp_ge dX3_mixed_24 (by decide +kernel) rfl) <|
  am_kc (ak_ldc2 wd_880 dX3_mixed_27 rfl) <|
  am_kc (ak_lload_n dX3_mixed_30 rfl rfl) <|
  am_kc (ak_lmul dX3_mixed_31 rfl) <|
  am_kc (ak_aload_n dX3_mixed_32 rfl rfl) <|
  am_kc (ak_getR (C := RX3) (T := TX3) (N := 3) rfl inX3w (by decide) rfl rfl rfl wd_147 dX3_mixed_33 rfl) <|
  am_kc (ak_iload dX3_mixed_36 rfl) <|
  am_kc (ak_iald (t := 0) (fun _ => rfl) rfl dX3_mixed_38 rfl) <|
  am_kc (ak_i2l dX3_mixed_39 rfl) <|
  am_kc (ak_ladd dX3_mixed_40 rfl) <|
  am_kc (ak_lstore_n dX3_mixed_41 rfl rfl) <|
  am_kc (ak_iinc dX3_mixed_42 (by decide +kernel) rfl) <|
  am_kc (ak_goto dX3_mixed_45 (by decide +kernel)) <|
  am_kc (ak_lload_n dX3_mixed_48 rfl rfl) <|
  am_kc (ak_retL dX3_mixed_49) <| am_kn
def TX3_mixed : am_T := fun live as M R => match as with
  | [.ref r, .long x] => am_ex (live.2 r 0) (fun c => am_if (am_rc live r c) (∀ y, R (some (.long y)) M))
  | _ => False
def JX3_mixed : am_E → List Value → am_M → am_R → am_inv := fun live as M0 _ pc => match as with
  | [.ref r, .long x] => (match live.2 r 0 with
    | some c => (match pc with
      | 21 => some ([0, 1, 3, 4], fun k L st M => ∃ (y : Int64) (e i : Int32), L = [(0, .ref r), (1, .long y), (3, .int e), (4, .int i)] ∧ st = [] ∧ k = ((am_len c + 1 - i.toInt).toNat, 0) ∧ 0 ≤ i.toInt ∧ e.toInt ≤ am_len c ∧ M = M0)
      | _ => none)
    | none => none)
  | _ => none
set_option maxRecDepth 100000 in
set_option maxHeartbeats 4000000 in
theorem metX3_mixed : am_Met yX3_mixed cX3_mixed 5 (some .long) (1) (23) TX3_mixed := by
  refine am_met (own := RX3) (by decide +kernel) rfl kX3_mixed koX3_mixed 60 JX3_mixed ?_ ?_
  · intro live as M Ret h
    unfold TX3_mixed at h
    split at h
    · next r x =>
      refine ⟨Nat.le_of_ble_eq_true rfl, ?_⟩
      change am_wp _ _ _ _ [(0, Value.ref r), (1, Value.long x)] _ _
      have hh := am_qm h
      clear h
      obtain ⟨c, h2, h⟩ := hh
      have hh := am_if_mp h
      clear h
      obtain ⟨hb, h⟩ := hh
      obtain ⟨h1, h3, h4, h5⟩ := am_rc_spec hb
      have hn : (Int32.ofNat (am_len c)).toInt = (am_len c : Int) := i_nat (by omega)
      have hJ : ∀ pc, JX3_mixed live [.ref r, .long x] M Ret pc = (match pc with
        | 21 => some ([0, 1, 3, 4], fun k L st M' => ∃ (y : Int64) (e i : Int32), L = [(0, .ref r), (1, .long y), (3, .int e), (4, .int i)] ∧ st = [] ∧ k = ((am_len c + 1 - i.toInt).toNat, 0) ∧ 0 ≤ i.toInt ∧ e.toInt ≤ am_len c ∧ M' = M)
        | _ => none) := fun pc => by unfold JX3_mixed; simp only [h2]
      rw [show JX3_mixed live [.ref r, .long x] M Ret = _ from funext hJ]
      repeat' (first | exact rfl | (with_reducible exact h1) | (with_reducible exact h2) | (with_reducible exact h3) | (refine Exists.intro _ (And.intro h2 ?_)) | apply And.intro | intro hx | (refine Exists.intro _ (And.intro rfl ?_)) | ((with_reducible change _ = true); simp only [h1, h2, h3, Bool.true_and]; rfl))
      all_goals try first | (with_reducible change am_tI _ _) | (change Ret _ _) | (change Ret _ _ _) | (change Exists _)
      all_goals try dsimp only at *
      all_goals try exact absurd ‹(1000 : Int64) = 0› (by decide)
      refine ⟨_, _, _, _, rfl, rfl, rfl, by decide, ?_, rfl⟩
      split
      · omega
      · simp only [i_lt] at *; omega
    · exact h.elim
  · intro live as M0 Ret h k pc I hI L st M hi
    unfold TX3_mixed at h
    split at h
    · next r x =>
      have hh := am_qm h
      clear h
      obtain ⟨c, h2, h⟩ := hh
      have hh := am_if_mp h
      clear h
      obtain ⟨hb, h⟩ := hh
      obtain ⟨h1, h3, h4, h5⟩ := am_rc_spec hb
      have hJ : ∀ pc, JX3_mixed live [.ref r, .long x] M0 Ret pc = (match pc with
        | 21 => some ([0, 1, 3, 4], fun k L st M' => ∃ (y : Int64) (e i : Int32), L = [(0, .ref r), (1, .long y), (3, .int e), (4, .int i)] ∧ st = [] ∧ k = ((am_len c + 1 - i.toInt).toNat, 0) ∧ 0 ≤ i.toInt ∧ e.toInt ≤ am_len c ∧ M' = M0)
        | _ => none) := fun pc => by unfold JX3_mixed; simp only [h2]
      rw [show JX3_mixed live [.ref r, .long x] M0 Ret = _ from funext hJ] at hI ⊢
      change (match pc with | 21 => _ | _ => none) = _ at hI
      split at hI
      · cases hI
        obtain ⟨y, e, i, rfl, rfl, rfl, e1, e2, rfl⟩ := hi
        repeat' (first | exact rfl | (with_reducible exact h1) | (with_reducible exact h2) | (with_reducible exact h3) | (refine Exists.intro _ (And.intro h2 ?_)) | apply And.intro | intro hx | (refine Exists.intro _ (And.intro rfl ?_)) | ((with_reducible change _ = true); simp only [h1, h2, h3, Bool.true_and]; rfl))
        all_goals try first | (with_reducible change am_tI _ _) | (change Ret _ _) | (change Ret _ _ _) | (change Exists _)
        all_goals try dsimp only at *
        all_goals try exact absurd ‹(1000 : Int64) = 0› (by decide)
        · exact h _
        · omega
        · simp only [i_lt, i_le] at *; omega
        · refine ⟨_, Or.inl ?_, _, _, i + 1, rfl, rfl, rfl, ?_, e2, rfl⟩
          all_goals simp only [i_lt, i_le] at *
          all_goals
            have hi := i_add (x := i) (y := 1) (by simp only [Int32.reduceToInt]; omega) (by simp only [Int32.reduceToInt]; omega)
            simp only [Int32.reduceToInt] at hi
            omega
      · cases hI
    · exact h.elim
end
section
/-! People and House: what is read; an act more -/
theorem wd_113 : Cond.fieldLink "LearnLoans$People" 21 "LearnLoans$People" "first" "[I" ∈ am_ws := am_wsi (List.mem_of_getElem? (i := 113) (by decide +kernel)) (by decide +kernel)
theorem wd_119 : Cond.fieldLink "LearnLoans$People" 30 "LearnLoans$People" "secondKnown" "[I" ∈ am_ws := am_wsi (List.mem_of_getElem? (i := 119) (by decide +kernel)) (by decide +kernel)
theorem wd_117 : Cond.fieldLink "LearnLoans$People" 27 "LearnLoans$People" "second" "[I" ∈ am_ws := am_wsi (List.mem_of_getElem? (i := 117) (by decide +kernel)) (by decide +kernel)
theorem wd_115 : Cond.fieldLink "LearnLoans$People" 24 "LearnLoans$People" "firstKnown" "[I" ∈ am_ws := am_wsi (List.mem_of_getElem? (i := 115) (by decide +kernel)) (by decide +kernel)
theorem dX2_earned_0 : decode cX2_earned 0 = .ok (.iload_n 1, 1) := by decide +kernel
theorem dX2_earned_1 : decode cX2_earned 1 = .ok (.bipush 40, 2) := by decide +kernel
theorem dX2_earned_3 : decode cX2_earned 3 = .ok (.imul, 1) := by decide +kernel
theorem dX2_earned_4 : decode cX2_earned 4 = .ok (.iload_n 2, 1) := by decide +kernel
theorem dX2_earned_5 : decode cX2_earned 5 = .ok (.iadd, 1) := by decide +kernel
theorem dX2_earned_6 : decode cX2_earned 6 = .ok (.istore 4, 2) := by decide +kernel
theorem dX2_earned_8 : decode cX2_earned 8 = .ok (.iload 4, 2) := by decide +kernel
theorem dX2_earned_10 : decode cX2_earned 10 = .ok (.ifCond .lt 13, 3) := by decide +kernel
theorem dX2_earned_13 : decode cX2_earned 13 = .ok (.iload 4, 2) := by decide +kernel
theorem dX2_earned_15 : decode cX2_earned 15 = .ok (.aload_n 0, 1) := by decide +kernel
theorem dX2_earned_16 : decode cX2_earned 16 = .ok (.getfield 21, 3) := by decide +kernel
theorem dX2_earned_19 : decode cX2_earned 19 = .ok (.arraylength, 1) := by decide +kernel
theorem dX2_earned_20 : decode cX2_earned 20 = .ok (.if_icmp .lt 5, 3) := by decide +kernel
theorem dX2_earned_23 : decode cX2_earned 23 = .ok (.iconst (-1), 1) := by decide +kernel
theorem dX2_earned_24 : decode cX2_earned 24 = .ok (.ireturn, 1) := by decide +kernel
theorem dX2_earned_25 : decode cX2_earned 25 = .ok (.aload_n 0, 1) := by decide +kernel
theorem dX2_earned_26 : decode cX2_earned 26 = .ok (.getfield 30, 3) := by decide +kernel
theorem dX2_earned_29 : decode cX2_earned 29 = .ok (.iload 4, 2) := by decide +kernel
theorem dX2_earned_31 : decode cX2_earned 31 = .ok (.iaload, 1) := by decide +kernel
theorem dX2_earned_32 : decode cX2_earned 32 = .ok (.iconst (-1), 1) := by decide +kernel
theorem dX2_earned_33 : decode cX2_earned 33 = .ok (.if_icmp .eq 22, 3) := by decide +kernel
theorem dX2_earned_36 : decode cX2_earned 36 = .ok (.aload_n 0, 1) := by decide +kernel
theorem dX2_earned_37 : decode cX2_earned 37 = .ok (.getfield 30, 3) := by decide +kernel
theorem dX2_earned_40 : decode cX2_earned 40 = .ok (.iload 4, 2) := by decide +kernel
theorem dX2_earned_42 : decode cX2_earned 42 = .ok (.iaload, 1) := by decide +kernel
theorem dX2_earned_43 : decode cX2_earned 43 = .ok (.iload_n 3, 1) := by decide +kernel
theorem dX2_earned_44 : decode cX2_earned 44 = .ok (.if_icmp .gt 11, 3) := by decide +kernel
theorem dX2_earned_47 : decode cX2_earned 47 = .ok (.aload_n 0, 1) := by decide +kernel
theorem dX2_earned_48 : decode cX2_earned 48 = .ok (.getfield 27, 3) := by decide +kernel
theorem dX2_earned_51 : decode cX2_earned 51 = .ok (.iload 4, 2) := by decide +kernel
theorem dX2_earned_53 : decode cX2_earned 53 = .ok (.iaload, 1) := by decide +kernel
theorem dX2_earned_54 : decode cX2_earned 54 = .ok (.ireturn, 1) := by decide +kernel
theorem dX2_earned_55 : decode cX2_earned 55 = .ok (.aload_n 0, 1) := by decide +kernel
theorem dX2_earned_56 : decode cX2_earned 56 = .ok (.getfield 24, 3) := by decide +kernel
theorem dX2_earned_59 : decode cX2_earned 59 = .ok (.iload 4, 2) := by decide +kernel
theorem dX2_earned_61 : decode cX2_earned 61 = .ok (.iaload, 1) := by decide +kernel
theorem dX2_earned_62 : decode cX2_earned 62 = .ok (.iconst (-1), 1) := by decide +kernel
theorem dX2_earned_63 : decode cX2_earned 63 = .ok (.if_icmp .eq 24, 3) := by decide +kernel
theorem dX2_earned_66 : decode cX2_earned 66 = .ok (.aload_n 0, 1) := by decide +kernel
theorem dX2_earned_67 : decode cX2_earned 67 = .ok (.getfield 24, 3) := by decide +kernel
theorem dX2_earned_70 : decode cX2_earned 70 = .ok (.iload 4, 2) := by decide +kernel
theorem dX2_earned_72 : decode cX2_earned 72 = .ok (.iaload, 1) := by decide +kernel
theorem dX2_earned_73 : decode cX2_earned 73 = .ok (.iload_n 3, 1) := by decide +kernel
theorem dX2_earned_74 : decode cX2_earned 74 = .ok (.if_icmp .gt 13, 3) := by decide +kernel
theorem dX2_earned_77 : decode cX2_earned 77 = .ok (.aload_n 0, 1) := by decide +kernel
theorem dX2_earned_78 : decode cX2_earned 78 = .ok (.getfield 21, 3) := by decide +kernel
theorem dX2_earned_81 : decode cX2_earned 81 = .ok (.iload 4, 2) := by decide +kernel
theorem dX2_earned_83 : decode cX2_earned 83 = .ok (.iaload, 1) := by decide +kernel
theorem dX2_earned_84 : decode cX2_earned 84 = .ok (.goto 4, 3) := by decide +kernel
theorem dX2_earned_87 : decode cX2_earned 87 = .ok (.iconst (-1), 1) := by decide +kernel
theorem dX2_earned_88 : decode cX2_earned 88 = .ok (.ireturn, 1) := by decide +kernel
def kX2_earned (live : am_E) (Ret : am_R) : am_code := [(0, am_iload 1 1), (1, am_const (.int 40) 3), (3, am_i2 (fun x y => x * y) 4), (4, am_iload 2 5), (5, am_i2 (fun x y => x + y) 6), (6, am_istore 4 5 8), (8, am_iload 4 10), (10, am_if1 (fun x => x < 0) 23 13), (13, am_iload 4 15), (15, am_aload 0 16), (16, am_getR live 2 3 19), (19, am_alen live 0 20), (20, am_if2 (fun x y => x < y) 25 23), (23, am_const (.int (-1)) 24), (24, am_retI Ret), (25, am_aload 0 26), (26, am_getR live 2 6 29), (29, am_iload 4 31), (31, am_ald live 0 32), (32, am_const (.int (-1)) 33), (33, am_if2 (fun x y => x = y) 55 36), (36, am_aload 0 37), (37, am_getR live 2 6 40), (40, am_iload 4 42), (42, am_ald live 0 43), (43, am_iload 3 44), (44, am_if2 (fun x y => y < x) 55 47), (47, am_aload 0 48), (48, am_getR live 2 5 51), (51, am_iload 4 53), (53, am_ald live 0 54), (54, am_retI Ret), (55, am_aload 0 56), (56, am_getR live 2 4 59), (59, am_iload 4 61), (61, am_ald live 0 62), (62, am_const (.int (-1)) 63), (63, am_if2 (fun x y => x = y) 87 66), (66, am_aload 0 67), (67, am_getR live 2 4 70), (70, am_iload 4 72), (72, am_ald live 0 73), (73, am_iload 3 74), (74, am_if2 (fun x y => y < x) 87 77), (77, am_aload 0 78), (78, am_getR live 2 3 81), (81, am_iload 4 83), (83, am_ald live 0 84), (84, am_goto 88), (87, am_const (.int (-1)) 88), (88, am_retI Ret)]
theorem koX2_earned (live : am_E) (Ret : am_R) : ∀ q ∈ kX2_earned live Ret, am_ok RX2 cX2_earned 5 (some .int) 0 0 live Ret q.1 q.2 :=
  am_kc (ak_iload_n dX2_earned_0 rfl rfl) <|
  am_kc (ak_bipush dX2_earned_1 (by decide +kernel) rfl) <|
  am_kc (ak_imul dX2_earned_3 rfl) <|
  am_kc (ak_iload_n dX2_earned_4 rfl rfl) <|
  am_kc (ak_iadd dX2_earned_5 rfl) <|
  am_kc (ak_istore dX2_earned_6 rfl) <|
  am_kc (ak_iload dX2_earned_8 rfl) <|
  am_kc (ak_if_lt dX2_earned_10 (by decide +kernel) rfl) <|
  am_kc (ak_iload dX2_earned_13 rfl) <|
  am_kc (ak_aload_n dX2_earned_15 rfl rfl) <|
  am_kc (ak_getR (C := RX2) (T := TX2) (N := 8) rfl inX2w (by decide) rfl rfl rfl wd_113 dX2_earned_16 rfl) <|
  am_kc (ak_alen (t := 0) (fun _ => rfl) dX2_earned_19 rfl) <|
  am_kc (ak_icmp_lt dX2_earned_20 (by decide +kernel) rfl) <|
  am_kc (ak_iconst dX2_earned_23 (by decide +kernel) rfl) <|
  am_kc (ak_retI dX2_earned_24) <|
  am_kc (ak_aload_n dX2_earned_25 rfl rfl) <|
  am_kc (ak_getR (C := RX2) (T := TX2) (N := 8) rfl inX2w (by decide) rfl rfl rfl wd_119 dX2_earned_26 rfl) <|
  am_kc (ak_iload dX2_earned_29 rfl) <|
  am_kc (ak_iald (t := 0) (fun _ => rfl) rfl dX2_earned_31 rfl) <|
  am_kc (ak_iconst dX2_earned_32 (by decide +kernel) rfl) <|
  am_kc (ak_icmp_eq dX2_earned_33 (by decide +kernel) rfl) <|
  am_kc (ak_aload_n dX2_earned_36 rfl rfl) <|
  am_kc (ak_getR (C := RX2) (T := TX2) (N := 8) rfl inX2w (by decide) rfl rfl rfl wd_119 dX2_earned_37 rfl) <|
  am_kc (ak_iload dX2_earned_40 rfl) <|
  am_kc (ak_iald (t := 0) (fun _ => rfl) rfl dX2_earned_42 rfl) <|
  am_kc (ak_iload_n dX2_earned_43 rfl rfl) <|
  am_kc (ak_icmp_gt dX2_earned_44 (by decide +kernel) rfl) <|
  am_kc (ak_aload_n dX2_earned_47 rfl rfl) <|
  am_kc (ak_getR (C := RX2) (T := TX2) (N := 8) rfl inX2w (by decide) rfl rfl rfl wd_117 dX2_earned_48 rfl) <|
  am_kc (ak_iload dX2_earned_51 rfl) <|
  am_kc (ak_iald (t := 0) (fun _ => rfl) rfl dX2_earned_53 rfl) <|
  am_kc (ak_retI dX2_earned_54) <|
  am_kc (ak_aload_n dX2_earned_55 rfl rfl) <|
  am_kc (ak_getR (C := RX2) (T := TX2) (N := 8) rfl inX2w (by decide) rfl rfl rfl wd_115 dX2_earned_56 rfl) <|
  am_kc (ak_iload dX2_earned_59 rfl) <|
  am_kc (ak_iald (t := 0) (fun _ => rfl) rfl dX2_earned_61 rfl) <|
  am_kc (ak_iconst dX2_earned_62 (by decide +kernel) rfl) <|
  am_kc (ak_icmp_eq dX2_earned_63 (by decide +kernel) rfl) <|
  am_kc (ak_aload_n dX2_earned_66 rfl rfl) <|
  am_kc (ak_getR (C := RX2) (T := TX2) (N := 8) rfl inX2w (by decide) rfl rfl rfl wd_115 dX2_earned_67 rfl) <|
  am_kc (ak_iload dX2_earned_70 rfl) <|
  am_kc (ak_iald (t := 0) (fun _ => rfl) rfl dX2_earned_72 rfl) <|
  am_kc (ak_iload_n dX2_earned_73 rfl rfl) <|
  am_kc (ak_icmp_gt dX2_earned_74 (by decide +kernel) rfl) <|
  am_kc (ak_aload_n dX2_earned_77 rfl rfl) <|
  am_kc (ak_getR (C := RX2) (T := TX2) (N := 8) rfl inX2w (by decide) rfl rfl rfl wd_113 dX2_earned_78 rfl) <|
  am_kc (ak_iload dX2_earned_81 rfl) <|
  am_kc (ak_iald (t := 0) (fun _ => rfl) rfl dX2_earned_83 rfl) <|
  am_kc (ak_goto dX2_earned_84 (by decide +kernel)) <|
  am_kc (ak_iconst dX2_earned_87 (by decide +kernel) rfl) <|
  am_kc (ak_retI dX2_earned_88) <| am_kn
def am_earn (M : am_M) (i k : Int32) : Int32 := if ¬ (0 ≤ i.toInt ∧ i.toInt < 480) then -1 else if M.1 28 i.toNatClampNeg ≠ -1 ∧ M.1 28 i.toNatClampNeg ≤ k then M.1 27 i.toNatClampNeg else if M.1 26 i.toNatClampNeg ≠ -1 ∧ M.1 26 i.toNatClampNeg ≤ k then M.1 25 i.toNatClampNeg else -1
theorem am_earn_no {M : am_M} {i k : Int32} (h : ¬ (0 ≤ i.toInt ∧ i.toInt < 480)) : am_earn M i k = -1 := if_pos h
theorem am_earn_2 {M : am_M} {i k : Int32} (h : 0 ≤ i.toInt ∧ i.toInt < 480) (h2 : ¬ M.1 28 i.toNatClampNeg = -1) (h3 : M.1 28 i.toNatClampNeg ≤ k) : am_earn M i k = M.1 27 i.toNatClampNeg := by
  unfold am_earn
  rw [if_neg (not_not_intro h), if_pos ⟨h2, h3⟩]
theorem am_earn_1 {M : am_M} {i k : Int32} (h : 0 ≤ i.toInt ∧ i.toInt < 480) (h2 : ¬ (M.1 28 i.toNatClampNeg ≠ -1 ∧ M.1 28 i.toNatClampNeg ≤ k)) : am_earn M i k = if M.1 26 i.toNatClampNeg ≠ -1 ∧ M.1 26 i.toNatClampNeg ≤ k then M.1 25 i.toNatClampNeg else -1 := by
  unfold am_earn
  rw [if_neg (not_not_intro h), if_neg h2]
def TX2_earned : am_T := fun live as M R => match as with
  | [.ref n, .int p, .int y, .int k] => am_mn live ∧ n = 21 ∧ R (some (.int (am_earn M (p * 40 + y) k))) M
  | _ => False
set_option maxRecDepth 100000 in
set_option maxHeartbeats 4000000 in
theorem metX2_earned : am_Met yX2_earned cX2_earned 5 (some .int) (0) (0) TX2_earned := by
  refine am_met (own := RX2) (by decide +kernel) rfl kX2_earned koX2_earned 200 (fun _ _ _ _ _ => none) (fun live as M Ret h => ?_) (fun _ _ _ _ _ _ _ _ hI => by cases hI)
  unfold TX2_earned at h
  split at h
  · next n p y k =>
    refine ⟨Nat.le_of_ble_eq_true rfl, ?_⟩
    change am_wp _ _ _ _ [(0, Value.ref n), (1, Value.int p), (2, Value.int y), (3, Value.int k)] _ _
    obtain ⟨⟨i1, i2, rfl⟩, rfl, h⟩ := h
    have hn : (Int32.ofNat (am_len 25)).toInt = 480 := by decide +kernel
    have l25 : am_len 25 = 480 := rfl
    have l26 : am_len 26 = 480 := rfl
    have l27 : am_len 27 = 480 := rfl
    have l28 : am_len 28 = 480 := rfl
    repeat' (first | exact rfl | apply And.intro | intro hx | (refine Exists.intro _ (And.intro rfl ?_)))
    all_goals try first | (with_reducible change am_tI _ _) | (change Ret _ _) | (change Ret _ _ _) | (change Exists _)
    all_goals try dsimp only at *
    all_goals try exact absurd ‹(1000 : Int64) = 0› (by decide)
    all_goals generalize p * 40 + y = i at *
    all_goals simp only [i_lt, i_le, hn, l25, l26, l27, l28, Int32.toInt_zero] at *
    all_goals first | omega | grind [am_earn, i_le]
  · exact h.elim
theorem wd_108 : Cond.fieldLink "LearnLoans$People" 15 "LearnLoans$People" "died" "[I" ∈ am_ws := am_wsi (List.mem_of_getElem? (i := 108) (by decide +kernel)) (by decide +kernel)
theorem dX2_isDead_0 : decode cX2_isDead 0 = .ok (.aload_n 0, 1) := by decide +kernel
theorem dX2_isDead_1 : decode cX2_isDead 1 = .ok (.getfield 15, 3) := by decide +kernel
theorem dX2_isDead_4 : decode cX2_isDead 4 = .ok (.iload_n 1, 1) := by decide +kernel
theorem dX2_isDead_5 : decode cX2_isDead 5 = .ok (.iaload, 1) := by decide +kernel
theorem dX2_isDead_6 : decode cX2_isDead 6 = .ok (.iconst (-1), 1) := by decide +kernel
theorem dX2_isDead_7 : decode cX2_isDead 7 = .ok (.if_icmp .eq 17, 3) := by decide +kernel
theorem dX2_isDead_10 : decode cX2_isDead 10 = .ok (.aload_n 0, 1) := by decide +kernel
theorem dX2_isDead_11 : decode cX2_isDead 11 = .ok (.getfield 15, 3) := by decide +kernel
theorem dX2_isDead_14 : decode cX2_isDead 14 = .ok (.iload_n 1, 1) := by decide +kernel
theorem dX2_isDead_15 : decode cX2_isDead 15 = .ok (.iaload, 1) := by decide +kernel
theorem dX2_isDead_16 : decode cX2_isDead 16 = .ok (.iload_n 2, 1) := by decide +kernel
theorem dX2_isDead_17 : decode cX2_isDead 17 = .ok (.if_icmp .gt 7, 3) := by decide +kernel
theorem dX2_isDead_20 : decode cX2_isDead 20 = .ok (.iconst 1, 1) := by decide +kernel
theorem dX2_isDead_21 : decode cX2_isDead 21 = .ok (.goto 4, 3) := by decide +kernel
theorem dX2_isDead_24 : decode cX2_isDead 24 = .ok (.iconst 0, 1) := by decide +kernel
theorem dX2_isDead_25 : decode cX2_isDead 25 = .ok (.ireturn, 1) := by decide +kernel
def kX2_isDead (live : am_E) (Ret : am_R) : am_code := [(0, am_aload 0 1), (1, am_getR live 2 1 4), (4, am_iload 1 5), (5, am_ald live 0 6), (6, am_const (.int (-1)) 7), (7, am_if2 (fun x y => x = y) 24 10), (10, am_aload 0 11), (11, am_getR live 2 1 14), (14, am_iload 1 15), (15, am_ald live 0 16), (16, am_iload 2 17), (17, am_if2 (fun x y => y < x) 24 20), (20, am_const (.int 1) 21), (21, am_goto 25), (24, am_const (.int 0) 25), (25, am_retZ Ret)]
theorem koX2_isDead (live : am_E) (Ret : am_R) : ∀ q ∈ kX2_isDead live Ret, am_ok RX2 cX2_isDead 3 (some .boolean) 0 0 live Ret q.1 q.2 :=
  am_kc (ak_aload_n dX2_isDead_0 rfl rfl) <|
  am_kc (ak_getR (C := RX2) (T := TX2) (N := 8) rfl inX2w (by decide) rfl rfl rfl wd_108 dX2_isDead_1 rfl) <|
  am_kc (ak_iload_n dX2_isDead_4 rfl rfl) <|
  am_kc (ak_iald (t := 0) (fun _ => rfl) rfl dX2_isDead_5 rfl) <|
  am_kc (ak_iconst dX2_isDead_6 (by decide +kernel) rfl) <|
  am_kc (ak_icmp_eq dX2_isDead_7 (by decide +kernel) rfl) <|
  am_kc (ak_aload_n dX2_isDead_10 rfl rfl) <|
  am_kc (ak_getR (C := RX2) (T := TX2) (N := 8) rfl inX2w (by decide) rfl rfl rfl wd_108 dX2_isDead_11 rfl) <|
  am_kc (ak_iload_n dX2_isDead_14 rfl rfl) <|
  am_kc (ak_iald (t := 0) (fun _ => rfl) rfl dX2_isDead_15 rfl) <|
  am_kc (ak_iload_n dX2_isDead_16 rfl rfl) <|
  am_kc (ak_icmp_gt dX2_isDead_17 (by decide +kernel) rfl) <|
  am_kc (ak_iconst dX2_isDead_20 (by decide +kernel) rfl) <|
  am_kc (ak_goto dX2_isDead_21 (by decide +kernel)) <|
  am_kc (ak_iconst dX2_isDead_24 (by decide +kernel) rfl) <|
  am_kc (ak_retZ dX2_isDead_25) <| am_kn
def TX2_isDead : am_T := fun live as M R => match as with
  | [.ref n, .int p, .int y] => am_mn live ∧ n = 21 ∧ am_in p 12 ∧ R (some (.int (if M.1 23 p.toNatClampNeg ≠ -1 ∧ M.1 23 p.toNatClampNeg ≤ y then 1 else 0))) M
  | _ => False
set_option maxRecDepth 100000 in
set_option maxHeartbeats 4000000 in
theorem metX2_isDead : am_Met yX2_isDead cX2_isDead 3 (some .boolean) (0) (0) TX2_isDead := by
  refine am_met (own := RX2) (by decide +kernel) rfl kX2_isDead koX2_isDead 60 (fun _ _ _ _ _ => none) (fun live as M Ret h => ?_) (fun _ _ _ _ _ _ _ _ hI => by cases hI)
  unfold TX2_isDead at h
  split at h
  · next n p y =>
    refine ⟨Nat.le_of_ble_eq_true rfl, ?_⟩
    change am_wp _ _ _ _ [(0, Value.ref n), (1, Value.int p), (2, Value.int y)] _ _
    obtain ⟨⟨i1, i2, rfl⟩, rfl, hp, h⟩ := h
    have l23 : am_len 23 = 12 := rfl
    repeat' (first | exact rfl | apply And.intro | intro hx | (refine Exists.intro _ (And.intro rfl ?_)))
    all_goals try first | (with_reducible change am_tI _ _) | (change Ret _ _) | (change Ret _ _ _) | (change Exists _)
    all_goals try dsimp only at *
    all_goals try exact absurd ‹(1000 : Int64) = 0› (by decide)
    all_goals first | (left; rfl) | (right; rfl) | exact hp.1 | exact hp.2 | grind
  · exact h.elim
theorem wd_261 : Cond.fieldLink "LearnLoans$Letters" 7 "LearnLoans$Letters" "rate" "J" ∈ am_ws := am_wsi (List.mem_of_getElem? (i := 261) (by decide +kernel)) (by decide +kernel)
theorem wd_263 : Cond.fieldLink "LearnLoans$Letters" 13 "LearnLoans$Letters" "prices" "J" ∈ am_ws := am_wsi (List.mem_of_getElem? (i := 263) (by decide +kernel)) (by decide +kernel)
theorem wd_265 : Cond.fieldLink "LearnLoans$Letters" 16 "LearnLoans$Letters" "earned" "J" ∈ am_ws := am_wsi (List.mem_of_getElem? (i := 265) (by decide +kernel)) (by decide +kernel)
theorem wd_267 : Cond.fieldLink "LearnLoans$Letters" 19 "LearnLoans$Letters" "line" "J" ∈ am_ws := am_wsi (List.mem_of_getElem? (i := 267) (by decide +kernel)) (by decide +kernel)
theorem wd_269 : Cond.fieldLink "LearnLoans$Letters" 22 "LearnLoans$Letters" "years" "J" ∈ am_ws := am_wsi (List.mem_of_getElem? (i := 269) (by decide +kernel)) (by decide +kernel)
theorem wd_271 : Cond.fieldLink "LearnLoans$Letters" 25 "LearnLoans$Letters" "owed" "J" ∈ am_ws := am_wsi (List.mem_of_getElem? (i := 271) (by decide +kernel)) (by decide +kernel)
theorem wd_273 : Cond.fieldLink "LearnLoans$Letters" 28 "LearnLoans$Letters" "land" "J" ∈ am_ws := am_wsi (List.mem_of_getElem? (i := 273) (by decide +kernel)) (by decide +kernel)
theorem dX1_valueOf_0 : decode cX1_valueOf 0 = .ok (.iload_n 1, 1) := by decide +kernel
theorem dX1_valueOf_1 : decode cX1_valueOf 1 = .ok (.lookupswitch 89 #[(101, 69), (108, 74), (111, 84), (112, 64), (114, 59), (121, 79)], 59) := by decide +kernel
theorem dX1_valueOf_60 : decode cX1_valueOf 60 = .ok (.aload_n 0, 1) := by decide +kernel
theorem dX1_valueOf_61 : decode cX1_valueOf 61 = .ok (.getfield 7, 3) := by decide +kernel
theorem dX1_valueOf_64 : decode cX1_valueOf 64 = .ok (.lreturn, 1) := by decide +kernel
theorem dX1_valueOf_65 : decode cX1_valueOf 65 = .ok (.aload_n 0, 1) := by decide +kernel
theorem dX1_valueOf_66 : decode cX1_valueOf 66 = .ok (.getfield 13, 3) := by decide +kernel
theorem dX1_valueOf_69 : decode cX1_valueOf 69 = .ok (.lreturn, 1) := by decide +kernel
theorem dX1_valueOf_70 : decode cX1_valueOf 70 = .ok (.aload_n 0, 1) := by decide +kernel
theorem dX1_valueOf_71 : decode cX1_valueOf 71 = .ok (.getfield 16, 3) := by decide +kernel
theorem dX1_valueOf_74 : decode cX1_valueOf 74 = .ok (.lreturn, 1) := by decide +kernel
theorem dX1_valueOf_75 : decode cX1_valueOf 75 = .ok (.aload_n 0, 1) := by decide +kernel
theorem dX1_valueOf_76 : decode cX1_valueOf 76 = .ok (.getfield 19, 3) := by decide +kernel
theorem dX1_valueOf_79 : decode cX1_valueOf 79 = .ok (.lreturn, 1) := by decide +kernel
theorem dX1_valueOf_80 : decode cX1_valueOf 80 = .ok (.aload_n 0, 1) := by decide +kernel
theorem dX1_valueOf_81 : decode cX1_valueOf 81 = .ok (.getfield 22, 3) := by decide +kernel
theorem dX1_valueOf_84 : decode cX1_valueOf 84 = .ok (.lreturn, 1) := by decide +kernel
theorem dX1_valueOf_85 : decode cX1_valueOf 85 = .ok (.aload_n 0, 1) := by decide +kernel
theorem dX1_valueOf_86 : decode cX1_valueOf 86 = .ok (.getfield 25, 3) := by decide +kernel
theorem dX1_valueOf_89 : decode cX1_valueOf 89 = .ok (.lreturn, 1) := by decide +kernel
theorem dX1_valueOf_90 : decode cX1_valueOf 90 = .ok (.aload_n 0, 1) := by decide +kernel
theorem dX1_valueOf_91 : decode cX1_valueOf 91 = .ok (.getfield 28, 3) := by decide +kernel
theorem dX1_valueOf_94 : decode cX1_valueOf 94 = .ok (.lreturn, 1) := by decide +kernel
def kX1_valueOf (live : am_E) (Ret : am_R) : am_code := [(0, am_iload 1 1), (1, am_switch [(101, 70), (108, 75), (111, 85), (112, 65), (114, 60), (121, 80)] 90), (60, am_aload 0 61), (61, am_getJ live 1 0 64), (64, am_retL Ret), (65, am_aload 0 66), (66, am_getJ live 1 1 69), (69, am_retL Ret), (70, am_aload 0 71), (71, am_getJ live 1 2 74), (74, am_retL Ret), (75, am_aload 0 76), (76, am_getJ live 1 3 79), (79, am_retL Ret), (80, am_aload 0 81), (81, am_getJ live 1 4 84), (84, am_retL Ret), (85, am_aload 0 86), (86, am_getJ live 1 5 89), (89, am_retL Ret), (90, am_aload 0 91), (91, am_getJ live 1 6 94), (94, am_retL Ret)]
theorem koX1_valueOf (live : am_E) (Ret : am_R) : ∀ q ∈ kX1_valueOf live Ret, am_ok RX1 cX1_valueOf 2 (some .long) 0 0 live Ret q.1 q.2 :=
  am_kc (ak_iload_n dX1_valueOf_0 rfl rfl) <|
  am_kc (ak_lswitch dX1_valueOf_1 (by decide +kernel) (by decide +kernel) (by decide +kernel)) <|
  am_kc (ak_aload_n dX1_valueOf_60 rfl rfl) <|
  am_kc (ak_getJ (C := RX1) (T := TX1) (N := 7) rfl inX1w (by decide) rfl rfl rfl wd_261 dX1_valueOf_61 rfl) <|
  am_kc (ak_retL dX1_valueOf_64) <|
  am_kc (ak_aload_n dX1_valueOf_65 rfl rfl) <|
  am_kc (ak_getJ (C := RX1) (T := TX1) (N := 7) rfl inX1w (by decide) rfl rfl rfl wd_263 dX1_valueOf_66 rfl) <|
  am_kc (ak_retL dX1_valueOf_69) <|
  am_kc (ak_aload_n dX1_valueOf_70 rfl rfl) <|
  am_kc (ak_getJ (C := RX1) (T := TX1) (N := 7) rfl inX1w (by decide) rfl rfl rfl wd_265 dX1_valueOf_71 rfl) <|
  am_kc (ak_retL dX1_valueOf_74) <|
  am_kc (ak_aload_n dX1_valueOf_75 rfl rfl) <|
  am_kc (ak_getJ (C := RX1) (T := TX1) (N := 7) rfl inX1w (by decide) rfl rfl rfl wd_267 dX1_valueOf_76 rfl) <|
  am_kc (ak_retL dX1_valueOf_79) <|
  am_kc (ak_aload_n dX1_valueOf_80 rfl rfl) <|
  am_kc (ak_getJ (C := RX1) (T := TX1) (N := 7) rfl inX1w (by decide) rfl rfl rfl wd_269 dX1_valueOf_81 rfl) <|
  am_kc (ak_retL dX1_valueOf_84) <|
  am_kc (ak_aload_n dX1_valueOf_85 rfl rfl) <|
  am_kc (ak_getJ (C := RX1) (T := TX1) (N := 7) rfl inX1w (by decide) rfl rfl rfl wd_271 dX1_valueOf_86 rfl) <|
  am_kc (ak_retL dX1_valueOf_89) <|
  am_kc (ak_aload_n dX1_valueOf_90 rfl rfl) <|
  am_kc (ak_getJ (C := RX1) (T := TX1) (N := 7) rfl inX1w (by decide) rfl rfl rfl wd_273 dX1_valueOf_91 rfl) <|
  am_kc (ak_retL dX1_valueOf_94) <| am_kn
def am_letter (M : am_M) (s : Int32) : Int64 := if s = 114 then M.2 9 0 else if s = 112 then M.2 9 1 else if s = 101 then M.2 9 2 else if s = 108 then M.2 9 3 else if s = 121 then M.2 9 4 else if s = 111 then M.2 9 5 else M.2 9 6
def TX1_valueOf : am_T := fun live as M R => match as with
  | [.ref n, .int s] => am_mn live ∧ n = 9 ∧ R (some (.long (am_letter M s))) M
  | _ => False
set_option maxRecDepth 100000 in
set_option maxHeartbeats 4000000 in
theorem metX1_valueOf : am_Met yX1_valueOf cX1_valueOf 2 (some .long) (0) (0) TX1_valueOf := by
  refine am_met (own := RX1) (by decide +kernel) rfl kX1_valueOf koX1_valueOf 60 (fun _ _ _ _ _ => none) (fun live as M Ret h => ?_) (fun _ _ _ _ _ _ _ _ hI => by cases hI)
  unfold TX1_valueOf at h
  split at h
  · next n s =>
    refine ⟨Nat.le_of_ble_eq_true rfl, ?_⟩
    change am_wp _ _ _ _ [(0, Value.ref n), (1, Value.int s)] _ _
    obtain ⟨⟨i1, i2, rfl⟩, rfl, h⟩ := h
    repeat' (first | exact rfl | apply And.intro | intro hx | (refine Exists.intro _ (And.intro rfl ?_)))
    all_goals try first | (with_reducible change am_tI _ _) | (change Ret _ _) | (change Ret _ _ _) | (change Exists _)
    all_goals try dsimp only at *
    all_goals try exact absurd ‹(1000 : Int64) = 0› (by decide)
    all_goals grind [am_letter]
  · exact h.elim
theorem wd_202 : Cond.fieldLink "LearnLoans$House" 30 "LearnLoans$House" "acts" "LLearnLoans$Rows;" ∈ am_ws := am_wsi (List.mem_of_getElem? (i := 202) (by decide +kernel)) (by decide +kernel)
theorem wd_477 : Cond.methodLink "LearnLoans$House" 67 yX3_add ∈ am_ws := am_wsi (List.mem_of_getElem? (i := 477) (by decide +kernel)) (by decide +kernel)
theorem wd_478 : Cond.instanceMethod yX3_add ∈ am_ws := am_wsi (List.mem_of_getElem? (i := 478) (by decide +kernel)) (by decide +kernel)
theorem wd_479 : Cond.selects "LearnLoans$Rows" yX3_add yX3_add ∈ am_ws := am_wsi (List.mem_of_getElem? (i := 479) (by decide +kernel)) (by decide +kernel)
theorem wd_480 : Cond.code yX3_add cX3_add 4 (some .int) ∈ am_ws := am_wsi (List.mem_of_getElem? (i := 480) (by decide +kernel)) (by decide +kernel)
theorem wd_485 : Cond.methodLink "LearnLoans$House" 71 yX3_put ∈ am_ws := am_wsi (List.mem_of_getElem? (i := 485) (by decide +kernel)) (by decide +kernel)
theorem dX0_addAct_0 : decode cX0_addAct 0 = .ok (.aload_n 0, 1) := by decide +kernel
theorem dX0_addAct_1 : decode cX0_addAct 1 = .ok (.getfield 30, 3) := by decide +kernel
theorem dX0_addAct_4 : decode cX0_addAct 4 = .ok (.iload_n 1, 1) := by decide +kernel
theorem dX0_addAct_5 : decode cX0_addAct 5 = .ok (.iload_n 2, 1) := by decide +kernel
theorem dX0_addAct_6 : decode cX0_addAct 6 = .ok (.iload_n 3, 1) := by decide +kernel
theorem dX0_addAct_7 : decode cX0_addAct 7 = .ok (.invokevirtual 67, 3) := by decide +kernel
theorem dX0_addAct_10 : decode cX0_addAct 10 = .ok (.istore 7, 2) := by decide +kernel
theorem dX0_addAct_12 : decode cX0_addAct 12 = .ok (.aload_n 0, 1) := by decide +kernel
theorem dX0_addAct_13 : decode cX0_addAct 13 = .ok (.getfield 30, 3) := by decide +kernel
theorem dX0_addAct_16 : decode cX0_addAct 16 = .ok (.iload 7, 2) := by decide +kernel
theorem dX0_addAct_18 : decode cX0_addAct 18 = .ok (.iconst 3, 1) := by decide +kernel
theorem dX0_addAct_19 : decode cX0_addAct 19 = .ok (.iload 4, 2) := by decide +kernel
theorem dX0_addAct_21 : decode cX0_addAct 21 = .ok (.invokevirtual 71, 3) := by decide +kernel
theorem dX0_addAct_24 : decode cX0_addAct 24 = .ok (.aload_n 0, 1) := by decide +kernel
theorem dX0_addAct_25 : decode cX0_addAct 25 = .ok (.getfield 30, 3) := by decide +kernel
theorem dX0_addAct_28 : decode cX0_addAct 28 = .ok (.iload 7, 2) := by decide +kernel
theorem dX0_addAct_30 : decode cX0_addAct 30 = .ok (.iconst 4, 1) := by decide +kernel
theorem dX0_addAct_31 : decode cX0_addAct 31 = .ok (.iload 5, 2) := by decide +kernel
theorem dX0_addAct_33 : decode cX0_addAct 33 = .ok (.invokevirtual 71, 3) := by decide +kernel
theorem dX0_addAct_36 : decode cX0_addAct 36 = .ok (.aload_n 0, 1) := by decide +kernel
theorem dX0_addAct_37 : decode cX0_addAct 37 = .ok (.getfield 30, 3) := by decide +kernel
theorem dX0_addAct_40 : decode cX0_addAct 40 = .ok (.iload 7, 2) := by decide +kernel
theorem dX0_addAct_42 : decode cX0_addAct 42 = .ok (.iconst 5, 1) := by decide +kernel
theorem dX0_addAct_43 : decode cX0_addAct 43 = .ok (.iload 6, 2) := by decide +kernel
theorem dX0_addAct_45 : decode cX0_addAct 45 = .ok (.invokevirtual 71, 3) := by decide +kernel
theorem dX0_addAct_48 : decode cX0_addAct 48 = .ok (.iload 7, 2) := by decide +kernel
theorem dX0_addAct_50 : decode cX0_addAct 50 = .ok (.ireturn, 1) := by decide +kernel
def kX0_addAct (live : am_E) (Ret : am_R) : am_code := [(0, am_aload 0 1), (1, am_getR live 0 3 4), (4, am_iload 1 5), (5, am_iload 2 6), (6, am_iload 3 7), (7, am_callV live 3 3 TX3_add 10), (10, am_istore 7 8 12), (12, am_aload 0 13), (13, am_getR live 0 3 16), (16, am_iload 7 18), (18, am_const (.int 3) 19), (19, am_iload 4 21), (21, am_callV live 3 3 TX3_put 24), (24, am_aload 0 25), (25, am_getR live 0 3 28), (28, am_iload 7 30), (30, am_const (.int 4) 31), (31, am_iload 5 33), (33, am_callV live 3 3 TX3_put 36), (36, am_aload 0 37), (37, am_getR live 0 3 40), (40, am_iload 7 42), (42, am_const (.int 5) 43), (43, am_iload 6 45), (45, am_callV live 3 3 TX3_put 48), (48, am_iload 7 50), (50, am_retI Ret)]
theorem koX0_addAct (live : am_E) (Ret : am_R) : ∀ q ∈ kX0_addAct live Ret, am_ok RX0 cX0_addAct 8 (some .int) 2 47 live Ret q.1 q.2 :=
  am_kc (ak_aload_n dX0_addAct_0 rfl rfl) <|
  am_kc (ak_getR (C := RX0) (T := TX0) (N := 13) rfl inX0w (by decide) rfl rfl rfl wd_202 dX0_addAct_1 rfl) <|
  am_kc (ak_iload_n dX0_addAct_4 rfl rfl) <|
  am_kc (ak_iload_n dX0_addAct_5 rfl rfl) <|
  am_kc (ak_iload_n dX0_addAct_6 rfl rfl) <|
  am_kc (ak_callV (C := RX3) (F := TX3) (N := 3) metX3_add rfl ⟨rfl, by decide +kernel, by decide +kernel, by decide +kernel⟩ (am_w5 wd_477 wd_478 wd_479 wd_64 wd_480) (by decide) dX0_addAct_7 rfl) <|
  am_kc (ak_istore dX0_addAct_10 rfl) <|
  am_kc (ak_aload_n dX0_addAct_12 rfl rfl) <|
  am_kc (ak_getR (C := RX0) (T := TX0) (N := 13) rfl inX0w (by decide) rfl rfl rfl wd_202 dX0_addAct_13 rfl) <|
  am_kc (ak_iload dX0_addAct_16 rfl) <|
  am_kc (ak_iconst dX0_addAct_18 (by decide +kernel) rfl) <|
  am_kc (ak_iload dX0_addAct_19 rfl) <|
  am_kc (ak_callV (C := RX3) (F := TX3) (N := 3) metX3_put rfl ⟨rfl, by decide +kernel, by decide +kernel, by decide +kernel⟩ (am_w5 wd_485 wd_482 wd_483 wd_64 wd_484) (by decide) dX0_addAct_21 rfl) <|
  am_kc (ak_aload_n dX0_addAct_24 rfl rfl) <|
  am_kc (ak_getR (C := RX0) (T := TX0) (N := 13) rfl inX0w (by decide) rfl rfl rfl wd_202 dX0_addAct_25 rfl) <|
  am_kc (ak_iload dX0_addAct_28 rfl) <|
  am_kc (ak_iconst dX0_addAct_30 (by decide +kernel) rfl) <|
  am_kc (ak_iload dX0_addAct_31 rfl) <|
  am_kc (ak_callV (C := RX3) (F := TX3) (N := 3) metX3_put rfl ⟨rfl, by decide +kernel, by decide +kernel, by decide +kernel⟩ (am_w5 wd_485 wd_482 wd_483 wd_64 wd_484) (by decide) dX0_addAct_33 rfl) <|
  am_kc (ak_aload_n dX0_addAct_36 rfl rfl) <|
  am_kc (ak_getR (C := RX0) (T := TX0) (N := 13) rfl inX0w (by decide) rfl rfl rfl wd_202 dX0_addAct_37 rfl) <|
  am_kc (ak_iload dX0_addAct_40 rfl) <|
  am_kc (ak_iconst dX0_addAct_42 (by decide +kernel) rfl) <|
  am_kc (ak_iload dX0_addAct_43 rfl) <|
  am_kc (ak_callV (C := RX3) (F := TX3) (N := 3) metX3_put rfl ⟨rfl, by decide +kernel, by decide +kernel, by decide +kernel⟩ (am_w5 wd_485 wd_482 wd_483 wd_64 wd_484) (by decide) dX0_addAct_45 rfl) <|
  am_kc (ak_iload dX0_addAct_48 rfl) <|
  am_kc (ak_retI dX0_addAct_50) <| am_kn
def am_addAct (M : am_M) (p w v f b e : Int32) : am_M := am_rput (am_rput (am_rput (am_radd M 31 32 p w v) 31 32 (M.1 31 2) 3 f) 31 32 (M.1 31 2) 4 b) 31 32 (M.1 31 2) 5 e
def TX0_addAct : am_T := fun live as M R => match as with
  | [.ref n, .int p, .int w, .int v, .int f, .int b, .int e] => am_mn live ∧ n = 20 ∧ R (some (.int (M.1 31 2))) (am_addAct M p w v f b e)
  | _ => False
set_option maxRecDepth 100000 in
set_option maxHeartbeats 4000000 in
theorem metX0_addAct : am_Met yX0_addAct cX0_addAct 8 (some .int) (2) (47) TX0_addAct := by
  refine am_met (own := RX0) (by decide +kernel) rfl kX0_addAct koX0_addAct 120 (fun _ _ _ _ _ => none) (fun live as M Ret h => ?_) (fun _ _ _ _ _ _ _ _ hI => by cases hI)
  unfold TX0_addAct at h
  split at h
  · next n p w v f b e =>
    refine ⟨Nat.le_of_ble_eq_true rfl, ?_⟩
    change am_wp _ _ _ _ [(0, Value.ref n), (1, Value.int p), (2, Value.int w), (3, Value.int v), (4, Value.int f), (5, Value.int b), (6, Value.int e)] _ _
    obtain ⟨⟨i1, i2, rfl⟩, rfl, h⟩ := h
    have e1 : M.1 31 2 + 1 - 1 = M.1 31 2 := by rw [Int32.add_sub_cancel]
    repeat' (first | exact rfl | apply And.intro | intro hx | (refine Exists.intro _ (And.intro rfl ?_)))
    all_goals try first | (with_reducible change am_tI _ _) | (change Ret _ _) | (change Ret _ _ _) | (change Exists _)
    all_goals try dsimp only at *
    all_goals try exact absurd ‹(1000 : Int64) = 0› (by decide)
    simp only [e1]
    exact h
  · exact h.elim
theorem wd_205 : Cond.fieldLink "LearnLoans$House" 34 "LearnLoans$House" "loans" "LLearnLoans$Rows;" ∈ am_ws := am_wsi (List.mem_of_getElem? (i := 205) (by decide +kernel)) (by decide +kernel)
theorem wd_526 : Cond.methodLink "LearnLoans$House" 75 yX3_at ∈ am_ws := am_wsi (List.mem_of_getElem? (i := 526) (by decide +kernel)) (by decide +kernel)
theorem wd_500 : Cond.instanceMethod yX3_at ∈ am_ws := am_wsi (List.mem_of_getElem? (i := 500) (by decide +kernel)) (by decide +kernel)
theorem wd_501 : Cond.selects "LearnLoans$Rows" yX3_at yX3_at ∈ am_ws := am_wsi (List.mem_of_getElem? (i := 501) (by decide +kernel)) (by decide +kernel)
theorem wd_502 : Cond.code yX3_at cX3_at 4 (some .int) ∈ am_ws := am_wsi (List.mem_of_getElem? (i := 502) (by decide +kernel)) (by decide +kernel)
theorem wd_527 : Cond.constantLong "LearnLoans$House" 79 750 ∈ am_ws := am_wsi (List.mem_of_getElem? (i := 527) (by decide +kernel)) (by decide +kernel)
theorem wd_528 : Cond.constantLong "LearnLoans$House" 81 1000 ∈ am_ws := am_wsi (List.mem_of_getElem? (i := 528) (by decide +kernel)) (by decide +kernel)
theorem wd_529 : Cond.constantLong "LearnLoans$House" 83 500 ∈ am_ws := am_wsi (List.mem_of_getElem? (i := 529) (by decide +kernel)) (by decide +kernel)
theorem dX0_givenBack_0 : decode cX0_givenBack 0 = .ok (.aload_n 0, 1) := by decide +kernel
theorem dX0_givenBack_1 : decode cX0_givenBack 1 = .ok (.getfield 34, 3) := by decide +kernel
theorem dX0_givenBack_4 : decode cX0_givenBack 4 = .ok (.iload_n 1, 1) := by decide +kernel
theorem dX0_givenBack_5 : decode cX0_givenBack 5 = .ok (.iconst 3, 1) := by decide +kernel
theorem dX0_givenBack_6 : decode cX0_givenBack 6 = .ok (.invokevirtual 75, 3) := by decide +kernel
theorem dX0_givenBack_9 : decode cX0_givenBack 9 = .ok (.i2l, 1) := by decide +kernel
theorem dX0_givenBack_10 : decode cX0_givenBack 10 = .ok (.lstore_n 2, 1) := by decide +kernel
theorem dX0_givenBack_11 : decode cX0_givenBack 11 = .ok (.aload_n 0, 1) := by decide +kernel
theorem dX0_givenBack_12 : decode cX0_givenBack 12 = .ok (.getfield 34, 3) := by decide +kernel
theorem dX0_givenBack_15 : decode cX0_givenBack 15 = .ok (.iload_n 1, 1) := by decide +kernel
theorem dX0_givenBack_16 : decode cX0_givenBack 16 = .ok (.iconst 5, 1) := by decide +kernel
theorem dX0_givenBack_17 : decode cX0_givenBack 17 = .ok (.invokevirtual 75, 3) := by decide +kernel
theorem dX0_givenBack_20 : decode cX0_givenBack 20 = .ok (.aload_n 0, 1) := by decide +kernel
theorem dX0_givenBack_21 : decode cX0_givenBack 21 = .ok (.getfield 34, 3) := by decide +kernel
theorem dX0_givenBack_24 : decode cX0_givenBack 24 = .ok (.iload_n 1, 1) := by decide +kernel
theorem dX0_givenBack_25 : decode cX0_givenBack 25 = .ok (.iconst 2, 1) := by decide +kernel
theorem dX0_givenBack_26 : decode cX0_givenBack 26 = .ok (.invokevirtual 75, 3) := by decide +kernel
theorem dX0_givenBack_29 : decode cX0_givenBack 29 = .ok (.isub, 1) := by decide +kernel
theorem dX0_givenBack_30 : decode cX0_givenBack 30 = .ok (.istore 4, 2) := by decide +kernel
theorem dX0_givenBack_32 : decode cX0_givenBack 32 = .ok (.iload 4, 2) := by decide +kernel
theorem dX0_givenBack_34 : decode cX0_givenBack 34 = .ok (.ifCond .ne 13, 3) := by decide +kernel
theorem dX0_givenBack_37 : decode cX0_givenBack 37 = .ok (.lload_n 2, 1) := by decide +kernel
theorem dX0_givenBack_38 : decode cX0_givenBack 38 = .ok (.ldc2_w 79, 3) := by decide +kernel
theorem dX0_givenBack_41 : decode cX0_givenBack 41 = .ok (.lmul, 1) := by decide +kernel
theorem dX0_givenBack_42 : decode cX0_givenBack 42 = .ok (.ldc2_w 81, 3) := by decide +kernel
theorem dX0_givenBack_45 : decode cX0_givenBack 45 = .ok (.ldiv, 1) := by decide +kernel
theorem dX0_givenBack_46 : decode cX0_givenBack 46 = .ok (.lreturn, 1) := by decide +kernel
theorem dX0_givenBack_47 : decode cX0_givenBack 47 = .ok (.iload 4, 2) := by decide +kernel
theorem dX0_givenBack_49 : decode cX0_givenBack 49 = .ok (.iconst 1, 1) := by decide +kernel
theorem dX0_givenBack_50 : decode cX0_givenBack 50 = .ok (.if_icmp .ne 15, 3) := by decide +kernel
theorem dX0_givenBack_53 : decode cX0_givenBack 53 = .ok (.lload_n 2, 1) := by decide +kernel
theorem dX0_givenBack_54 : decode cX0_givenBack 54 = .ok (.ldc2_w 83, 3) := by decide +kernel
theorem dX0_givenBack_57 : decode cX0_givenBack 57 = .ok (.lmul, 1) := by decide +kernel
theorem dX0_givenBack_58 : decode cX0_givenBack 58 = .ok (.ldc2_w 81, 3) := by decide +kernel
theorem dX0_givenBack_61 : decode cX0_givenBack 61 = .ok (.ldiv, 1) := by decide +kernel
theorem dX0_givenBack_62 : decode cX0_givenBack 62 = .ok (.goto 4, 3) := by decide +kernel
theorem dX0_givenBack_65 : decode cX0_givenBack 65 = .ok (.lconst 0, 1) := by decide +kernel
theorem dX0_givenBack_66 : decode cX0_givenBack 66 = .ok (.lreturn, 1) := by decide +kernel
def kX0_givenBack (live : am_E) (Ret : am_R) : am_code := [(0, am_aload 0 1), (1, am_getR live 0 4 4), (4, am_iload 1 5), (5, am_const (.int 3) 6), (6, am_callV live 3 2 TX3_at 9), (9, am_i2l 10), (10, am_lstore 2 5 11), (11, am_aload 0 12), (12, am_getR live 0 4 15), (15, am_iload 1 16), (16, am_const (.int 5) 17), (17, am_callV live 3 2 TX3_at 20), (20, am_aload 0 21), (21, am_getR live 0 4 24), (24, am_iload 1 25), (25, am_const (.int 2) 26), (26, am_callV live 3 2 TX3_at 29), (29, am_i2 (fun x y => x - y) 30), (30, am_istore 4 5 32), (32, am_iload 4 34), (34, am_if1 (fun x => x = 0) 37 47), (37, am_lload 2 38), (38, am_const (.long 750) 41), (41, am_l2 (fun x y => x * y) 42), (42, am_const (.long 1000) 45), (45, am_l2z (fun x y => x / y) 46), (46, am_retL Ret), (47, am_iload 4 49), (49, am_const (.int 1) 50), (50, am_if2 (fun x y => x = y) 53 65), (53, am_lload 2 54), (54, am_const (.long 500) 57), (57, am_l2 (fun x y => x * y) 58), (58, am_const (.long 1000) 61), (61, am_l2z (fun x y => x / y) 62), (62, am_goto 66), (65, am_const (.long 0) 66), (66, am_retL Ret)]
theorem koX0_givenBack (live : am_E) (Ret : am_R) : ∀ q ∈ kX0_givenBack live Ret, am_ok RX0 cX0_givenBack 5 (some .long) 1 23 live Ret q.1 q.2 :=
  am_kc (ak_aload_n dX0_givenBack_0 rfl rfl) <|
  am_kc (ak_getR (C := RX0) (T := TX0) (N := 13) rfl inX0w (by decide) rfl rfl rfl wd_205 dX0_givenBack_1 rfl) <|
  am_kc (ak_iload_n dX0_givenBack_4 rfl rfl) <|
  am_kc (ak_iconst dX0_givenBack_5 (by decide +kernel) rfl) <|
  am_kc (ak_callV (C := RX3) (F := TX3) (N := 3) metX3_at rfl ⟨rfl, by decide +kernel, by decide +kernel, by decide +kernel⟩ (am_w5 wd_526 wd_500 wd_501 wd_64 wd_502) (by decide) dX0_givenBack_6 rfl) <|
  am_kc (ak_i2l dX0_givenBack_9 rfl) <|
  am_kc (ak_lstore_n dX0_givenBack_10 rfl rfl) <|
  am_kc (ak_aload_n dX0_givenBack_11 rfl rfl) <|
  am_kc (ak_getR (C := RX0) (T := TX0) (N := 13) rfl inX0w (by decide) rfl rfl rfl wd_205 dX0_givenBack_12 rfl) <|
  am_kc (ak_iload_n dX0_givenBack_15 rfl rfl) <|
  am_kc (ak_iconst dX0_givenBack_16 (by decide +kernel) rfl) <|
  am_kc (ak_callV (C := RX3) (F := TX3) (N := 3) metX3_at rfl ⟨rfl, by decide +kernel, by decide +kernel, by decide +kernel⟩ (am_w5 wd_526 wd_500 wd_501 wd_64 wd_502) (by decide) dX0_givenBack_17 rfl) <|
  am_kc (ak_aload_n dX0_givenBack_20 rfl rfl) <|
  am_kc (ak_getR (C := RX0) (T := TX0) (N := 13) rfl inX0w (by decide) rfl rfl rfl wd_205 dX0_givenBack_21 rfl) <|
  am_kc (ak_iload_n dX0_givenBack_24 rfl rfl) <|
  am_kc (ak_iconst dX0_givenBack_25 (by decide +kernel) rfl) <|
  am_kc (ak_callV (C := RX3) (F := TX3) (N := 3) metX3_at rfl ⟨rfl, by decide +kernel, by decide +kernel, by decide +kernel⟩ (am_w5 wd_526 wd_500 wd_501 wd_64 wd_502) (by decide) dX0_givenBack_26 rfl) <|
  am_kc (ak_isub dX0_givenBack_29 rfl) <|
  am_kc (ak_istore dX0_givenBack_30 rfl) <|
  am_kc (ak_iload dX0_givenBack_32 rfl) <|
  am_kc (ak_if_ne dX0_givenBack_34 (by decide +kernel) rfl) <|
  am_kc (ak_lload_n dX0_givenBack_37 rfl rfl) <|
  am_kc (ak_ldc2 wd_527 dX0_givenBack_38 rfl) <|
  am_kc (ak_lmul dX0_givenBack_41 rfl) <|
  am_kc (ak_ldc2 wd_528 dX0_givenBack_42 rfl) <|
  am_kc (ak_ldiv dX0_givenBack_45 rfl) <|
  am_kc (ak_retL dX0_givenBack_46) <|
  am_kc (ak_iload dX0_givenBack_47 rfl) <|
  am_kc (ak_iconst dX0_givenBack_49 (by decide +kernel) rfl) <|
  am_kc (ak_icmp_ne dX0_givenBack_50 (by decide +kernel) rfl) <|
  am_kc (ak_lload_n dX0_givenBack_53 rfl rfl) <|
  am_kc (ak_ldc2 wd_529 dX0_givenBack_54 rfl) <|
  am_kc (ak_lmul dX0_givenBack_57 rfl) <|
  am_kc (ak_ldc2 wd_528 dX0_givenBack_58 rfl) <|
  am_kc (ak_ldiv dX0_givenBack_61 rfl) <|
  am_kc (ak_goto dX0_givenBack_62 (by decide +kernel)) <|
  am_kc (ak_lconst dX0_givenBack_65 (by decide +kernel) rfl) <|
  am_kc (ak_retL dX0_givenBack_66) <| am_kn
def am_sumGiven (s d : Int32) : Int64 := if d = 0 then s.toInt64 * 750 / 1000 else if d = 1 then s.toInt64 * 500 / 1000 else 0
def am_loanAt (M : am_M) (l k : Int32) : Int32 := am_at (M.1 34) 240 (l * M.1 33 1 + k)
def TX0_givenBack : am_T := fun live as M R => match as with
  | [.ref n, .int l] => am_mn live ∧ n = 20 ∧ R (some (.long (am_sumGiven (am_loanAt M l 3) (am_loanAt M l 5 - am_loanAt M l 2)))) M
  | _ => False
set_option maxRecDepth 100000 in
set_option maxHeartbeats 4000000 in
theorem metX0_givenBack : am_Met yX0_givenBack cX0_givenBack 5 (some .long) (1) (23) TX0_givenBack := by
  refine am_met (own := RX0) (by decide +kernel) rfl kX0_givenBack koX0_givenBack 120 (fun _ _ _ _ _ => none) (fun live as M Ret h => ?_) (fun _ _ _ _ _ _ _ _ hI => by cases hI)
  unfold TX0_givenBack at h
  split at h
  · next n l =>
    refine ⟨Nat.le_of_ble_eq_true rfl, ?_⟩
    change am_wp _ _ _ _ [(0, Value.ref n), (1, Value.int l)] _ _
    obtain ⟨⟨i1, i2, rfl⟩, rfl, h⟩ := h
    have l34 : am_len 34 = 240 := rfl
    repeat' (first | exact rfl | apply And.intro | intro hx | (refine Exists.intro _ (And.intro rfl ?_)))
    all_goals try first | (with_reducible change am_tI _ _) | (change Ret _ _) | (change Ret _ _ _) | (change Exists _)
    all_goals try dsimp only at *
    all_goals try exact absurd ‹(1000 : Int64) = 0› (by decide)
    all_goals
      simp only [am_sumGiven, am_loanAt, l34] at *
      simp_all
  · exact h.elim
theorem wd_216 : Cond.fieldLink "LearnLoans$House" 49 "LearnLoans$House" "promises" "LLearnLoans$Rows;" ∈ am_ws := am_wsi (List.mem_of_getElem? (i := 216) (by decide +kernel)) (by decide +kernel)
theorem wd_151 : Cond.fieldLink "LearnLoans$House" 85 "LearnLoans$Rows" "size" "I" ∈ am_ws := am_wsi (List.mem_of_getElem? (i := 151) (by decide +kernel)) (by decide +kernel)
theorem dX0_promised_0 : decode cX0_promised 0 = .ok (.lconst 0, 1) := by decide +kernel
theorem dX0_promised_1 : decode cX0_promised 1 = .ok (.lstore_n 3, 1) := by decide +kernel
theorem dX0_promised_2 : decode cX0_promised 2 = .ok (.iconst 0, 1) := by decide +kernel
theorem dX0_promised_3 : decode cX0_promised 3 = .ok (.istore 5, 2) := by decide +kernel
theorem dX0_promised_5 : decode cX0_promised 5 = .ok (.iload 5, 2) := by decide +kernel
theorem dX0_promised_7 : decode cX0_promised 7 = .ok (.aload_n 0, 1) := by decide +kernel
theorem dX0_promised_8 : decode cX0_promised 8 = .ok (.getfield 49, 3) := by decide +kernel
theorem dX0_promised_11 : decode cX0_promised 11 = .ok (.getfield 85, 3) := by decide +kernel
theorem dX0_promised_14 : decode cX0_promised 14 = .ok (.if_icmp .ge 51, 3) := by decide +kernel
theorem dX0_promised_17 : decode cX0_promised 17 = .ok (.aload_n 0, 1) := by decide +kernel
theorem dX0_promised_18 : decode cX0_promised 18 = .ok (.getfield 49, 3) := by decide +kernel
theorem dX0_promised_21 : decode cX0_promised 21 = .ok (.iload 5, 2) := by decide +kernel
theorem dX0_promised_23 : decode cX0_promised 23 = .ok (.iconst 0, 1) := by decide +kernel
theorem dX0_promised_24 : decode cX0_promised 24 = .ok (.invokevirtual 75, 3) := by decide +kernel
theorem dX0_promised_27 : decode cX0_promised 27 = .ok (.iload_n 1, 1) := by decide +kernel
theorem dX0_promised_28 : decode cX0_promised 28 = .ok (.if_icmp .ne 31, 3) := by decide +kernel
theorem dX0_promised_31 : decode cX0_promised 31 = .ok (.aload_n 0, 1) := by decide +kernel
theorem dX0_promised_32 : decode cX0_promised 32 = .ok (.getfield 49, 3) := by decide +kernel
theorem dX0_promised_35 : decode cX0_promised 35 = .ok (.iload 5, 2) := by decide +kernel
theorem dX0_promised_37 : decode cX0_promised 37 = .ok (.iconst 1, 1) := by decide +kernel
theorem dX0_promised_38 : decode cX0_promised 38 = .ok (.invokevirtual 75, 3) := by decide +kernel
theorem dX0_promised_41 : decode cX0_promised 41 = .ok (.iload_n 2, 1) := by decide +kernel
theorem dX0_promised_42 : decode cX0_promised 42 = .ok (.if_icmp .gt 17, 3) := by decide +kernel
theorem dX0_promised_45 : decode cX0_promised 45 = .ok (.lload_n 3, 1) := by decide +kernel
theorem dX0_promised_46 : decode cX0_promised 46 = .ok (.aload_n 0, 1) := by decide +kernel
theorem dX0_promised_47 : decode cX0_promised 47 = .ok (.getfield 49, 3) := by decide +kernel
theorem dX0_promised_50 : decode cX0_promised 50 = .ok (.iload 5, 2) := by decide +kernel
theorem dX0_promised_52 : decode cX0_promised 52 = .ok (.iconst 2, 1) := by decide +kernel
theorem dX0_promised_53 : decode cX0_promised 53 = .ok (.invokevirtual 75, 3) := by decide +kernel
theorem dX0_promised_56 : decode cX0_promised 56 = .ok (.i2l, 1) := by decide +kernel
theorem dX0_promised_57 : decode cX0_promised 57 = .ok (.ladd, 1) := by decide +kernel
theorem dX0_promised_58 : decode cX0_promised 58 = .ok (.lstore_n 3, 1) := by decide +kernel
theorem dX0_promised_59 : decode cX0_promised 59 = .ok (.iinc 5 1, 3) := by decide +kernel
theorem dX0_promised_62 : decode cX0_promised 62 = .ok (.goto (-57), 3) := by decide +kernel
theorem dX0_promised_65 : decode cX0_promised 65 = .ok (.lload_n 3, 1) := by decide +kernel
theorem dX0_promised_66 : decode cX0_promised 66 = .ok (.lreturn, 1) := by decide +kernel
def kX0_promised (live : am_E) (Ret : am_R) : am_code := [(0, am_const (.long 0) 1), (1, am_lstore 3 6 2), (2, am_const (.int 0) 3), (3, am_istore 5 6 5), (5, am_iload 5 7), (7, am_aload 0 8), (8, am_getR live 0 8 11), (11, am_getI live 3 2 14), (14, am_if2 (fun x y => y ≤ x) 65 17), (17, am_aload 0 18), (18, am_getR live 0 8 21), (21, am_iload 5 23), (23, am_const (.int 0) 24), (24, am_callV live 3 2 TX3_at 27), (27, am_iload 1 28), (28, am_if2 (fun x y => x = y) 31 59), (31, am_aload 0 32), (32, am_getR live 0 8 35), (35, am_iload 5 37), (37, am_const (.int 1) 38), (38, am_callV live 3 2 TX3_at 41), (41, am_iload 2 42), (42, am_if2 (fun x y => y < x) 59 45), (45, am_lload 3 46), (46, am_aload 0 47), (47, am_getR live 0 8 50), (50, am_iload 5 52), (52, am_const (.int 2) 53), (53, am_callV live 3 2 TX3_at 56), (56, am_i2l 57), (57, am_l2 (fun x y => x + y) 58), (58, am_lstore 3 6 59), (59, am_iinc 5 6 1 62), (62, am_goto 5), (65, am_lload 3 66), (66, am_retL Ret)]
theorem koX0_promised (live : am_E) (Ret : am_R) : ∀ q ∈ kX0_promised live Ret, am_ok RX0 cX0_promised 6 (some .long) 1 23 live Ret q.1 q.2 :=
  am_kc (ak_lconst dX0_promised_0 (by decide +kernel) rfl) <|
  am_kc (ak_lstore_n dX0_promised_1 rfl rfl) <|
  am_kc (ak_iconst dX0_promised_2 (by decide +kernel) rfl) <|
  am_kc (ak_istore dX0_promised_3 rfl) <|
  am_kc (ak_iload dX0_promised_5 rfl) <|
  am_kc (ak_aload_n dX0_promised_7 rfl rfl) <|
  am_kc (ak_getR (C := RX0) (T := TX0) (N := 13) rfl inX0w (by decide) rfl rfl rfl wd_216 dX0_promised_8 rfl) <|
  am_kc (ak_getI (C := RX3) (T := TX3) (N := 3) rfl inX3w (by decide) rfl rfl rfl wd_151 dX0_promised_11 rfl) <|
  am_kc (ak_icmp_ge dX0_promised_14 (by decide +kernel) rfl) <|
  am_kc (ak_aload_n dX0_promised_17 rfl rfl) <|
  am_kc (ak_getR (C := RX0) (T := TX0) (N := 13) rfl inX0w (by decide) rfl rfl rfl wd_216 dX0_promised_18 rfl) <|
  am_kc (ak_iload dX0_promised_21 rfl) <|
  am_kc (ak_iconst dX0_promised_23 (by decide +kernel) rfl) <|
  am_kc (ak_callV (C := RX3) (F := TX3) (N := 3) metX3_at rfl ⟨rfl, by decide +kernel, by decide +kernel, by decide +kernel⟩ (am_w5 wd_526 wd_500 wd_501 wd_64 wd_502) (by decide) dX0_promised_24 rfl) <|
  am_kc (ak_iload_n dX0_promised_27 rfl rfl) <|
  am_kc (ak_icmp_ne dX0_promised_28 (by decide +kernel) rfl) <|
  am_kc (ak_aload_n dX0_promised_31 rfl rfl) <|
  am_kc (ak_getR (C := RX0) (T := TX0) (N := 13) rfl inX0w (by decide) rfl rfl rfl wd_216 dX0_promised_32 rfl) <|
  am_kc (ak_iload dX0_promised_35 rfl) <|
  am_kc (ak_iconst dX0_promised_37 (by decide +kernel) rfl) <|
  am_kc (ak_callV (C := RX3) (F := TX3) (N := 3) metX3_at rfl ⟨rfl, by decide +kernel, by decide +kernel, by decide +kernel⟩ (am_w5 wd_526 wd_500 wd_501 wd_64 wd_502) (by decide) dX0_promised_38 rfl) <|
  am_kc (ak_iload_n dX0_promised_41 rfl rfl) <|
  am_kc (ak_icmp_gt dX0_promised_42 (by decide +kernel) rfl) <|
  am_kc (ak_lload_n dX0_promised_45 rfl rfl) <|
  am_kc (ak_aload_n dX0_promised_46 rfl rfl) <|
  am_kc (ak_getR (C := RX0) (T := TX0) (N := 13) rfl inX0w (by decide) rfl rfl rfl wd_216 dX0_promised_47 rfl) <|
  am_kc (ak_iload dX0_promised_50 rfl) <|
  am_kc (ak_iconst dX0_promised_52 (by decide +kernel) rfl) <|
  am_kc (ak_callV (C := RX3) (F := TX3) (N := 3) metX3_at rfl ⟨rfl, by decide +kernel, by decide +kernel, by decide +kernel⟩ (am_w5 wd_526 wd_500 wd_501 wd_64 wd_502) (by decide) dX0_promised_53 rfl) <|
  am_kc (ak_i2l dX0_promised_56 rfl) <|
  am_kc (ak_ladd dX0_promised_57 rfl) <|
  am_kc (ak_lstore_n dX0_promised_58 rfl rfl) <|
  am_kc (ak_iinc dX0_promised_59 (by decide +kernel) rfl) <|
  am_kc (ak_goto dX0_promised_62 (by decide +kernel)) <|
  am_kc (ak_lload_n dX0_promised_65 rfl rfl) <|
  am_kc (ak_retL dX0_promised_66) <| am_kn
def TX0_promised : am_T := fun live as M R => match as with
  | [.ref n, .int b, .int y] => am_mn live ∧ n = 20 ∧ (M.1 54 2).toInt ≤ 100000 ∧ ∀ v, R (some (.long v)) M
  | _ => False
def JX0_promised : am_E → List Value → am_M → am_R → am_inv := fun live as M0 _ pc => match as with
  | [.ref n, .int b, .int y] => (match pc with
    | 5 => some ([0, 1, 2, 3, 5], fun k L st M => ∃ (v : Int64) (i : Int32), L = [(0, .ref n), (1, .int b), (2, .int y), (3, .long v), (5, .int i)] ∧ st = [] ∧ k = ((100001 - i.toInt).toNat, 0) ∧ 0 ≤ i.toInt ∧ M = M0)
    | _ => none)
  | _ => none
set_option maxRecDepth 100000 in
set_option maxHeartbeats 4000000 in
theorem metX0_promised : am_Met yX0_promised cX0_promised 6 (some .long) (1) (23) TX0_promised := by
  refine am_met (own := RX0) (by decide +kernel) rfl kX0_promised koX0_promised 60 JX0_promised ?_ ?_
  · intro live as M Ret h
    unfold TX0_promised at h
    split at h
    · next n b y =>
      refine ⟨Nat.le_of_ble_eq_true rfl, ?_⟩
      change am_wp _ _ _ _ [(0, Value.ref n), (1, Value.int b), (2, Value.int y)] _ _
      obtain ⟨⟨i1, i2, rfl⟩, rfl, hs, h⟩ := h
      repeat' (first | exact rfl | apply And.intro | intro hx | (refine Exists.intro _ (And.intro rfl ?_)))
      all_goals try first | (with_reducible change am_tI _ _) | (change Ret _ _) | (change Ret _ _ _) | (change Exists _)
      all_goals try dsimp only at *
      all_goals try exact absurd ‹(1000 : Int64) = 0› (by decide)
      exact ⟨_, _, _, rfl, rfl, rfl, by decide, rfl⟩
    · exact h.elim
  · intro live as M0 Ret h k pc I hI L st M hi
    unfold TX0_promised at h
    split at h
    · next n b y =>
      obtain ⟨⟨i1, i2, rfl⟩, rfl, hs, h⟩ := h
      change (match pc with | 5 => _ | _ => none) = _ at hI
      split at hI
      · cases hI
        obtain ⟨v, i, rfl, rfl, rfl, e1, rfl⟩ := hi
        repeat' (first | exact rfl | apply And.intro | intro hx | (refine Exists.intro _ (And.intro rfl ?_)))
        all_goals try first | (with_reducible change am_tI _ _) | (change Ret _ _) | (change Ret _ _ _) | (change Exists _)
        all_goals try dsimp only at *
        all_goals try exact absurd ‹(1000 : Int64) = 0› (by decide)
        all_goals try exact h _
        all_goals
          refine ⟨_, Or.inl ?_, _, i + 1, rfl, rfl, rfl, ?_, rfl⟩
          all_goals simp only [i_lt, i_le] at *
          all_goals
            have hi := i_add (x := i) (y := 1) (by simp only [Int32.reduceToInt]; omega) (by simp only [Int32.reduceToInt]; omega)
            simp only [Int32.reduceToInt] at hi
            omega
      · cases hI
    · exact h.elim
end
section
/-! Text: the small methods -/
theorem dX5_isDigit_0 : decode cX5_isDigit 0 = .ok (.iload_n 0, 1) := by decide +kernel
theorem dX5_isDigit_1 : decode cX5_isDigit 1 = .ok (.bipush 48, 2) := by decide +kernel
theorem dX5_isDigit_3 : decode cX5_isDigit 3 = .ok (.if_icmp .lt 13, 3) := by decide +kernel
theorem dX5_isDigit_6 : decode cX5_isDigit 6 = .ok (.iload_n 0, 1) := by decide +kernel
theorem dX5_isDigit_7 : decode cX5_isDigit 7 = .ok (.bipush 57, 2) := by decide +kernel
theorem dX5_isDigit_9 : decode cX5_isDigit 9 = .ok (.if_icmp .gt 7, 3) := by decide +kernel
theorem dX5_isDigit_12 : decode cX5_isDigit 12 = .ok (.iconst 1, 1) := by decide +kernel
theorem dX5_isDigit_13 : decode cX5_isDigit 13 = .ok (.goto 4, 3) := by decide +kernel
theorem dX5_isDigit_16 : decode cX5_isDigit 16 = .ok (.iconst 0, 1) := by decide +kernel
theorem dX5_isDigit_17 : decode cX5_isDigit 17 = .ok (.ireturn, 1) := by decide +kernel
def kX5_isDigit (live : am_E) (Ret : am_R) : am_code := [(0, am_iload 0 1), (1, am_const (.int 48) 3), (3, am_if2 (fun x y => x < y) 16 6), (6, am_iload 0 7), (7, am_const (.int 57) 9), (9, am_if2 (fun x y => y < x) 16 12), (12, am_const (.int 1) 13), (13, am_goto 17), (16, am_const (.int 0) 17), (17, am_retZ Ret)]
theorem koX5_isDigit (live : am_E) (Ret : am_R) : ∀ q ∈ kX5_isDigit live Ret, am_ok RX5 cX5_isDigit 1 (some .boolean) 0 0 live Ret q.1 q.2 :=
  am_kc (ak_iload_n dX5_isDigit_0 rfl rfl) <|
  am_kc (ak_bipush dX5_isDigit_1 (by decide +kernel) rfl) <|
  am_kc (ak_icmp_lt dX5_isDigit_3 (by decide +kernel) rfl) <|
  am_kc (ak_iload_n dX5_isDigit_6 rfl rfl) <|
  am_kc (ak_bipush dX5_isDigit_7 (by decide +kernel) rfl) <|
  am_kc (ak_icmp_gt dX5_isDigit_9 (by decide +kernel) rfl) <|
  am_kc (ak_iconst dX5_isDigit_12 (by decide +kernel) rfl) <|
  am_kc (ak_goto dX5_isDigit_13 (by decide +kernel)) <|
  am_kc (ak_iconst dX5_isDigit_16 (by decide +kernel) rfl) <|
  am_kc (ak_retZ dX5_isDigit_17) <| am_kn
def TX5_isDigit : am_T := fun live as M R => match as with
  | [.int v] => R (some (.int (if 48 ≤ v ∧ v ≤ 57 then 1 else 0))) M
  | _ => False
set_option maxRecDepth 100000 in
set_option maxHeartbeats 4000000 in
theorem metX5_isDigit : am_Met yX5_isDigit cX5_isDigit 1 (some .boolean) (0) (0) TX5_isDigit := by
  refine am_met (own := RX5) (by decide +kernel) rfl kX5_isDigit koX5_isDigit 60 (fun _ _ _ _ _ => none) (fun live as M Ret h => ?_) (fun _ _ _ _ _ _ _ _ hI => by cases hI)
  unfold TX5_isDigit at h
  split at h
  · next v =>
    refine ⟨Nat.le_of_ble_eq_true rfl, ?_⟩
    change am_wp _ _ _ _ [(0, Value.int v)] _ _
    repeat' (first | exact rfl | apply And.intro | intro hx | (refine Exists.intro _ (And.intro rfl ?_)))
    all_goals try first | (with_reducible change am_tI _ _) | (change Ret _ _) | (change Ret _ _ _) | (change Exists _)
    all_goals try dsimp only at *
    all_goals try exact absurd ‹(1000 : Int64) = 0› (by decide)
    all_goals first | (left; rfl) | (right; rfl) | grind
  · exact h.elim
theorem dX5_levelOf_0 : decode cX5_levelOf 0 = .ok (.iload_n 0, 1) := by decide +kernel
theorem dX5_levelOf_1 : decode cX5_levelOf 1 = .ok (.lookupswitch 93 #[(38, 85), (42, 91), (43, 89), (45, 89), (47, 91), (60, 87), (61, 87), (62, 87), (124, 83)], 83) := by decide +kernel
theorem dX5_levelOf_84 : decode cX5_levelOf 84 = .ok (.iconst 0, 1) := by decide +kernel
theorem dX5_levelOf_85 : decode cX5_levelOf 85 = .ok (.ireturn, 1) := by decide +kernel
theorem dX5_levelOf_86 : decode cX5_levelOf 86 = .ok (.iconst 1, 1) := by decide +kernel
theorem dX5_levelOf_87 : decode cX5_levelOf 87 = .ok (.ireturn, 1) := by decide +kernel
theorem dX5_levelOf_88 : decode cX5_levelOf 88 = .ok (.iconst 2, 1) := by decide +kernel
theorem dX5_levelOf_89 : decode cX5_levelOf 89 = .ok (.ireturn, 1) := by decide +kernel
theorem dX5_levelOf_90 : decode cX5_levelOf 90 = .ok (.iconst 3, 1) := by decide +kernel
theorem dX5_levelOf_91 : decode cX5_levelOf 91 = .ok (.ireturn, 1) := by decide +kernel
theorem dX5_levelOf_92 : decode cX5_levelOf 92 = .ok (.iconst 4, 1) := by decide +kernel
theorem dX5_levelOf_93 : decode cX5_levelOf 93 = .ok (.ireturn, 1) := by decide +kernel
theorem dX5_levelOf_94 : decode cX5_levelOf 94 = .ok (.iconst 5, 1) := by decide +kernel
theorem dX5_levelOf_95 : decode cX5_levelOf 95 = .ok (.ireturn, 1) := by decide +kernel
def kX5_levelOf (live : am_E) (Ret : am_R) : am_code := [(0, am_iload 0 1), (1, am_switch [(38, 86), (42, 92), (43, 90), (45, 90), (47, 92), (60, 88), (61, 88), (62, 88), (124, 84)] 94), (84, am_const (.int 0) 85), (85, am_retI Ret), (86, am_const (.int 1) 87), (87, am_retI Ret), (88, am_const (.int 2) 89), (89, am_retI Ret), (90, am_const (.int 3) 91), (91, am_retI Ret), (92, am_const (.int 4) 93), (93, am_retI Ret), (94, am_const (.int 5) 95), (95, am_retI Ret)]
theorem koX5_levelOf (live : am_E) (Ret : am_R) : ∀ q ∈ kX5_levelOf live Ret, am_ok RX5 cX5_levelOf 1 (some .int) 0 0 live Ret q.1 q.2 :=
  am_kc (ak_iload_n dX5_levelOf_0 rfl rfl) <|
  am_kc (ak_lswitch dX5_levelOf_1 (by decide +kernel) (by decide +kernel) (by decide +kernel)) <|
  am_kc (ak_iconst dX5_levelOf_84 (by decide +kernel) rfl) <|
  am_kc (ak_retI dX5_levelOf_85) <|
  am_kc (ak_iconst dX5_levelOf_86 (by decide +kernel) rfl) <|
  am_kc (ak_retI dX5_levelOf_87) <|
  am_kc (ak_iconst dX5_levelOf_88 (by decide +kernel) rfl) <|
  am_kc (ak_retI dX5_levelOf_89) <|
  am_kc (ak_iconst dX5_levelOf_90 (by decide +kernel) rfl) <|
  am_kc (ak_retI dX5_levelOf_91) <|
  am_kc (ak_iconst dX5_levelOf_92 (by decide +kernel) rfl) <|
  am_kc (ak_retI dX5_levelOf_93) <|
  am_kc (ak_iconst dX5_levelOf_94 (by decide +kernel) rfl) <|
  am_kc (ak_retI dX5_levelOf_95) <| am_kn
def am_level (s : Int32) : Int32 := if s = 124 then 0 else if s = 38 then 1 else if s = 60 ∨ s = 61 ∨ s = 62 then 2 else if s = 43 ∨ s = 45 then 3 else if s = 42 ∨ s = 47 then 4 else 5
def TX5_levelOf : am_T := fun live as M R => match as with
  | [.int s] => R (some (.int (am_level s))) M
  | _ => False
set_option maxRecDepth 100000 in
set_option maxHeartbeats 4000000 in
theorem metX5_levelOf : am_Met yX5_levelOf cX5_levelOf 1 (some .int) (0) (0) TX5_levelOf := by
  refine am_met (own := RX5) (by decide +kernel) rfl kX5_levelOf koX5_levelOf 60 (fun _ _ _ _ _ => none) (fun live as M Ret h => ?_) (fun _ _ _ _ _ _ _ _ hI => by cases hI)
  unfold TX5_levelOf at h
  split at h
  · next s =>
    refine ⟨Nat.le_of_ble_eq_true rfl, ?_⟩
    change am_wp _ _ _ _ [(0, Value.int s)] _ _
    repeat' (first | exact rfl | apply And.intro | intro hx | (refine Exists.intro _ (And.intro rfl ?_)))
    all_goals try first | (with_reducible change am_tI _ _) | (change Ret _ _) | (change Ret _ _ _) | (change Exists _)
    all_goals try dsimp only at *
    all_goals try exact absurd ‹(1000 : Int64) = 0› (by decide)
    all_goals grind [am_level]
  · exact h.elim
theorem dX5_operands_0 : decode cX5_operands 0 = .ok (.iload_n 0, 1) := by decide +kernel
theorem dX5_operands_1 : decode cX5_operands 1 = .ok (.lookupswitch 97 #[(33, 93), (63, 95), (97, 91), (101, 91), (108, 91), (111, 91), (112, 91), (114, 91), (121, 91), (126, 93)], 91) := by decide +kernel
theorem dX5_operands_92 : decode cX5_operands 92 = .ok (.iconst 0, 1) := by decide +kernel
theorem dX5_operands_93 : decode cX5_operands 93 = .ok (.ireturn, 1) := by decide +kernel
theorem dX5_operands_94 : decode cX5_operands 94 = .ok (.iconst 1, 1) := by decide +kernel
theorem dX5_operands_95 : decode cX5_operands 95 = .ok (.ireturn, 1) := by decide +kernel
theorem dX5_operands_96 : decode cX5_operands 96 = .ok (.iconst 3, 1) := by decide +kernel
theorem dX5_operands_97 : decode cX5_operands 97 = .ok (.ireturn, 1) := by decide +kernel
theorem dX5_operands_98 : decode cX5_operands 98 = .ok (.iconst 2, 1) := by decide +kernel
theorem dX5_operands_99 : decode cX5_operands 99 = .ok (.ireturn, 1) := by decide +kernel
def kX5_operands (live : am_E) (Ret : am_R) : am_code := [(0, am_iload 0 1), (1, am_switch [(33, 94), (63, 96), (97, 92), (101, 92), (108, 92), (111, 92), (112, 92), (114, 92), (121, 92), (126, 94)] 98), (92, am_const (.int 0) 93), (93, am_retI Ret), (94, am_const (.int 1) 95), (95, am_retI Ret), (96, am_const (.int 3) 97), (97, am_retI Ret), (98, am_const (.int 2) 99), (99, am_retI Ret)]
theorem koX5_operands (live : am_E) (Ret : am_R) : ∀ q ∈ kX5_operands live Ret, am_ok RX5 cX5_operands 1 (some .int) 0 0 live Ret q.1 q.2 :=
  am_kc (ak_iload_n dX5_operands_0 rfl rfl) <|
  am_kc (ak_lswitch dX5_operands_1 (by decide +kernel) (by decide +kernel) (by decide +kernel)) <|
  am_kc (ak_iconst dX5_operands_92 (by decide +kernel) rfl) <|
  am_kc (ak_retI dX5_operands_93) <|
  am_kc (ak_iconst dX5_operands_94 (by decide +kernel) rfl) <|
  am_kc (ak_retI dX5_operands_95) <|
  am_kc (ak_iconst dX5_operands_96 (by decide +kernel) rfl) <|
  am_kc (ak_retI dX5_operands_97) <|
  am_kc (ak_iconst dX5_operands_98 (by decide +kernel) rfl) <|
  am_kc (ak_retI dX5_operands_99) <| am_kn
def am_ops (s : Int32) : Int32 := if s = 114 ∨ s = 112 ∨ s = 101 ∨ s = 108 ∨ s = 121 ∨ s = 111 ∨ s = 97 then 0 else if s = 33 ∨ s = 126 then 1 else if s = 63 then 3 else 2
def TX5_operands : am_T := fun live as M R => match as with
  | [.int s] => R (some (.int (am_ops s))) M
  | _ => False
set_option maxRecDepth 100000 in
set_option maxHeartbeats 4000000 in
theorem metX5_operands : am_Met yX5_operands cX5_operands 1 (some .int) (0) (0) TX5_operands := by
  refine am_met (own := RX5) (by decide +kernel) rfl kX5_operands koX5_operands 60 (fun _ _ _ _ _ => none) (fun live as M Ret h => ?_) (fun _ _ _ _ _ _ _ _ hI => by cases hI)
  unfold TX5_operands at h
  split at h
  · next s =>
    refine ⟨Nat.le_of_ble_eq_true rfl, ?_⟩
    change am_wp _ _ _ _ [(0, Value.int s)] _ _
    repeat' (first | exact rfl | apply And.intro | intro hx | (refine Exists.intro _ (And.intro rfl ?_)))
    all_goals try first | (with_reducible change am_tI _ _) | (change Ret _ _) | (change Ret _ _ _) | (change Exists _)
    all_goals try dsimp only at *
    all_goals try exact absurd ‹(1000 : Int64) = 0› (by decide)
    all_goals grind [am_ops]
  · exact h.elim
theorem dX5_joined_0 : decode cX5_joined 0 = .ok (.iload_n 0, 1) := by decide +kernel
theorem dX5_joined_1 : decode cX5_joined 1 = .ok (.lookupswitch 159 #[(38, 93), (42, 155), (43, 147), (45, 151), (60, 111), (61, 135), (62, 123), (124, 75)], 75) := by decide +kernel
theorem dX5_joined_76 : decode cX5_joined 76 = .ok (.lload_n 1, 1) := by decide +kernel
theorem dX5_joined_77 : decode cX5_joined 77 = .ok (.lconst 0, 1) := by decide +kernel
theorem dX5_joined_78 : decode cX5_joined 78 = .ok (.lcmp, 1) := by decide +kernel
theorem dX5_joined_79 : decode cX5_joined 79 = .ok (.ifCond .ne 9, 3) := by decide +kernel
theorem dX5_joined_82 : decode cX5_joined 82 = .ok (.lload_n 3, 1) := by decide +kernel
theorem dX5_joined_83 : decode cX5_joined 83 = .ok (.lconst 0, 1) := by decide +kernel
theorem dX5_joined_84 : decode cX5_joined 84 = .ok (.lcmp, 1) := by decide +kernel
theorem dX5_joined_85 : decode cX5_joined 85 = .ok (.ifCond .eq 7, 3) := by decide +kernel
theorem dX5_joined_88 : decode cX5_joined 88 = .ok (.lconst 1, 1) := by decide +kernel
theorem dX5_joined_89 : decode cX5_joined 89 = .ok (.goto 4, 3) := by decide +kernel
theorem dX5_joined_92 : decode cX5_joined 92 = .ok (.lconst 0, 1) := by decide +kernel
theorem dX5_joined_93 : decode cX5_joined 93 = .ok (.lreturn, 1) := by decide +kernel
theorem dX5_joined_94 : decode cX5_joined 94 = .ok (.lload_n 1, 1) := by decide +kernel
theorem dX5_joined_95 : decode cX5_joined 95 = .ok (.lconst 0, 1) := by decide +kernel
theorem dX5_joined_96 : decode cX5_joined 96 = .ok (.lcmp, 1) := by decide +kernel
theorem dX5_joined_97 : decode cX5_joined 97 = .ok (.ifCond .eq 13, 3) := by decide +kernel
theorem dX5_joined_100 : decode cX5_joined 100 = .ok (.lload_n 3, 1) := by decide +kernel
theorem dX5_joined_101 : decode cX5_joined 101 = .ok (.lconst 0, 1) := by decide +kernel
theorem dX5_joined_102 : decode cX5_joined 102 = .ok (.lcmp, 1) := by decide +kernel
theorem dX5_joined_103 : decode cX5_joined 103 = .ok (.ifCond .eq 7, 3) := by decide +kernel
theorem dX5_joined_106 : decode cX5_joined 106 = .ok (.lconst 1, 1) := by decide +kernel
theorem dX5_joined_107 : decode cX5_joined 107 = .ok (.goto 4, 3) := by decide +kernel
theorem dX5_joined_110 : decode cX5_joined 110 = .ok (.lconst 0, 1) := by decide +kernel
theorem dX5_joined_111 : decode cX5_joined 111 = .ok (.lreturn, 1) := by decide +kernel
theorem dX5_joined_112 : decode cX5_joined 112 = .ok (.lload_n 1, 1) := by decide +kernel
theorem dX5_joined_113 : decode cX5_joined 113 = .ok (.lload_n 3, 1) := by decide +kernel
theorem dX5_joined_114 : decode cX5_joined 114 = .ok (.lcmp, 1) := by decide +kernel
theorem dX5_joined_115 : decode cX5_joined 115 = .ok (.ifCond .ge 7, 3) := by decide +kernel
theorem dX5_joined_118 : decode cX5_joined 118 = .ok (.lconst 1, 1) := by decide +kernel
theorem dX5_joined_119 : decode cX5_joined 119 = .ok (.goto 4, 3) := by decide +kernel
theorem dX5_joined_122 : decode cX5_joined 122 = .ok (.lconst 0, 1) := by decide +kernel
theorem dX5_joined_123 : decode cX5_joined 123 = .ok (.lreturn, 1) := by decide +kernel
theorem dX5_joined_124 : decode cX5_joined 124 = .ok (.lload_n 1, 1) := by decide +kernel
theorem dX5_joined_125 : decode cX5_joined 125 = .ok (.lload_n 3, 1) := by decide +kernel
theorem dX5_joined_126 : decode cX5_joined 126 = .ok (.lcmp, 1) := by decide +kernel
theorem dX5_joined_127 : decode cX5_joined 127 = .ok (.ifCond .le 7, 3) := by decide +kernel
theorem dX5_joined_130 : decode cX5_joined 130 = .ok (.lconst 1, 1) := by decide +kernel
theorem dX5_joined_131 : decode cX5_joined 131 = .ok (.goto 4, 3) := by decide +kernel
theorem dX5_joined_134 : decode cX5_joined 134 = .ok (.lconst 0, 1) := by decide +kernel
theorem dX5_joined_135 : decode cX5_joined 135 = .ok (.lreturn, 1) := by decide +kernel
theorem dX5_joined_136 : decode cX5_joined 136 = .ok (.lload_n 1, 1) := by decide +kernel
theorem dX5_joined_137 : decode cX5_joined 137 = .ok (.lload_n 3, 1) := by decide +kernel
theorem dX5_joined_138 : decode cX5_joined 138 = .ok (.lcmp, 1) := by decide +kernel
theorem dX5_joined_139 : decode cX5_joined 139 = .ok (.ifCond .ne 7, 3) := by decide +kernel
theorem dX5_joined_142 : decode cX5_joined 142 = .ok (.lconst 1, 1) := by decide +kernel
theorem dX5_joined_143 : decode cX5_joined 143 = .ok (.goto 4, 3) := by decide +kernel
theorem dX5_joined_146 : decode cX5_joined 146 = .ok (.lconst 0, 1) := by decide +kernel
theorem dX5_joined_147 : decode cX5_joined 147 = .ok (.lreturn, 1) := by decide +kernel
theorem dX5_joined_148 : decode cX5_joined 148 = .ok (.lload_n 1, 1) := by decide +kernel
theorem dX5_joined_149 : decode cX5_joined 149 = .ok (.lload_n 3, 1) := by decide +kernel
theorem dX5_joined_150 : decode cX5_joined 150 = .ok (.ladd, 1) := by decide +kernel
theorem dX5_joined_151 : decode cX5_joined 151 = .ok (.lreturn, 1) := by decide +kernel
theorem dX5_joined_152 : decode cX5_joined 152 = .ok (.lload_n 1, 1) := by decide +kernel
theorem dX5_joined_153 : decode cX5_joined 153 = .ok (.lload_n 3, 1) := by decide +kernel
theorem dX5_joined_154 : decode cX5_joined 154 = .ok (.lsub, 1) := by decide +kernel
theorem dX5_joined_155 : decode cX5_joined 155 = .ok (.lreturn, 1) := by decide +kernel
theorem dX5_joined_156 : decode cX5_joined 156 = .ok (.lload_n 1, 1) := by decide +kernel
theorem dX5_joined_157 : decode cX5_joined 157 = .ok (.lload_n 3, 1) := by decide +kernel
theorem dX5_joined_158 : decode cX5_joined 158 = .ok (.lmul, 1) := by decide +kernel
theorem dX5_joined_159 : decode cX5_joined 159 = .ok (.lreturn, 1) := by decide +kernel
theorem dX5_joined_160 : decode cX5_joined 160 = .ok (.lload_n 3, 1) := by decide +kernel
theorem dX5_joined_161 : decode cX5_joined 161 = .ok (.lconst 0, 1) := by decide +kernel
theorem dX5_joined_162 : decode cX5_joined 162 = .ok (.lcmp, 1) := by decide +kernel
theorem dX5_joined_163 : decode cX5_joined 163 = .ok (.ifCond .ne 7, 3) := by decide +kernel
theorem dX5_joined_166 : decode cX5_joined 166 = .ok (.lconst 0, 1) := by decide +kernel
theorem dX5_joined_167 : decode cX5_joined 167 = .ok (.goto 6, 3) := by decide +kernel
theorem dX5_joined_170 : decode cX5_joined 170 = .ok (.lload_n 1, 1) := by decide +kernel
theorem dX5_joined_171 : decode cX5_joined 171 = .ok (.lload_n 3, 1) := by decide +kernel
theorem dX5_joined_172 : decode cX5_joined 172 = .ok (.ldiv, 1) := by decide +kernel
theorem dX5_joined_173 : decode cX5_joined 173 = .ok (.lreturn, 1) := by decide +kernel
def kX5_joined (live : am_E) (Ret : am_R) : am_code := [(0, am_iload 0 1), (1, am_switch [(38, 94), (42, 156), (43, 148), (45, 152), (60, 112), (61, 136), (62, 124), (124, 76)] 160), (76, am_lload 1 77), (77, am_const (.long 0) 78), (78, am_lcmp 79), (79, am_if1 (fun x => x = 0) 82 88), (82, am_lload 3 83), (83, am_const (.long 0) 84), (84, am_lcmp 85), (85, am_if1 (fun x => x = 0) 92 88), (88, am_const (.long 1) 89), (89, am_goto 93), (92, am_const (.long 0) 93), (93, am_retL Ret), (94, am_lload 1 95), (95, am_const (.long 0) 96), (96, am_lcmp 97), (97, am_if1 (fun x => x = 0) 110 100), (100, am_lload 3 101), (101, am_const (.long 0) 102), (102, am_lcmp 103), (103, am_if1 (fun x => x = 0) 110 106), (106, am_const (.long 1) 107), (107, am_goto 111), (110, am_const (.long 0) 111), (111, am_retL Ret), (112, am_lload 1 113), (113, am_lload 3 114), (114, am_lcmp 115), (115, am_if1 (fun x => 0 ≤ x) 122 118), (118, am_const (.long 1) 119), (119, am_goto 123), (122, am_const (.long 0) 123), (123, am_retL Ret), (124, am_lload 1 125), (125, am_lload 3 126), (126, am_lcmp 127), (127, am_if1 (fun x => x ≤ 0) 134 130), (130, am_const (.long 1) 131), (131, am_goto 135), (134, am_const (.long 0) 135), (135, am_retL Ret), (136, am_lload 1 137), (137, am_lload 3 138), (138, am_lcmp 139), (139, am_if1 (fun x => x = 0) 142 146), (142, am_const (.long 1) 143), (143, am_goto 147), (146, am_const (.long 0) 147), (147, am_retL Ret), (148, am_lload 1 149), (149, am_lload 3 150), (150, am_l2 (fun x y => x + y) 151), (151, am_retL Ret), (152, am_lload 1 153), (153, am_lload 3 154), (154, am_l2 (fun x y => x - y) 155), (155, am_retL Ret), (156, am_lload 1 157), (157, am_lload 3 158), (158, am_l2 (fun x y => x * y) 159), (159, am_retL Ret), (160, am_lload 3 161), (161, am_const (.long 0) 162), (162, am_lcmp 163), (163, am_if1 (fun x => x = 0) 166 170), (166, am_const (.long 0) 167), (167, am_goto 173), (170, am_lload 1 171), (171, am_lload 3 172), (172, am_l2z (fun x y => x / y) 173), (173, am_retL Ret)]
theorem koX5_joined (live : am_E) (Ret : am_R) : ∀ q ∈ kX5_joined live Ret, am_ok RX5 cX5_joined 5 (some .long) 0 0 live Ret q.1 q.2 :=
  am_kc (ak_iload_n dX5_joined_0 rfl rfl) <|
  am_kc (ak_lswitch dX5_joined_1 (by decide +kernel) (by decide +kernel) (by decide +kernel)) <|
  am_kc (ak_lload_n dX5_joined_76 rfl rfl) <|
  am_kc (ak_lconst dX5_joined_77 (by decide +kernel) rfl) <|
  am_kc (ak_lcmp dX5_joined_78 rfl) <|
  am_kc (ak_if_ne dX5_joined_79 (by decide +kernel) rfl) <|
  am_kc (ak_lload_n dX5_joined_82 rfl rfl) <|
  am_kc (ak_lconst dX5_joined_83 (by decide +kernel) rfl) <|
  am_kc (ak_lcmp dX5_joined_84 rfl) <|
  am_kc (ak_if_eq dX5_joined_85 (by decide +kernel) rfl) <|
  am_kc (ak_lconst dX5_joined_88 (by decide +kernel) rfl) <|
  am_kc (ak_goto dX5_joined_89 (by decide +kernel)) <|
  am_kc (ak_lconst dX5_joined_92 (by decide +kernel) rfl) <|
  am_kc (ak_retL dX5_joined_93) <|
  am_kc (ak_lload_n dX5_joined_94 rfl rfl) <|
  am_kc (ak_lconst dX5_joined_95 (by decide +kernel) rfl) <|
  am_kc (ak_lcmp dX5_joined_96 rfl) <|
  am_kc (ak_if_eq dX5_joined_97 (by decide +kernel) rfl) <|
  am_kc (ak_lload_n dX5_joined_100 rfl rfl) <|
  am_kc (ak_lconst dX5_joined_101 (by decide +kernel) rfl) <|
  am_kc (ak_lcmp dX5_joined_102 rfl) <|
  am_kc (ak_if_eq dX5_joined_103 (by decide +kernel) rfl) <|
  am_kc (ak_lconst dX5_joined_106 (by decide +kernel) rfl) <|
  am_kc (ak_goto dX5_joined_107 (by decide +kernel)) <|
  am_kc (ak_lconst dX5_joined_110 (by decide +kernel) rfl) <|
  am_kc (ak_retL dX5_joined_111) <|
  am_kc (ak_lload_n dX5_joined_112 rfl rfl) <|
  am_kc (ak_lload_n dX5_joined_113 rfl rfl) <|
  am_kc (ak_lcmp dX5_joined_114 rfl) <|
  am_kc (ak_if_ge dX5_joined_115 (by decide +kernel) rfl) <|
  am_kc (ak_lconst dX5_joined_118 (by decide +kernel) rfl) <|
  am_kc (ak_goto dX5_joined_119 (by decide +kernel)) <|
  am_kc (ak_lconst dX5_joined_122 (by decide +kernel) rfl) <|
  am_kc (ak_retL dX5_joined_123) <|
  am_kc (ak_lload_n dX5_joined_124 rfl rfl) <|
  am_kc (ak_lload_n dX5_joined_125 rfl rfl) <|
  am_kc (ak_lcmp dX5_joined_126 rfl) <|
  am_kc (ak_if_le dX5_joined_127 (by decide +kernel) rfl) <|
  am_kc (ak_lconst dX5_joined_130 (by decide +kernel) rfl) <|
  am_kc (ak_goto dX5_joined_131 (by decide +kernel)) <|
  am_kc (ak_lconst dX5_joined_134 (by decide +kernel) rfl) <|
  am_kc (ak_retL dX5_joined_135) <|
  am_kc (ak_lload_n dX5_joined_136 rfl rfl) <|
  am_kc (ak_lload_n dX5_joined_137 rfl rfl) <|
  am_kc (ak_lcmp dX5_joined_138 rfl) <|
  am_kc (ak_if_ne dX5_joined_139 (by decide +kernel) rfl) <|
  am_kc (ak_lconst dX5_joined_142 (by decide +kernel) rfl) <|
  am_kc (ak_goto dX5_joined_143 (by decide +kernel)) <|
  am_kc (ak_lconst dX5_joined_146 (by decide +kernel) rfl) <|
  am_kc (ak_retL dX5_joined_147) <|
  am_kc (ak_lload_n dX5_joined_148 rfl rfl) <|
  am_kc (ak_lload_n dX5_joined_149 rfl rfl) <|
  am_kc (ak_ladd dX5_joined_150 rfl) <|
  am_kc (ak_retL dX5_joined_151) <|
  am_kc (ak_lload_n dX5_joined_152 rfl rfl) <|
  am_kc (ak_lload_n dX5_joined_153 rfl rfl) <|
  am_kc (ak_lsub dX5_joined_154 rfl) <|
  am_kc (ak_retL dX5_joined_155) <|
  am_kc (ak_lload_n dX5_joined_156 rfl rfl) <|
  am_kc (ak_lload_n dX5_joined_157 rfl rfl) <|
  am_kc (ak_lmul dX5_joined_158 rfl) <|
  am_kc (ak_retL dX5_joined_159) <|
  am_kc (ak_lload_n dX5_joined_160 rfl rfl) <|
  am_kc (ak_lconst dX5_joined_161 (by decide +kernel) rfl) <|
  am_kc (ak_lcmp dX5_joined_162 rfl) <|
  am_kc (ak_if_ne dX5_joined_163 (by decide +kernel) rfl) <|
  am_kc (ak_lconst dX5_joined_166 (by decide +kernel) rfl) <|
  am_kc (ak_goto dX5_joined_167 (by decide +kernel)) <|
  am_kc (ak_lload_n dX5_joined_170 rfl rfl) <|
  am_kc (ak_lload_n dX5_joined_171 rfl rfl) <|
  am_kc (ak_ldiv dX5_joined_172 rfl) <|
  am_kc (ak_retL dX5_joined_173) <| am_kn
def am_join (s : Int32) (a b : Int64) : Int64 := if s = 124 then (if a ≠ 0 ∨ b ≠ 0 then 1 else 0) else if s = 38 then (if a ≠ 0 ∧ b ≠ 0 then 1 else 0) else if s = 60 then (if a < b then 1 else 0) else if s = 62 then (if b < a then 1 else 0) else if s = 61 then (if a = b then 1 else 0) else if s = 43 then a + b else if s = 45 then a - b else if s = 42 then a * b else if b = 0 then 0 else a / b
theorem lc_eq (x y : Int64) : lg_cmp x y = 0 ↔ x = y := by unfold lg_cmp; split <;> (try split) <;> grind
theorem lc_lt (x y : Int64) : lg_cmp x y < 0 ↔ x < y := by unfold lg_cmp; split <;> (try split) <;> grind
theorem lc_ge (x y : Int64) : 0 ≤ lg_cmp x y ↔ y ≤ x := by unfold lg_cmp; split <;> (try split) <;> grind
theorem lc_gt (x y : Int64) : 0 < lg_cmp x y ↔ y < x := by unfold lg_cmp; split <;> (try split) <;> grind
theorem lc_le (x y : Int64) : lg_cmp x y ≤ 0 ↔ x ≤ y := by unfold lg_cmp; split <;> (try split) <;> grind
def TX5_joined : am_T := fun live as M R => match as with
  | [.int s, .long a, .long b] => R (some (.long (am_join s a b))) M
  | _ => False
set_option maxRecDepth 100000 in
set_option maxHeartbeats 4000000 in
theorem metX5_joined : am_Met yX5_joined cX5_joined 5 (some .long) (0) (0) TX5_joined := by
  refine am_met (own := RX5) (by decide +kernel) rfl kX5_joined koX5_joined 120 (fun _ _ _ _ _ => none) (fun live as M Ret h => ?_) (fun _ _ _ _ _ _ _ _ hI => by cases hI)
  unfold TX5_joined at h
  split at h
  · next s a b =>
    refine ⟨Nat.le_of_ble_eq_true rfl, ?_⟩
    change am_wp _ _ _ _ [(0, Value.int s), (1, Value.long a), (3, Value.long b)] _ _
    repeat' (first | exact rfl | apply And.intro | intro hx | (refine Exists.intro _ (And.intro rfl ?_)))
    all_goals try first | (with_reducible change am_tI _ _) | (change Ret _ _) | (change Ret _ _ _) | (change Exists _)
    all_goals try dsimp only at *
    all_goals try exact absurd ‹(1000 : Int64) = 0› (by decide)
    all_goals try simp only [lc_eq, lc_lt, lc_ge, lc_gt, lc_le] at *
    all_goals first | assumption | grind [am_join]
  · exact h.elim
theorem wd_175 : Cond.fieldLink "LearnLoans$Text" 18 "LearnLoans$Text" "wrong" "I" ∈ am_ws := am_wsi (List.mem_of_getElem? (i := 175) (by decide +kernel)) (by decide +kernel)
theorem dX5_blame_0 : decode cX5_blame 0 = .ok (.aload_n 0, 1) := by decide +kernel
theorem dX5_blame_1 : decode cX5_blame 1 = .ok (.getfield 18, 3) := by decide +kernel
theorem dX5_blame_4 : decode cX5_blame 4 = .ok (.iconst (-1), 1) := by decide +kernel
theorem dX5_blame_5 : decode cX5_blame 5 = .ok (.if_icmp .ne 13, 3) := by decide +kernel
theorem dX5_blame_8 : decode cX5_blame 8 = .ok (.aload_n 0, 1) := by decide +kernel
theorem dX5_blame_9 : decode cX5_blame 9 = .ok (.bipush 10, 2) := by decide +kernel
theorem dX5_blame_11 : decode cX5_blame 11 = .ok (.iload_n 1, 1) := by decide +kernel
theorem dX5_blame_12 : decode cX5_blame 12 = .ok (.imul, 1) := by decide +kernel
theorem dX5_blame_13 : decode cX5_blame 13 = .ok (.iload_n 2, 1) := by decide +kernel
theorem dX5_blame_14 : decode cX5_blame 14 = .ok (.iadd, 1) := by decide +kernel
theorem dX5_blame_15 : decode cX5_blame 15 = .ok (.putfield 18, 3) := by decide +kernel
theorem dX5_blame_18 : decode cX5_blame 18 = .ok (.return_, 1) := by decide +kernel
def kX5_blame (live : am_E) (Ret : am_R) : am_code := [(0, am_aload 0 1), (1, am_getI live 5 6 4), (4, am_const (.int (-1)) 5), (5, am_if2 (fun x y => x = y) 8 18), (8, am_aload 0 9), (9, am_const (.int 10) 11), (11, am_iload 1 12), (12, am_i2 (fun x y => x * y) 13), (13, am_iload 2 14), (14, am_i2 (fun x y => x + y) 15), (15, am_putI live 5 6 18), (18, am_retV Ret)]
theorem koX5_blame (live : am_E) (Ret : am_R) : ∀ q ∈ kX5_blame live Ret, am_ok RX5 cX5_blame 3 none 0 0 live Ret q.1 q.2 :=
  am_kc (ak_aload_n dX5_blame_0 rfl rfl) <|
  am_kc (ak_getI (C := RX5) (T := TX5) (N := 7) rfl inX5w (by decide) rfl rfl rfl wd_175 dX5_blame_1 rfl) <|
  am_kc (ak_iconst dX5_blame_4 (by decide +kernel) rfl) <|
  am_kc (ak_icmp_ne dX5_blame_5 (by decide +kernel) rfl) <|
  am_kc (ak_aload_n dX5_blame_8 rfl rfl) <|
  am_kc (ak_bipush dX5_blame_9 (by decide +kernel) rfl) <|
  am_kc (ak_iload_n dX5_blame_11 rfl rfl) <|
  am_kc (ak_imul dX5_blame_12 rfl) <|
  am_kc (ak_iload_n dX5_blame_13 rfl rfl) <|
  am_kc (ak_iadd dX5_blame_14 rfl) <|
  am_kc (ak_putI (C := RX5) (T := TX5) (N := 7) rfl inX5w tyX5_ok nmX5 (by decide) rfl rfl rfl rfl (by decide +kernel) wd_175 dX5_blame_15 rfl) <|
  am_kc (ak_retV dX5_blame_18) <| am_kn
def am_blame (M : am_M) (t : Nat) (a k : Int32) : am_M := am_wIc (M.1 t 6 = -1) M t 6 (10 * a + k)
def TX5_blame : am_T := fun live as M R => match as with
  | [.ref t, .int a, .int k] => am_if (am_isO live 5 t) (R none (am_blame M t a k))
  | _ => False
set_option maxRecDepth 100000 in
set_option maxHeartbeats 4000000 in
theorem metX5_blame : am_Met yX5_blame cX5_blame 3 none (0) (0) TX5_blame := by
  refine am_met (own := RX5) (by decide +kernel) rfl kX5_blame koX5_blame 60 (fun _ _ _ _ _ => none) (fun live as M Ret h => ?_) (fun _ _ _ _ _ _ _ _ hI => by cases hI)
  unfold TX5_blame at h
  split at h
  · next t a k =>
    refine ⟨Nat.le_of_ble_eq_true rfl, ?_⟩
    change am_wp _ _ _ _ [(0, Value.ref t), (1, Value.int a), (2, Value.int k)] _ _
    have hh := am_if_mp h
    clear h
    obtain ⟨h1, h⟩ := hh
    repeat' (first | exact rfl | (with_reducible exact h1) | apply And.intro | intro hx | (refine Exists.intro _ (And.intro rfl ?_)) | ((with_reducible change _ = true); simp only [h1, Bool.true_and]; rfl))
    all_goals try first | (with_reducible change am_tI _ _) | (change Ret _ _) | (change Ret _ _ _) | (change Exists _)
    all_goals try dsimp only at *
    all_goals try exact absurd ‹(1000 : Int64) = 0› (by decide)
    · unfold am_blame at h; rw [am_wIc_t ‹_›] at h; exact h
    · unfold am_blame at h; rw [am_wIc_f ‹_›] at h; exact h
  · exact h.elim
theorem wd_170 : Cond.fieldLink "LearnLoans$Text" 25 "LearnLoans$Text" "codes" "I" ∈ am_ws := am_wsi (List.mem_of_getElem? (i := 170) (by decide +kernel)) (by decide +kernel)
theorem wd_169 : Cond.fieldLink "LearnLoans$Text" 15 "LearnLoans$Text" "code" "[I" ∈ am_ws := am_wsi (List.mem_of_getElem? (i := 169) (by decide +kernel)) (by decide +kernel)
theorem dX5_emit_0 : decode cX5_emit 0 = .ok (.aload_n 0, 1) := by decide +kernel
theorem dX5_emit_1 : decode cX5_emit 1 = .ok (.getfield 25, 3) := by decide +kernel
theorem dX5_emit_4 : decode cX5_emit 4 = .ok (.bipush 50, 2) := by decide +kernel
theorem dX5_emit_6 : decode cX5_emit 6 = .ok (.if_icmp .ge 23, 3) := by decide +kernel
theorem dX5_emit_9 : decode cX5_emit 9 = .ok (.aload_n 0, 1) := by decide +kernel
theorem dX5_emit_10 : decode cX5_emit 10 = .ok (.getfield 15, 3) := by decide +kernel
theorem dX5_emit_13 : decode cX5_emit 13 = .ok (.aload_n 0, 1) := by decide +kernel
theorem dX5_emit_14 : decode cX5_emit 14 = .ok (.getfield 25, 3) := by decide +kernel
theorem dX5_emit_17 : decode cX5_emit 17 = .ok (.iload_n 1, 1) := by decide +kernel
theorem dX5_emit_18 : decode cX5_emit 18 = .ok (.iastore, 1) := by decide +kernel
theorem dX5_emit_19 : decode cX5_emit 19 = .ok (.aload_n 0, 1) := by decide +kernel
theorem dX5_emit_20 : decode cX5_emit 20 = .ok (.dup, 1) := by decide +kernel
theorem dX5_emit_21 : decode cX5_emit 21 = .ok (.getfield 25, 3) := by decide +kernel
theorem dX5_emit_24 : decode cX5_emit 24 = .ok (.iconst 1, 1) := by decide +kernel
theorem dX5_emit_25 : decode cX5_emit 25 = .ok (.iadd, 1) := by decide +kernel
theorem dX5_emit_26 : decode cX5_emit 26 = .ok (.putfield 25, 3) := by decide +kernel
theorem dX5_emit_29 : decode cX5_emit 29 = .ok (.return_, 1) := by decide +kernel
def kX5_emit (live : am_E) (Ret : am_R) : am_code := [(0, am_aload 0 1), (1, am_getI live 5 2 4), (4, am_const (.int 50) 6), (6, am_if2 (fun x y => y ≤ x) 29 9), (9, am_aload 0 10), (10, am_getR live 5 1 13), (13, am_aload 0 14), (14, am_getI live 5 2 17), (17, am_iload 1 18), (18, am_ast live 0 19), (19, am_aload 0 20), (20, am_dup 21), (21, am_getI live 5 2 24), (24, am_const (.int 1) 25), (25, am_i2 (fun x y => x + y) 26), (26, am_putI live 5 2 29), (29, am_retV Ret)]
theorem koX5_emit (live : am_E) (Ret : am_R) : ∀ q ∈ kX5_emit live Ret, am_ok RX5 cX5_emit 2 none 0 0 live Ret q.1 q.2 :=
  am_kc (ak_aload_n dX5_emit_0 rfl rfl) <|
  am_kc (ak_getI (C := RX5) (T := TX5) (N := 7) rfl inX5w (by decide) rfl rfl rfl wd_170 dX5_emit_1 rfl) <|
  am_kc (ak_bipush dX5_emit_4 (by decide +kernel) rfl) <|
  am_kc (ak_icmp_ge dX5_emit_6 (by decide +kernel) rfl) <|
  am_kc (ak_aload_n dX5_emit_9 rfl rfl) <|
  am_kc (ak_getR (C := RX5) (T := TX5) (N := 7) rfl inX5w (by decide) rfl rfl rfl wd_169 dX5_emit_10 rfl) <|
  am_kc (ak_aload_n dX5_emit_13 rfl rfl) <|
  am_kc (ak_getI (C := RX5) (T := TX5) (N := 7) rfl inX5w (by decide) rfl rfl rfl wd_170 dX5_emit_14 rfl) <|
  am_kc (ak_iload_n dX5_emit_17 rfl rfl) <|
  am_kc (ak_iast (t := 0) (fun _ => rfl) rfl dX5_emit_18 rfl) <|
  am_kc (ak_aload_n dX5_emit_19 rfl rfl) <|
  am_kc (ak_dup dX5_emit_20 rfl) <|
  am_kc (ak_getI (C := RX5) (T := TX5) (N := 7) rfl inX5w (by decide) rfl rfl rfl wd_170 dX5_emit_21 rfl) <|
  am_kc (ak_iconst dX5_emit_24 (by decide +kernel) rfl) <|
  am_kc (ak_iadd dX5_emit_25 rfl) <|
  am_kc (ak_putI (C := RX5) (T := TX5) (N := 7) rfl inX5w tyX5_ok nmX5 (by decide) rfl rfl rfl rfl (by decide +kernel) wd_170 dX5_emit_26 rfl) <|
  am_kc (ak_retV dX5_emit_29) <| am_kn
def am_emit (M : am_M) (t c : Nat) (v : Int32) : am_M := if (M.1 t 2).toInt < 50 then am_wI (am_wI M c (M.1 t 2).toNatClampNeg v) t 2 (M.1 t 2 + 1) else M
def TX5_emit : am_T := fun live as M R => match as with
  | [.ref t, .int v] => am_tP live t (fun s c => 0 ≤ (M.1 t 2).toInt ∧ R none (am_emit M t c v))
  | _ => False
set_option maxRecDepth 100000 in
set_option maxHeartbeats 4000000 in
theorem metX5_emit : am_Met yX5_emit cX5_emit 2 none (0) (0) TX5_emit := by
  refine am_met (own := RX5) (by decide +kernel) rfl kX5_emit koX5_emit 60 (fun _ _ _ _ _ => none) (fun live as M Ret h => ?_) (fun _ _ _ _ _ _ _ _ hI => by cases hI)
  unfold TX5_emit at h
  split at h
  · next t v =>
    refine ⟨Nat.le_of_ble_eq_true rfl, ?_⟩
    change am_wp _ _ _ _ [(0, Value.ref t), (1, Value.int v)] _ _
    have hh := am_tP_mp h
    clear h
    obtain ⟨s, c, g1, h2, g3, h1, g4, h3, g5, h4, g6, g7, h5, h0, h⟩ := hh
    repeat' (first | exact rfl | (with_reducible exact h1) | (with_reducible exact h2) | (with_reducible exact h3) | (refine Exists.intro _ (And.intro h2 ?_)) | apply And.intro | intro hx | (refine Exists.intro _ (And.intro rfl ?_)) | ((with_reducible change _ = true); simp only [h1, h2, h3, Bool.true_and]; rfl))
    all_goals try first | (with_reducible change am_tI _ _) | (change Ret _ _) | (change Ret _ _ _) | (change Exists _)
    all_goals try dsimp only at *
    all_goals try exact absurd ‹(1000 : Int64) = 0› (by decide)
    all_goals simp only [i_le, Int32.reduceToInt, h4, am_emit] at *
    · rw [if_neg (by omega)] at h; exact h
    · omega
    · omega
    · rw [if_pos (by omega)] at h
      simp only [am_wI_1, h5, false_and, if_false]
      exact h
  · exact h.elim
theorem wd_171 : Cond.fieldLink "LearnLoans$Text" 28 "LearnLoans$Text" "place" "I" ∈ am_ws := am_wsi (List.mem_of_getElem? (i := 171) (by decide +kernel)) (by decide +kernel)
theorem wd_173 : Cond.fieldLink "LearnLoans$Text" 22 "LearnLoans$Text" "size" "I" ∈ am_ws := am_wsi (List.mem_of_getElem? (i := 173) (by decide +kernel)) (by decide +kernel)
theorem wd_168 : Cond.fieldLink "LearnLoans$Text" 9 "LearnLoans$Text" "signs" "[I" ∈ am_ws := am_wsi (List.mem_of_getElem? (i := 168) (by decide +kernel)) (by decide +kernel)
theorem dX5_next_0 : decode cX5_next 0 = .ok (.aload_n 0, 1) := by decide +kernel
theorem dX5_next_1 : decode cX5_next 1 = .ok (.getfield 28, 3) := by decide +kernel
theorem dX5_next_4 : decode cX5_next 4 = .ok (.aload_n 0, 1) := by decide +kernel
theorem dX5_next_5 : decode cX5_next 5 = .ok (.getfield 22, 3) := by decide +kernel
theorem dX5_next_8 : decode cX5_next 8 = .ok (.if_icmp .ge 30, 3) := by decide +kernel
theorem dX5_next_11 : decode cX5_next 11 = .ok (.aload_n 0, 1) := by decide +kernel
theorem dX5_next_12 : decode cX5_next 12 = .ok (.getfield 9, 3) := by decide +kernel
theorem dX5_next_15 : decode cX5_next 15 = .ok (.aload_n 0, 1) := by decide +kernel
theorem dX5_next_16 : decode cX5_next 16 = .ok (.getfield 28, 3) := by decide +kernel
theorem dX5_next_19 : decode cX5_next 19 = .ok (.iaload, 1) := by decide +kernel
theorem dX5_next_20 : decode cX5_next 20 = .ok (.bipush 32, 2) := by decide +kernel
theorem dX5_next_22 : decode cX5_next 22 = .ok (.if_icmp .ne 16, 3) := by decide +kernel
theorem dX5_next_25 : decode cX5_next 25 = .ok (.aload_n 0, 1) := by decide +kernel
theorem dX5_next_26 : decode cX5_next 26 = .ok (.dup, 1) := by decide +kernel
theorem dX5_next_27 : decode cX5_next 27 = .ok (.getfield 28, 3) := by decide +kernel
theorem dX5_next_30 : decode cX5_next 30 = .ok (.iconst 1, 1) := by decide +kernel
theorem dX5_next_31 : decode cX5_next 31 = .ok (.iadd, 1) := by decide +kernel
theorem dX5_next_32 : decode cX5_next 32 = .ok (.putfield 28, 3) := by decide +kernel
theorem dX5_next_35 : decode cX5_next 35 = .ok (.goto (-35), 3) := by decide +kernel
theorem dX5_next_38 : decode cX5_next 38 = .ok (.aload_n 0, 1) := by decide +kernel
theorem dX5_next_39 : decode cX5_next 39 = .ok (.getfield 28, 3) := by decide +kernel
theorem dX5_next_42 : decode cX5_next 42 = .ok (.aload_n 0, 1) := by decide +kernel
theorem dX5_next_43 : decode cX5_next 43 = .ok (.getfield 22, 3) := by decide +kernel
theorem dX5_next_46 : decode cX5_next 46 = .ok (.if_icmp .ge 15, 3) := by decide +kernel
theorem dX5_next_49 : decode cX5_next 49 = .ok (.aload_n 0, 1) := by decide +kernel
theorem dX5_next_50 : decode cX5_next 50 = .ok (.getfield 9, 3) := by decide +kernel
theorem dX5_next_53 : decode cX5_next 53 = .ok (.aload_n 0, 1) := by decide +kernel
theorem dX5_next_54 : decode cX5_next 54 = .ok (.getfield 28, 3) := by decide +kernel
theorem dX5_next_57 : decode cX5_next 57 = .ok (.iaload, 1) := by decide +kernel
theorem dX5_next_58 : decode cX5_next 58 = .ok (.goto 4, 3) := by decide +kernel
theorem dX5_next_61 : decode cX5_next 61 = .ok (.iconst (-1), 1) := by decide +kernel
theorem dX5_next_62 : decode cX5_next 62 = .ok (.ireturn, 1) := by decide +kernel
def kX5_next (live : am_E) (Ret : am_R) : am_code := [(0, am_aload 0 1), (1, am_getI live 5 3 4), (4, am_aload 0 5), (5, am_getI live 5 5 8), (8, am_if2 (fun x y => y ≤ x) 38 11), (11, am_aload 0 12), (12, am_getR live 5 0 15), (15, am_aload 0 16), (16, am_getI live 5 3 19), (19, am_ald live 0 20), (20, am_const (.int 32) 22), (22, am_if2 (fun x y => x = y) 25 38), (25, am_aload 0 26), (26, am_dup 27), (27, am_getI live 5 3 30), (30, am_const (.int 1) 31), (31, am_i2 (fun x y => x + y) 32), (32, am_putI live 5 3 35), (35, am_goto 0), (38, am_aload 0 39), (39, am_getI live 5 3 42), (42, am_aload 0 43), (43, am_getI live 5 5 46), (46, am_if2 (fun x y => y ≤ x) 61 49), (49, am_aload 0 50), (50, am_getR live 5 0 53), (53, am_aload 0 54), (54, am_getI live 5 3 57), (57, am_ald live 0 58), (58, am_goto 62), (61, am_const (.int (-1)) 62), (62, am_retI Ret)]
theorem koX5_next (live : am_E) (Ret : am_R) : ∀ q ∈ kX5_next live Ret, am_ok RX5 cX5_next 1 (some .int) 0 0 live Ret q.1 q.2 :=
  am_kc (ak_aload_n dX5_next_0 rfl rfl) <|
  am_kc (ak_getI (C := RX5) (T := TX5) (N := 7) rfl inX5w (by decide) rfl rfl rfl wd_171 dX5_next_1 rfl) <|
  am_kc (ak_aload_n dX5_next_4 rfl rfl) <|
  am_kc (ak_getI (C := RX5) (T := TX5) (N := 7) rfl inX5w (by decide) rfl rfl rfl wd_173 dX5_next_5 rfl) <|
  am_kc (ak_icmp_ge dX5_next_8 (by decide +kernel) rfl) <|
  am_kc (ak_aload_n dX5_next_11 rfl rfl) <|
  am_kc (ak_getR (C := RX5) (T := TX5) (N := 7) rfl inX5w (by decide) rfl rfl rfl wd_168 dX5_next_12 rfl) <|
  am_kc (ak_aload_n dX5_next_15 rfl rfl) <|
  am_kc (ak_getI (C := RX5) (T := TX5) (N := 7) rfl inX5w (by decide) rfl rfl rfl wd_171 dX5_next_16 rfl) <|
  am_kc (ak_iald (t := 0) (fun _ => rfl) rfl dX5_next_19 rfl) <|
  am_kc (ak_bipush dX5_next_20 (by decide +kernel) rfl) <|
  am_kc (ak_icmp_ne dX5_next_22 (by decide +kernel) rfl) <|
  am_kc (ak_aload_n dX5_next_25 rfl rfl) <|
  am_kc (ak_dup dX5_next_26 rfl) <|
  am_kc (ak_getI (C := RX5) (T := TX5) (N := 7) rfl inX5w (by decide) rfl rfl rfl wd_171 dX5_next_27 rfl) <|
  am_kc (ak_iconst dX5_next_30 (by decide +kernel) rfl) <|
  am_kc (ak_iadd dX5_next_31 rfl) <|
  am_kc (ak_putI (C := RX5) (T := TX5) (N := 7) rfl inX5w tyX5_ok nmX5 (by decide) rfl rfl rfl rfl (by decide +kernel) wd_171 dX5_next_32 rfl) <|
  am_kc (ak_goto dX5_next_35 (by decide +kernel)) <|
  am_kc (ak_aload_n dX5_next_38 rfl rfl) <|
  am_kc (ak_getI (C := RX5) (T := TX5) (N := 7) rfl inX5w (by decide) rfl rfl rfl wd_171 dX5_next_39 rfl) <|
  am_kc (ak_aload_n dX5_next_42 rfl rfl) <|
  am_kc (ak_getI (C := RX5) (T := TX5) (N := 7) rfl inX5w (by decide) rfl rfl rfl wd_173 dX5_next_43 rfl) <|
  am_kc (ak_icmp_ge dX5_next_46 (by decide +kernel) rfl) <|
  am_kc (ak_aload_n dX5_next_49 rfl rfl) <|
  am_kc (ak_getR (C := RX5) (T := TX5) (N := 7) rfl inX5w (by decide) rfl rfl rfl wd_168 dX5_next_50 rfl) <|
  am_kc (ak_aload_n dX5_next_53 rfl rfl) <|
  am_kc (ak_getI (C := RX5) (T := TX5) (N := 7) rfl inX5w (by decide) rfl rfl rfl wd_171 dX5_next_54 rfl) <|
  am_kc (ak_iald (t := 0) (fun _ => rfl) rfl dX5_next_57 rfl) <|
  am_kc (ak_goto dX5_next_58 (by decide +kernel)) <|
  am_kc (ak_iconst dX5_next_61 (by decide +kernel) rfl) <|
  am_kc (ak_retI dX5_next_62) <| am_kn
/-- blanks are passed: the place is p from now on -/
def am_skip (M : am_M) (t s : Nat) (p : Int32) : Prop := (M.1 t 3).toInt ≤ p.toInt ∧ p.toInt ≤ (M.1 t 5).toInt ∧ (∀ j : Nat, (M.1 t 3).toInt ≤ (j : Int) → (j : Int) < p.toInt → M.1 s j = 32) ∧ (p.toInt < (M.1 t 5).toInt → ¬ M.1 s p.toNatClampNeg = 32)
def am_sign (M : am_M) (t s : Nat) (p : Int32) : Int32 := if p.toInt < (M.1 t 5).toInt then M.1 s p.toNatClampNeg else -1
def TX5_next : am_T := fun live as M R => match as with
  | [.ref t] => am_tP live t (fun s c => am_tI M t ∧ ∀ p, am_skip M t s p → R (some (.int (am_sign M t s p))) (am_wI M t 3 p))
  | _ => False
def JX5_next : am_E → List Value → am_M → am_R → am_inv := fun live as M0 _ pc => match as with
  | [.ref t] => (match pc with
    | 0 => some ([0], fun k L st M => ∃ p : Int32, L = [(0, .ref t)] ∧ st = [] ∧ k = ((51 - p.toInt).toNat, 0) ∧ M = am_wI M0 t 3 p ∧ (M0.1 t 3).toInt ≤ p.toInt ∧ p.toInt ≤ (M0.1 t 5).toInt ∧ (∀ j : Nat, (M0.1 t 3).toInt ≤ (j : Int) → (j : Int) < p.toInt → M0.1 ((live.2 t 0).getD 0) j = 32))
    | _ => none)
  | _ => none
theorem am_wI_id {M : am_M} {n k : Nat} : am_wI M n k (M.1 n k) = M := by
  refine am_Mext (fun a b => ?_) rfl
  rw [am_wI_1]
  split
  · next h => rw [h.1, h.2]
  · rfl
theorem am_wI_wI {M : am_M} {n k : Nat} {v w : Int32} : am_wI (am_wI M n k v) n k w = am_wI M n k w := by
  refine am_Mext (fun a b => ?_) rfl
  rw [am_wI_1, am_wI_1, am_wI_1]
  split <;> rfl
set_option maxRecDepth 100000 in
set_option maxHeartbeats 4000000 in
theorem metX5_next : am_Met yX5_next cX5_next 1 (some .int) (0) (0) TX5_next := by
  refine am_met0 (own := RX5) (by decide +kernel) rfl kX5_next koX5_next 60 JX5_next ?_ ?_
  · intro live as M Ret h
    unfold TX5_next at h
    split at h
    · next t =>
      refine ⟨Nat.le_of_ble_eq_true rfl, ?_⟩
      have hh := am_tP_mp h
      clear h
      obtain ⟨s, c, h2, g2, g3, h1, h3, g4, h4, g5, g6, h5, g7, hI, h⟩ := hh
      obtain ⟨-, q1, q2, q3⟩ := hI
      exact ⟨_, _, rfl, M.1 t 3, rfl, rfl, rfl, am_wI_id.symm, Int.le_refl _, q2.2, fun j z1 z2 => absurd z1 (by omega)⟩
    · exact h.elim
  · intro live as M0 Ret h k pc I hI L st M hi
    unfold TX5_next at h
    split at h
    · next t =>
      have hh := am_tP_mp h
      clear h
      obtain ⟨s, c, h2, g2, g3, h1, h3, g4, h4, g5, g6, h5, g7, hT, h⟩ := hh
      change (match pc with | 0 => _ | _ => none) = _ at hI
      split at hI
      · cases hI
        obtain ⟨p, rfl, rfl, rfl, rfl, e1, e2, e3⟩ := hi
        obtain ⟨-, q1, q2, q3⟩ := hT
        rw [h2] at e3
        have f1 : (am_wI M0 t 3 p).1 t 3 = p := by rw [am_wI_1, if_pos ⟨rfl, rfl⟩]
        have f2 : (am_wI M0 t 3 p).1 t 5 = M0.1 t 5 := by rw [am_wI_1, if_neg (fun z => absurd z.2 (by decide))]
        have f3 : ∀ j, (am_wI M0 t 3 p).1 s j = M0.1 s j := fun j => by rw [am_wI_1, if_neg (fun z => h5 z.1.symm)]
        repeat' (first | exact rfl | (with_reducible exact h1) | (with_reducible exact h2) | (with_reducible exact h3) | (refine Exists.intro _ (And.intro h2 ?_)) | apply And.intro | intro hx | (refine Exists.intro _ (And.intro rfl ?_)) | ((with_reducible change _ = true); simp only [h1, h2, h3, Bool.true_and]; rfl))
        all_goals try first | (with_reducible change am_tI _ _) | (change Ret _ _) | (change Ret _ _ _) | (change Exists _)
        all_goals try dsimp only at *
        all_goals try exact absurd ‹(1000 : Int64) = 0› (by decide)
        all_goals try (refine ⟨_, Or.inl ?_, p + 1, rfl, rfl, rfl, ?_, ?_, ?_, ?_⟩)
        all_goals simp only [f1, f2, f3, h4, i_le] at *
        all_goals have hi := i_add (x := p) (y := 1) (by simp only [Int32.reduceToInt]; omega) (by simp only [Int32.reduceToInt]; omega)
        all_goals simp only [Int32.reduceToInt] at hi
        all_goals first
          | omega
          | (have z := h p ⟨e1, e2, e3, fun z => absurd z (by omega)⟩; rw [am_sign, if_neg (by omega)] at z; exact z)
          | (have z := h p ⟨e1, e2, e3, fun _ => by assumption⟩; rw [am_sign, if_pos (by omega)] at z; exact z)
          | exact am_wI_wI
          | skip
        · intro j j1 j2
          rw [h2] at *
          by_cases hj : (j : Int) < p.toInt
          · exact e3 j j1 hj
          · have : j = p.toNatClampNeg := by have := i_clamp (x := p) (by omega); omega
            rw [this]
            assumption
      · cases hI
    · exact h.elim
end
section
/-! Text: reading, what is safe of it -/
theorem wd_685 : Cond.methodLink "LearnLoans$Text" 38 yX5_next ∈ am_ws := am_wsi (List.mem_of_getElem? (i := 685) (by decide +kernel)) (by decide +kernel)
theorem wd_687 : Cond.instanceMethod yX5_next ∈ am_ws := am_wsi (List.mem_of_getElem? (i := 687) (by decide +kernel)) (by decide +kernel)
theorem wd_17 : Cond.selects "LearnLoans$Text" yX5_next yX5_next ∈ am_ws := am_wsi (List.mem_of_getElem? (i := 17) (by decide +kernel)) (by decide +kernel)
theorem wd_65 : Cond.initialized "LearnLoans$Text" ∈ am_ws := am_wsi (List.mem_of_getElem? (i := 65) (by decide +kernel)) (by decide +kernel)
theorem wd_688 : Cond.code yX5_next cX5_next 1 (some .int) ∈ am_ws := am_wsi (List.mem_of_getElem? (i := 688) (by decide +kernel)) (by decide +kernel)
theorem wd_673 : Cond.methodLink "LearnLoans$Text" 42 yX5_blame ∈ am_ws := am_wsi (List.mem_of_getElem? (i := 673) (by decide +kernel)) (by decide +kernel)
theorem wd_675 : Cond.instanceMethod yX5_blame ∈ am_ws := am_wsi (List.mem_of_getElem? (i := 675) (by decide +kernel)) (by decide +kernel)
theorem wd_14 : Cond.selects "LearnLoans$Text" yX5_blame yX5_blame ∈ am_ws := am_wsi (List.mem_of_getElem? (i := 14) (by decide +kernel)) (by decide +kernel)
theorem wd_676 : Cond.code yX5_blame cX5_blame 3 none ∈ am_ws := am_wsi (List.mem_of_getElem? (i := 676) (by decide +kernel)) (by decide +kernel)
theorem dX5_pass_0 : decode cX5_pass 0 = .ok (.aload_n 0, 1) := by decide +kernel
theorem dX5_pass_1 : decode cX5_pass 1 = .ok (.getfield 18, 3) := by decide +kernel
theorem dX5_pass_4 : decode cX5_pass 4 = .ok (.iconst (-1), 1) := by decide +kernel
theorem dX5_pass_5 : decode cX5_pass 5 = .ok (.if_icmp .ne 24, 3) := by decide +kernel
theorem dX5_pass_8 : decode cX5_pass 8 = .ok (.aload_n 0, 1) := by decide +kernel
theorem dX5_pass_9 : decode cX5_pass 9 = .ok (.invokevirtual 38, 3) := by decide +kernel
theorem dX5_pass_12 : decode cX5_pass 12 = .ok (.iload_n 1, 1) := by decide +kernel
theorem dX5_pass_13 : decode cX5_pass 13 = .ok (.if_icmp .ne 16, 3) := by decide +kernel
theorem dX5_pass_16 : decode cX5_pass 16 = .ok (.aload_n 0, 1) := by decide +kernel
theorem dX5_pass_17 : decode cX5_pass 17 = .ok (.dup, 1) := by decide +kernel
theorem dX5_pass_18 : decode cX5_pass 18 = .ok (.getfield 28, 3) := by decide +kernel
theorem dX5_pass_21 : decode cX5_pass 21 = .ok (.iconst 1, 1) := by decide +kernel
theorem dX5_pass_22 : decode cX5_pass 22 = .ok (.iadd, 1) := by decide +kernel
theorem dX5_pass_23 : decode cX5_pass 23 = .ok (.putfield 28, 3) := by decide +kernel
theorem dX5_pass_26 : decode cX5_pass 26 = .ok (.goto 12, 3) := by decide +kernel
theorem dX5_pass_29 : decode cX5_pass 29 = .ok (.aload_n 0, 1) := by decide +kernel
theorem dX5_pass_30 : decode cX5_pass 30 = .ok (.aload_n 0, 1) := by decide +kernel
theorem dX5_pass_31 : decode cX5_pass 31 = .ok (.getfield 28, 3) := by decide +kernel
theorem dX5_pass_34 : decode cX5_pass 34 = .ok (.iconst 1, 1) := by decide +kernel
theorem dX5_pass_35 : decode cX5_pass 35 = .ok (.invokevirtual 42, 3) := by decide +kernel
theorem dX5_pass_38 : decode cX5_pass 38 = .ok (.return_, 1) := by decide +kernel
def kX5_pass (live : am_E) (Ret : am_R) : am_code := [(0, am_aload 0 1), (1, am_getI live 5 6 4), (4, am_const (.int (-1)) 5), (5, am_if2 (fun x y => x = y) 8 29), (8, am_aload 0 9), (9, am_callV live 5 0 TX5_next 12), (12, am_iload 1 13), (13, am_if2 (fun x y => x = y) 16 29), (16, am_aload 0 17), (17, am_dup 18), (18, am_getI live 5 3 21), (21, am_const (.int 1) 22), (22, am_i2 (fun x y => x + y) 23), (23, am_putI live 5 3 26), (26, am_goto 38), (29, am_aload 0 30), (30, am_aload 0 31), (31, am_getI live 5 3 34), (34, am_const (.int 1) 35), (35, am_callV live 5 2 TX5_blame 38), (38, am_retV Ret)]
theorem koX5_pass (live : am_E) (Ret : am_R) : ∀ q ∈ kX5_pass live Ret, am_ok RX5 cX5_pass 2 none 1 22 live Ret q.1 q.2 :=
  am_kc (ak_aload_n dX5_pass_0 rfl rfl) <|
  am_kc (ak_getI (C := RX5) (T := TX5) (N := 7) rfl inX5w (by decide) rfl rfl rfl wd_175 dX5_pass_1 rfl) <|
  am_kc (ak_iconst dX5_pass_4 (by decide +kernel) rfl) <|
  am_kc (ak_icmp_ne dX5_pass_5 (by decide +kernel) rfl) <|
  am_kc (ak_aload_n dX5_pass_8 rfl rfl) <|
  am_kc (ak_callV (C := RX5) (F := TX5) (N := 7) metX5_next rfl ⟨rfl, by decide +kernel, by decide +kernel, by decide +kernel⟩ (am_w5 wd_685 wd_687 wd_17 wd_65 wd_688) (by decide) dX5_pass_9 rfl) <|
  am_kc (ak_iload_n dX5_pass_12 rfl rfl) <|
  am_kc (ak_icmp_ne dX5_pass_13 (by decide +kernel) rfl) <|
  am_kc (ak_aload_n dX5_pass_16 rfl rfl) <|
  am_kc (ak_dup dX5_pass_17 rfl) <|
  am_kc (ak_getI (C := RX5) (T := TX5) (N := 7) rfl inX5w (by decide) rfl rfl rfl wd_171 dX5_pass_18 rfl) <|
  am_kc (ak_iconst dX5_pass_21 (by decide +kernel) rfl) <|
  am_kc (ak_iadd dX5_pass_22 rfl) <|
  am_kc (ak_putI (C := RX5) (T := TX5) (N := 7) rfl inX5w tyX5_ok nmX5 (by decide) rfl rfl rfl rfl (by decide +kernel) wd_171 dX5_pass_23 rfl) <|
  am_kc (ak_goto dX5_pass_26 (by decide +kernel)) <|
  am_kc (ak_aload_n dX5_pass_29 rfl rfl) <|
  am_kc (ak_aload_n dX5_pass_30 rfl rfl) <|
  am_kc (ak_getI (C := RX5) (T := TX5) (N := 7) rfl inX5w (by decide) rfl rfl rfl wd_171 dX5_pass_31 rfl) <|
  am_kc (ak_iconst dX5_pass_34 (by decide +kernel) rfl) <|
  am_kc (ak_callV (C := RX5) (F := TX5) (N := 7) metX5_blame rfl ⟨rfl, by decide +kernel, by decide +kernel, by decide +kernel⟩ (am_w5 wd_673 wd_675 wd_14 wd_65 wd_676) (by decide) dX5_pass_35 rfl) <|
  am_kc (ak_retV dX5_pass_38) <| am_kn
def TX5_pass : am_T := fun live as M R => match as with
  | [.ref t, .int g] => am_tP live t (fun s c => am_tI M t ∧ ¬ g = -1 ∧ ∀ M', am_ch (am_tS t c) M M' → am_tI M' t → R none M')
  | _ => False
set_option maxRecDepth 100000 in
set_option maxHeartbeats 4000000 in
theorem metX5_pass : am_Met yX5_pass cX5_pass 2 none (1) (22) TX5_pass := by
  refine am_met (own := RX5) (by decide +kernel) rfl kX5_pass koX5_pass 60 (fun _ _ _ _ _ => none) (fun live as M Ret h => ?_) (fun _ _ _ _ _ _ _ _ hI => by cases hI)
  unfold TX5_pass at h
  split at h
  · next t g =>
    refine ⟨Nat.le_of_ble_eq_true rfl, ?_⟩
    change am_wp _ _ _ _ [(0, Value.ref t), (1, Value.int g)] _ _
    have hh := am_tP_mp h
    clear h
    obtain ⟨s, c, h2, h6, hb, h1, h3, h7, h4, h8, h9, h5, h10, hT, hg, h⟩ := hh
    repeat' (first | exact rfl | (with_reducible exact hT) | (with_reducible exact hg) | (with_reducible exact h1) | (with_reducible exact h2) | (with_reducible exact h3) | (with_reducible exact hb) | (with_reducible exact h6) | (with_reducible exact h7) | (refine Exists.intro _ (Exists.intro _ (And.intro h2 (And.intro h6 ?_)))) | (refine Exists.intro _ (And.intro h2 ?_)) | (refine Exists.intro _ (And.intro h6 ?_)) | apply And.intro | intro hx | (refine Exists.intro _ (And.intro rfl ?_)) | ((with_reducible change _ = true); simp only [h1, h2, h3, hb, h6, h7, Bool.true_and]; rfl))
    all_goals try first | (with_reducible change am_tI _ _) | (change Ret _ _) | (change Ret _ _ _) | (change Exists _)
    all_goals try dsimp only at *
    all_goals try exact absurd ‹(1000 : Int64) = 0› (by decide)
    all_goals obtain ⟨-, q1, q2, q3⟩ := hT
    · rename_i w p hp
      obtain ⟨p1, p2, p3, p4⟩ := hp
      have hlt : p.toInt < (M.1 t 5).toInt := by
        rcases Int.lt_or_le p.toInt (M.1 t 5).toInt with z | z
        · exact z
        · rw [am_sign, if_neg (by omega)] at hx
          exact absurd hx.symm hg
      have hi := i_add (x := p) (y := 1) (by simp only [Int32.reduceToInt]; omega) (by simp only [Int32.reduceToInt]; omega)
      simp only [Int32.reduceToInt] at hi
      simp only [am_wI_1, and_self, if_true, am_wI_wI]
      refine h _ (am_ch.rf.wI am_tS_3) (am_tI_of ?_ ?_ ?_ ?_ ?_)
      all_goals simp [am_wI_1, -Int32.toInt_add]
      all_goals omega
    · rename_i w p hp
      obtain ⟨p1, p2, p3, p4⟩ := hp
      refine h _ ((am_ch.rf.wI am_tS_3).wIc am_tS_6) (am_tI_of ?_ ?_ ?_ ?_ ?_)
      all_goals simp [am_blame, am_wIc_1, am_wI_1]
      all_goals omega
    · refine h _ (am_ch.rf.wIc am_tS_6) (am_tI_of ?_ ?_ ?_ ?_ ?_)
      all_goals simp [am_blame, am_wIc_1, am_wI_1]
      all_goals omega
  · exact h.elim
theorem dX5_passSigns_0 : decode cX5_passSigns 0 = .ok (.aload_n 0, 1) := by decide +kernel
theorem dX5_passSigns_1 : decode cX5_passSigns 1 = .ok (.invokevirtual 38, 3) := by decide +kernel
theorem dX5_passSigns_4 : decode cX5_passSigns 4 = .ok (.istore_n 1, 1) := by decide +kernel
theorem dX5_passSigns_5 : decode cX5_passSigns 5 = .ok (.aload_n 0, 1) := by decide +kernel
theorem dX5_passSigns_6 : decode cX5_passSigns 6 = .ok (.getfield 28, 3) := by decide +kernel
theorem dX5_passSigns_9 : decode cX5_passSigns 9 = .ok (.aload_n 0, 1) := by decide +kernel
theorem dX5_passSigns_10 : decode cX5_passSigns 10 = .ok (.getfield 22, 3) := by decide +kernel
theorem dX5_passSigns_13 : decode cX5_passSigns 13 = .ok (.if_icmp .ge 33, 3) := by decide +kernel
theorem dX5_passSigns_16 : decode cX5_passSigns 16 = .ok (.iload_n 1, 1) := by decide +kernel
theorem dX5_passSigns_17 : decode cX5_passSigns 17 = .ok (.bipush 33, 2) := by decide +kernel
theorem dX5_passSigns_19 : decode cX5_passSigns 19 = .ok (.if_icmp .eq 9, 3) := by decide +kernel
theorem dX5_passSigns_22 : decode cX5_passSigns 22 = .ok (.iload_n 1, 1) := by decide +kernel
theorem dX5_passSigns_23 : decode cX5_passSigns 23 = .ok (.bipush 45, 2) := by decide +kernel
theorem dX5_passSigns_25 : decode cX5_passSigns 25 = .ok (.if_icmp .ne 21, 3) := by decide +kernel
theorem dX5_passSigns_28 : decode cX5_passSigns 28 = .ok (.aload_n 0, 1) := by decide +kernel
theorem dX5_passSigns_29 : decode cX5_passSigns 29 = .ok (.dup, 1) := by decide +kernel
theorem dX5_passSigns_30 : decode cX5_passSigns 30 = .ok (.getfield 28, 3) := by decide +kernel
theorem dX5_passSigns_33 : decode cX5_passSigns 33 = .ok (.iconst 1, 1) := by decide +kernel
theorem dX5_passSigns_34 : decode cX5_passSigns 34 = .ok (.iadd, 1) := by decide +kernel
theorem dX5_passSigns_35 : decode cX5_passSigns 35 = .ok (.putfield 28, 3) := by decide +kernel
theorem dX5_passSigns_38 : decode cX5_passSigns 38 = .ok (.aload_n 0, 1) := by decide +kernel
theorem dX5_passSigns_39 : decode cX5_passSigns 39 = .ok (.invokevirtual 38, 3) := by decide +kernel
theorem dX5_passSigns_42 : decode cX5_passSigns 42 = .ok (.istore_n 1, 1) := by decide +kernel
theorem dX5_passSigns_43 : decode cX5_passSigns 43 = .ok (.goto (-38), 3) := by decide +kernel
theorem dX5_passSigns_46 : decode cX5_passSigns 46 = .ok (.aload_n 0, 1) := by decide +kernel
theorem dX5_passSigns_47 : decode cX5_passSigns 47 = .ok (.getfield 28, 3) := by decide +kernel
theorem dX5_passSigns_50 : decode cX5_passSigns 50 = .ok (.ireturn, 1) := by decide +kernel
def kX5_passSigns (live : am_E) (Ret : am_R) : am_code := [(0, am_aload 0 1), (1, am_callV live 5 0 TX5_next 4), (4, am_istore 1 2 5), (5, am_aload 0 6), (6, am_getI live 5 3 9), (9, am_aload 0 10), (10, am_getI live 5 5 13), (13, am_if2 (fun x y => y ≤ x) 46 16), (16, am_iload 1 17), (17, am_const (.int 33) 19), (19, am_if2 (fun x y => x = y) 28 22), (22, am_iload 1 23), (23, am_const (.int 45) 25), (25, am_if2 (fun x y => x = y) 28 46), (28, am_aload 0 29), (29, am_dup 30), (30, am_getI live 5 3 33), (33, am_const (.int 1) 34), (34, am_i2 (fun x y => x + y) 35), (35, am_putI live 5 3 38), (38, am_aload 0 39), (39, am_callV live 5 0 TX5_next 42), (42, am_istore 1 2 43), (43, am_goto 5), (46, am_aload 0 47), (47, am_getI live 5 3 50), (50, am_retI Ret)]
theorem koX5_passSigns (live : am_E) (Ret : am_R) : ∀ q ∈ kX5_passSigns live Ret, am_ok RX5 cX5_passSigns 2 (some .int) 1 20 live Ret q.1 q.2 :=
  am_kc (ak_aload_n dX5_passSigns_0 rfl rfl) <|
  am_kc (ak_callV (C := RX5) (F := TX5) (N := 7) metX5_next rfl ⟨rfl, by decide +kernel, by decide +kernel, by decide +kernel⟩ (am_w5 wd_685 wd_687 wd_17 wd_65 wd_688) (by decide) dX5_passSigns_1 rfl) <|
  am_kc (ak_istore_n dX5_passSigns_4 rfl rfl) <|
  am_kc (ak_aload_n dX5_passSigns_5 rfl rfl) <|
  am_kc (ak_getI (C := RX5) (T := TX5) (N := 7) rfl inX5w (by decide) rfl rfl rfl wd_171 dX5_passSigns_6 rfl) <|
  am_kc (ak_aload_n dX5_passSigns_9 rfl rfl) <|
  am_kc (ak_getI (C := RX5) (T := TX5) (N := 7) rfl inX5w (by decide) rfl rfl rfl wd_173 dX5_passSigns_10 rfl) <|
  am_kc (ak_icmp_ge dX5_passSigns_13 (by decide +kernel) rfl) <|
  am_kc (ak_iload_n dX5_passSigns_16 rfl rfl) <|
  am_kc (ak_bipush dX5_passSigns_17 (by decide +kernel) rfl) <|
  am_kc (ak_icmp_eq dX5_passSigns_19 (by decide +kernel) rfl) <|
  am_kc (ak_iload_n dX5_passSigns_22 rfl rfl) <|
  am_kc (ak_bipush dX5_passSigns_23 (by decide +kernel) rfl) <|
  am_kc (ak_icmp_ne dX5_passSigns_25 (by decide +kernel) rfl) <|
  am_kc (ak_aload_n dX5_passSigns_28 rfl rfl) <|
  am_kc (ak_dup dX5_passSigns_29 rfl) <|
  am_kc (ak_getI (C := RX5) (T := TX5) (N := 7) rfl inX5w (by decide) rfl rfl rfl wd_171 dX5_passSigns_30 rfl) <|
  am_kc (ak_iconst dX5_passSigns_33 (by decide +kernel) rfl) <|
  am_kc (ak_iadd dX5_passSigns_34 rfl) <|
  am_kc (ak_putI (C := RX5) (T := TX5) (N := 7) rfl inX5w tyX5_ok nmX5 (by decide) rfl rfl rfl rfl (by decide +kernel) wd_171 dX5_passSigns_35 rfl) <|
  am_kc (ak_aload_n dX5_passSigns_38 rfl rfl) <|
  am_kc (ak_callV (C := RX5) (F := TX5) (N := 7) metX5_next rfl ⟨rfl, by decide +kernel, by decide +kernel, by decide +kernel⟩ (am_w5 wd_685 wd_687 wd_17 wd_65 wd_688) (by decide) dX5_passSigns_39 rfl) <|
  am_kc (ak_istore_n dX5_passSigns_42 rfl rfl) <|
  am_kc (ak_goto dX5_passSigns_43 (by decide +kernel)) <|
  am_kc (ak_aload_n dX5_passSigns_46 rfl rfl) <|
  am_kc (ak_getI (C := RX5) (T := TX5) (N := 7) rfl inX5w (by decide) rfl rfl rfl wd_171 dX5_passSigns_47 rfl) <|
  am_kc (ak_retI dX5_passSigns_50) <| am_kn
def TX5_passSigns : am_T := fun live as M R => match as with
  | [.ref t] => am_tP live t (fun s c => am_tI M t ∧ ∀ M', am_ch (am_tS t c) M M' → am_tI M' t → R (some (.int (M'.1 t 3))) M')
  | _ => False
def JX5_passSigns : am_E → List Value → am_M → am_R → am_inv := fun live as M0 _ pc => match as with
  | [.ref t] => (match pc with
    | 5 => some ([0, 1], fun k L st M => ∃ x : Int32, L = [(0, .ref t), (1, .int x)] ∧ st = [] ∧ k = ((51 - (M.1 t 3).toInt).toNat, 0) ∧ am_ch (am_tS t ((live.2 t 1).getD 0)) M0 M ∧ am_tI M t)
    | _ => none)
  | _ => none
theorem am_tI_w3 {M : am_M} {t s : Nat} {p : Int32} (h : am_tI M t) (hp : am_skip M t s p) : am_tI (am_wI M t 3 p) t := by
  obtain ⟨-, q1, q2, q3⟩ := h
  obtain ⟨p1, p2, -, -⟩ := hp
  refine am_tI_of ?_ ?_ ?_ ?_ ?_
  all_goals simp [am_wI_1]
  all_goals omega
theorem am_tI_inc {M : am_M} {t : Nat} (h : am_tI M t) (hp : (M.1 t 3).toInt < (M.1 t 5).toInt) : am_tI (am_wI M t 3 (M.1 t 3 + 1)) t ∧ (M.1 t 3 + 1).toInt = (M.1 t 3).toInt + 1 := by
  obtain ⟨-, q1, q2, q3⟩ := h
  have hi := i_add (x := M.1 t 3) (y := 1) (by simp only [Int32.reduceToInt]; omega) (by simp only [Int32.reduceToInt]; omega)
  simp only [Int32.reduceToInt] at hi
  refine ⟨am_tI_of ?_ ?_ ?_ ?_ ?_, hi⟩
  all_goals simp [am_wI_1, -Int32.toInt_add]
  all_goals omega
theorem am_tI_blame {M : am_M} {t : Nat} {a k : Int32} (h : am_tI M t) : am_tI (am_blame M t a k) t := by
  obtain ⟨-, q1, q2, q3⟩ := h
  refine am_tI_of ?_ ?_ ?_ ?_ ?_
  all_goals simp [am_blame, am_wIc_1]
  all_goals omega
theorem am_ch_blame {M M' : am_M} {t c : Nat} {a k : Int32} (h : am_ch (am_tS t c) M M') : am_ch (am_tS t c) M (am_blame M' t a k) := h.wIc am_tS_6
theorem am_tI_emit {M : am_M} {t c : Nat} {v : Int32} (h : am_tI M t) (hn : t ≠ c) : am_tI (am_emit M t c v) t := by
  obtain ⟨-, q1, q2, q3⟩ := h
  unfold am_emit
  split
  · have hi := i_add (x := M.1 t 2) (y := 1) (by simp only [Int32.reduceToInt]; omega) (by simp only [Int32.reduceToInt]; omega)
    simp only [Int32.reduceToInt] at hi
    refine am_tI_of ?_ ?_ ?_ ?_ ?_
    all_goals simp [am_wI_1, hn, -Int32.toInt_add]
    all_goals omega
  · exact ⟨(), q1, q2, q3⟩
theorem am_ch_emit {M M' : am_M} {t c : Nat} {v : Int32} (h : am_ch (am_tS t c) M M') : am_ch (am_tS t c) M (am_emit M' t c v) := by
  unfold am_emit
  split
  · exact (h.wI am_tS_c).wI am_tS_2
  · exact h
set_option maxRecDepth 100000 in
set_option maxHeartbeats 4000000 in
theorem metX5_passSigns : am_Met yX5_passSigns cX5_passSigns 2 (some .int) (1) (20) TX5_passSigns := by
  refine am_met (own := RX5) (by decide +kernel) rfl kX5_passSigns koX5_passSigns 60 JX5_passSigns ?_ ?_
  · intro live as M Ret h
    unfold TX5_passSigns at h
    split at h
    · next t =>
      refine ⟨Nat.le_of_ble_eq_true rfl, ?_⟩
      change am_wp _ _ _ _ [(0, Value.ref t)] _ _
      have hh := am_tP_mp h
      clear h
      obtain ⟨s, c, h2, h6, hb, h1, h3, h7, h4, h8, h9, h5, h10, hT, h⟩ := hh
      repeat' (first | exact rfl | (with_reducible exact hT) | (with_reducible exact h1) | (with_reducible exact h2) | (with_reducible exact h3) | (with_reducible exact hb) | (with_reducible exact h6) | (with_reducible exact h7) | (refine Exists.intro _ (Exists.intro _ (And.intro h2 (And.intro h6 ?_)))) | (refine Exists.intro _ (And.intro h2 ?_)) | (refine Exists.intro _ (And.intro h6 ?_)) | apply And.intro | intro hx | (refine Exists.intro _ (And.intro rfl ?_)) | ((with_reducible change _ = true); simp only [h1, h2, h3, hb, h6, h7, Bool.true_and]; rfl))
      all_goals try first | (with_reducible change am_tI _ _) | (change Ret _ _) | (change Ret _ _ _) | (change Exists _)
      all_goals try dsimp only at *
      all_goals try exact absurd ‹(1000 : Int64) = 0› (by decide)
      rename_i p hp
      exact ⟨_, _, rfl, rfl, rfl, am_ch.rf.wI am_tS_3, am_tI_w3 hT hx⟩
    · exact h.elim
  · intro live as M0 Ret h k pc I hI L st M hi
    unfold TX5_passSigns at h
    split at h
    · next t =>
      have hh := am_tP_mp h
      clear h
      obtain ⟨s, c, h2, h6, hb, h1, h3, h7, h4, h8, h9, h5, h10, hT, h⟩ := hh
      change (match pc with | 5 => _ | _ => none) = _ at hI
      split at hI
      · cases hI
        obtain ⟨x, rfl, rfl, rfl, e1, e2⟩ := hi
        have f1 := e1
        rw [h6] at f1
        repeat' (first | exact rfl | (with_reducible exact e2) | (with_reducible exact h1) | (with_reducible exact h2) | (with_reducible exact h3) | (with_reducible exact hb) | (with_reducible exact h6) | (with_reducible exact h7) | (refine Exists.intro _ (Exists.intro _ (And.intro h2 (And.intro h6 ?_)))) | (refine Exists.intro _ (And.intro h2 ?_)) | (refine Exists.intro _ (And.intro h6 ?_)) | apply And.intro | intro hx | (refine Exists.intro _ (And.intro rfl ?_)) | ((with_reducible change _ = true); simp only [h1, h2, h3, hb, h6, h7, Bool.true_and]; rfl))
        all_goals try first | (with_reducible change am_tI _ _) | (change Ret _ _) | (change Ret _ _ _) | (change Exists _)
        all_goals try dsimp only at *
        all_goals try exact absurd ‹(1000 : Int64) = 0› (by decide)
        all_goals first
          | exact h _ f1 e2
          | exact (am_tI_inc e2 (by simp only [i_le] at *; omega)).1
          | skip
        all_goals
          have hlt : (M.1 t 3).toInt < (M.1 t 5).toInt := by simp only [i_le] at *; omega
          have hi := am_tI_inc e2 hlt
          have hs := hx.1
          have hs2 := hx.2.1
          have q3 : (M.1 t 5).toInt ≤ 50 := by obtain ⟨-, q1, q2, q3⟩ := e2; exact q3
          refine ⟨_, Or.inl ?_, _, rfl, rfl, rfl, (e1.wI am_tS_3).wI am_tS_3, am_tI_w3 hi.1 hx⟩
          simp [am_wI_1, -Int32.toInt_add] at hs hs2 ⊢
          omega
      · cases hI
    · exact h.elim
theorem wd_700 : Cond.methodLink "LearnLoans$Text" 60 yX5_emit ∈ am_ws := am_wsi (List.mem_of_getElem? (i := 700) (by decide +kernel)) (by decide +kernel)
theorem wd_702 : Cond.instanceMethod yX5_emit ∈ am_ws := am_wsi (List.mem_of_getElem? (i := 702) (by decide +kernel)) (by decide +kernel)
theorem wd_20 : Cond.selects "LearnLoans$Text" yX5_emit yX5_emit ∈ am_ws := am_wsi (List.mem_of_getElem? (i := 20) (by decide +kernel)) (by decide +kernel)
theorem wd_703 : Cond.code yX5_emit cX5_emit 2 none ∈ am_ws := am_wsi (List.mem_of_getElem? (i := 703) (by decide +kernel)) (by decide +kernel)
theorem dX5_emitSigns_0 : decode cX5_emitSigns 0 = .ok (.iload_n 2, 1) := by decide +kernel
theorem dX5_emitSigns_1 : decode cX5_emitSigns 1 = .ok (.iconst 1, 1) := by decide +kernel
theorem dX5_emitSigns_2 : decode cX5_emitSigns 2 = .ok (.isub, 1) := by decide +kernel
theorem dX5_emitSigns_3 : decode cX5_emitSigns 3 = .ok (.istore_n 3, 1) := by decide +kernel
theorem dX5_emitSigns_4 : decode cX5_emitSigns 4 = .ok (.iload_n 3, 1) := by decide +kernel
theorem dX5_emitSigns_5 : decode cX5_emitSigns 5 = .ok (.iload_n 1, 1) := by decide +kernel
theorem dX5_emitSigns_6 : decode cX5_emitSigns 6 = .ok (.if_icmp .lt 52, 3) := by decide +kernel
theorem dX5_emitSigns_9 : decode cX5_emitSigns 9 = .ok (.iload_n 3, 1) := by decide +kernel
theorem dX5_emitSigns_10 : decode cX5_emitSigns 10 = .ok (.bipush 50, 2) := by decide +kernel
theorem dX5_emitSigns_12 : decode cX5_emitSigns 12 = .ok (.if_icmp .ge 46, 3) := by decide +kernel
theorem dX5_emitSigns_15 : decode cX5_emitSigns 15 = .ok (.aload_n 0, 1) := by decide +kernel
theorem dX5_emitSigns_16 : decode cX5_emitSigns 16 = .ok (.getfield 9, 3) := by decide +kernel
theorem dX5_emitSigns_19 : decode cX5_emitSigns 19 = .ok (.iload_n 3, 1) := by decide +kernel
theorem dX5_emitSigns_20 : decode cX5_emitSigns 20 = .ok (.iaload, 1) := by decide +kernel
theorem dX5_emitSigns_21 : decode cX5_emitSigns 21 = .ok (.bipush 33, 2) := by decide +kernel
theorem dX5_emitSigns_23 : decode cX5_emitSigns 23 = .ok (.if_icmp .ne 12, 3) := by decide +kernel
theorem dX5_emitSigns_26 : decode cX5_emitSigns 26 = .ok (.aload_n 0, 1) := by decide +kernel
theorem dX5_emitSigns_27 : decode cX5_emitSigns 27 = .ok (.bipush (-33), 2) := by decide +kernel
theorem dX5_emitSigns_29 : decode cX5_emitSigns 29 = .ok (.invokevirtual 60, 3) := by decide +kernel
theorem dX5_emitSigns_32 : decode cX5_emitSigns 32 = .ok (.goto 20, 3) := by decide +kernel
theorem dX5_emitSigns_35 : decode cX5_emitSigns 35 = .ok (.aload_n 0, 1) := by decide +kernel
theorem dX5_emitSigns_36 : decode cX5_emitSigns 36 = .ok (.getfield 9, 3) := by decide +kernel
theorem dX5_emitSigns_39 : decode cX5_emitSigns 39 = .ok (.iload_n 3, 1) := by decide +kernel
theorem dX5_emitSigns_40 : decode cX5_emitSigns 40 = .ok (.iaload, 1) := by decide +kernel
theorem dX5_emitSigns_41 : decode cX5_emitSigns 41 = .ok (.bipush 45, 2) := by decide +kernel
theorem dX5_emitSigns_43 : decode cX5_emitSigns 43 = .ok (.if_icmp .ne 9, 3) := by decide +kernel
theorem dX5_emitSigns_46 : decode cX5_emitSigns 46 = .ok (.aload_n 0, 1) := by decide +kernel
theorem dX5_emitSigns_47 : decode cX5_emitSigns 47 = .ok (.bipush (-126), 2) := by decide +kernel
theorem dX5_emitSigns_49 : decode cX5_emitSigns 49 = .ok (.invokevirtual 60, 3) := by decide +kernel
theorem dX5_emitSigns_52 : decode cX5_emitSigns 52 = .ok (.iinc 3 (-1), 3) := by decide +kernel
theorem dX5_emitSigns_55 : decode cX5_emitSigns 55 = .ok (.goto (-51), 3) := by decide +kernel
theorem dX5_emitSigns_58 : decode cX5_emitSigns 58 = .ok (.return_, 1) := by decide +kernel
def kX5_emitSigns (live : am_E) (Ret : am_R) : am_code := [(0, am_iload 2 1), (1, am_const (.int 1) 2), (2, am_i2 (fun x y => x - y) 3), (3, am_istore 3 4 4), (4, am_iload 3 5), (5, am_iload 1 6), (6, am_if2 (fun x y => x < y) 58 9), (9, am_iload 3 10), (10, am_const (.int 50) 12), (12, am_if2 (fun x y => y ≤ x) 58 15), (15, am_aload 0 16), (16, am_getR live 5 0 19), (19, am_iload 3 20), (20, am_ald live 0 21), (21, am_const (.int 33) 23), (23, am_if2 (fun x y => x = y) 26 35), (26, am_aload 0 27), (27, am_const (.int (-33)) 29), (29, am_callV live 5 1 TX5_emit 32), (32, am_goto 52), (35, am_aload 0 36), (36, am_getR live 5 0 39), (39, am_iload 3 40), (40, am_ald live 0 41), (41, am_const (.int 45) 43), (43, am_if2 (fun x y => x = y) 46 52), (46, am_aload 0 47), (47, am_const (.int (-126)) 49), (49, am_callV live 5 1 TX5_emit 52), (52, am_iinc 3 4 (-1) 55), (55, am_goto 4), (58, am_retV Ret)]
theorem koX5_emitSigns (live : am_E) (Ret : am_R) : ∀ q ∈ kX5_emitSigns live Ret, am_ok RX5 cX5_emitSigns 4 none 1 21 live Ret q.1 q.2 :=
  am_kc (ak_iload_n dX5_emitSigns_0 rfl rfl) <|
  am_kc (ak_iconst dX5_emitSigns_1 (by decide +kernel) rfl) <|
  am_kc (ak_isub dX5_emitSigns_2 rfl) <|
  am_kc (ak_istore_n dX5_emitSigns_3 rfl rfl) <|
  am_kc (ak_iload_n dX5_emitSigns_4 rfl rfl) <|
  am_kc (ak_iload_n dX5_emitSigns_5 rfl rfl) <|
  am_kc (ak_icmp_lt dX5_emitSigns_6 (by decide +kernel) rfl) <|
  am_kc (ak_iload_n dX5_emitSigns_9 rfl rfl) <|
  am_kc (ak_bipush dX5_emitSigns_10 (by decide +kernel) rfl) <|
  am_kc (ak_icmp_ge dX5_emitSigns_12 (by decide +kernel) rfl) <|
  am_kc (ak_aload_n dX5_emitSigns_15 rfl rfl) <|
  am_kc (ak_getR (C := RX5) (T := TX5) (N := 7) rfl inX5w (by decide) rfl rfl rfl wd_168 dX5_emitSigns_16 rfl) <|
  am_kc (ak_iload_n dX5_emitSigns_19 rfl rfl) <|
  am_kc (ak_iald (t := 0) (fun _ => rfl) rfl dX5_emitSigns_20 rfl) <|
  am_kc (ak_bipush dX5_emitSigns_21 (by decide +kernel) rfl) <|
  am_kc (ak_icmp_ne dX5_emitSigns_23 (by decide +kernel) rfl) <|
  am_kc (ak_aload_n dX5_emitSigns_26 rfl rfl) <|
  am_kc (ak_bipush dX5_emitSigns_27 (by decide +kernel) rfl) <|
  am_kc (ak_callV (C := RX5) (F := TX5) (N := 7) metX5_emit rfl ⟨rfl, by decide +kernel, by decide +kernel, by decide +kernel⟩ (am_w5 wd_700 wd_702 wd_20 wd_65 wd_703) (by decide) dX5_emitSigns_29 rfl) <|
  am_kc (ak_goto dX5_emitSigns_32 (by decide +kernel)) <|
  am_kc (ak_aload_n dX5_emitSigns_35 rfl rfl) <|
  am_kc (ak_getR (C := RX5) (T := TX5) (N := 7) rfl inX5w (by decide) rfl rfl rfl wd_168 dX5_emitSigns_36 rfl) <|
  am_kc (ak_iload_n dX5_emitSigns_39 rfl rfl) <|
  am_kc (ak_iald (t := 0) (fun _ => rfl) rfl dX5_emitSigns_40 rfl) <|
  am_kc (ak_bipush dX5_emitSigns_41 (by decide +kernel) rfl) <|
  am_kc (ak_icmp_ne dX5_emitSigns_43 (by decide +kernel) rfl) <|
  am_kc (ak_aload_n dX5_emitSigns_46 rfl rfl) <|
  am_kc (ak_bipush dX5_emitSigns_47 (by decide +kernel) rfl) <|
  am_kc (ak_callV (C := RX5) (F := TX5) (N := 7) metX5_emit rfl ⟨rfl, by decide +kernel, by decide +kernel, by decide +kernel⟩ (am_w5 wd_700 wd_702 wd_20 wd_65 wd_703) (by decide) dX5_emitSigns_49 rfl) <|
  am_kc (ak_iinc dX5_emitSigns_52 (by decide +kernel) rfl) <|
  am_kc (ak_goto dX5_emitSigns_55 (by decide +kernel)) <|
  am_kc (ak_retV dX5_emitSigns_58) <| am_kn
def TX5_emitSigns : am_T := fun live as M R => match as with
  | [.ref t, .int a, .int b] => am_tP live t (fun s c => am_tI M t ∧ 0 ≤ a.toInt ∧ 0 ≤ b.toInt ∧ ∀ M', am_ch (am_tS t c) M M' → am_tI M' t → M'.1 t 3 = M.1 t 3 → R none M')
  | _ => False
def JX5_emitSigns : am_E → List Value → am_M → am_R → am_inv := fun live as M0 _ pc => match as with
  | [.ref t, .int a, .int b] => (match pc with
    | 4 => some ([0, 1, 3], fun k L st M => ∃ i : Int32, L = [(0, .ref t), (1, .int a), (3, .int i)] ∧ st = [] ∧ k = ((i.toInt + 1).toNat, 0) ∧ -1 ≤ i.toInt ∧ am_ch (am_tS t ((live.2 t 1).getD 0)) M0 M ∧ am_tI M t ∧ M.1 t 3 = M0.1 t 3)
    | _ => none)
  | _ => none
theorem am_emit_3 {M : am_M} {t c : Nat} {v : Int32} (hn : t ≠ c) : (am_emit M t c v).1 t 3 = M.1 t 3 := by
  unfold am_emit
  split
  · simp [am_wI_1, hn]
  · rfl
set_option maxRecDepth 100000 in
set_option maxHeartbeats 4000000 in
theorem metX5_emitSigns : am_Met yX5_emitSigns cX5_emitSigns 4 none (1) (21) TX5_emitSigns := by
  refine am_met (own := RX5) (by decide +kernel) rfl kX5_emitSigns koX5_emitSigns 60 JX5_emitSigns ?_ ?_
  · intro live as M Ret h
    unfold TX5_emitSigns at h
    split at h
    · next t a b =>
      refine ⟨Nat.le_of_ble_eq_true rfl, ?_⟩
      change am_wp _ _ _ _ [(0, Value.ref t), (1, Value.int a), (2, Value.int b)] _ _
      have hh := am_tP_mp h
      clear h
      obtain ⟨s, c, h2, h6, hb, h1, h3, h7, h4, h8, h9, h5, h10, hT, ha, hbb, h⟩ := hh
      repeat' (first | exact rfl | (with_reducible exact hT) | (with_reducible exact h1) | (with_reducible exact h2) | (with_reducible exact h3) | (with_reducible exact hb) | (with_reducible exact h6) | (with_reducible exact h7) | (refine Exists.intro _ (Exists.intro _ (And.intro h2 (And.intro h6 ?_)))) | (refine Exists.intro _ (And.intro h2 ?_)) | (refine Exists.intro _ (And.intro h6 ?_)) | apply And.intro | intro hx | (refine Exists.intro _ (And.intro rfl ?_)) | ((with_reducible change _ = true); simp only [h1, h2, h3, hb, h6, h7, Bool.true_and]; rfl))
      all_goals try first | (with_reducible change am_tI _ _) | (change Ret _ _) | (change Ret _ _ _) | (change Exists _)
      all_goals try dsimp only at *
      all_goals try exact absurd ‹(1000 : Int64) = 0› (by decide)
      have hi := i_sub (x := b) (y := 1) (by simp only [Int32.reduceToInt]; have := i_hi b; omega) (by simp only [Int32.reduceToInt]; have := i_hi b; omega)
      simp only [Int32.reduceToInt] at hi
      exact ⟨_, _, rfl, rfl, rfl, by omega, am_ch.rf, hT, rfl⟩
    · exact h.elim
  · intro live as M0 Ret h k pc I hI L st M hi
    unfold TX5_emitSigns at h
    split at h
    · next t a b =>
      have hh := am_tP_mp h
      clear h
      obtain ⟨s, c, h2, h6, hb, h1, h3, h7, h4, h8, h9, h5, h10, hT, ha, hbb, h⟩ := hh
      change (match pc with | 4 => _ | _ => none) = _ at hI
      split at hI
      · cases hI
        obtain ⟨i, rfl, rfl, rfl, e0, e1, e2, e3⟩ := hi
        have f1 := e1
        rw [h6] at f1
        have hcd : 0 ≤ (M.1 t 2).toInt := by obtain ⟨-, q1, q2, q3⟩ := e2; exact q1.1
        repeat' (first | exact rfl | (with_reducible exact e2) | (with_reducible exact hcd) | (with_reducible exact h1) | (with_reducible exact h2) | (with_reducible exact h3) | (with_reducible exact hb) | (with_reducible exact h6) | (with_reducible exact h7) | (refine Exists.intro _ (Exists.intro _ (And.intro h2 (And.intro h6 ?_)))) | (refine Exists.intro _ (And.intro h2 ?_)) | (refine Exists.intro _ (And.intro h6 ?_)) | apply And.intro | intro hx | (refine Exists.intro _ (And.intro rfl ?_)) | ((with_reducible change _ = true); simp only [h1, h2, h3, hb, h6, h7, Bool.true_and]; rfl))
        all_goals try first | (with_reducible change am_tI _ _) | (change Ret _ _) | (change Ret _ _ _) | (change Exists _)
        all_goals try dsimp only at *
        all_goals try exact absurd ‹(1000 : Int64) = 0› (by decide)
        all_goals first
          | exact h _ f1 e2 e3
          | (simp only [i_lt, i_le, h4, Int32.reduceToInt] at *; omega)
          | (rw [h6]; refine ⟨_, Or.inl ?_, i + -1, rfl, rfl, rfl, ?_, am_ch_emit f1, am_tI_emit e2 h10, (am_emit_3 h10).trans e3⟩)
          | (refine ⟨_, Or.inl ?_, i + -1, rfl, rfl, rfl, ?_, e1, e2, e3⟩)
        all_goals
          simp only [i_lt, i_le, h4, Int32.reduceToInt] at *
          have hi := i_add (x := i) (y := -1) (by simp only [Int32.reduceToInt]; omega) (by simp only [Int32.reduceToInt]; omega)
          simp only [Int32.reduceToInt] at hi
          omega
      · cases hI
    · exact h.elim
theorem wd_693 : Cond.methodLink "LearnLoans$Text" 76 yX5_isDigit ∈ am_ws := am_wsi (List.mem_of_getElem? (i := 693) (by decide +kernel)) (by decide +kernel)
theorem wd_694 : Cond.static yX5_isDigit ∈ am_ws := am_wsi (List.mem_of_getElem? (i := 694) (by decide +kernel)) (by decide +kernel)
theorem wd_695 : Cond.code yX5_isDigit cX5_isDigit 1 (some .boolean) ∈ am_ws := am_wsi (List.mem_of_getElem? (i := 695) (by decide +kernel)) (by decide +kernel)
theorem dX5_readDigits_0 : decode cX5_readDigits 0 = .ok (.aload_n 0, 1) := by decide +kernel
theorem dX5_readDigits_1 : decode cX5_readDigits 1 = .ok (.getfield 28, 3) := by decide +kernel
theorem dX5_readDigits_4 : decode cX5_readDigits 4 = .ok (.istore_n 1, 1) := by decide +kernel
theorem dX5_readDigits_5 : decode cX5_readDigits 5 = .ok (.iconst 0, 1) := by decide +kernel
theorem dX5_readDigits_6 : decode cX5_readDigits 6 = .ok (.istore_n 2, 1) := by decide +kernel
theorem dX5_readDigits_7 : decode cX5_readDigits 7 = .ok (.aload_n 0, 1) := by decide +kernel
theorem dX5_readDigits_8 : decode cX5_readDigits 8 = .ok (.getfield 28, 3) := by decide +kernel
theorem dX5_readDigits_11 : decode cX5_readDigits 11 = .ok (.aload_n 0, 1) := by decide +kernel
theorem dX5_readDigits_12 : decode cX5_readDigits 12 = .ok (.getfield 22, 3) := by decide +kernel
theorem dX5_readDigits_15 : decode cX5_readDigits 15 = .ok (.if_icmp .ge 67, 3) := by decide +kernel
theorem dX5_readDigits_18 : decode cX5_readDigits 18 = .ok (.aload_n 0, 1) := by decide +kernel
theorem dX5_readDigits_19 : decode cX5_readDigits 19 = .ok (.getfield 9, 3) := by decide +kernel
theorem dX5_readDigits_22 : decode cX5_readDigits 22 = .ok (.aload_n 0, 1) := by decide +kernel
theorem dX5_readDigits_23 : decode cX5_readDigits 23 = .ok (.getfield 28, 3) := by decide +kernel
theorem dX5_readDigits_26 : decode cX5_readDigits 26 = .ok (.iaload, 1) := by decide +kernel
theorem dX5_readDigits_27 : decode cX5_readDigits 27 = .ok (.invokestatic 76, 3) := by decide +kernel
theorem dX5_readDigits_30 : decode cX5_readDigits 30 = .ok (.ifCond .eq 52, 3) := by decide +kernel
theorem dX5_readDigits_33 : decode cX5_readDigits 33 = .ok (.aload_n 0, 1) := by decide +kernel
theorem dX5_readDigits_34 : decode cX5_readDigits 34 = .ok (.getfield 28, 3) := by decide +kernel
theorem dX5_readDigits_37 : decode cX5_readDigits 37 = .ok (.iload_n 1, 1) := by decide +kernel
theorem dX5_readDigits_38 : decode cX5_readDigits 38 = .ok (.isub, 1) := by decide +kernel
theorem dX5_readDigits_39 : decode cX5_readDigits 39 = .ok (.bipush 6, 2) := by decide +kernel
theorem dX5_readDigits_41 : decode cX5_readDigits 41 = .ok (.if_icmp .lt 10, 3) := by decide +kernel
theorem dX5_readDigits_44 : decode cX5_readDigits 44 = .ok (.aload_n 0, 1) := by decide +kernel
theorem dX5_readDigits_45 : decode cX5_readDigits 45 = .ok (.iload_n 1, 1) := by decide +kernel
theorem dX5_readDigits_46 : decode cX5_readDigits 46 = .ok (.iconst 2, 1) := by decide +kernel
theorem dX5_readDigits_47 : decode cX5_readDigits 47 = .ok (.invokevirtual 42, 3) := by decide +kernel
theorem dX5_readDigits_50 : decode cX5_readDigits 50 = .ok (.return_, 1) := by decide +kernel
theorem dX5_readDigits_51 : decode cX5_readDigits 51 = .ok (.bipush 10, 2) := by decide +kernel
theorem dX5_readDigits_53 : decode cX5_readDigits 53 = .ok (.iload_n 2, 1) := by decide +kernel
theorem dX5_readDigits_54 : decode cX5_readDigits 54 = .ok (.imul, 1) := by decide +kernel
theorem dX5_readDigits_55 : decode cX5_readDigits 55 = .ok (.aload_n 0, 1) := by decide +kernel
theorem dX5_readDigits_56 : decode cX5_readDigits 56 = .ok (.getfield 9, 3) := by decide +kernel
theorem dX5_readDigits_59 : decode cX5_readDigits 59 = .ok (.aload_n 0, 1) := by decide +kernel
theorem dX5_readDigits_60 : decode cX5_readDigits 60 = .ok (.getfield 28, 3) := by decide +kernel
theorem dX5_readDigits_63 : decode cX5_readDigits 63 = .ok (.iaload, 1) := by decide +kernel
theorem dX5_readDigits_64 : decode cX5_readDigits 64 = .ok (.iadd, 1) := by decide +kernel
theorem dX5_readDigits_65 : decode cX5_readDigits 65 = .ok (.bipush 48, 2) := by decide +kernel
theorem dX5_readDigits_67 : decode cX5_readDigits 67 = .ok (.isub, 1) := by decide +kernel
theorem dX5_readDigits_68 : decode cX5_readDigits 68 = .ok (.istore_n 2, 1) := by decide +kernel
theorem dX5_readDigits_69 : decode cX5_readDigits 69 = .ok (.aload_n 0, 1) := by decide +kernel
theorem dX5_readDigits_70 : decode cX5_readDigits 70 = .ok (.dup, 1) := by decide +kernel
theorem dX5_readDigits_71 : decode cX5_readDigits 71 = .ok (.getfield 28, 3) := by decide +kernel
theorem dX5_readDigits_74 : decode cX5_readDigits 74 = .ok (.iconst 1, 1) := by decide +kernel
theorem dX5_readDigits_75 : decode cX5_readDigits 75 = .ok (.iadd, 1) := by decide +kernel
theorem dX5_readDigits_76 : decode cX5_readDigits 76 = .ok (.putfield 28, 3) := by decide +kernel
theorem dX5_readDigits_79 : decode cX5_readDigits 79 = .ok (.goto (-72), 3) := by decide +kernel
theorem dX5_readDigits_82 : decode cX5_readDigits 82 = .ok (.aload_n 0, 1) := by decide +kernel
theorem dX5_readDigits_83 : decode cX5_readDigits 83 = .ok (.iload_n 2, 1) := by decide +kernel
theorem dX5_readDigits_84 : decode cX5_readDigits 84 = .ok (.invokevirtual 60, 3) := by decide +kernel
theorem dX5_readDigits_87 : decode cX5_readDigits 87 = .ok (.return_, 1) := by decide +kernel
def kX5_readDigits (live : am_E) (Ret : am_R) : am_code := [(0, am_aload 0 1), (1, am_getI live 5 3 4), (4, am_istore 1 3 5), (5, am_const (.int 0) 6), (6, am_istore 2 3 7), (7, am_aload 0 8), (8, am_getI live 5 3 11), (11, am_aload 0 12), (12, am_getI live 5 5 15), (15, am_if2 (fun x y => y ≤ x) 82 18), (18, am_aload 0 19), (19, am_getR live 5 0 22), (22, am_aload 0 23), (23, am_getI live 5 3 26), (26, am_ald live 0 27), (27, am_callS live 1 TX5_isDigit 30), (30, am_if1 (fun x => x = 0) 82 33), (33, am_aload 0 34), (34, am_getI live 5 3 37), (37, am_iload 1 38), (38, am_i2 (fun x y => x - y) 39), (39, am_const (.int 6) 41), (41, am_if2 (fun x y => x < y) 51 44), (44, am_aload 0 45), (45, am_iload 1 46), (46, am_const (.int 2) 47), (47, am_callV live 5 2 TX5_blame 50), (50, am_retV Ret), (51, am_const (.int 10) 53), (53, am_iload 2 54), (54, am_i2 (fun x y => x * y) 55), (55, am_aload 0 56), (56, am_getR live 5 0 59), (59, am_aload 0 60), (60, am_getI live 5 3 63), (63, am_ald live 0 64), (64, am_i2 (fun x y => x + y) 65), (65, am_const (.int 48) 67), (67, am_i2 (fun x y => x - y) 68), (68, am_istore 2 3 69), (69, am_aload 0 70), (70, am_dup 71), (71, am_getI live 5 3 74), (74, am_const (.int 1) 75), (75, am_i2 (fun x y => x + y) 76), (76, am_putI live 5 3 79), (79, am_goto 7), (82, am_aload 0 83), (83, am_iload 2 84), (84, am_callV live 5 1 TX5_emit 87), (87, am_retV Ret)]
theorem koX5_readDigits (live : am_E) (Ret : am_R) : ∀ q ∈ kX5_readDigits live Ret, am_ok RX5 cX5_readDigits 3 none 1 22 live Ret q.1 q.2 :=
  am_kc (ak_aload_n dX5_readDigits_0 rfl rfl) <|
  am_kc (ak_getI (C := RX5) (T := TX5) (N := 7) rfl inX5w (by decide) rfl rfl rfl wd_171 dX5_readDigits_1 rfl) <|
  am_kc (ak_istore_n dX5_readDigits_4 rfl rfl) <|
  am_kc (ak_iconst dX5_readDigits_5 (by decide +kernel) rfl) <|
  am_kc (ak_istore_n dX5_readDigits_6 rfl rfl) <|
  am_kc (ak_aload_n dX5_readDigits_7 rfl rfl) <|
  am_kc (ak_getI (C := RX5) (T := TX5) (N := 7) rfl inX5w (by decide) rfl rfl rfl wd_171 dX5_readDigits_8 rfl) <|
  am_kc (ak_aload_n dX5_readDigits_11 rfl rfl) <|
  am_kc (ak_getI (C := RX5) (T := TX5) (N := 7) rfl inX5w (by decide) rfl rfl rfl wd_173 dX5_readDigits_12 rfl) <|
  am_kc (ak_icmp_ge dX5_readDigits_15 (by decide +kernel) rfl) <|
  am_kc (ak_aload_n dX5_readDigits_18 rfl rfl) <|
  am_kc (ak_getR (C := RX5) (T := TX5) (N := 7) rfl inX5w (by decide) rfl rfl rfl wd_168 dX5_readDigits_19 rfl) <|
  am_kc (ak_aload_n dX5_readDigits_22 rfl rfl) <|
  am_kc (ak_getI (C := RX5) (T := TX5) (N := 7) rfl inX5w (by decide) rfl rfl rfl wd_171 dX5_readDigits_23 rfl) <|
  am_kc (ak_iald (t := 0) (fun _ => rfl) rfl dX5_readDigits_26 rfl) <|
  am_kc (ak_callS metX5_isDigit ⟨rfl, by decide +kernel, by decide +kernel, by decide +kernel⟩ (am_w4 wd_693 wd_694 wd_65 wd_695) (by decide) dX5_readDigits_27 rfl) <|
  am_kc (ak_if_eq dX5_readDigits_30 (by decide +kernel) rfl) <|
  am_kc (ak_aload_n dX5_readDigits_33 rfl rfl) <|
  am_kc (ak_getI (C := RX5) (T := TX5) (N := 7) rfl inX5w (by decide) rfl rfl rfl wd_171 dX5_readDigits_34 rfl) <|
  am_kc (ak_iload_n dX5_readDigits_37 rfl rfl) <|
  am_kc (ak_isub dX5_readDigits_38 rfl) <|
  am_kc (ak_bipush dX5_readDigits_39 (by decide +kernel) rfl) <|
  am_kc (ak_icmp_lt dX5_readDigits_41 (by decide +kernel) rfl) <|
  am_kc (ak_aload_n dX5_readDigits_44 rfl rfl) <|
  am_kc (ak_iload_n dX5_readDigits_45 rfl rfl) <|
  am_kc (ak_iconst dX5_readDigits_46 (by decide +kernel) rfl) <|
  am_kc (ak_callV (C := RX5) (F := TX5) (N := 7) metX5_blame rfl ⟨rfl, by decide +kernel, by decide +kernel, by decide +kernel⟩ (am_w5 wd_673 wd_675 wd_14 wd_65 wd_676) (by decide) dX5_readDigits_47 rfl) <|
  am_kc (ak_retV dX5_readDigits_50) <|
  am_kc (ak_bipush dX5_readDigits_51 (by decide +kernel) rfl) <|
  am_kc (ak_iload_n dX5_readDigits_53 rfl rfl) <|
  am_kc (ak_imul dX5_readDigits_54 rfl) <|
  am_kc (ak_aload_n dX5_readDigits_55 rfl rfl) <|
  am_kc (ak_getR (C := RX5) (T := TX5) (N := 7) rfl inX5w (by decide) rfl rfl rfl wd_168 dX5_readDigits_56 rfl) <|
  am_kc (ak_aload_n dX5_readDigits_59 rfl rfl) <|
  am_kc (ak_getI (C := RX5) (T := TX5) (N := 7) rfl inX5w (by decide) rfl rfl rfl wd_171 dX5_readDigits_60 rfl) <|
  am_kc (ak_iald (t := 0) (fun _ => rfl) rfl dX5_readDigits_63 rfl) <|
  am_kc (ak_iadd dX5_readDigits_64 rfl) <|
  am_kc (ak_bipush dX5_readDigits_65 (by decide +kernel) rfl) <|
  am_kc (ak_isub dX5_readDigits_67 rfl) <|
  am_kc (ak_istore_n dX5_readDigits_68 rfl rfl) <|
  am_kc (ak_aload_n dX5_readDigits_69 rfl rfl) <|
  am_kc (ak_dup dX5_readDigits_70 rfl) <|
  am_kc (ak_getI (C := RX5) (T := TX5) (N := 7) rfl inX5w (by decide) rfl rfl rfl wd_171 dX5_readDigits_71 rfl) <|
  am_kc (ak_iconst dX5_readDigits_74 (by decide +kernel) rfl) <|
  am_kc (ak_iadd dX5_readDigits_75 rfl) <|
  am_kc (ak_putI (C := RX5) (T := TX5) (N := 7) rfl inX5w tyX5_ok nmX5 (by decide) rfl rfl rfl rfl (by decide +kernel) wd_171 dX5_readDigits_76 rfl) <|
  am_kc (ak_goto dX5_readDigits_79 (by decide +kernel)) <|
  am_kc (ak_aload_n dX5_readDigits_82 rfl rfl) <|
  am_kc (ak_iload_n dX5_readDigits_83 rfl rfl) <|
  am_kc (ak_callV (C := RX5) (F := TX5) (N := 7) metX5_emit rfl ⟨rfl, by decide +kernel, by decide +kernel, by decide +kernel⟩ (am_w5 wd_700 wd_702 wd_20 wd_65 wd_703) (by decide) dX5_readDigits_84 rfl) <|
  am_kc (ak_retV dX5_readDigits_87) <| am_kn
def TX5_readDigits : am_T := fun live as M R => match as with
  | [.ref t] => am_tP live t (fun s c => am_tI M t ∧ ∀ M', am_ch (am_tS t c) M M' → am_tI M' t → R none M')
  | _ => False
def JX5_readDigits : am_E → List Value → am_M → am_R → am_inv := fun live as M0 _ pc => match as with
  | [.ref t] => (match pc with
    | 7 => some ([0, 1, 2], fun k L st M => ∃ b v : Int32, L = [(0, .ref t), (1, .int b), (2, .int v)] ∧ st = [] ∧ k = ((51 - (M.1 t 3).toInt).toNat, 0) ∧ am_ch (am_tS t ((live.2 t 1).getD 0)) M0 M ∧ am_tI M t)
    | _ => none)
  | _ => none
set_option maxRecDepth 100000 in
set_option maxHeartbeats 4000000 in
theorem metX5_readDigits : am_Met yX5_readDigits cX5_readDigits 3 none (1) (22) TX5_readDigits := by
  refine am_met (own := RX5) (by decide +kernel) rfl kX5_readDigits koX5_readDigits 60 JX5_readDigits ?_ ?_
  · intro live as M Ret h
    unfold TX5_readDigits at h
    split at h
    · next t =>
      refine ⟨Nat.le_of_ble_eq_true rfl, ?_⟩
      change am_wp _ _ _ _ [(0, Value.ref t)] _ _
      have hh := am_tP_mp h
      clear h
      obtain ⟨s, c, h2, h6, hb, h1, h3, h7, h4, h8, h9, h5, h10, hT, h⟩ := hh
      repeat' (first | exact rfl | (with_reducible exact hT) | (with_reducible exact h1) | (with_reducible exact h2) | (with_reducible exact h3) | (with_reducible exact hb) | (with_reducible exact h6) | (with_reducible exact h7) | (refine Exists.intro _ (Exists.intro _ (And.intro h2 (And.intro h6 ?_)))) | (refine Exists.intro _ (And.intro h2 ?_)) | (refine Exists.intro _ (And.intro h6 ?_)) | apply And.intro | intro hx | (refine Exists.intro _ (And.intro rfl ?_)) | ((with_reducible change _ = true); simp only [h1, h2, h3, hb, h6, h7, Bool.true_and]; rfl))
      all_goals try first | (with_reducible change am_tI _ _) | (change Ret _ _) | (change Ret _ _ _) | (change Exists _)
      all_goals try dsimp only at *
      all_goals try exact absurd ‹(1000 : Int64) = 0› (by decide)
      exact ⟨_, _, _, rfl, rfl, rfl, am_ch.rf, hT⟩
    · exact h.elim
  · intro live as M0 Ret h k pc I hI L st M hi
    unfold TX5_readDigits at h
    split at h
    · next t =>
      have hh := am_tP_mp h
      clear h
      obtain ⟨s, c, h2, h6, hb, h1, h3, h7, h4, h8, h9, h5, h10, hT, h⟩ := hh
      change (match pc with | 7 => _ | _ => none) = _ at hI
      split at hI
      · cases hI
        obtain ⟨b, v, rfl, rfl, rfl, e1, e2⟩ := hi
        have f1 := e1
        rw [h6] at f1
        have hcd : 0 ≤ (M.1 t 2).toInt := by obtain ⟨-, q1, q2, q3⟩ := e2; exact q1.1
        repeat' (first | exact rfl | (with_reducible exact e2) | (with_reducible exact hcd) | (with_reducible exact h1) | (with_reducible exact h2) | (with_reducible exact h3) | (with_reducible exact hb) | (with_reducible exact h6) | (with_reducible exact h7) | (refine Exists.intro _ (Exists.intro _ (And.intro h2 (And.intro h6 ?_)))) | (refine Exists.intro _ (And.intro h2 ?_)) | (refine Exists.intro _ (And.intro h6 ?_)) | apply And.intro | intro hx | (refine Exists.intro _ (And.intro rfl ?_)) | ((with_reducible change _ = true); simp only [h1, h2, h3, hb, h6, h7, Bool.true_and]; rfl))
        all_goals try first | (with_reducible change am_tI _ _) | (change Ret _ _) | (change Ret _ _ _) | (change Exists _)
        all_goals try dsimp only at *
        all_goals try exact absurd ‹(1000 : Int64) = 0› (by decide)
        all_goals have hz : (M.1 t 3).toInt ≤ (M.1 t 5).toInt ∧ 0 ≤ (M.1 t 3).toInt ∧ (M.1 t 5).toInt ≤ 50 := by obtain ⟨-, q1, q2, q3⟩ := e2; exact ⟨q2.2, q2.1, q3⟩
        all_goals first
          | exact h _ (am_ch_emit f1) (am_tI_emit e2 h10)
          | exact h _ (am_ch_blame f1) (am_tI_blame e2)
          | (simp only [i_lt, i_le, h4, Int32.reduceToInt] at *; omega)
          | skip
        all_goals
          have hlt : (M.1 t 3).toInt < (M.1 t 5).toInt := by simp only [i_le] at *; omega
          have hi := am_tI_inc e2 hlt
          refine ⟨_, Or.inl ?_, _, _, rfl, rfl, rfl, e1.wI am_tS_3, hi.1⟩
          simp [am_wI_1, -Int32.toInt_add]
          omega
      · cases hI
    · exact h.elim
end
section
/-! Text: reading by recursion: what is safe of it -/
def TX5_readValue (d : Nat) : am_T := fun live as M R => match as with
  | [.ref t, .int e] => am_tP live t (fun s c => am_tI M t ∧ 0 ≤ e.toInt ∧ e.toInt ≤ 41 ∧ 41 ≤ e.toInt + (d : Int) ∧ ∀ M', am_ch (am_tS t c) M M' → am_tI M' t → R none M')
  | _ => False
def TX5_readPlain (d : Nat) : am_T := fun live as M R => match as with
  | [.ref t, .int e] => am_tP live t (fun s c => am_tI M t ∧ 0 ≤ e.toInt ∧ e.toInt ≤ 40 ∧ 40 ≤ e.toInt + (d : Int) ∧ ∀ M', am_ch (am_tS t c) M M' → am_tI M' t → R none M')
  | _ => False
def TX5_readChain (d n : Nat) : am_T := fun live as M R => match as with
  | [.ref t, .int l, .int e] => am_tP live t (fun s c => am_tI M t ∧ (0 ≤ l.toInt ∧ l.toInt ≤ 5 ∧ 5 ≤ l.toInt + (n : Int)) ∧ 0 ≤ e.toInt ∧ e.toInt ≤ 40 ∧ 40 ≤ e.toInt + (d : Int) ∧ ∀ M', am_ch (am_tS t c) M M' → am_tI M' t → R none M')
  | _ => False
theorem am_tI_4 {M : am_M} {t : Nat} {v : Int32} (h : am_tI M t) : am_tI (am_wI M t 4 v) t := by
  obtain ⟨-, q1, q2, q3⟩ := h
  refine am_tI_of ?_ ?_ ?_ ?_ ?_
  all_goals simp [am_wI_1]
  all_goals omega
theorem am_sign_lt {M : am_M} {t s : Nat} {p : Int32} (h : ¬ am_sign M t s p = -1) : p.toInt < (M.1 t 5).toInt := by
  rcases Int.lt_or_le p.toInt (M.1 t 5).toInt with z | z
  · exact z
  · exact absurd (by rw [am_sign, if_neg (by omega)]) h
theorem am_tI_3p {M : am_M} {t s : Nat} {p : Int32} (h : am_tI M t) (hp : am_skip M t s p) (hl : p.toInt < (M.1 t 5).toInt) : am_tI (am_wI (am_wI M t 3 p) t 3 (p + 1)) t := by
  have h1 := am_tI_w3 h hp
  have h2 := am_tI_inc h1 (by simp [am_wI_1]; exact hl)
  simp [am_wI_1] at h2
  exact h2.1
theorem am_wI_self {M : am_M} {n k : Nat} {v : Int32} : (am_wI M n k v).1 n k = v := by simp [am_wI_1]
theorem am_ne1 {x : Int32} (h : am_ops x = 0) : ¬ x = -1 := fun e => by rw [e] at h; exact absurd h (by decide)
theorem am_ne2 {x : Int32} (h : x = 40) : ¬ x = -1 := fun e => by rw [h] at e; exact absurd e (by decide)
theorem am_tI_cd {M : am_M} {t : Nat} (h : am_tI M t) : 0 ≤ (M.1 t 2).toInt := by obtain ⟨-, q1, q2, q3⟩ := h; exact q1.1
theorem am_tI_pl {M : am_M} {t : Nat} (h : am_tI M t) : 0 ≤ (M.1 t 3).toInt ∧ (M.1 t 3).toInt ≤ (M.1 t 5).toInt ∧ (M.1 t 5).toInt ≤ 50 := by obtain ⟨-, q1, q2, q3⟩ := h; exact ⟨q2.1, q2.2, q3⟩
theorem wd_696 : Cond.methodLink "LearnLoans$Text" 80 yX5_readDigits ∈ am_ws := am_wsi (List.mem_of_getElem? (i := 696) (by decide +kernel)) (by decide +kernel)
theorem wd_698 : Cond.instanceMethod yX5_readDigits ∈ am_ws := am_wsi (List.mem_of_getElem? (i := 698) (by decide +kernel)) (by decide +kernel)
theorem wd_19 : Cond.selects "LearnLoans$Text" yX5_readDigits yX5_readDigits ∈ am_ws := am_wsi (List.mem_of_getElem? (i := 19) (by decide +kernel)) (by decide +kernel)
theorem wd_699 : Cond.code yX5_readDigits cX5_readDigits 3 none ∈ am_ws := am_wsi (List.mem_of_getElem? (i := 699) (by decide +kernel)) (by decide +kernel)
theorem wd_593 : Cond.methodLink "LearnLoans$Text" 83 yX5_operands ∈ am_ws := am_wsi (List.mem_of_getElem? (i := 593) (by decide +kernel)) (by decide +kernel)
theorem wd_594 : Cond.static yX5_operands ∈ am_ws := am_wsi (List.mem_of_getElem? (i := 594) (by decide +kernel)) (by decide +kernel)
theorem wd_595 : Cond.code yX5_operands cX5_operands 1 (some .int) ∈ am_ws := am_wsi (List.mem_of_getElem? (i := 595) (by decide +kernel)) (by decide +kernel)
theorem wd_172 : Cond.fieldLink "LearnLoans$Text" 31 "LearnLoans$Text" "open" "I" ∈ am_ws := am_wsi (List.mem_of_getElem? (i := 172) (by decide +kernel)) (by decide +kernel)
theorem wd_669 : Cond.methodLink "LearnLoans$Text" 34 yX5_readValue ∈ am_ws := am_wsi (List.mem_of_getElem? (i := 669) (by decide +kernel)) (by decide +kernel)
theorem wd_671 : Cond.instanceMethod yX5_readValue ∈ am_ws := am_wsi (List.mem_of_getElem? (i := 671) (by decide +kernel)) (by decide +kernel)
theorem wd_13 : Cond.selects "LearnLoans$Text" yX5_readValue yX5_readValue ∈ am_ws := am_wsi (List.mem_of_getElem? (i := 13) (by decide +kernel)) (by decide +kernel)
theorem wd_672 : Cond.code yX5_readValue cX5_readValue 2 none ∈ am_ws := am_wsi (List.mem_of_getElem? (i := 672) (by decide +kernel)) (by decide +kernel)
theorem wd_704 : Cond.methodLink "LearnLoans$Text" 57 yX5_pass ∈ am_ws := am_wsi (List.mem_of_getElem? (i := 704) (by decide +kernel)) (by decide +kernel)
theorem wd_706 : Cond.instanceMethod yX5_pass ∈ am_ws := am_wsi (List.mem_of_getElem? (i := 706) (by decide +kernel)) (by decide +kernel)
theorem wd_21 : Cond.selects "LearnLoans$Text" yX5_pass yX5_pass ∈ am_ws := am_wsi (List.mem_of_getElem? (i := 21) (by decide +kernel)) (by decide +kernel)
theorem wd_707 : Cond.code yX5_pass cX5_pass 2 none ∈ am_ws := am_wsi (List.mem_of_getElem? (i := 707) (by decide +kernel)) (by decide +kernel)
theorem dX5_readPlain_0 : decode cX5_readPlain 0 = .ok (.aload_n 0, 1) := by decide +kernel
theorem dX5_readPlain_1 : decode cX5_readPlain 1 = .ok (.invokevirtual 38, 3) := by decide +kernel
theorem dX5_readPlain_4 : decode cX5_readPlain 4 = .ok (.istore_n 2, 1) := by decide +kernel
theorem dX5_readPlain_5 : decode cX5_readPlain 5 = .ok (.aload_n 0, 1) := by decide +kernel
theorem dX5_readPlain_6 : decode cX5_readPlain 6 = .ok (.getfield 18, 3) := by decide +kernel
theorem dX5_readPlain_9 : decode cX5_readPlain 9 = .ok (.iconst (-1), 1) := by decide +kernel
theorem dX5_readPlain_10 : decode cX5_readPlain 10 = .ok (.if_icmp .eq 4, 3) := by decide +kernel
theorem dX5_readPlain_13 : decode cX5_readPlain 13 = .ok (.return_, 1) := by decide +kernel
theorem dX5_readPlain_14 : decode cX5_readPlain 14 = .ok (.iload_n 2, 1) := by decide +kernel
theorem dX5_readPlain_15 : decode cX5_readPlain 15 = .ok (.invokestatic 76, 3) := by decide +kernel
theorem dX5_readPlain_18 : decode cX5_readPlain 18 = .ok (.ifCond .eq 10, 3) := by decide +kernel
theorem dX5_readPlain_21 : decode cX5_readPlain 21 = .ok (.aload_n 0, 1) := by decide +kernel
theorem dX5_readPlain_22 : decode cX5_readPlain 22 = .ok (.invokevirtual 80, 3) := by decide +kernel
theorem dX5_readPlain_25 : decode cX5_readPlain 25 = .ok (.goto 111, 3) := by decide +kernel
theorem dX5_readPlain_28 : decode cX5_readPlain 28 = .ok (.iload_n 2, 1) := by decide +kernel
theorem dX5_readPlain_29 : decode cX5_readPlain 29 = .ok (.invokestatic 83, 3) := by decide +kernel
theorem dX5_readPlain_32 : decode cX5_readPlain 32 = .ok (.ifCond .ne 22, 3) := by decide +kernel
theorem dX5_readPlain_35 : decode cX5_readPlain 35 = .ok (.aload_n 0, 1) := by decide +kernel
theorem dX5_readPlain_36 : decode cX5_readPlain 36 = .ok (.dup, 1) := by decide +kernel
theorem dX5_readPlain_37 : decode cX5_readPlain 37 = .ok (.getfield 28, 3) := by decide +kernel
theorem dX5_readPlain_40 : decode cX5_readPlain 40 = .ok (.iconst 1, 1) := by decide +kernel
theorem dX5_readPlain_41 : decode cX5_readPlain 41 = .ok (.iadd, 1) := by decide +kernel
theorem dX5_readPlain_42 : decode cX5_readPlain 42 = .ok (.putfield 28, 3) := by decide +kernel
theorem dX5_readPlain_45 : decode cX5_readPlain 45 = .ok (.aload_n 0, 1) := by decide +kernel
theorem dX5_readPlain_46 : decode cX5_readPlain 46 = .ok (.iload_n 2, 1) := by decide +kernel
theorem dX5_readPlain_47 : decode cX5_readPlain 47 = .ok (.ineg, 1) := by decide +kernel
theorem dX5_readPlain_48 : decode cX5_readPlain 48 = .ok (.invokevirtual 60, 3) := by decide +kernel
theorem dX5_readPlain_51 : decode cX5_readPlain 51 = .ok (.goto 85, 3) := by decide +kernel
theorem dX5_readPlain_54 : decode cX5_readPlain 54 = .ok (.iload_n 2, 1) := by decide +kernel
theorem dX5_readPlain_55 : decode cX5_readPlain 55 = .ok (.bipush 40, 2) := by decide +kernel
theorem dX5_readPlain_57 : decode cX5_readPlain 57 = .ok (.if_icmp .eq 15, 3) := by decide +kernel
theorem dX5_readPlain_60 : decode cX5_readPlain 60 = .ok (.aload_n 0, 1) := by decide +kernel
theorem dX5_readPlain_61 : decode cX5_readPlain 61 = .ok (.aload_n 0, 1) := by decide +kernel
theorem dX5_readPlain_62 : decode cX5_readPlain 62 = .ok (.getfield 28, 3) := by decide +kernel
theorem dX5_readPlain_65 : decode cX5_readPlain 65 = .ok (.iconst 1, 1) := by decide +kernel
theorem dX5_readPlain_66 : decode cX5_readPlain 66 = .ok (.invokevirtual 42, 3) := by decide +kernel
theorem dX5_readPlain_69 : decode cX5_readPlain 69 = .ok (.goto 67, 3) := by decide +kernel
theorem dX5_readPlain_72 : decode cX5_readPlain 72 = .ok (.aload_n 0, 1) := by decide +kernel
theorem dX5_readPlain_73 : decode cX5_readPlain 73 = .ok (.getfield 31, 3) := by decide +kernel
theorem dX5_readPlain_76 : decode cX5_readPlain 76 = .ok (.bipush 8, 2) := by decide +kernel
theorem dX5_readPlain_78 : decode cX5_readPlain 78 = .ok (.if_icmp .lt 15, 3) := by decide +kernel
theorem dX5_readPlain_81 : decode cX5_readPlain 81 = .ok (.aload_n 0, 1) := by decide +kernel
theorem dX5_readPlain_82 : decode cX5_readPlain 82 = .ok (.aload_n 0, 1) := by decide +kernel
theorem dX5_readPlain_83 : decode cX5_readPlain 83 = .ok (.getfield 28, 3) := by decide +kernel
theorem dX5_readPlain_86 : decode cX5_readPlain 86 = .ok (.iconst 3, 1) := by decide +kernel
theorem dX5_readPlain_87 : decode cX5_readPlain 87 = .ok (.invokevirtual 42, 3) := by decide +kernel
theorem dX5_readPlain_90 : decode cX5_readPlain 90 = .ok (.goto 46, 3) := by decide +kernel
theorem dX5_readPlain_93 : decode cX5_readPlain 93 = .ok (.aload_n 0, 1) := by decide +kernel
theorem dX5_readPlain_94 : decode cX5_readPlain 94 = .ok (.dup, 1) := by decide +kernel
theorem dX5_readPlain_95 : decode cX5_readPlain 95 = .ok (.getfield 28, 3) := by decide +kernel
theorem dX5_readPlain_98 : decode cX5_readPlain 98 = .ok (.iconst 1, 1) := by decide +kernel
theorem dX5_readPlain_99 : decode cX5_readPlain 99 = .ok (.iadd, 1) := by decide +kernel
theorem dX5_readPlain_100 : decode cX5_readPlain 100 = .ok (.putfield 28, 3) := by decide +kernel
theorem dX5_readPlain_103 : decode cX5_readPlain 103 = .ok (.aload_n 0, 1) := by decide +kernel
theorem dX5_readPlain_104 : decode cX5_readPlain 104 = .ok (.dup, 1) := by decide +kernel
theorem dX5_readPlain_105 : decode cX5_readPlain 105 = .ok (.getfield 31, 3) := by decide +kernel
theorem dX5_readPlain_108 : decode cX5_readPlain 108 = .ok (.iconst 1, 1) := by decide +kernel
theorem dX5_readPlain_109 : decode cX5_readPlain 109 = .ok (.iadd, 1) := by decide +kernel
theorem dX5_readPlain_110 : decode cX5_readPlain 110 = .ok (.putfield 31, 3) := by decide +kernel
theorem dX5_readPlain_113 : decode cX5_readPlain 113 = .ok (.aload_n 0, 1) := by decide +kernel
theorem dX5_readPlain_114 : decode cX5_readPlain 114 = .ok (.iload_n 1, 1) := by decide +kernel
theorem dX5_readPlain_115 : decode cX5_readPlain 115 = .ok (.iconst 1, 1) := by decide +kernel
theorem dX5_readPlain_116 : decode cX5_readPlain 116 = .ok (.iadd, 1) := by decide +kernel
theorem dX5_readPlain_117 : decode cX5_readPlain 117 = .ok (.invokevirtual 34, 3) := by decide +kernel
theorem dX5_readPlain_120 : decode cX5_readPlain 120 = .ok (.aload_n 0, 1) := by decide +kernel
theorem dX5_readPlain_121 : decode cX5_readPlain 121 = .ok (.bipush 41, 2) := by decide +kernel
theorem dX5_readPlain_123 : decode cX5_readPlain 123 = .ok (.invokevirtual 57, 3) := by decide +kernel
theorem dX5_readPlain_126 : decode cX5_readPlain 126 = .ok (.aload_n 0, 1) := by decide +kernel
theorem dX5_readPlain_127 : decode cX5_readPlain 127 = .ok (.dup, 1) := by decide +kernel
theorem dX5_readPlain_128 : decode cX5_readPlain 128 = .ok (.getfield 31, 3) := by decide +kernel
theorem dX5_readPlain_131 : decode cX5_readPlain 131 = .ok (.iconst 1, 1) := by decide +kernel
theorem dX5_readPlain_132 : decode cX5_readPlain 132 = .ok (.isub, 1) := by decide +kernel
theorem dX5_readPlain_133 : decode cX5_readPlain 133 = .ok (.putfield 31, 3) := by decide +kernel
theorem dX5_readPlain_136 : decode cX5_readPlain 136 = .ok (.return_, 1) := by decide +kernel
def kX5_readPlain (d : Nat) (live : am_E) (Ret : am_R) : am_code := [(0, am_aload 0 1), (1, am_callV live 5 0 TX5_next 4), (4, am_istore 2 3 5), (5, am_aload 0 6), (6, am_getI live 5 6 9), (9, am_const (.int (-1)) 10), (10, am_if2 (fun x y => x = y) 14 13), (13, am_retV Ret), (14, am_iload 2 15), (15, am_callS live 1 TX5_isDigit 18), (18, am_if1 (fun x => x = 0) 28 21), (21, am_aload 0 22), (22, am_callV live 5 0 TX5_readDigits 25), (25, am_goto 136), (28, am_iload 2 29), (29, am_callS live 1 TX5_operands 32), (32, am_if1 (fun x => x = 0) 35 54), (35, am_aload 0 36), (36, am_dup 37), (37, am_getI live 5 3 40), (40, am_const (.int 1) 41), (41, am_i2 (fun x y => x + y) 42), (42, am_putI live 5 3 45), (45, am_aload 0 46), (46, am_iload 2 47), (47, am_i1 (fun x => -x) 48), (48, am_callV live 5 1 TX5_emit 51), (51, am_goto 136), (54, am_iload 2 55), (55, am_const (.int 40) 57), (57, am_if2 (fun x y => x = y) 72 60), (60, am_aload 0 61), (61, am_aload 0 62), (62, am_getI live 5 3 65), (65, am_const (.int 1) 66), (66, am_callV live 5 2 TX5_blame 69), (69, am_goto 136), (72, am_aload 0 73), (73, am_getI live 5 4 76), (76, am_const (.int 8) 78), (78, am_if2 (fun x y => x < y) 93 81), (81, am_aload 0 82), (82, am_aload 0 83), (83, am_getI live 5 3 86), (86, am_const (.int 3) 87), (87, am_callV live 5 2 TX5_blame 90), (90, am_goto 136), (93, am_aload 0 94), (94, am_dup 95), (95, am_getI live 5 3 98), (98, am_const (.int 1) 99), (99, am_i2 (fun x y => x + y) 100), (100, am_putI live 5 3 103), (103, am_aload 0 104), (104, am_dup 105), (105, am_getI live 5 4 108), (108, am_const (.int 1) 109), (109, am_i2 (fun x y => x + y) 110), (110, am_putI live 5 4 113), (113, am_aload 0 114), (114, am_iload 1 115), (115, am_const (.int 1) 116), (116, am_i2 (fun x y => x + y) 117), (117, am_callV live 5 1 (TX5_readValue d) 120), (120, am_aload 0 121), (121, am_const (.int 41) 123), (123, am_callV live 5 1 TX5_pass 126), (126, am_aload 0 127), (127, am_dup 128), (128, am_getI live 5 4 131), (131, am_const (.int 1) 132), (132, am_i2 (fun x y => x - y) 133), (133, am_putI live 5 4 136), (136, am_retV Ret)]
theorem koX5_readPlain (d : Nat) (hV : am_Met yX5_readValue cX5_readValue 2 none (4 + 8 * d) (200 + 200 * d) (TX5_readValue d)) (live : am_E) (Ret : am_R) : ∀ q ∈ kX5_readPlain d live Ret, am_ok RX5 cX5_readPlain 3 none (4 + 8 * d + 1) (200 + 200 * d + 25) live Ret q.1 q.2 :=
  am_kc (ak_aload_n dX5_readPlain_0 rfl rfl) <|
  am_kc (ak_callV (C := RX5) (F := TX5) (N := 7) metX5_next rfl ⟨rfl, by decide +kernel, by decide +kernel, by decide +kernel⟩ (am_w5 wd_685 wd_687 wd_17 wd_65 wd_688) (by omega) dX5_readPlain_1 rfl) <|
  am_kc (ak_istore_n dX5_readPlain_4 rfl rfl) <|
  am_kc (ak_aload_n dX5_readPlain_5 rfl rfl) <|
  am_kc (ak_getI (C := RX5) (T := TX5) (N := 7) rfl inX5w (by decide) rfl rfl rfl wd_175 dX5_readPlain_6 rfl) <|
  am_kc (ak_iconst dX5_readPlain_9 (by decide +kernel) rfl) <|
  am_kc (ak_icmp_eq dX5_readPlain_10 (by decide +kernel) rfl) <|
  am_kc (ak_retV dX5_readPlain_13) <|
  am_kc (ak_iload_n dX5_readPlain_14 rfl rfl) <|
  am_kc (ak_callS metX5_isDigit ⟨rfl, by decide +kernel, by decide +kernel, by decide +kernel⟩ (am_w4 wd_693 wd_694 wd_65 wd_695) (by omega) dX5_readPlain_15 rfl) <|
  am_kc (ak_if_eq dX5_readPlain_18 (by decide +kernel) rfl) <|
  am_kc (ak_aload_n dX5_readPlain_21 rfl rfl) <|
  am_kc (ak_callV (C := RX5) (F := TX5) (N := 7) metX5_readDigits rfl ⟨rfl, by decide +kernel, by decide +kernel, by decide +kernel⟩ (am_w5 wd_696 wd_698 wd_19 wd_65 wd_699) (by omega) dX5_readPlain_22 rfl) <|
  am_kc (ak_goto dX5_readPlain_25 (by decide +kernel)) <|
  am_kc (ak_iload_n dX5_readPlain_28 rfl rfl) <|
  am_kc (ak_callS metX5_operands ⟨rfl, by decide +kernel, by decide +kernel, by decide +kernel⟩ (am_w4 wd_593 wd_594 wd_65 wd_595) (by omega) dX5_readPlain_29 rfl) <|
  am_kc (ak_if_ne dX5_readPlain_32 (by decide +kernel) rfl) <|
  am_kc (ak_aload_n dX5_readPlain_35 rfl rfl) <|
  am_kc (ak_dup dX5_readPlain_36 rfl) <|
  am_kc (ak_getI (C := RX5) (T := TX5) (N := 7) rfl inX5w (by decide) rfl rfl rfl wd_171 dX5_readPlain_37 rfl) <|
  am_kc (ak_iconst dX5_readPlain_40 (by decide +kernel) rfl) <|
  am_kc (ak_iadd dX5_readPlain_41 rfl) <|
  am_kc (ak_putI (C := RX5) (T := TX5) (N := 7) rfl inX5w tyX5_ok nmX5 (by decide) rfl rfl rfl rfl (by decide +kernel) wd_171 dX5_readPlain_42 rfl) <|
  am_kc (ak_aload_n dX5_readPlain_45 rfl rfl) <|
  am_kc (ak_iload_n dX5_readPlain_46 rfl rfl) <|
  am_kc (ak_ineg dX5_readPlain_47 rfl) <|
  am_kc (ak_callV (C := RX5) (F := TX5) (N := 7) metX5_emit rfl ⟨rfl, by decide +kernel, by decide +kernel, by decide +kernel⟩ (am_w5 wd_700 wd_702 wd_20 wd_65 wd_703) (by omega) dX5_readPlain_48 rfl) <|
  am_kc (ak_goto dX5_readPlain_51 (by decide +kernel)) <|
  am_kc (ak_iload_n dX5_readPlain_54 rfl rfl) <|
  am_kc (ak_bipush dX5_readPlain_55 (by decide +kernel) rfl) <|
  am_kc (ak_icmp_eq dX5_readPlain_57 (by decide +kernel) rfl) <|
  am_kc (ak_aload_n dX5_readPlain_60 rfl rfl) <|
  am_kc (ak_aload_n dX5_readPlain_61 rfl rfl) <|
  am_kc (ak_getI (C := RX5) (T := TX5) (N := 7) rfl inX5w (by decide) rfl rfl rfl wd_171 dX5_readPlain_62 rfl) <|
  am_kc (ak_iconst dX5_readPlain_65 (by decide +kernel) rfl) <|
  am_kc (ak_callV (C := RX5) (F := TX5) (N := 7) metX5_blame rfl ⟨rfl, by decide +kernel, by decide +kernel, by decide +kernel⟩ (am_w5 wd_673 wd_675 wd_14 wd_65 wd_676) (by omega) dX5_readPlain_66 rfl) <|
  am_kc (ak_goto dX5_readPlain_69 (by decide +kernel)) <|
  am_kc (ak_aload_n dX5_readPlain_72 rfl rfl) <|
  am_kc (ak_getI (C := RX5) (T := TX5) (N := 7) rfl inX5w (by decide) rfl rfl rfl wd_172 dX5_readPlain_73 rfl) <|
  am_kc (ak_bipush dX5_readPlain_76 (by decide +kernel) rfl) <|
  am_kc (ak_icmp_lt dX5_readPlain_78 (by decide +kernel) rfl) <|
  am_kc (ak_aload_n dX5_readPlain_81 rfl rfl) <|
  am_kc (ak_aload_n dX5_readPlain_82 rfl rfl) <|
  am_kc (ak_getI (C := RX5) (T := TX5) (N := 7) rfl inX5w (by decide) rfl rfl rfl wd_171 dX5_readPlain_83 rfl) <|
  am_kc (ak_iconst dX5_readPlain_86 (by decide +kernel) rfl) <|
  am_kc (ak_callV (C := RX5) (F := TX5) (N := 7) metX5_blame rfl ⟨rfl, by decide +kernel, by decide +kernel, by decide +kernel⟩ (am_w5 wd_673 wd_675 wd_14 wd_65 wd_676) (by omega) dX5_readPlain_87 rfl) <|
  am_kc (ak_goto dX5_readPlain_90 (by decide +kernel)) <|
  am_kc (ak_aload_n dX5_readPlain_93 rfl rfl) <|
  am_kc (ak_dup dX5_readPlain_94 rfl) <|
  am_kc (ak_getI (C := RX5) (T := TX5) (N := 7) rfl inX5w (by decide) rfl rfl rfl wd_171 dX5_readPlain_95 rfl) <|
  am_kc (ak_iconst dX5_readPlain_98 (by decide +kernel) rfl) <|
  am_kc (ak_iadd dX5_readPlain_99 rfl) <|
  am_kc (ak_putI (C := RX5) (T := TX5) (N := 7) rfl inX5w tyX5_ok nmX5 (by decide) rfl rfl rfl rfl (by decide +kernel) wd_171 dX5_readPlain_100 rfl) <|
  am_kc (ak_aload_n dX5_readPlain_103 rfl rfl) <|
  am_kc (ak_dup dX5_readPlain_104 rfl) <|
  am_kc (ak_getI (C := RX5) (T := TX5) (N := 7) rfl inX5w (by decide) rfl rfl rfl wd_172 dX5_readPlain_105 rfl) <|
  am_kc (ak_iconst dX5_readPlain_108 (by decide +kernel) rfl) <|
  am_kc (ak_iadd dX5_readPlain_109 rfl) <|
  am_kc (ak_putI (C := RX5) (T := TX5) (N := 7) rfl inX5w tyX5_ok nmX5 (by decide) rfl rfl rfl rfl (by decide +kernel) wd_172 dX5_readPlain_110 rfl) <|
  am_kc (ak_aload_n dX5_readPlain_113 rfl rfl) <|
  am_kc (ak_iload_n dX5_readPlain_114 rfl rfl) <|
  am_kc (ak_iconst dX5_readPlain_115 (by decide +kernel) rfl) <|
  am_kc (ak_iadd dX5_readPlain_116 rfl) <|
  am_kc (ak_callV (C := RX5) (F := TX5) (N := 7) hV rfl ⟨rfl, by decide +kernel, by decide +kernel, by decide +kernel⟩ (am_w5 wd_669 wd_671 wd_13 wd_65 wd_672) (by omega) dX5_readPlain_117 rfl) <|
  am_kc (ak_aload_n dX5_readPlain_120 rfl rfl) <|
  am_kc (ak_bipush dX5_readPlain_121 (by decide +kernel) rfl) <|
  am_kc (ak_callV (C := RX5) (F := TX5) (N := 7) metX5_pass rfl ⟨rfl, by decide +kernel, by decide +kernel, by decide +kernel⟩ (am_w5 wd_704 wd_706 wd_21 wd_65 wd_707) (by omega) dX5_readPlain_123 rfl) <|
  am_kc (ak_aload_n dX5_readPlain_126 rfl rfl) <|
  am_kc (ak_dup dX5_readPlain_127 rfl) <|
  am_kc (ak_getI (C := RX5) (T := TX5) (N := 7) rfl inX5w (by decide) rfl rfl rfl wd_172 dX5_readPlain_128 rfl) <|
  am_kc (ak_iconst dX5_readPlain_131 (by decide +kernel) rfl) <|
  am_kc (ak_isub dX5_readPlain_132 rfl) <|
  am_kc (ak_putI (C := RX5) (T := TX5) (N := 7) rfl inX5w tyX5_ok nmX5 (by decide) rfl rfl rfl rfl (by decide +kernel) wd_172 dX5_readPlain_133 rfl) <|
  am_kc (ak_retV dX5_readPlain_136) <| am_kn
set_option maxRecDepth 100000 in
set_option maxHeartbeats 4000000 in
theorem metX5_readPlain (d : Nat) (hV : am_Met yX5_readValue cX5_readValue 2 none (4 + 8 * d) (200 + 200 * d) (TX5_readValue d)) : am_Met yX5_readPlain cX5_readPlain 3 none ((4 + 8 * d + 1)) ((200 + 200 * d + 25)) (TX5_readPlain d) := by
  refine am_met (own := RX5) (by decide +kernel) rfl (kX5_readPlain d ) (koX5_readPlain d  hV ) 120 (fun _ _ _ _ _ => none) (fun live as M Ret h => ?_) (fun _ _ _ _ _ _ _ _ hI => by cases hI)
  unfold TX5_readPlain at h
  split at h
  · next t e =>
    refine ⟨Nat.le_of_ble_eq_true rfl, ?_⟩
    change am_wp _ _ _ _ [(0, Value.ref t), (1, Value.int e)] _ _
    have hh := am_tP_mp h
    clear h
    obtain ⟨s, c, h2, h6, hb, h1, h3, h7, h4, h8, h9, h5, h10, hT, he1, he2, he3, h⟩ := hh
    repeat' (first | exact rfl | (with_reducible exact hT) | (with_reducible exact h1) | (with_reducible exact h2) | (with_reducible exact h3) | (with_reducible exact hb) | (with_reducible exact h6) | (with_reducible exact h7) | (refine Exists.intro _ (Exists.intro _ (And.intro h2 (And.intro h6 ?_)))) | (refine Exists.intro _ (And.intro h2 ?_)) | (refine Exists.intro _ (And.intro h6 ?_)) | apply And.intro | intro hx | (refine Exists.intro _ (And.intro rfl ?_)) | ((with_reducible change _ = true); simp only [h1, h2, h3, hb, h6, h7, Bool.true_and]; rfl))
    all_goals try first | (with_reducible change am_tI _ _) | (change Ret _ _) | (change Ret _ _ _) | (change Exists _)
    all_goals try dsimp only at *
    all_goals try exact absurd ‹(1000 : Int64) = 0› (by decide)
    all_goals try simp only [am_wI_self]
    · simp [am_wI_1]; exact am_tI_cd hT
    · exact h _ (am_ch_emit ((am_ch.rf.wI am_tS_3).wI am_tS_3)) (am_tI_emit (am_tI_3p hT ‹am_skip M t s _› (am_sign_lt (am_ne1 hx))) h10)
    · exact am_tI_4 (am_tI_3p hT ‹am_skip M t s _› (am_sign_lt (am_ne2 ‹am_sign M t s _ = 40›)))
    · rw [i_add] <;> simp only [Int32.reduceToInt] <;> omega
    · rw [i_add] <;> simp only [Int32.reduceToInt] <;> omega
    · rw [i_add] <;> simp only [Int32.reduceToInt] <;> omega
    · exact hx
    · exact absurd hx (by decide)
    · rename_i M1 c1 i1 M2 c2
      exact h _ ((((((am_ch.rf.wI am_tS_3).wI am_tS_3).wI am_tS_4).tr c1).tr c2).wI am_tS_4) (am_tI_4 hx)
    · exact h _ (am_ch_blame (am_ch.rf.wI am_tS_3)) (am_tI_blame (am_tI_w3 hT ‹am_skip M t s _›))
    · exact h _ (am_ch_blame (am_ch.rf.wI am_tS_3)) (am_tI_blame (am_tI_w3 hT ‹am_skip M t s _›))
    · exact am_tI_w3 hT ‹am_skip M t s _›
    · rename_i M1 c1
      exact h _ ((am_ch.rf.wI am_tS_3).tr c1) hx
    · exact h _ (am_ch.rf.wI am_tS_3) (am_tI_w3 hT ‹am_skip M t s _›)
  · exact h.elim
theorem wd_681 : Cond.methodLink "LearnLoans$Text" 63 yX5_passSigns ∈ am_ws := am_wsi (List.mem_of_getElem? (i := 681) (by decide +kernel)) (by decide +kernel)
theorem wd_683 : Cond.instanceMethod yX5_passSigns ∈ am_ws := am_wsi (List.mem_of_getElem? (i := 683) (by decide +kernel)) (by decide +kernel)
theorem wd_16 : Cond.selects "LearnLoans$Text" yX5_passSigns yX5_passSigns ∈ am_ws := am_wsi (List.mem_of_getElem? (i := 16) (by decide +kernel)) (by decide +kernel)
theorem wd_684 : Cond.code yX5_passSigns cX5_passSigns 2 (some .int) ∈ am_ws := am_wsi (List.mem_of_getElem? (i := 684) (by decide +kernel)) (by decide +kernel)
theorem wd_689 : Cond.methodLink "LearnLoans$Text" 66 yX5_readPlain ∈ am_ws := am_wsi (List.mem_of_getElem? (i := 689) (by decide +kernel)) (by decide +kernel)
theorem wd_691 : Cond.instanceMethod yX5_readPlain ∈ am_ws := am_wsi (List.mem_of_getElem? (i := 691) (by decide +kernel)) (by decide +kernel)
theorem wd_18 : Cond.selects "LearnLoans$Text" yX5_readPlain yX5_readPlain ∈ am_ws := am_wsi (List.mem_of_getElem? (i := 18) (by decide +kernel)) (by decide +kernel)
theorem wd_692 : Cond.code yX5_readPlain cX5_readPlain 3 none ∈ am_ws := am_wsi (List.mem_of_getElem? (i := 692) (by decide +kernel)) (by decide +kernel)
theorem wd_708 : Cond.methodLink "LearnLoans$Text" 69 yX5_emitSigns ∈ am_ws := am_wsi (List.mem_of_getElem? (i := 708) (by decide +kernel)) (by decide +kernel)
theorem wd_710 : Cond.instanceMethod yX5_emitSigns ∈ am_ws := am_wsi (List.mem_of_getElem? (i := 710) (by decide +kernel)) (by decide +kernel)
theorem wd_22 : Cond.selects "LearnLoans$Text" yX5_emitSigns yX5_emitSigns ∈ am_ws := am_wsi (List.mem_of_getElem? (i := 22) (by decide +kernel)) (by decide +kernel)
theorem wd_711 : Cond.code yX5_emitSigns cX5_emitSigns 4 none ∈ am_ws := am_wsi (List.mem_of_getElem? (i := 711) (by decide +kernel)) (by decide +kernel)
theorem wd_677 : Cond.methodLink "LearnLoans$Text" 54 yX5_readChain ∈ am_ws := am_wsi (List.mem_of_getElem? (i := 677) (by decide +kernel)) (by decide +kernel)
theorem wd_679 : Cond.instanceMethod yX5_readChain ∈ am_ws := am_wsi (List.mem_of_getElem? (i := 679) (by decide +kernel)) (by decide +kernel)
theorem wd_15 : Cond.selects "LearnLoans$Text" yX5_readChain yX5_readChain ∈ am_ws := am_wsi (List.mem_of_getElem? (i := 15) (by decide +kernel)) (by decide +kernel)
theorem wd_680 : Cond.code yX5_readChain cX5_readChain 6 none ∈ am_ws := am_wsi (List.mem_of_getElem? (i := 680) (by decide +kernel)) (by decide +kernel)
theorem wd_712 : Cond.methodLink "LearnLoans$Text" 72 yX5_levelOf ∈ am_ws := am_wsi (List.mem_of_getElem? (i := 712) (by decide +kernel)) (by decide +kernel)
theorem wd_713 : Cond.static yX5_levelOf ∈ am_ws := am_wsi (List.mem_of_getElem? (i := 713) (by decide +kernel)) (by decide +kernel)
theorem wd_714 : Cond.code yX5_levelOf cX5_levelOf 1 (some .int) ∈ am_ws := am_wsi (List.mem_of_getElem? (i := 714) (by decide +kernel)) (by decide +kernel)
theorem dX5_readChain_0 : decode cX5_readChain 0 = .ok (.iload_n 1, 1) := by decide +kernel
theorem dX5_readChain_1 : decode cX5_readChain 1 = .ok (.iconst 5, 1) := by decide +kernel
theorem dX5_readChain_2 : decode cX5_readChain 2 = .ok (.if_icmp .lt 27, 3) := by decide +kernel
theorem dX5_readChain_5 : decode cX5_readChain 5 = .ok (.aload_n 0, 1) := by decide +kernel
theorem dX5_readChain_6 : decode cX5_readChain 6 = .ok (.getfield 28, 3) := by decide +kernel
theorem dX5_readChain_9 : decode cX5_readChain 9 = .ok (.istore_n 3, 1) := by decide +kernel
theorem dX5_readChain_10 : decode cX5_readChain 10 = .ok (.aload_n 0, 1) := by decide +kernel
theorem dX5_readChain_11 : decode cX5_readChain 11 = .ok (.invokevirtual 63, 3) := by decide +kernel
theorem dX5_readChain_14 : decode cX5_readChain 14 = .ok (.istore 4, 2) := by decide +kernel
theorem dX5_readChain_16 : decode cX5_readChain 16 = .ok (.aload_n 0, 1) := by decide +kernel
theorem dX5_readChain_17 : decode cX5_readChain 17 = .ok (.iload_n 2, 1) := by decide +kernel
theorem dX5_readChain_18 : decode cX5_readChain 18 = .ok (.invokevirtual 66, 3) := by decide +kernel
theorem dX5_readChain_21 : decode cX5_readChain 21 = .ok (.aload_n 0, 1) := by decide +kernel
theorem dX5_readChain_22 : decode cX5_readChain 22 = .ok (.iload_n 3, 1) := by decide +kernel
theorem dX5_readChain_23 : decode cX5_readChain 23 = .ok (.iload 4, 2) := by decide +kernel
theorem dX5_readChain_25 : decode cX5_readChain 25 = .ok (.invokevirtual 69, 3) := by decide +kernel
theorem dX5_readChain_28 : decode cX5_readChain 28 = .ok (.return_, 1) := by decide +kernel
theorem dX5_readChain_29 : decode cX5_readChain 29 = .ok (.aload_n 0, 1) := by decide +kernel
theorem dX5_readChain_30 : decode cX5_readChain 30 = .ok (.iload_n 1, 1) := by decide +kernel
theorem dX5_readChain_31 : decode cX5_readChain 31 = .ok (.iconst 1, 1) := by decide +kernel
theorem dX5_readChain_32 : decode cX5_readChain 32 = .ok (.iadd, 1) := by decide +kernel
theorem dX5_readChain_33 : decode cX5_readChain 33 = .ok (.iload_n 2, 1) := by decide +kernel
theorem dX5_readChain_34 : decode cX5_readChain 34 = .ok (.invokevirtual 54, 3) := by decide +kernel
theorem dX5_readChain_37 : decode cX5_readChain 37 = .ok (.iload_n 1, 1) := by decide +kernel
theorem dX5_readChain_38 : decode cX5_readChain 38 = .ok (.iconst 2, 1) := by decide +kernel
theorem dX5_readChain_39 : decode cX5_readChain 39 = .ok (.if_icmp .ne 7, 3) := by decide +kernel
theorem dX5_readChain_42 : decode cX5_readChain 42 = .ok (.iconst 1, 1) := by decide +kernel
theorem dX5_readChain_43 : decode cX5_readChain 43 = .ok (.goto 5, 3) := by decide +kernel
theorem dX5_readChain_46 : decode cX5_readChain 46 = .ok (.bipush 50, 2) := by decide +kernel
theorem dX5_readChain_48 : decode cX5_readChain 48 = .ok (.istore_n 3, 1) := by decide +kernel
theorem dX5_readChain_49 : decode cX5_readChain 49 = .ok (.iconst 0, 1) := by decide +kernel
theorem dX5_readChain_50 : decode cX5_readChain 50 = .ok (.istore 4, 2) := by decide +kernel
theorem dX5_readChain_52 : decode cX5_readChain 52 = .ok (.iload 4, 2) := by decide +kernel
theorem dX5_readChain_54 : decode cX5_readChain 54 = .ok (.iload_n 3, 1) := by decide +kernel
theorem dX5_readChain_55 : decode cX5_readChain 55 = .ok (.if_icmp .ge 64, 3) := by decide +kernel
theorem dX5_readChain_58 : decode cX5_readChain 58 = .ok (.aload_n 0, 1) := by decide +kernel
theorem dX5_readChain_59 : decode cX5_readChain 59 = .ok (.getfield 18, 3) := by decide +kernel
theorem dX5_readChain_62 : decode cX5_readChain 62 = .ok (.iconst (-1), 1) := by decide +kernel
theorem dX5_readChain_63 : decode cX5_readChain 63 = .ok (.if_icmp .ne 56, 3) := by decide +kernel
theorem dX5_readChain_66 : decode cX5_readChain 66 = .ok (.aload_n 0, 1) := by decide +kernel
theorem dX5_readChain_67 : decode cX5_readChain 67 = .ok (.invokevirtual 38, 3) := by decide +kernel
theorem dX5_readChain_70 : decode cX5_readChain 70 = .ok (.invokestatic 72, 3) := by decide +kernel
theorem dX5_readChain_73 : decode cX5_readChain 73 = .ok (.iload_n 1, 1) := by decide +kernel
theorem dX5_readChain_74 : decode cX5_readChain 74 = .ok (.if_icmp .ne 45, 3) := by decide +kernel
theorem dX5_readChain_77 : decode cX5_readChain 77 = .ok (.aload_n 0, 1) := by decide +kernel
theorem dX5_readChain_78 : decode cX5_readChain 78 = .ok (.getfield 9, 3) := by decide +kernel
theorem dX5_readChain_81 : decode cX5_readChain 81 = .ok (.aload_n 0, 1) := by decide +kernel
theorem dX5_readChain_82 : decode cX5_readChain 82 = .ok (.getfield 28, 3) := by decide +kernel
theorem dX5_readChain_85 : decode cX5_readChain 85 = .ok (.iaload, 1) := by decide +kernel
theorem dX5_readChain_86 : decode cX5_readChain 86 = .ok (.istore 5, 2) := by decide +kernel
theorem dX5_readChain_88 : decode cX5_readChain 88 = .ok (.aload_n 0, 1) := by decide +kernel
theorem dX5_readChain_89 : decode cX5_readChain 89 = .ok (.dup, 1) := by decide +kernel
theorem dX5_readChain_90 : decode cX5_readChain 90 = .ok (.getfield 28, 3) := by decide +kernel
theorem dX5_readChain_93 : decode cX5_readChain 93 = .ok (.iconst 1, 1) := by decide +kernel
theorem dX5_readChain_94 : decode cX5_readChain 94 = .ok (.iadd, 1) := by decide +kernel
theorem dX5_readChain_95 : decode cX5_readChain 95 = .ok (.putfield 28, 3) := by decide +kernel
theorem dX5_readChain_98 : decode cX5_readChain 98 = .ok (.aload_n 0, 1) := by decide +kernel
theorem dX5_readChain_99 : decode cX5_readChain 99 = .ok (.iload_n 1, 1) := by decide +kernel
theorem dX5_readChain_100 : decode cX5_readChain 100 = .ok (.iconst 1, 1) := by decide +kernel
theorem dX5_readChain_101 : decode cX5_readChain 101 = .ok (.iadd, 1) := by decide +kernel
theorem dX5_readChain_102 : decode cX5_readChain 102 = .ok (.iload_n 2, 1) := by decide +kernel
theorem dX5_readChain_103 : decode cX5_readChain 103 = .ok (.invokevirtual 54, 3) := by decide +kernel
theorem dX5_readChain_106 : decode cX5_readChain 106 = .ok (.aload_n 0, 1) := by decide +kernel
theorem dX5_readChain_107 : decode cX5_readChain 107 = .ok (.iload 5, 2) := by decide +kernel
theorem dX5_readChain_109 : decode cX5_readChain 109 = .ok (.ineg, 1) := by decide +kernel
theorem dX5_readChain_110 : decode cX5_readChain 110 = .ok (.invokevirtual 60, 3) := by decide +kernel
theorem dX5_readChain_113 : decode cX5_readChain 113 = .ok (.iinc 4 1, 3) := by decide +kernel
theorem dX5_readChain_116 : decode cX5_readChain 116 = .ok (.goto (-64), 3) := by decide +kernel
theorem dX5_readChain_119 : decode cX5_readChain 119 = .ok (.return_, 1) := by decide +kernel
def kX5_readChain (d n rc lc : Nat) (Tc : am_T) (live : am_E) (Ret : am_R) : am_code := [(0, am_iload 1 1), (1, am_const (.int 5) 2), (2, am_if2 (fun x y => x < y) 29 5), (5, am_aload 0 6), (6, am_getI live 5 3 9), (9, am_istore 3 6 10), (10, am_aload 0 11), (11, am_callV live 5 0 TX5_passSigns 14), (14, am_istore 4 6 16), (16, am_aload 0 17), (17, am_iload 2 18), (18, am_callV live 5 1 (TX5_readPlain d) 21), (21, am_aload 0 22), (22, am_iload 3 23), (23, am_iload 4 25), (25, am_callV live 5 2 TX5_emitSigns 28), (28, am_retV Ret), (29, am_aload 0 30), (30, am_iload 1 31), (31, am_const (.int 1) 32), (32, am_i2 (fun x y => x + y) 33), (33, am_iload 2 34), (34, am_callV live 5 2 Tc 37), (37, am_iload 1 38), (38, am_const (.int 2) 39), (39, am_if2 (fun x y => x = y) 42 46), (42, am_const (.int 1) 43), (43, am_goto 48), (46, am_const (.int 50) 48), (48, am_istore 3 6 49), (49, am_const (.int 0) 50), (50, am_istore 4 6 52), (52, am_iload 4 54), (54, am_iload 3 55), (55, am_if2 (fun x y => y ≤ x) 119 58), (58, am_aload 0 59), (59, am_getI live 5 6 62), (62, am_const (.int (-1)) 63), (63, am_if2 (fun x y => x = y) 66 119), (66, am_aload 0 67), (67, am_callV live 5 0 TX5_next 70), (70, am_callS live 1 TX5_levelOf 73), (73, am_iload 1 74), (74, am_if2 (fun x y => x = y) 77 119), (77, am_aload 0 78), (78, am_getR live 5 0 81), (81, am_aload 0 82), (82, am_getI live 5 3 85), (85, am_ald live 0 86), (86, am_istore 5 6 88), (88, am_aload 0 89), (89, am_dup 90), (90, am_getI live 5 3 93), (93, am_const (.int 1) 94), (94, am_i2 (fun x y => x + y) 95), (95, am_putI live 5 3 98), (98, am_aload 0 99), (99, am_iload 1 100), (100, am_const (.int 1) 101), (101, am_i2 (fun x y => x + y) 102), (102, am_iload 2 103), (103, am_callV live 5 2 Tc 106), (106, am_aload 0 107), (107, am_iload 5 109), (109, am_i1 (fun x => -x) 110), (110, am_callV live 5 1 TX5_emit 113), (113, am_iinc 4 6 1 116), (116, am_goto 52), (119, am_retV Ret)]
theorem koX5_readChain (d n rc lc : Nat) (Tc : am_T) (hP : am_Met yX5_readPlain cX5_readPlain 3 none (4 + 8 * d + 1) (200 + 200 * d + 25) (TX5_readPlain d)) (hC : am_Met yX5_readChain cX5_readChain 6 none rc lc Tc) (hrc : rc + 1 ≤ 4 + 8 * d + 2 + n ∧ lc + 25 ≤ 200 + 200 * d + 50 + 25 * n) (live : am_E) (Ret : am_R) : ∀ q ∈ kX5_readChain d n rc lc Tc live Ret, am_ok RX5 cX5_readChain 6 none (4 + 8 * d + 2 + n) (200 + 200 * d + 50 + 25 * n) live Ret q.1 q.2 :=
  am_kc (ak_iload_n dX5_readChain_0 rfl rfl) <|
  am_kc (ak_iconst dX5_readChain_1 (by decide +kernel) rfl) <|
  am_kc (ak_icmp_lt dX5_readChain_2 (by decide +kernel) rfl) <|
  am_kc (ak_aload_n dX5_readChain_5 rfl rfl) <|
  am_kc (ak_getI (C := RX5) (T := TX5) (N := 7) rfl inX5w (by decide) rfl rfl rfl wd_171 dX5_readChain_6 rfl) <|
  am_kc (ak_istore_n dX5_readChain_9 rfl rfl) <|
  am_kc (ak_aload_n dX5_readChain_10 rfl rfl) <|
  am_kc (ak_callV (C := RX5) (F := TX5) (N := 7) metX5_passSigns rfl ⟨rfl, by decide +kernel, by decide +kernel, by decide +kernel⟩ (am_w5 wd_681 wd_683 wd_16 wd_65 wd_684) (by omega) dX5_readChain_11 rfl) <|
  am_kc (ak_istore dX5_readChain_14 rfl) <|
  am_kc (ak_aload_n dX5_readChain_16 rfl rfl) <|
  am_kc (ak_iload_n dX5_readChain_17 rfl rfl) <|
  am_kc (ak_callV (C := RX5) (F := TX5) (N := 7) hP rfl ⟨rfl, by decide +kernel, by decide +kernel, by decide +kernel⟩ (am_w5 wd_689 wd_691 wd_18 wd_65 wd_692) (by omega) dX5_readChain_18 rfl) <|
  am_kc (ak_aload_n dX5_readChain_21 rfl rfl) <|
  am_kc (ak_iload_n dX5_readChain_22 rfl rfl) <|
  am_kc (ak_iload dX5_readChain_23 rfl) <|
  am_kc (ak_callV (C := RX5) (F := TX5) (N := 7) metX5_emitSigns rfl ⟨rfl, by decide +kernel, by decide +kernel, by decide +kernel⟩ (am_w5 wd_708 wd_710 wd_22 wd_65 wd_711) (by omega) dX5_readChain_25 rfl) <|
  am_kc (ak_retV dX5_readChain_28) <|
  am_kc (ak_aload_n dX5_readChain_29 rfl rfl) <|
  am_kc (ak_iload_n dX5_readChain_30 rfl rfl) <|
  am_kc (ak_iconst dX5_readChain_31 (by decide +kernel) rfl) <|
  am_kc (ak_iadd dX5_readChain_32 rfl) <|
  am_kc (ak_iload_n dX5_readChain_33 rfl rfl) <|
  am_kc (ak_callV (C := RX5) (F := TX5) (N := 7) hC rfl ⟨rfl, by decide +kernel, by decide +kernel, by decide +kernel⟩ (am_w5 wd_677 wd_679 wd_15 wd_65 wd_680) (by omega) dX5_readChain_34 rfl) <|
  am_kc (ak_iload_n dX5_readChain_37 rfl rfl) <|
  am_kc (ak_iconst dX5_readChain_38 (by decide +kernel) rfl) <|
  am_kc (ak_icmp_ne dX5_readChain_39 (by decide +kernel) rfl) <|
  am_kc (ak_iconst dX5_readChain_42 (by decide +kernel) rfl) <|
  am_kc (ak_goto dX5_readChain_43 (by decide +kernel)) <|
  am_kc (ak_bipush dX5_readChain_46 (by decide +kernel) rfl) <|
  am_kc (ak_istore_n dX5_readChain_48 rfl rfl) <|
  am_kc (ak_iconst dX5_readChain_49 (by decide +kernel) rfl) <|
  am_kc (ak_istore dX5_readChain_50 rfl) <|
  am_kc (ak_iload dX5_readChain_52 rfl) <|
  am_kc (ak_iload_n dX5_readChain_54 rfl rfl) <|
  am_kc (ak_icmp_ge dX5_readChain_55 (by decide +kernel) rfl) <|
  am_kc (ak_aload_n dX5_readChain_58 rfl rfl) <|
  am_kc (ak_getI (C := RX5) (T := TX5) (N := 7) rfl inX5w (by decide) rfl rfl rfl wd_175 dX5_readChain_59 rfl) <|
  am_kc (ak_iconst dX5_readChain_62 (by decide +kernel) rfl) <|
  am_kc (ak_icmp_ne dX5_readChain_63 (by decide +kernel) rfl) <|
  am_kc (ak_aload_n dX5_readChain_66 rfl rfl) <|
  am_kc (ak_callV (C := RX5) (F := TX5) (N := 7) metX5_next rfl ⟨rfl, by decide +kernel, by decide +kernel, by decide +kernel⟩ (am_w5 wd_685 wd_687 wd_17 wd_65 wd_688) (by omega) dX5_readChain_67 rfl) <|
  am_kc (ak_callS metX5_levelOf ⟨rfl, by decide +kernel, by decide +kernel, by decide +kernel⟩ (am_w4 wd_712 wd_713 wd_65 wd_714) (by omega) dX5_readChain_70 rfl) <|
  am_kc (ak_iload_n dX5_readChain_73 rfl rfl) <|
  am_kc (ak_icmp_ne dX5_readChain_74 (by decide +kernel) rfl) <|
  am_kc (ak_aload_n dX5_readChain_77 rfl rfl) <|
  am_kc (ak_getR (C := RX5) (T := TX5) (N := 7) rfl inX5w (by decide) rfl rfl rfl wd_168 dX5_readChain_78 rfl) <|
  am_kc (ak_aload_n dX5_readChain_81 rfl rfl) <|
  am_kc (ak_getI (C := RX5) (T := TX5) (N := 7) rfl inX5w (by decide) rfl rfl rfl wd_171 dX5_readChain_82 rfl) <|
  am_kc (ak_iald (t := 0) (fun _ => rfl) rfl dX5_readChain_85 rfl) <|
  am_kc (ak_istore dX5_readChain_86 rfl) <|
  am_kc (ak_aload_n dX5_readChain_88 rfl rfl) <|
  am_kc (ak_dup dX5_readChain_89 rfl) <|
  am_kc (ak_getI (C := RX5) (T := TX5) (N := 7) rfl inX5w (by decide) rfl rfl rfl wd_171 dX5_readChain_90 rfl) <|
  am_kc (ak_iconst dX5_readChain_93 (by decide +kernel) rfl) <|
  am_kc (ak_iadd dX5_readChain_94 rfl) <|
  am_kc (ak_putI (C := RX5) (T := TX5) (N := 7) rfl inX5w tyX5_ok nmX5 (by decide) rfl rfl rfl rfl (by decide +kernel) wd_171 dX5_readChain_95 rfl) <|
  am_kc (ak_aload_n dX5_readChain_98 rfl rfl) <|
  am_kc (ak_iload_n dX5_readChain_99 rfl rfl) <|
  am_kc (ak_iconst dX5_readChain_100 (by decide +kernel) rfl) <|
  am_kc (ak_iadd dX5_readChain_101 rfl) <|
  am_kc (ak_iload_n dX5_readChain_102 rfl rfl) <|
  am_kc (ak_callV (C := RX5) (F := TX5) (N := 7) hC rfl ⟨rfl, by decide +kernel, by decide +kernel, by decide +kernel⟩ (am_w5 wd_677 wd_679 wd_15 wd_65 wd_680) (by omega) dX5_readChain_103 rfl) <|
  am_kc (ak_aload_n dX5_readChain_106 rfl rfl) <|
  am_kc (ak_iload dX5_readChain_107 rfl) <|
  am_kc (ak_ineg dX5_readChain_109 rfl) <|
  am_kc (ak_callV (C := RX5) (F := TX5) (N := 7) metX5_emit rfl ⟨rfl, by decide +kernel, by decide +kernel, by decide +kernel⟩ (am_w5 wd_700 wd_702 wd_20 wd_65 wd_703) (by omega) dX5_readChain_110 rfl) <|
  am_kc (ak_iinc dX5_readChain_113 (by decide +kernel) rfl) <|
  am_kc (ak_goto dX5_readChain_116 (by decide +kernel)) <|
  am_kc (ak_retV dX5_readChain_119) <| am_kn
def JX5_readChain : am_E → List Value → am_M → am_R → am_inv := fun live as M0 _ pc => match as with
  | [.ref t, .int l, .int e] => (match pc with
    | 52 => some ([0, 1, 2, 3, 4], fun k L st M => ∃ x i : Int32, L = [(0, .ref t), (1, .int l), (2, .int e), (3, .int x), (4, .int i)] ∧ st = [] ∧ k = ((51 - i.toInt).toNat, 0) ∧ x.toInt ≤ 50 ∧ 0 ≤ i.toInt ∧ l.toInt < 5 ∧ am_ch (am_tS t ((live.2 t 1).getD 0)) M0 M ∧ am_tI M t)
    | _ => none)
  | _ => none
theorem am_level_lt {x l : Int32} (h : am_level x = l) (hl : l.toInt < 5) : ¬ x = -1 := fun e => by
  rw [e] at h
  rw [← h] at hl
  exact absurd hl (by decide)
set_option maxRecDepth 100000 in
set_option maxHeartbeats 4000000 in
theorem metX5_readChainG (d n rc lc : Nat) (Tc : am_T) (hP : am_Met yX5_readPlain cX5_readPlain 3 none (4 + 8 * d + 1) (200 + 200 * d + 25) (TX5_readPlain d)) (hC : am_Met yX5_readChain cX5_readChain 6 none rc lc Tc) (hrc : rc + 1 ≤ 4 + 8 * d + 2 + n ∧ lc + 25 ≤ 200 + 200 * d + 50 + 25 * n)
    (hT0 : ∀ (live : am_E) (t s c : Nat) (l e : Int32) (M : am_M) (R : am_R), live.2 t 0 = some s → live.2 t 1 = some c → am_tc live t s c = true → am_tI M t → 0 ≤ l.toInt → l.toInt < 5 → 5 ≤ l.toInt + (n : Int) → 0 ≤ e.toInt → e.toInt ≤ 40 → 40 ≤ e.toInt + (d : Int) → (∀ M', am_ch (am_tS t c) M M' → am_tI M' t → R none M') → Tc live [.ref t, .int (l + 1), .int e] M R) :
    am_Met yX5_readChain cX5_readChain 6 none (4 + 8 * d + 2 + n) (200 + 200 * d + 50 + 25 * n) (TX5_readChain d n) := by
  refine am_met (own := RX5) (by decide +kernel) rfl (kX5_readChain d n rc lc Tc) (koX5_readChain d n rc lc Tc hP hC hrc) 120 JX5_readChain ?_ ?_
  · intro live as M Ret h
    unfold TX5_readChain at h
    split at h
    · next t l e =>
      refine ⟨Nat.le_of_ble_eq_true rfl, ?_⟩
      change am_wp _ _ _ _ [(0, Value.ref t), (1, Value.int l), (2, Value.int e)] _ _
      have hh := am_tP_mp h
      clear h
      obtain ⟨s, c, h2, h6, hb, h1, h3, h7, h4, h8, h9, h5, h10, hT, hl, he1, he2, he3, h⟩ := hh
      repeat' (first | exact rfl | (with_reducible exact hT) | (with_reducible exact h1) | (with_reducible exact h2) | (with_reducible exact h3) | (with_reducible exact hb) | (with_reducible exact h6) | (with_reducible exact h7) | (refine Exists.intro _ (Exists.intro _ (And.intro h2 (And.intro h6 ?_)))) | (refine Exists.intro _ (And.intro h2 ?_)) | (refine Exists.intro _ (And.intro h6 ?_)) | apply And.intro | intro hx | (refine Exists.intro _ (And.intro rfl ?_)) | (refine hT0 _ _ s c _ _ _ _ h2 h6 hb ?_ ?_ ?_ ?_ ?_ ?_ ?_ (fun M' c' i' => ?_)) | ((with_reducible change _ = true); simp only [h1, h2, h3, hb, h6, h7, Bool.true_and]; rfl))
      all_goals try first | (with_reducible change am_tI _ _) | (change Ret _ _) | (change Ret _ _ _) | (change Exists _)
      all_goals try dsimp only at *
      all_goals try exact absurd ‹(1000 : Int64) = 0› (by decide)
      all_goals obtain ⟨hl1, hl2, hl3⟩ := hl
      all_goals first
        | (simp only [i_le, i_lt, Int32.reduceToInt] at *; omega)
        | assumption
        | exact (am_tI_pl (by assumption)).1
        | skip
      · rename_i hq
        rw [h6]
        exact ⟨_, _, _, rfl, rfl, rfl, by decide, by decide, by simp only [i_le, i_lt, Int32.reduceToInt] at *; omega, c', i'⟩
      · rename_i hq
        rw [h6]
        exact ⟨_, _, _, rfl, rfl, rfl, by decide, by decide, by simp only [i_le, i_lt, Int32.reduceToInt] at *; omega, c', i'⟩
      · rename_i M1 c1 i1 M2 c2 i2 M3 c3 i3
        exact h _ ((c1.tr c2).tr c3) i3
    · exact h.elim
  · intro live as M0 Ret h k pc I hI L st M hi
    unfold TX5_readChain at h
    split at h
    · next t l e =>
      have hh := am_tP_mp h
      clear h
      obtain ⟨s, c, h2, h6, hb, h1, h3, h7, h4, h8, h9, h5, h10, hT, hl, he1, he2, he3, h⟩ := hh
      obtain ⟨hl1, hl2, hl3⟩ := hl
      change (match pc with | 52 => _ | _ => none) = _ at hI
      split at hI
      · cases hI
        obtain ⟨x, i, rfl, rfl, rfl, e0, e3, e4, e1, e2⟩ := hi
        have f1 := e1
        rw [h6] at f1
        repeat' (first | exact rfl | (with_reducible exact e2) | (with_reducible exact h1) | (with_reducible exact h2) | (with_reducible exact h3) | (with_reducible exact hb) | (with_reducible exact h6) | (with_reducible exact h7) | (refine Exists.intro _ (Exists.intro _ (And.intro h2 (And.intro h6 ?_)))) | (refine Exists.intro _ (And.intro h2 ?_)) | (refine Exists.intro _ (And.intro h6 ?_)) | apply And.intro | intro hx | (refine Exists.intro _ (And.intro rfl ?_)) | (refine hT0 _ _ s c _ _ _ _ h2 h6 hb ?_ ?_ ?_ ?_ ?_ ?_ ?_ (fun M' c' i' => ?_)) | ((with_reducible change _ = true); simp only [h1, h2, h3, hb, h6, h7, Bool.true_and]; rfl))
        all_goals try first | (with_reducible change am_tI _ _) | (change Ret _ _) | (change Ret _ _ _) | (change Exists _)
        all_goals try dsimp only at *
        all_goals try exact absurd ‹(1000 : Int64) = 0› (by decide)
        all_goals try simp only [am_wI_self]
        · exact h _ f1 e2
        · have q1 := (am_tI_pl e2).1
          have q2 := (‹am_skip M t s _›).1
          omega
        · have q1 := am_sign_lt (am_level_lt ‹am_level (am_sign M t s _) = l› e4)
          have q2 := (am_tI_pl e2).2.2
          rw [h4]
          omega
        · exact am_tI_3p e2 ‹am_skip M t s _› (am_sign_lt (am_level_lt ‹am_level (am_sign M t s _) = l› e4))
        · omega
        · omega
        · omega
        · omega
        · omega
        · omega
        · exact am_tI_cd i'
        · rw [h6]
          refine ⟨_, Or.inl ?_, x, i + 1, rfl, rfl, rfl, e0, ?_, e4, am_ch_emit (((f1.wI am_tS_3).wI am_tS_3).tr c'), am_tI_emit i' h10⟩
          all_goals simp only [i_le, i_lt] at *
          all_goals
            have hi := i_add (x := i) (y := 1) (by simp only [Int32.reduceToInt]; omega) (by simp only [Int32.reduceToInt]; omega)
            simp only [Int32.reduceToInt] at hi
            omega
        · exact h _ (f1.wI am_tS_3) (am_tI_w3 e2 ‹am_skip M t s _›)
        · exact h _ f1 e2
      · cases hI
    · exact h.elim
theorem am_tP_in {live : am_E} {t s c : Nat} {P : Nat → Nat → Prop} (h1 : live.2 t 0 = some s) (h2 : live.2 t 1 = some c) (h3 : am_tc live t s c = true) (h : P s c) : am_tP live t P := by
  exact ⟨s, c, h1, h2, h3, h⟩
theorem am_MetF (y : MethodName) (cc : ByteArray) (nL : Nat) (rt : Option FieldType) (rf rl : Nat) : am_Met y cc nL rt rf rl (fun _ _ _ _ => False) := fun _ _ _ _ _ _ _ _ _ h => h.elim
theorem metX5_readChain (d : Nat) (hP : am_Met yX5_readPlain cX5_readPlain 3 none (4 + 8 * d + 1) (200 + 200 * d + 25) (TX5_readPlain d)) : ∀ n : Nat, am_Met yX5_readChain cX5_readChain 6 none (4 + 8 * d + 2 + n) (200 + 200 * d + 50 + 25 * n) (TX5_readChain d n)
  | 0 => metX5_readChainG d 0 0 0 _ hP (am_MetF _ _ _ _ _ _) (by omega) (fun live t s c l e M R _ _ _ _ _ h1 h2 _ _ _ _ => by exfalso; omega)
  | n + 1 => metX5_readChainG d (n + 1) (4 + 8 * d + 2 + n) (200 + 200 * d + 50 + 25 * n) _ hP (metX5_readChain d hP n) (by omega) (fun live t s c l e M R a1 a2 a3 a4 a5 a6 a7 a8 a9 a10 hh => by
      have hi := i_add (x := l) (y := 1) (by simp only [Int32.reduceToInt]; omega) (by simp only [Int32.reduceToInt]; omega)
      simp only [Int32.reduceToInt] at hi
      exact am_tP_in a1 a2 a3 ⟨a4, ⟨by omega, by omega, by omega⟩, a8, a9, a10, hh⟩)
end
section
/-! Text: the recursion closed -/
theorem dX5_readValue_0 : decode cX5_readValue 0 = .ok (.iload_n 1, 1) := by decide +kernel
theorem dX5_readValue_1 : decode cX5_readValue 1 = .ok (.bipush 40, 2) := by decide +kernel
theorem dX5_readValue_3 : decode cX5_readValue 3 = .ok (.if_icmp .le 13, 3) := by decide +kernel
theorem dX5_readValue_6 : decode cX5_readValue 6 = .ok (.aload_n 0, 1) := by decide +kernel
theorem dX5_readValue_7 : decode cX5_readValue 7 = .ok (.aload_n 0, 1) := by decide +kernel
theorem dX5_readValue_8 : decode cX5_readValue 8 = .ok (.getfield 28, 3) := by decide +kernel
theorem dX5_readValue_11 : decode cX5_readValue 11 = .ok (.iconst 1, 1) := by decide +kernel
theorem dX5_readValue_12 : decode cX5_readValue 12 = .ok (.invokevirtual 42, 3) := by decide +kernel
theorem dX5_readValue_15 : decode cX5_readValue 15 = .ok (.return_, 1) := by decide +kernel
theorem dX5_readValue_16 : decode cX5_readValue 16 = .ok (.aload_n 0, 1) := by decide +kernel
theorem dX5_readValue_17 : decode cX5_readValue 17 = .ok (.iconst 0, 1) := by decide +kernel
theorem dX5_readValue_18 : decode cX5_readValue 18 = .ok (.iload_n 1, 1) := by decide +kernel
theorem dX5_readValue_19 : decode cX5_readValue 19 = .ok (.invokevirtual 54, 3) := by decide +kernel
theorem dX5_readValue_22 : decode cX5_readValue 22 = .ok (.aload_n 0, 1) := by decide +kernel
theorem dX5_readValue_23 : decode cX5_readValue 23 = .ok (.getfield 18, 3) := by decide +kernel
theorem dX5_readValue_26 : decode cX5_readValue 26 = .ok (.iconst (-1), 1) := by decide +kernel
theorem dX5_readValue_27 : decode cX5_readValue 27 = .ok (.if_icmp .ne 48, 3) := by decide +kernel
theorem dX5_readValue_30 : decode cX5_readValue 30 = .ok (.aload_n 0, 1) := by decide +kernel
theorem dX5_readValue_31 : decode cX5_readValue 31 = .ok (.invokevirtual 38, 3) := by decide +kernel
theorem dX5_readValue_34 : decode cX5_readValue 34 = .ok (.bipush 63, 2) := by decide +kernel
theorem dX5_readValue_36 : decode cX5_readValue 36 = .ok (.if_icmp .ne 39, 3) := by decide +kernel
theorem dX5_readValue_39 : decode cX5_readValue 39 = .ok (.aload_n 0, 1) := by decide +kernel
theorem dX5_readValue_40 : decode cX5_readValue 40 = .ok (.dup, 1) := by decide +kernel
theorem dX5_readValue_41 : decode cX5_readValue 41 = .ok (.getfield 28, 3) := by decide +kernel
theorem dX5_readValue_44 : decode cX5_readValue 44 = .ok (.iconst 1, 1) := by decide +kernel
theorem dX5_readValue_45 : decode cX5_readValue 45 = .ok (.iadd, 1) := by decide +kernel
theorem dX5_readValue_46 : decode cX5_readValue 46 = .ok (.putfield 28, 3) := by decide +kernel
theorem dX5_readValue_49 : decode cX5_readValue 49 = .ok (.aload_n 0, 1) := by decide +kernel
theorem dX5_readValue_50 : decode cX5_readValue 50 = .ok (.iload_n 1, 1) := by decide +kernel
theorem dX5_readValue_51 : decode cX5_readValue 51 = .ok (.iconst 1, 1) := by decide +kernel
theorem dX5_readValue_52 : decode cX5_readValue 52 = .ok (.iadd, 1) := by decide +kernel
theorem dX5_readValue_53 : decode cX5_readValue 53 = .ok (.invokevirtual 34, 3) := by decide +kernel
theorem dX5_readValue_56 : decode cX5_readValue 56 = .ok (.aload_n 0, 1) := by decide +kernel
theorem dX5_readValue_57 : decode cX5_readValue 57 = .ok (.bipush 58, 2) := by decide +kernel
theorem dX5_readValue_59 : decode cX5_readValue 59 = .ok (.invokevirtual 57, 3) := by decide +kernel
theorem dX5_readValue_62 : decode cX5_readValue 62 = .ok (.aload_n 0, 1) := by decide +kernel
theorem dX5_readValue_63 : decode cX5_readValue 63 = .ok (.iload_n 1, 1) := by decide +kernel
theorem dX5_readValue_64 : decode cX5_readValue 64 = .ok (.iconst 1, 1) := by decide +kernel
theorem dX5_readValue_65 : decode cX5_readValue 65 = .ok (.iadd, 1) := by decide +kernel
theorem dX5_readValue_66 : decode cX5_readValue 66 = .ok (.invokevirtual 34, 3) := by decide +kernel
theorem dX5_readValue_69 : decode cX5_readValue 69 = .ok (.aload_n 0, 1) := by decide +kernel
theorem dX5_readValue_70 : decode cX5_readValue 70 = .ok (.bipush (-63), 2) := by decide +kernel
theorem dX5_readValue_72 : decode cX5_readValue 72 = .ok (.invokevirtual 60, 3) := by decide +kernel
theorem dX5_readValue_75 : decode cX5_readValue 75 = .ok (.return_, 1) := by decide +kernel
def kX5_readValue (n rc lc rv lv : Nat) (Tc Tv : am_T) (live : am_E) (Ret : am_R) : am_code := [(0, am_iload 1 1), (1, am_const (.int 40) 3), (3, am_if2 (fun x y => x ≤ y) 16 6), (6, am_aload 0 7), (7, am_aload 0 8), (8, am_getI live 5 3 11), (11, am_const (.int 1) 12), (12, am_callV live 5 2 TX5_blame 15), (15, am_retV Ret), (16, am_aload 0 17), (17, am_const (.int 0) 18), (18, am_iload 1 19), (19, am_callV live 5 2 Tc 22), (22, am_aload 0 23), (23, am_getI live 5 6 26), (26, am_const (.int (-1)) 27), (27, am_if2 (fun x y => x = y) 30 75), (30, am_aload 0 31), (31, am_callV live 5 0 TX5_next 34), (34, am_const (.int 63) 36), (36, am_if2 (fun x y => x = y) 39 75), (39, am_aload 0 40), (40, am_dup 41), (41, am_getI live 5 3 44), (44, am_const (.int 1) 45), (45, am_i2 (fun x y => x + y) 46), (46, am_putI live 5 3 49), (49, am_aload 0 50), (50, am_iload 1 51), (51, am_const (.int 1) 52), (52, am_i2 (fun x y => x + y) 53), (53, am_callV live 5 1 Tv 56), (56, am_aload 0 57), (57, am_const (.int 58) 59), (59, am_callV live 5 1 TX5_pass 62), (62, am_aload 0 63), (63, am_iload 1 64), (64, am_const (.int 1) 65), (65, am_i2 (fun x y => x + y) 66), (66, am_callV live 5 1 Tv 69), (69, am_aload 0 70), (70, am_const (.int (-63)) 72), (72, am_callV live 5 1 TX5_emit 75), (75, am_retV Ret)]
theorem koX5_readValue (n rc lc rv lv : Nat) (Tc Tv : am_T) (hC : am_Met yX5_readChain cX5_readChain 6 none rc lc Tc) (hV : am_Met yX5_readValue cX5_readValue 2 none rv lv Tv) (hrc : rc + 1 ≤ 4 + 8 * n ∧ lc + 25 ≤ 200 + 200 * n ∧ rv + 1 ≤ 4 + 8 * n ∧ lv + 25 ≤ 200 + 200 * n) (live : am_E) (Ret : am_R) : ∀ q ∈ kX5_readValue n rc lc rv lv Tc Tv live Ret, am_ok RX5 cX5_readValue 2 none (4 + 8 * n) (200 + 200 * n) live Ret q.1 q.2 :=
  am_kc (ak_iload_n dX5_readValue_0 rfl rfl) <|
  am_kc (ak_bipush dX5_readValue_1 (by decide +kernel) rfl) <|
  am_kc (ak_icmp_le dX5_readValue_3 (by decide +kernel) rfl) <|
  am_kc (ak_aload_n dX5_readValue_6 rfl rfl) <|
  am_kc (ak_aload_n dX5_readValue_7 rfl rfl) <|
  am_kc (ak_getI (C := RX5) (T := TX5) (N := 7) rfl inX5w (by decide) rfl rfl rfl wd_171 dX5_readValue_8 rfl) <|
  am_kc (ak_iconst dX5_readValue_11 (by decide +kernel) rfl) <|
  am_kc (ak_callV (C := RX5) (F := TX5) (N := 7) metX5_blame rfl ⟨rfl, by decide +kernel, by decide +kernel, by decide +kernel⟩ (am_w5 wd_673 wd_675 wd_14 wd_65 wd_676) (by omega) dX5_readValue_12 rfl) <|
  am_kc (ak_retV dX5_readValue_15) <|
  am_kc (ak_aload_n dX5_readValue_16 rfl rfl) <|
  am_kc (ak_iconst dX5_readValue_17 (by decide +kernel) rfl) <|
  am_kc (ak_iload_n dX5_readValue_18 rfl rfl) <|
  am_kc (ak_callV (C := RX5) (F := TX5) (N := 7) hC rfl ⟨rfl, by decide +kernel, by decide +kernel, by decide +kernel⟩ (am_w5 wd_677 wd_679 wd_15 wd_65 wd_680) (by omega) dX5_readValue_19 rfl) <|
  am_kc (ak_aload_n dX5_readValue_22 rfl rfl) <|
  am_kc (ak_getI (C := RX5) (T := TX5) (N := 7) rfl inX5w (by decide) rfl rfl rfl wd_175 dX5_readValue_23 rfl) <|
  am_kc (ak_iconst dX5_readValue_26 (by decide +kernel) rfl) <|
  am_kc (ak_icmp_ne dX5_readValue_27 (by decide +kernel) rfl) <|
  am_kc (ak_aload_n dX5_readValue_30 rfl rfl) <|
  am_kc (ak_callV (C := RX5) (F := TX5) (N := 7) metX5_next rfl ⟨rfl, by decide +kernel, by decide +kernel, by decide +kernel⟩ (am_w5 wd_685 wd_687 wd_17 wd_65 wd_688) (by omega) dX5_readValue_31 rfl) <|
  am_kc (ak_bipush dX5_readValue_34 (by decide +kernel) rfl) <|
  am_kc (ak_icmp_ne dX5_readValue_36 (by decide +kernel) rfl) <|
  am_kc (ak_aload_n dX5_readValue_39 rfl rfl) <|
  am_kc (ak_dup dX5_readValue_40 rfl) <|
  am_kc (ak_getI (C := RX5) (T := TX5) (N := 7) rfl inX5w (by decide) rfl rfl rfl wd_171 dX5_readValue_41 rfl) <|
  am_kc (ak_iconst dX5_readValue_44 (by decide +kernel) rfl) <|
  am_kc (ak_iadd dX5_readValue_45 rfl) <|
  am_kc (ak_putI (C := RX5) (T := TX5) (N := 7) rfl inX5w tyX5_ok nmX5 (by decide) rfl rfl rfl rfl (by decide +kernel) wd_171 dX5_readValue_46 rfl) <|
  am_kc (ak_aload_n dX5_readValue_49 rfl rfl) <|
  am_kc (ak_iload_n dX5_readValue_50 rfl rfl) <|
  am_kc (ak_iconst dX5_readValue_51 (by decide +kernel) rfl) <|
  am_kc (ak_iadd dX5_readValue_52 rfl) <|
  am_kc (ak_callV (C := RX5) (F := TX5) (N := 7) hV rfl ⟨rfl, by decide +kernel, by decide +kernel, by decide +kernel⟩ (am_w5 wd_669 wd_671 wd_13 wd_65 wd_672) (by omega) dX5_readValue_53 rfl) <|
  am_kc (ak_aload_n dX5_readValue_56 rfl rfl) <|
  am_kc (ak_bipush dX5_readValue_57 (by decide +kernel) rfl) <|
  am_kc (ak_callV (C := RX5) (F := TX5) (N := 7) metX5_pass rfl ⟨rfl, by decide +kernel, by decide +kernel, by decide +kernel⟩ (am_w5 wd_704 wd_706 wd_21 wd_65 wd_707) (by omega) dX5_readValue_59 rfl) <|
  am_kc (ak_aload_n dX5_readValue_62 rfl rfl) <|
  am_kc (ak_iload_n dX5_readValue_63 rfl rfl) <|
  am_kc (ak_iconst dX5_readValue_64 (by decide +kernel) rfl) <|
  am_kc (ak_iadd dX5_readValue_65 rfl) <|
  am_kc (ak_callV (C := RX5) (F := TX5) (N := 7) hV rfl ⟨rfl, by decide +kernel, by decide +kernel, by decide +kernel⟩ (am_w5 wd_669 wd_671 wd_13 wd_65 wd_672) (by omega) dX5_readValue_66 rfl) <|
  am_kc (ak_aload_n dX5_readValue_69 rfl rfl) <|
  am_kc (ak_bipush dX5_readValue_70 (by decide +kernel) rfl) <|
  am_kc (ak_callV (C := RX5) (F := TX5) (N := 7) metX5_emit rfl ⟨rfl, by decide +kernel, by decide +kernel, by decide +kernel⟩ (am_w5 wd_700 wd_702 wd_20 wd_65 wd_703) (by omega) dX5_readValue_72 rfl) <|
  am_kc (ak_retV dX5_readValue_75) <| am_kn
theorem am_ne63 {x : Int32} (h : x = 63) : ¬ x = -1 := fun e => by rw [h] at e; exact absurd e (by decide)
set_option maxRecDepth 100000 in
set_option maxHeartbeats 4000000 in
theorem metX5_readValueG (n rc lc rv lv : Nat) (Tc Tv : am_T) (hC : am_Met yX5_readChain cX5_readChain 6 none rc lc Tc) (hV : am_Met yX5_readValue cX5_readValue 2 none rv lv Tv) (hrc : rc + 1 ≤ 4 + 8 * n ∧ lc + 25 ≤ 200 + 200 * n ∧ rv + 1 ≤ 4 + 8 * n ∧ lv + 25 ≤ 200 + 200 * n)
    (hT1 : ∀ (live : am_E) (t s c : Nat) (e : Int32) (M : am_M) (R : am_R), live.2 t 0 = some s → live.2 t 1 = some c → am_tc live t s c = true → am_tI M t → 0 ≤ e.toInt → e.toInt ≤ 40 → 41 ≤ e.toInt + (n : Int) → (∀ M', am_ch (am_tS t c) M M' → am_tI M' t → R none M') → Tc live [.ref t, .int 0, .int e] M R)
    (hT2 : ∀ (live : am_E) (t s c : Nat) (e : Int32) (M : am_M) (R : am_R), live.2 t 0 = some s → live.2 t 1 = some c → am_tc live t s c = true → am_tI M t → 0 ≤ e.toInt → e.toInt ≤ 40 → 41 ≤ e.toInt + (n : Int) → (∀ M', am_ch (am_tS t c) M M' → am_tI M' t → R none M') → Tv live [.ref t, .int (e + 1)] M R) :
    am_Met yX5_readValue cX5_readValue 2 none (4 + 8 * n) (200 + 200 * n) (TX5_readValue n) := by
  refine am_met (own := RX5) (by decide +kernel) rfl (kX5_readValue n rc lc rv lv Tc Tv) (koX5_readValue n rc lc rv lv Tc Tv hC hV hrc) 120 (fun _ _ _ _ _ => none) ?_ (fun _ _ _ _ _ _ _ _ hI => by cases hI)
  intro live as M Ret h
  unfold TX5_readValue at h
  split at h
  · next t e =>
    refine ⟨Nat.le_of_ble_eq_true rfl, ?_⟩
    change am_wp _ _ _ _ [(0, Value.ref t), (1, Value.int e)] _ _
    have hh := am_tP_mp h
    clear h
    obtain ⟨s, c, h2, h6, hb, h1, h3, h7, h4, h8, h9, h5, h10, hT, he1, he2, he3, h⟩ := hh
    repeat' (first | exact rfl | (with_reducible exact hT) | (with_reducible exact h1) | (with_reducible exact h2) | (with_reducible exact h3) | (with_reducible exact hb) | (with_reducible exact h6) | (with_reducible exact h7) | (refine Exists.intro _ (Exists.intro _ (And.intro h2 (And.intro h6 ?_)))) | (refine Exists.intro _ (And.intro h2 ?_)) | (refine Exists.intro _ (And.intro h6 ?_)) | apply And.intro | intro hx | (refine Exists.intro _ (And.intro rfl ?_)) | (refine hT1 _ _ s c _ _ _ h2 h6 hb ?_ ?_ ?_ ?_ (fun M1 c1 i1 => ?_)) | (refine hT2 _ _ s c _ _ _ h2 h6 hb ?_ ?_ ?_ ?_ (fun M2 c2 i2 => ?_)) | ((with_reducible change _ = true); simp only [h1, h2, h3, hb, h6, h7, Bool.true_and]; rfl))
    all_goals try first | (with_reducible change am_tI _ _) | (change Ret _ _) | (change Ret _ _ _) | (change Exists _)
    all_goals try dsimp only at *
    all_goals try exact absurd ‹(1000 : Int64) = 0› (by decide)
    all_goals try simp only [am_wI_self]
    all_goals first
      | (with_reducible assumption)
      | omega
      | (have q := hx; simp only [i_le, Int32.reduceToInt] at q; omega)
      | (have q : e ≤ 40 := (by with_reducible assumption); simp only [i_le, Int32.reduceToInt] at q; omega)
      | (with_reducible exact am_tI_cd (by with_reducible assumption))
      | (with_reducible exact am_tI_3p i1 (by with_reducible assumption) (am_sign_lt (am_ne63 (by with_reducible assumption))))
      | exact absurd (show (58 : Int32) = -1 by with_reducible assumption) (by decide)
      | skip
    · rename_i w p hp sg M2a c2a i2a M3 c3
      exact h _ (am_ch_emit (((((c1.wI am_tS_3).wI am_tS_3).tr c2a).tr c3).tr c2)) (am_tI_emit i2 h10)
    · exact h _ (c1.wI am_tS_3) (am_tI_w3 i1 ‹am_skip M1 t s _›)
    · exact h _ c1 i1
    · exact h _ (am_ch_blame am_ch.rf) (am_tI_blame hT)
  · exact h.elim
theorem metX5_readValue (n : Nat) : am_Met yX5_readValue cX5_readValue 2 none (4 + 8 * n) (200 + 200 * n) (TX5_readValue n) := by
  induction n with
  | zero =>
    refine metX5_readValueG 0 0 0 0 0 (fun _ _ _ _ => False) (fun _ _ _ _ => False) (am_MetF _ _ _ _ _ _) (am_MetF _ _ _ _ _ _) (by omega) ?_ ?_
    · intro live t s c e M R a1 a2 a3 a4 a5 a6 a7 hh
      omega
    · intro live t s c e M R a1 a2 a3 a4 a5 a6 a7 hh
      omega
  | succ n ih =>
    have hP := metX5_readPlain n ih
    have hC := metX5_readChain n hP 5
    refine metX5_readValueG (n + 1) (4 + 8 * n + 2 + 5) (200 + 200 * n + 50 + 25 * 5) (4 + 8 * n) (200 + 200 * n) (TX5_readChain n 5) (TX5_readValue n) hC ih (by omega) ?_ ?_
    · intro live t s c e M R a1 a2 a3 a4 a5 a6 a7 hh
      exact am_tP_in a1 a2 a3 ⟨a4, ⟨by decide, by decide, by decide⟩, a5, a6, by omega, hh⟩
    · intro live t s c e M R a1 a2 a3 a4 a5 a6 a7 hh
      have hi := i_add (x := e) (y := 1) (by simp only [Int32.reduceToInt]; omega) (by simp only [Int32.reduceToInt]; omega)
      simp only [Int32.reduceToInt] at hi
      exact am_tP_in a1 a2 a3 ⟨a4, by omega, by omega, by omega, hh⟩
end
section
/-! Text: a character behind, all gone, what it tells -/
/-- a text's lasting numbers -/
def am_t0 (M : am_M) (t : Nat) : Prop := ∃ _ : Unit, (0 ≤ (M.1 t 2).toInt ∧ (M.1 t 2).toInt ≤ 50) ∧ (0 ≤ (M.1 t 5).toInt ∧ (M.1 t 5).toInt ≤ 50)
theorem am_t0_I {M : am_M} {t : Nat} (h : am_tI M t) : am_t0 M t := by
  obtain ⟨-, q1, q2, q3⟩ := h
  exact ⟨(), q1, by omega, q3⟩
theorem dX5_add_0 : decode cX5_add 0 = .ok (.aload_n 0, 1) := by decide +kernel
theorem dX5_add_1 : decode cX5_add 1 = .ok (.getfield 22, 3) := by decide +kernel
theorem dX5_add_4 : decode cX5_add 4 = .ok (.bipush 50, 2) := by decide +kernel
theorem dX5_add_6 : decode cX5_add 6 = .ok (.if_icmp .lt 4, 3) := by decide +kernel
theorem dX5_add_9 : decode cX5_add 9 = .ok (.return_, 1) := by decide +kernel
theorem dX5_add_10 : decode cX5_add 10 = .ok (.aload_n 0, 1) := by decide +kernel
theorem dX5_add_11 : decode cX5_add 11 = .ok (.getfield 9, 3) := by decide +kernel
theorem dX5_add_14 : decode cX5_add 14 = .ok (.aload_n 0, 1) := by decide +kernel
theorem dX5_add_15 : decode cX5_add 15 = .ok (.getfield 22, 3) := by decide +kernel
theorem dX5_add_18 : decode cX5_add 18 = .ok (.iload_n 1, 1) := by decide +kernel
theorem dX5_add_19 : decode cX5_add 19 = .ok (.iastore, 1) := by decide +kernel
theorem dX5_add_20 : decode cX5_add 20 = .ok (.aload_n 0, 1) := by decide +kernel
theorem dX5_add_21 : decode cX5_add 21 = .ok (.dup, 1) := by decide +kernel
theorem dX5_add_22 : decode cX5_add 22 = .ok (.getfield 22, 3) := by decide +kernel
theorem dX5_add_25 : decode cX5_add 25 = .ok (.iconst 1, 1) := by decide +kernel
theorem dX5_add_26 : decode cX5_add 26 = .ok (.iadd, 1) := by decide +kernel
theorem dX5_add_27 : decode cX5_add 27 = .ok (.putfield 22, 3) := by decide +kernel
theorem dX5_add_30 : decode cX5_add 30 = .ok (.aload_n 0, 1) := by decide +kernel
theorem dX5_add_31 : decode cX5_add 31 = .ok (.iconst 0, 1) := by decide +kernel
theorem dX5_add_32 : decode cX5_add 32 = .ok (.putfield 25, 3) := by decide +kernel
theorem dX5_add_35 : decode cX5_add 35 = .ok (.aload_n 0, 1) := by decide +kernel
theorem dX5_add_36 : decode cX5_add 36 = .ok (.iconst 0, 1) := by decide +kernel
theorem dX5_add_37 : decode cX5_add 37 = .ok (.putfield 28, 3) := by decide +kernel
theorem dX5_add_40 : decode cX5_add 40 = .ok (.aload_n 0, 1) := by decide +kernel
theorem dX5_add_41 : decode cX5_add 41 = .ok (.iconst 0, 1) := by decide +kernel
theorem dX5_add_42 : decode cX5_add 42 = .ok (.putfield 31, 3) := by decide +kernel
theorem dX5_add_45 : decode cX5_add 45 = .ok (.aload_n 0, 1) := by decide +kernel
theorem dX5_add_46 : decode cX5_add 46 = .ok (.iconst (-1), 1) := by decide +kernel
theorem dX5_add_47 : decode cX5_add 47 = .ok (.putfield 18, 3) := by decide +kernel
theorem dX5_add_50 : decode cX5_add 50 = .ok (.aload_n 0, 1) := by decide +kernel
theorem dX5_add_51 : decode cX5_add 51 = .ok (.iconst 0, 1) := by decide +kernel
theorem dX5_add_52 : decode cX5_add 52 = .ok (.invokevirtual 34, 3) := by decide +kernel
theorem dX5_add_55 : decode cX5_add 55 = .ok (.aload_n 0, 1) := by decide +kernel
theorem dX5_add_56 : decode cX5_add 56 = .ok (.invokevirtual 38, 3) := by decide +kernel
theorem dX5_add_59 : decode cX5_add 59 = .ok (.iconst (-1), 1) := by decide +kernel
theorem dX5_add_60 : decode cX5_add 60 = .ok (.if_icmp .eq 12, 3) := by decide +kernel
theorem dX5_add_63 : decode cX5_add 63 = .ok (.aload_n 0, 1) := by decide +kernel
theorem dX5_add_64 : decode cX5_add 64 = .ok (.aload_n 0, 1) := by decide +kernel
theorem dX5_add_65 : decode cX5_add 65 = .ok (.getfield 28, 3) := by decide +kernel
theorem dX5_add_68 : decode cX5_add 68 = .ok (.iconst 1, 1) := by decide +kernel
theorem dX5_add_69 : decode cX5_add 69 = .ok (.invokevirtual 42, 3) := by decide +kernel
theorem dX5_add_72 : decode cX5_add 72 = .ok (.return_, 1) := by decide +kernel
def kX5_add (live : am_E) (Ret : am_R) : am_code := [(0, am_aload 0 1), (1, am_getI live 5 5 4), (4, am_const (.int 50) 6), (6, am_if2 (fun x y => x < y) 10 9), (9, am_retV Ret), (10, am_aload 0 11), (11, am_getR live 5 0 14), (14, am_aload 0 15), (15, am_getI live 5 5 18), (18, am_iload 1 19), (19, am_ast live 0 20), (20, am_aload 0 21), (21, am_dup 22), (22, am_getI live 5 5 25), (25, am_const (.int 1) 26), (26, am_i2 (fun x y => x + y) 27), (27, am_putI live 5 5 30), (30, am_aload 0 31), (31, am_const (.int 0) 32), (32, am_putI live 5 2 35), (35, am_aload 0 36), (36, am_const (.int 0) 37), (37, am_putI live 5 3 40), (40, am_aload 0 41), (41, am_const (.int 0) 42), (42, am_putI live 5 4 45), (45, am_aload 0 46), (46, am_const (.int (-1)) 47), (47, am_putI live 5 6 50), (50, am_aload 0 51), (51, am_const (.int 0) 52), (52, am_callV live 5 1 (TX5_readValue 41) 55), (55, am_aload 0 56), (56, am_callV live 5 0 TX5_next 59), (59, am_const (.int (-1)) 60), (60, am_if2 (fun x y => x = y) 72 63), (63, am_aload 0 64), (64, am_aload 0 65), (65, am_getI live 5 3 68), (68, am_const (.int 1) 69), (69, am_callV live 5 2 TX5_blame 72), (72, am_retV Ret)]
theorem koX5_add (live : am_E) (Ret : am_R) : ∀ q ∈ kX5_add live Ret, am_ok RX5 cX5_add 2 none 333 8421 live Ret q.1 q.2 :=
  am_kc (ak_aload_n dX5_add_0 rfl rfl) <|
  am_kc (ak_getI (C := RX5) (T := TX5) (N := 7) rfl inX5w (by decide) rfl rfl rfl wd_173 dX5_add_1 rfl) <|
  am_kc (ak_bipush dX5_add_4 (by decide +kernel) rfl) <|
  am_kc (ak_icmp_lt dX5_add_6 (by decide +kernel) rfl) <|
  am_kc (ak_retV dX5_add_9) <|
  am_kc (ak_aload_n dX5_add_10 rfl rfl) <|
  am_kc (ak_getR (C := RX5) (T := TX5) (N := 7) rfl inX5w (by decide) rfl rfl rfl wd_168 dX5_add_11 rfl) <|
  am_kc (ak_aload_n dX5_add_14 rfl rfl) <|
  am_kc (ak_getI (C := RX5) (T := TX5) (N := 7) rfl inX5w (by decide) rfl rfl rfl wd_173 dX5_add_15 rfl) <|
  am_kc (ak_iload_n dX5_add_18 rfl rfl) <|
  am_kc (ak_iast (t := 0) (fun _ => rfl) rfl dX5_add_19 rfl) <|
  am_kc (ak_aload_n dX5_add_20 rfl rfl) <|
  am_kc (ak_dup dX5_add_21 rfl) <|
  am_kc (ak_getI (C := RX5) (T := TX5) (N := 7) rfl inX5w (by decide) rfl rfl rfl wd_173 dX5_add_22 rfl) <|
  am_kc (ak_iconst dX5_add_25 (by decide +kernel) rfl) <|
  am_kc (ak_iadd dX5_add_26 rfl) <|
  am_kc (ak_putI (C := RX5) (T := TX5) (N := 7) rfl inX5w tyX5_ok nmX5 (by decide) rfl rfl rfl rfl (by decide +kernel) wd_173 dX5_add_27 rfl) <|
  am_kc (ak_aload_n dX5_add_30 rfl rfl) <|
  am_kc (ak_iconst dX5_add_31 (by decide +kernel) rfl) <|
  am_kc (ak_putI (C := RX5) (T := TX5) (N := 7) rfl inX5w tyX5_ok nmX5 (by decide) rfl rfl rfl rfl (by decide +kernel) wd_170 dX5_add_32 rfl) <|
  am_kc (ak_aload_n dX5_add_35 rfl rfl) <|
  am_kc (ak_iconst dX5_add_36 (by decide +kernel) rfl) <|
  am_kc (ak_putI (C := RX5) (T := TX5) (N := 7) rfl inX5w tyX5_ok nmX5 (by decide) rfl rfl rfl rfl (by decide +kernel) wd_171 dX5_add_37 rfl) <|
  am_kc (ak_aload_n dX5_add_40 rfl rfl) <|
  am_kc (ak_iconst dX5_add_41 (by decide +kernel) rfl) <|
  am_kc (ak_putI (C := RX5) (T := TX5) (N := 7) rfl inX5w tyX5_ok nmX5 (by decide) rfl rfl rfl rfl (by decide +kernel) wd_172 dX5_add_42 rfl) <|
  am_kc (ak_aload_n dX5_add_45 rfl rfl) <|
  am_kc (ak_iconst dX5_add_46 (by decide +kernel) rfl) <|
  am_kc (ak_putI (C := RX5) (T := TX5) (N := 7) rfl inX5w tyX5_ok nmX5 (by decide) rfl rfl rfl rfl (by decide +kernel) wd_175 dX5_add_47 rfl) <|
  am_kc (ak_aload_n dX5_add_50 rfl rfl) <|
  am_kc (ak_iconst dX5_add_51 (by decide +kernel) rfl) <|
  am_kc (ak_callV (C := RX5) (F := TX5) (N := 7) (metX5_readValue 41) rfl ⟨rfl, by decide +kernel, by decide +kernel, by decide +kernel⟩ (am_w5 wd_669 wd_671 wd_13 wd_65 wd_672) (by omega) dX5_add_52 rfl) <|
  am_kc (ak_aload_n dX5_add_55 rfl rfl) <|
  am_kc (ak_callV (C := RX5) (F := TX5) (N := 7) metX5_next rfl ⟨rfl, by decide +kernel, by decide +kernel, by decide +kernel⟩ (am_w5 wd_685 wd_687 wd_17 wd_65 wd_688) (by decide) dX5_add_56 rfl) <|
  am_kc (ak_iconst dX5_add_59 (by decide +kernel) rfl) <|
  am_kc (ak_icmp_eq dX5_add_60 (by decide +kernel) rfl) <|
  am_kc (ak_aload_n dX5_add_63 rfl rfl) <|
  am_kc (ak_aload_n dX5_add_64 rfl rfl) <|
  am_kc (ak_getI (C := RX5) (T := TX5) (N := 7) rfl inX5w (by decide) rfl rfl rfl wd_171 dX5_add_65 rfl) <|
  am_kc (ak_iconst dX5_add_68 (by decide +kernel) rfl) <|
  am_kc (ak_callV (C := RX5) (F := TX5) (N := 7) metX5_blame rfl ⟨rfl, by decide +kernel, by decide +kernel, by decide +kernel⟩ (am_w5 wd_673 wd_675 wd_14 wd_65 wd_676) (by decide) dX5_add_69 rfl) <|
  am_kc (ak_retV dX5_add_72) <| am_kn
def TX5_add : am_T := fun live as M R => match as with
  | [.ref t, .int g] => am_tP live t (fun s c => am_t0 M t ∧ ((M.1 t 5).toInt < 50 → ∀ M', am_ch (am_tS t c) (am_wI (am_wI M s (M.1 t 5).toNatClampNeg g) t 5 (M.1 t 5 + 1)) M' → am_t0 M' t → R none M') ∧ (50 ≤ (M.1 t 5).toInt → R none M))
  | _ => False
set_option maxRecDepth 100000 in
set_option maxHeartbeats 4000000 in
theorem metX5_add : am_Met yX5_add cX5_add 2 none (333) (8421) TX5_add := by
  refine am_met (own := RX5) (by decide +kernel) rfl kX5_add koX5_add 120 (fun _ _ _ _ _ => none) (fun live as M Ret h => ?_) (fun _ _ _ _ _ _ _ _ hI => by cases hI)
  unfold TX5_add at h
  split at h
  · next t g =>
    refine ⟨Nat.le_of_ble_eq_true rfl, ?_⟩
    change am_wp _ _ _ _ [(0, Value.ref t), (1, Value.int g)] _ _
    have hh := am_tP_mp h
    clear h
    obtain ⟨s, c, h2, h6, hb, h1, h3, h7, h4, h8, h9, h5, h10, hT, h, hn⟩ := hh
    repeat' (first | exact rfl | (with_reducible exact h1) | (with_reducible exact h2) | (with_reducible exact h3) | (with_reducible exact hb) | (with_reducible exact h6) | (with_reducible exact h7) | (refine Exists.intro _ (Exists.intro _ (And.intro h2 (And.intro h6 ?_)))) | (refine Exists.intro _ (And.intro h2 ?_)) | (refine Exists.intro _ (And.intro h6 ?_)) | apply And.intro | intro hx | (refine Exists.intro _ (And.intro rfl ?_)) | ((with_reducible change _ = true); simp only [h1, h2, h3, hb, h6, h7, Bool.true_and]; rfl))
    all_goals try first | (with_reducible change am_tI _ _) | (change Ret _ _) | (change Ret _ _ _) | (change Exists _)
    all_goals try dsimp only at *
    all_goals try exact absurd ‹(1000 : Int64) = 0› (by decide)
    all_goals obtain ⟨-, q1, q2⟩ := hT
    all_goals have e5 : ∀ k, (am_wI M s k g).1 t 5 = M.1 t 5 := fun k => by rw [am_wI_1, if_neg (fun z => h5 z.1)]
    · omega
    · rw [h4]; simp only [i_lt, Int32.reduceToInt] at hx; omega
    · simp only [i_lt, Int32.reduceToInt] at hx
      have hi := i_add (x := M.1 t 5) (y := 1) (by simp only [Int32.reduceToInt]; omega) (by simp only [Int32.reduceToInt]; omega)
      simp only [Int32.reduceToInt] at hi
      refine am_tI_of ?_ ?_ ?_ ?_ ?_
      all_goals simp [am_wI_1, h5, -Int32.toInt_add]
      all_goals omega
    · decide
    · decide
    · decide
    · with_reducible assumption
    · rename_i hlt M1 c1 i1 p hp
      simp only [i_lt, Int32.reduceToInt] at hlt
      rw [e5] at c1
      exact h (by omega) _ ((((((am_ch.rf.wI am_tS_2).wI am_tS_3).wI am_tS_4).wI am_tS_6).tr c1).wI am_tS_3) (am_t0_I (am_tI_w3 i1 hp))
    · rename_i hlt M1 c1 i1 p hp
      simp only [i_lt, Int32.reduceToInt] at hlt
      rw [e5] at c1
      exact h (by omega) _ (am_ch_blame ((((((am_ch.rf.wI am_tS_2).wI am_tS_3).wI am_tS_4).wI am_tS_6).tr c1).wI am_tS_3)) (am_t0_I (am_tI_blame (am_tI_w3 i1 hp)))
    · simp only [i_lt, Int32.reduceToInt] at hx
      exact hn (by omega)
  · exact h.elim
theorem dX5_clear_0 : decode cX5_clear 0 = .ok (.aload_n 0, 1) := by decide +kernel
theorem dX5_clear_1 : decode cX5_clear 1 = .ok (.iconst 0, 1) := by decide +kernel
theorem dX5_clear_2 : decode cX5_clear 2 = .ok (.putfield 22, 3) := by decide +kernel
theorem dX5_clear_5 : decode cX5_clear 5 = .ok (.aload_n 0, 1) := by decide +kernel
theorem dX5_clear_6 : decode cX5_clear 6 = .ok (.iconst 0, 1) := by decide +kernel
theorem dX5_clear_7 : decode cX5_clear 7 = .ok (.putfield 25, 3) := by decide +kernel
theorem dX5_clear_10 : decode cX5_clear 10 = .ok (.aload_n 0, 1) := by decide +kernel
theorem dX5_clear_11 : decode cX5_clear 11 = .ok (.iconst 1, 1) := by decide +kernel
theorem dX5_clear_12 : decode cX5_clear 12 = .ok (.putfield 18, 3) := by decide +kernel
theorem dX5_clear_15 : decode cX5_clear 15 = .ok (.return_, 1) := by decide +kernel
def kX5_clear (live : am_E) (Ret : am_R) : am_code := [(0, am_aload 0 1), (1, am_const (.int 0) 2), (2, am_putI live 5 5 5), (5, am_aload 0 6), (6, am_const (.int 0) 7), (7, am_putI live 5 2 10), (10, am_aload 0 11), (11, am_const (.int 1) 12), (12, am_putI live 5 6 15), (15, am_retV Ret)]
theorem koX5_clear (live : am_E) (Ret : am_R) : ∀ q ∈ kX5_clear live Ret, am_ok RX5 cX5_clear 1 none 0 0 live Ret q.1 q.2 :=
  am_kc (ak_aload_n dX5_clear_0 rfl rfl) <|
  am_kc (ak_iconst dX5_clear_1 (by decide +kernel) rfl) <|
  am_kc (ak_putI (C := RX5) (T := TX5) (N := 7) rfl inX5w tyX5_ok nmX5 (by decide) rfl rfl rfl rfl (by decide +kernel) wd_173 dX5_clear_2 rfl) <|
  am_kc (ak_aload_n dX5_clear_5 rfl rfl) <|
  am_kc (ak_iconst dX5_clear_6 (by decide +kernel) rfl) <|
  am_kc (ak_putI (C := RX5) (T := TX5) (N := 7) rfl inX5w tyX5_ok nmX5 (by decide) rfl rfl rfl rfl (by decide +kernel) wd_170 dX5_clear_7 rfl) <|
  am_kc (ak_aload_n dX5_clear_10 rfl rfl) <|
  am_kc (ak_iconst dX5_clear_11 (by decide +kernel) rfl) <|
  am_kc (ak_putI (C := RX5) (T := TX5) (N := 7) rfl inX5w tyX5_ok nmX5 (by decide) rfl rfl rfl rfl (by decide +kernel) wd_175 dX5_clear_12 rfl) <|
  am_kc (ak_retV dX5_clear_15) <| am_kn
def TX5_clear : am_T := fun live as M R => match as with
  | [.ref t] => am_if (am_isO live 5 t) (R none (am_wI (am_wI (am_wI M t 5 0) t 2 0) t 6 1))
  | _ => False
set_option maxRecDepth 100000 in
set_option maxHeartbeats 4000000 in
theorem metX5_clear : am_Met yX5_clear cX5_clear 1 none (0) (0) TX5_clear := by
  refine am_met (own := RX5) (by decide +kernel) rfl kX5_clear koX5_clear 60 (fun _ _ _ _ _ => none) (fun live as M Ret h => ?_) (fun _ _ _ _ _ _ _ _ hI => by cases hI)
  unfold TX5_clear at h
  split at h
  · next t =>
    refine ⟨Nat.le_of_ble_eq_true rfl, ?_⟩
    change am_wp _ _ _ _ [(0, Value.ref t)] _ _
    have hh := am_if_mp h
    clear h
    obtain ⟨h1, h⟩ := hh
    repeat' (first | exact rfl | (with_reducible exact h1) | apply And.intro | intro hx | (refine Exists.intro _ (And.intro rfl ?_)) | ((with_reducible change _ = true); simp only [h1, Bool.true_and]; rfl))
    all_goals try first | (with_reducible change am_tI _ _) | (change Ret _ _) | (change Ret _ _ _) | (change Exists _)
    all_goals try dsimp only at *
    all_goals try exact absurd ‹(1000 : Int64) = 0› (by decide)
    exact h
  · exact h.elim
theorem wd_885 : Cond.constantLong "LearnLoans$Text" 52 31 ∈ am_ws := am_wsi (List.mem_of_getElem? (i := 885) (by decide +kernel)) (by decide +kernel)
theorem dX5_mixed_0 : decode cX5_mixed 0 = .ok (.ldc2_w 52, 3) := by decide +kernel
theorem dX5_mixed_3 : decode cX5_mixed 3 = .ok (.lload_n 1, 1) := by decide +kernel
theorem dX5_mixed_4 : decode cX5_mixed 4 = .ok (.lmul, 1) := by decide +kernel
theorem dX5_mixed_5 : decode cX5_mixed 5 = .ok (.aload_n 0, 1) := by decide +kernel
theorem dX5_mixed_6 : decode cX5_mixed 6 = .ok (.getfield 22, 3) := by decide +kernel
theorem dX5_mixed_9 : decode cX5_mixed 9 = .ok (.i2l, 1) := by decide +kernel
theorem dX5_mixed_10 : decode cX5_mixed 10 = .ok (.ladd, 1) := by decide +kernel
theorem dX5_mixed_11 : decode cX5_mixed 11 = .ok (.lstore_n 1, 1) := by decide +kernel
theorem dX5_mixed_12 : decode cX5_mixed 12 = .ok (.iconst 0, 1) := by decide +kernel
theorem dX5_mixed_13 : decode cX5_mixed 13 = .ok (.istore_n 3, 1) := by decide +kernel
theorem dX5_mixed_14 : decode cX5_mixed 14 = .ok (.iload_n 3, 1) := by decide +kernel
theorem dX5_mixed_15 : decode cX5_mixed 15 = .ok (.aload_n 0, 1) := by decide +kernel
theorem dX5_mixed_16 : decode cX5_mixed 16 = .ok (.getfield 22, 3) := by decide +kernel
theorem dX5_mixed_19 : decode cX5_mixed 19 = .ok (.if_icmp .ge 29, 3) := by decide +kernel
theorem dX5_mixed_22 : decode cX5_mixed 22 = .ok (.iload_n 3, 1) := by decide +kernel
theorem dX5_mixed_23 : decode cX5_mixed 23 = .ok (.bipush 50, 2) := by decide +kernel
theorem dX5_mixed_25 : decode cX5_mixed 25 = .ok (.if_icmp .ge 23, 3) := by decide +kernel
theorem dX5_mixed_28 : decode cX5_mixed 28 = .ok (.ldc2_w 52, 3) := by decide +kernel
theorem dX5_mixed_31 : decode cX5_mixed 31 = .ok (.lload_n 1, 1) := by decide +kernel
theorem dX5_mixed_32 : decode cX5_mixed 32 = .ok (.lmul, 1) := by decide +kernel
theorem dX5_mixed_33 : decode cX5_mixed 33 = .ok (.aload_n 0, 1) := by decide +kernel
theorem dX5_mixed_34 : decode cX5_mixed 34 = .ok (.getfield 9, 3) := by decide +kernel
theorem dX5_mixed_37 : decode cX5_mixed 37 = .ok (.iload_n 3, 1) := by decide +kernel
theorem dX5_mixed_38 : decode cX5_mixed 38 = .ok (.iaload, 1) := by decide +kernel
theorem dX5_mixed_39 : decode cX5_mixed 39 = .ok (.i2l, 1) := by decide +kernel
theorem dX5_mixed_40 : decode cX5_mixed 40 = .ok (.ladd, 1) := by decide +kernel
theorem dX5_mixed_41 : decode cX5_mixed 41 = .ok (.lstore_n 1, 1) := by decide +kernel
theorem dX5_mixed_42 : decode cX5_mixed 42 = .ok (.iinc 3 1, 3) := by decide +kernel
theorem dX5_mixed_45 : decode cX5_mixed 45 = .ok (.goto (-31), 3) := by decide +kernel
theorem dX5_mixed_48 : decode cX5_mixed 48 = .ok (.lload_n 1, 1) := by decide +kernel
theorem dX5_mixed_49 : decode cX5_mixed 49 = .ok (.lreturn, 1) := by decide +kernel
def kX5_mixed (live : am_E) (Ret : am_R) : am_code := [(0, am_const (.long 31) 3), (3, am_lload 1 4), (4, am_l2 (fun x y => x * y) 5), (5, am_aload 0 6), (6, am_getI live 5 5 9), (9, am_i2l 10), (10, am_l2 (fun x y => x + y) 11), (11, am_lstore 1 4 12), (12, am_const (.int 0) 13), (13, am_istore 3 4 14), (14, am_iload 3 15), (15, am_aload 0 16), (16, am_getI live 5 5 19), (19, am_if2 (fun x y => y ≤ x) 48 22), (22, am_iload 3 23), (23, am_const (.int 50) 25), (25, am_if2 (fun x y => y ≤ x) 48 28), (28, am_const (.long 31) 31), (31, am_lload 1 32), (32, am_l2 (fun x y => x * y) 33), (33, am_aload 0 34), (34, am_getR live 5 0 37), (37, am_iload 3 38), (38, am_ald live 0 39), (39, am_i2l 40), (40, am_l2 (fun x y => x + y) 41), (41, am_lstore 1 4 42), (42, am_iinc 3 4 1 45), (45, am_goto 14), (48, am_lload 1 49), (49, am_retL Ret)]
theorem koX5_mixed (live : am_E) (Ret : am_R) : ∀ q ∈ kX5_mixed live Ret, am_ok RX5 cX5_mixed 4 (some .long) 0 0 live Ret q.1 q.2 :=
  am_kc (ak_ldc2 wd_885 dX5_mixed_0 rfl) <|
  am_kc (ak_lload_n dX5_mixed_3 rfl rfl) <|
  am_kc (ak_lmul dX5_mixed_4 rfl) <|
  am_kc (ak_aload_n dX5_mixed_5 rfl rfl) <|
  am_kc (ak_getI (C := RX5) (T := TX5) (N := 7) rfl inX5w (by decide) rfl rfl rfl wd_173 dX5_mixed_6 rfl) <|
  am_kc (ak_i2l dX5_mixed_9 rfl) <|
  am_kc (ak_ladd dX5_mixed_10 rfl) <|
  am_kc (ak_lstore_n dX5_mixed_11 rfl rfl) <|
  am_kc (ak_iconst dX5_mixed_12 (by decide +kernel) rfl) <|
  am_kc (ak_istore_n dX5_mixed_13 rfl rfl) <|
  am_kc (ak_iload_n dX5_mixed_14 rfl rfl) <|
  am_kc (ak_aload_n dX5_mixed_15 rfl rfl) <|
  am_kc (ak_getI (C := RX5) (T := TX5) (N := 7) rfl inX5w (by decide) rfl rfl rfl wd_173 dX5_mixed_16 rfl) <|
  am_kc (ak_icmp_ge dX5_mixed_19 (by decide +kernel) rfl) <|
  am_kc (ak_iload_n dX5_mixed_22 rfl rfl) <|
  am_kc (ak_bipush dX5_mixed_23 (by decide +kernel) rfl) <|
  am_kc (ak_icmp_ge dX5_mixed_25 (by decide +kernel) rfl) <|
  am_kc (ak_ldc2 wd_885 dX5_mixed_28 rfl) <|
  am_kc (ak_lload_n dX5_mixed_31 rfl rfl) <|
  am_kc (ak_lmul dX5_mixed_32 rfl) <|
  am_kc (ak_aload_n dX5_mixed_33 rfl rfl) <|
  am_kc (ak_getR (C := RX5) (T := TX5) (N := 7) rfl inX5w (by decide) rfl rfl rfl wd_168 dX5_mixed_34 rfl) <|
  am_kc (ak_iload_n dX5_mixed_37 rfl rfl) <|
  am_kc (ak_iald (t := 0) (fun _ => rfl) rfl dX5_mixed_38 rfl) <|
  am_kc (ak_i2l dX5_mixed_39 rfl) <|
  am_kc (ak_ladd dX5_mixed_40 rfl) <|
  am_kc (ak_lstore_n dX5_mixed_41 rfl rfl) <|
  am_kc (ak_iinc dX5_mixed_42 (by decide +kernel) rfl) <|
  am_kc (ak_goto dX5_mixed_45 (by decide +kernel)) <|
  am_kc (ak_lload_n dX5_mixed_48 rfl rfl) <|
  am_kc (ak_retL dX5_mixed_49) <| am_kn
def TX5_mixed : am_T := fun live as M R => match as with
  | [.ref t, .long x] => am_tP live t (fun s c => ∀ y, R (some (.long y)) M)
  | _ => False
def JX5_mixed : am_E → List Value → am_M → am_R → am_inv := fun live as M0 _ pc => match as with
  | [.ref t, .long x] => (match pc with
    | 14 => some ([0, 1, 3], fun k L st M => ∃ (y : Int64) (i : Int32), L = [(0, .ref t), (1, .long y), (3, .int i)] ∧ st = [] ∧ k = ((51 - i.toInt).toNat, 0) ∧ 0 ≤ i.toInt ∧ M = M0)
    | _ => none)
  | _ => none
set_option maxRecDepth 100000 in
set_option maxHeartbeats 4000000 in
theorem metX5_mixed : am_Met yX5_mixed cX5_mixed 4 (some .long) (0) (0) TX5_mixed := by
  refine am_met (own := RX5) (by decide +kernel) rfl kX5_mixed koX5_mixed 60 JX5_mixed ?_ ?_
  · intro live as M Ret h
    unfold TX5_mixed at h
    split at h
    · next t x =>
      refine ⟨Nat.le_of_ble_eq_true rfl, ?_⟩
      change am_wp _ _ _ _ [(0, Value.ref t), (1, Value.long x)] _ _
      have hh := am_tP_mp h
      clear h
      obtain ⟨s, c, h2, h6, hb, h1, h3, h7, h4, h8, h9, h5, h10, h⟩ := hh
      repeat' (first | exact rfl | (with_reducible exact h1) | (with_reducible exact h2) | (with_reducible exact h3) | (with_reducible exact hb) | (with_reducible exact h6) | (with_reducible exact h7) | (refine Exists.intro _ (Exists.intro _ (And.intro h2 (And.intro h6 ?_)))) | (refine Exists.intro _ (And.intro h2 ?_)) | (refine Exists.intro _ (And.intro h6 ?_)) | apply And.intro | intro hx | (refine Exists.intro _ (And.intro rfl ?_)) | ((with_reducible change _ = true); simp only [h1, h2, h3, hb, h6, h7, Bool.true_and]; rfl))
      all_goals try first | (with_reducible change am_tI _ _) | (change Ret _ _) | (change Ret _ _ _) | (change Exists _)
      all_goals try dsimp only at *
      all_goals try exact absurd ‹(1000 : Int64) = 0› (by decide)
      exact ⟨_, _, _, rfl, rfl, rfl, by decide, rfl⟩
    · exact h.elim
  · intro live as M0 Ret h k pc I hI L st M hi
    unfold TX5_mixed at h
    split at h
    · next t x =>
      have hh := am_tP_mp h
      clear h
      obtain ⟨s, c, h2, h6, hb, h1, h3, h7, h4, h8, h9, h5, h10, h⟩ := hh
      change (match pc with | 14 => _ | _ => none) = _ at hI
      split at hI
      · cases hI
        obtain ⟨y, i, rfl, rfl, rfl, e1, rfl⟩ := hi
        repeat' (first | exact rfl | (with_reducible exact h1) | (with_reducible exact h2) | (with_reducible exact h3) | (with_reducible exact hb) | (with_reducible exact h6) | (with_reducible exact h7) | (refine Exists.intro _ (Exists.intro _ (And.intro h2 (And.intro h6 ?_)))) | (refine Exists.intro _ (And.intro h2 ?_)) | (refine Exists.intro _ (And.intro h6 ?_)) | apply And.intro | intro hx | (refine Exists.intro _ (And.intro rfl ?_)) | ((with_reducible change _ = true); simp only [h1, h2, h3, hb, h6, h7, Bool.true_and]; rfl))
        all_goals try first | (with_reducible change am_tI _ _) | (change Ret _ _) | (change Ret _ _ _) | (change Exists _)
        all_goals try dsimp only at *
        all_goals try exact absurd ‹(1000 : Int64) = 0› (by decide)
        all_goals try exact h _
        · omega
        · simp only [i_le, Int32.reduceToInt] at hx; rw [h4]; omega
        · refine ⟨_, Or.inl ?_, _, i + 1, rfl, rfl, rfl, ?_, rfl⟩
          all_goals simp only [i_le, Int32.reduceToInt] at hx
          all_goals
            have hi := i_add (x := i) (y := 1) (by simp only [Int32.reduceToInt]; omega) (by simp only [Int32.reduceToInt]; omega)
            simp only [Int32.reduceToInt] at hi
            omega
      · cases hI
    · exact h.elim
end
section
/-! Text: worked -/
theorem wd_596 : Cond.methodLink "LearnLoans$Text" 86 yX1_valueOf ∈ am_ws := am_wsi (List.mem_of_getElem? (i := 596) (by decide +kernel)) (by decide +kernel)
theorem wd_597 : Cond.instanceMethod yX1_valueOf ∈ am_ws := am_wsi (List.mem_of_getElem? (i := 597) (by decide +kernel)) (by decide +kernel)
theorem wd_598 : Cond.selects "LearnLoans$Letters" yX1_valueOf yX1_valueOf ∈ am_ws := am_wsi (List.mem_of_getElem? (i := 598) (by decide +kernel)) (by decide +kernel)
theorem wd_66 : Cond.initialized "LearnLoans$Letters" ∈ am_ws := am_wsi (List.mem_of_getElem? (i := 66) (by decide +kernel)) (by decide +kernel)
theorem wd_599 : Cond.code yX1_valueOf cX1_valueOf 2 (some .long) ∈ am_ws := am_wsi (List.mem_of_getElem? (i := 599) (by decide +kernel)) (by decide +kernel)
theorem wd_600 : Cond.methodLink "LearnLoans$Text" 92 yX5_joined ∈ am_ws := am_wsi (List.mem_of_getElem? (i := 600) (by decide +kernel)) (by decide +kernel)
theorem wd_601 : Cond.static yX5_joined ∈ am_ws := am_wsi (List.mem_of_getElem? (i := 601) (by decide +kernel)) (by decide +kernel)
theorem wd_602 : Cond.code yX5_joined cX5_joined 5 (some .long) ∈ am_ws := am_wsi (List.mem_of_getElem? (i := 602) (by decide +kernel)) (by decide +kernel)
theorem dX5_worked_0 : decode cX5_worked 0 = .ok (.iconst 0, 1) := by decide +kernel
theorem dX5_worked_1 : decode cX5_worked 1 = .ok (.istore_n 3, 1) := by decide +kernel
theorem dX5_worked_2 : decode cX5_worked 2 = .ok (.iconst 0, 1) := by decide +kernel
theorem dX5_worked_3 : decode cX5_worked 3 = .ok (.istore 4, 2) := by decide +kernel
theorem dX5_worked_5 : decode cX5_worked 5 = .ok (.iload 4, 2) := by decide +kernel
theorem dX5_worked_7 : decode cX5_worked 7 = .ok (.aload_n 0, 1) := by decide +kernel
theorem dX5_worked_8 : decode cX5_worked 8 = .ok (.getfield 25, 3) := by decide +kernel
theorem dX5_worked_11 : decode cX5_worked 11 = .ok (.if_icmp .ge 189, 3) := by decide +kernel
theorem dX5_worked_14 : decode cX5_worked 14 = .ok (.iload 4, 2) := by decide +kernel
theorem dX5_worked_16 : decode cX5_worked 16 = .ok (.bipush 50, 2) := by decide +kernel
theorem dX5_worked_18 : decode cX5_worked 18 = .ok (.if_icmp .ge 182, 3) := by decide +kernel
theorem dX5_worked_21 : decode cX5_worked 21 = .ok (.aload_n 0, 1) := by decide +kernel
theorem dX5_worked_22 : decode cX5_worked 22 = .ok (.getfield 15, 3) := by decide +kernel
theorem dX5_worked_25 : decode cX5_worked 25 = .ok (.iload 4, 2) := by decide +kernel
theorem dX5_worked_27 : decode cX5_worked 27 = .ok (.iaload, 1) := by decide +kernel
theorem dX5_worked_28 : decode cX5_worked 28 = .ok (.istore 5, 2) := by decide +kernel
theorem dX5_worked_30 : decode cX5_worked 30 = .ok (.iload 5, 2) := by decide +kernel
theorem dX5_worked_32 : decode cX5_worked 32 = .ok (.ifCond .lt 7, 3) := by decide +kernel
theorem dX5_worked_35 : decode cX5_worked 35 = .ok (.iconst 0, 1) := by decide +kernel
theorem dX5_worked_36 : decode cX5_worked 36 = .ok (.goto 9, 3) := by decide +kernel
theorem dX5_worked_39 : decode cX5_worked 39 = .ok (.iload 5, 2) := by decide +kernel
theorem dX5_worked_41 : decode cX5_worked 41 = .ok (.ineg, 1) := by decide +kernel
theorem dX5_worked_42 : decode cX5_worked 42 = .ok (.invokestatic 83, 3) := by decide +kernel
theorem dX5_worked_45 : decode cX5_worked 45 = .ok (.istore 6, 2) := by decide +kernel
theorem dX5_worked_47 : decode cX5_worked 47 = .ok (.iload_n 3, 1) := by decide +kernel
theorem dX5_worked_48 : decode cX5_worked 48 = .ok (.iload 6, 2) := by decide +kernel
theorem dX5_worked_50 : decode cX5_worked 50 = .ok (.if_icmp .lt 12, 3) := by decide +kernel
theorem dX5_worked_53 : decode cX5_worked 53 = .ok (.iload_n 3, 1) := by decide +kernel
theorem dX5_worked_54 : decode cX5_worked 54 = .ok (.iload 6, 2) := by decide +kernel
theorem dX5_worked_56 : decode cX5_worked 56 = .ok (.isub, 1) := by decide +kernel
theorem dX5_worked_57 : decode cX5_worked 57 = .ok (.aload_n 2, 1) := by decide +kernel
theorem dX5_worked_58 : decode cX5_worked 58 = .ok (.arraylength, 1) := by decide +kernel
theorem dX5_worked_59 : decode cX5_worked 59 = .ok (.if_icmp .lt 5, 3) := by decide +kernel
theorem dX5_worked_62 : decode cX5_worked 62 = .ok (.lconst 0, 1) := by decide +kernel
theorem dX5_worked_63 : decode cX5_worked 63 = .ok (.lreturn, 1) := by decide +kernel
theorem dX5_worked_64 : decode cX5_worked 64 = .ok (.iload_n 3, 1) := by decide +kernel
theorem dX5_worked_65 : decode cX5_worked 65 = .ok (.iload 6, 2) := by decide +kernel
theorem dX5_worked_67 : decode cX5_worked 67 = .ok (.isub, 1) := by decide +kernel
theorem dX5_worked_68 : decode cX5_worked 68 = .ok (.istore_n 3, 1) := by decide +kernel
theorem dX5_worked_69 : decode cX5_worked 69 = .ok (.iload 5, 2) := by decide +kernel
theorem dX5_worked_71 : decode cX5_worked 71 = .ok (.ifCond .lt 12, 3) := by decide +kernel
theorem dX5_worked_74 : decode cX5_worked 74 = .ok (.aload_n 2, 1) := by decide +kernel
theorem dX5_worked_75 : decode cX5_worked 75 = .ok (.iload_n 3, 1) := by decide +kernel
theorem dX5_worked_76 : decode cX5_worked 76 = .ok (.iload 5, 2) := by decide +kernel
theorem dX5_worked_78 : decode cX5_worked 78 = .ok (.i2l, 1) := by decide +kernel
theorem dX5_worked_79 : decode cX5_worked 79 = .ok (.lastore, 1) := by decide +kernel
theorem dX5_worked_80 : decode cX5_worked 80 = .ok (.goto 111, 3) := by decide +kernel
theorem dX5_worked_83 : decode cX5_worked 83 = .ok (.iload 6, 2) := by decide +kernel
theorem dX5_worked_85 : decode cX5_worked 85 = .ok (.ifCond .ne 16, 3) := by decide +kernel
theorem dX5_worked_88 : decode cX5_worked 88 = .ok (.aload_n 2, 1) := by decide +kernel
theorem dX5_worked_89 : decode cX5_worked 89 = .ok (.iload_n 3, 1) := by decide +kernel
theorem dX5_worked_90 : decode cX5_worked 90 = .ok (.aload_n 1, 1) := by decide +kernel
theorem dX5_worked_91 : decode cX5_worked 91 = .ok (.iload 5, 2) := by decide +kernel
theorem dX5_worked_93 : decode cX5_worked 93 = .ok (.ineg, 1) := by decide +kernel
theorem dX5_worked_94 : decode cX5_worked 94 = .ok (.invokevirtual 86, 3) := by decide +kernel
theorem dX5_worked_97 : decode cX5_worked 97 = .ok (.lastore, 1) := by decide +kernel
theorem dX5_worked_98 : decode cX5_worked 98 = .ok (.goto 93, 3) := by decide +kernel
theorem dX5_worked_101 : decode cX5_worked 101 = .ok (.iload 6, 2) := by decide +kernel
theorem dX5_worked_103 : decode cX5_worked 103 = .ok (.iconst 1, 1) := by decide +kernel
theorem dX5_worked_104 : decode cX5_worked 104 = .ok (.if_icmp .ne 37, 3) := by decide +kernel
theorem dX5_worked_107 : decode cX5_worked 107 = .ok (.aload_n 2, 1) := by decide +kernel
theorem dX5_worked_108 : decode cX5_worked 108 = .ok (.iload_n 3, 1) := by decide +kernel
theorem dX5_worked_109 : decode cX5_worked 109 = .ok (.iload 5, 2) := by decide +kernel
theorem dX5_worked_111 : decode cX5_worked 111 = .ok (.bipush (-33), 2) := by decide +kernel
theorem dX5_worked_113 : decode cX5_worked 113 = .ok (.if_icmp .ne 20, 3) := by decide +kernel
theorem dX5_worked_116 : decode cX5_worked 116 = .ok (.aload_n 2, 1) := by decide +kernel
theorem dX5_worked_117 : decode cX5_worked 117 = .ok (.iload_n 3, 1) := by decide +kernel
theorem dX5_worked_118 : decode cX5_worked 118 = .ok (.laload, 1) := by decide +kernel
theorem dX5_worked_119 : decode cX5_worked 119 = .ok (.lconst 0, 1) := by decide +kernel
theorem dX5_worked_120 : decode cX5_worked 120 = .ok (.lcmp, 1) := by decide +kernel
theorem dX5_worked_121 : decode cX5_worked 121 = .ok (.ifCond .ne 7, 3) := by decide +kernel
theorem dX5_worked_124 : decode cX5_worked 124 = .ok (.iconst 1, 1) := by decide +kernel
theorem dX5_worked_125 : decode cX5_worked 125 = .ok (.goto 4, 3) := by decide +kernel
theorem dX5_worked_128 : decode cX5_worked 128 = .ok (.iconst 0, 1) := by decide +kernel
theorem dX5_worked_129 : decode cX5_worked 129 = .ok (.i2l, 1) := by decide +kernel
theorem dX5_worked_130 : decode cX5_worked 130 = .ok (.goto 7, 3) := by decide +kernel
theorem dX5_worked_133 : decode cX5_worked 133 = .ok (.aload_n 2, 1) := by decide +kernel
theorem dX5_worked_134 : decode cX5_worked 134 = .ok (.iload_n 3, 1) := by decide +kernel
theorem dX5_worked_135 : decode cX5_worked 135 = .ok (.laload, 1) := by decide +kernel
theorem dX5_worked_136 : decode cX5_worked 136 = .ok (.lneg, 1) := by decide +kernel
theorem dX5_worked_137 : decode cX5_worked 137 = .ok (.lastore, 1) := by decide +kernel
theorem dX5_worked_138 : decode cX5_worked 138 = .ok (.goto 53, 3) := by decide +kernel
theorem dX5_worked_141 : decode cX5_worked 141 = .ok (.iload 6, 2) := by decide +kernel
theorem dX5_worked_143 : decode cX5_worked 143 = .ok (.iconst 2, 1) := by decide +kernel
theorem dX5_worked_144 : decode cX5_worked 144 = .ok (.if_icmp .ne 23, 3) := by decide +kernel
theorem dX5_worked_147 : decode cX5_worked 147 = .ok (.aload_n 2, 1) := by decide +kernel
theorem dX5_worked_148 : decode cX5_worked 148 = .ok (.iload_n 3, 1) := by decide +kernel
theorem dX5_worked_149 : decode cX5_worked 149 = .ok (.iload 5, 2) := by decide +kernel
theorem dX5_worked_151 : decode cX5_worked 151 = .ok (.ineg, 1) := by decide +kernel
theorem dX5_worked_152 : decode cX5_worked 152 = .ok (.aload_n 2, 1) := by decide +kernel
theorem dX5_worked_153 : decode cX5_worked 153 = .ok (.iload_n 3, 1) := by decide +kernel
theorem dX5_worked_154 : decode cX5_worked 154 = .ok (.laload, 1) := by decide +kernel
theorem dX5_worked_155 : decode cX5_worked 155 = .ok (.aload_n 2, 1) := by decide +kernel
theorem dX5_worked_156 : decode cX5_worked 156 = .ok (.iload_n 3, 1) := by decide +kernel
theorem dX5_worked_157 : decode cX5_worked 157 = .ok (.iconst 1, 1) := by decide +kernel
theorem dX5_worked_158 : decode cX5_worked 158 = .ok (.iadd, 1) := by decide +kernel
theorem dX5_worked_159 : decode cX5_worked 159 = .ok (.laload, 1) := by decide +kernel
theorem dX5_worked_160 : decode cX5_worked 160 = .ok (.invokestatic 92, 3) := by decide +kernel
theorem dX5_worked_163 : decode cX5_worked 163 = .ok (.lastore, 1) := by decide +kernel
theorem dX5_worked_164 : decode cX5_worked 164 = .ok (.goto 27, 3) := by decide +kernel
theorem dX5_worked_167 : decode cX5_worked 167 = .ok (.aload_n 2, 1) := by decide +kernel
theorem dX5_worked_168 : decode cX5_worked 168 = .ok (.iload_n 3, 1) := by decide +kernel
theorem dX5_worked_169 : decode cX5_worked 169 = .ok (.aload_n 2, 1) := by decide +kernel
theorem dX5_worked_170 : decode cX5_worked 170 = .ok (.iload_n 3, 1) := by decide +kernel
theorem dX5_worked_171 : decode cX5_worked 171 = .ok (.laload, 1) := by decide +kernel
theorem dX5_worked_172 : decode cX5_worked 172 = .ok (.lconst 0, 1) := by decide +kernel
theorem dX5_worked_173 : decode cX5_worked 173 = .ok (.lcmp, 1) := by decide +kernel
theorem dX5_worked_174 : decode cX5_worked 174 = .ok (.ifCond .eq 11, 3) := by decide +kernel
theorem dX5_worked_177 : decode cX5_worked 177 = .ok (.aload_n 2, 1) := by decide +kernel
theorem dX5_worked_178 : decode cX5_worked 178 = .ok (.iload_n 3, 1) := by decide +kernel
theorem dX5_worked_179 : decode cX5_worked 179 = .ok (.iconst 1, 1) := by decide +kernel
theorem dX5_worked_180 : decode cX5_worked 180 = .ok (.iadd, 1) := by decide +kernel
theorem dX5_worked_181 : decode cX5_worked 181 = .ok (.laload, 1) := by decide +kernel
theorem dX5_worked_182 : decode cX5_worked 182 = .ok (.goto 8, 3) := by decide +kernel
theorem dX5_worked_185 : decode cX5_worked 185 = .ok (.aload_n 2, 1) := by decide +kernel
theorem dX5_worked_186 : decode cX5_worked 186 = .ok (.iload_n 3, 1) := by decide +kernel
theorem dX5_worked_187 : decode cX5_worked 187 = .ok (.iconst 2, 1) := by decide +kernel
theorem dX5_worked_188 : decode cX5_worked 188 = .ok (.iadd, 1) := by decide +kernel
theorem dX5_worked_189 : decode cX5_worked 189 = .ok (.laload, 1) := by decide +kernel
theorem dX5_worked_190 : decode cX5_worked 190 = .ok (.lastore, 1) := by decide +kernel
theorem dX5_worked_191 : decode cX5_worked 191 = .ok (.iinc 3 1, 3) := by decide +kernel
theorem dX5_worked_194 : decode cX5_worked 194 = .ok (.iinc 4 1, 3) := by decide +kernel
theorem dX5_worked_197 : decode cX5_worked 197 = .ok (.goto (-192), 3) := by decide +kernel
theorem dX5_worked_200 : decode cX5_worked 200 = .ok (.iload_n 3, 1) := by decide +kernel
theorem dX5_worked_201 : decode cX5_worked 201 = .ok (.ifCond .le 14, 3) := by decide +kernel
theorem dX5_worked_204 : decode cX5_worked 204 = .ok (.aload_n 2, 1) := by decide +kernel
theorem dX5_worked_205 : decode cX5_worked 205 = .ok (.arraylength, 1) := by decide +kernel
theorem dX5_worked_206 : decode cX5_worked 206 = .ok (.ifCond .le 9, 3) := by decide +kernel
theorem dX5_worked_209 : decode cX5_worked 209 = .ok (.aload_n 2, 1) := by decide +kernel
theorem dX5_worked_210 : decode cX5_worked 210 = .ok (.iconst 0, 1) := by decide +kernel
theorem dX5_worked_211 : decode cX5_worked 211 = .ok (.laload, 1) := by decide +kernel
theorem dX5_worked_212 : decode cX5_worked 212 = .ok (.goto 4, 3) := by decide +kernel
theorem dX5_worked_215 : decode cX5_worked 215 = .ok (.lconst 0, 1) := by decide +kernel
theorem dX5_worked_216 : decode cX5_worked 216 = .ok (.lreturn, 1) := by decide +kernel
def kX5_worked (live : am_E) (Ret : am_R) : am_code := [(0, am_const (.int 0) 1), (1, am_istore 3 7 2), (2, am_const (.int 0) 3), (3, am_istore 4 7 5), (5, am_iload 4 7), (7, am_aload 0 8), (8, am_getI live 5 2 11), (11, am_if2 (fun x y => y ≤ x) 200 14), (14, am_iload 4 16), (16, am_const (.int 50) 18), (18, am_if2 (fun x y => y ≤ x) 200 21), (21, am_aload 0 22), (22, am_getR live 5 1 25), (25, am_iload 4 27), (27, am_ald live 0 28), (28, am_istore 5 7 30), (30, am_iload 5 32), (32, am_if1 (fun x => x < 0) 39 35), (35, am_const (.int 0) 36), (36, am_goto 45), (39, am_iload 5 41), (41, am_i1 (fun x => -x) 42), (42, am_callS live 1 TX5_operands 45), (45, am_istore 6 7 47), (47, am_iload 3 48), (48, am_iload 6 50), (50, am_if2 (fun x y => x < y) 62 53), (53, am_iload 3 54), (54, am_iload 6 56), (56, am_i2 (fun x y => x - y) 57), (57, am_aload 2 58), (58, am_alen live 1 59), (59, am_if2 (fun x y => x < y) 64 62), (62, am_const (.long 0) 63), (63, am_retL Ret), (64, am_iload 3 65), (65, am_iload 6 67), (67, am_i2 (fun x y => x - y) 68), (68, am_istore 3 7 69), (69, am_iload 5 71), (71, am_if1 (fun x => x < 0) 83 74), (74, am_aload 2 75), (75, am_iload 3 76), (76, am_iload 5 78), (78, am_i2l 79), (79, am_last live 1 80), (80, am_goto 191), (83, am_iload 6 85), (85, am_if1 (fun x => x = 0) 88 101), (88, am_aload 2 89), (89, am_iload 3 90), (90, am_aload 1 91), (91, am_iload 5 93), (93, am_i1 (fun x => -x) 94), (94, am_callV live 1 1 TX1_valueOf 97), (97, am_last live 1 98), (98, am_goto 191), (101, am_iload 6 103), (103, am_const (.int 1) 104), (104, am_if2 (fun x y => x = y) 107 141), (107, am_aload 2 108), (108, am_iload 3 109), (109, am_iload 5 111), (111, am_const (.int (-33)) 113), (113, am_if2 (fun x y => x = y) 116 133), (116, am_aload 2 117), (117, am_iload 3 118), (118, am_lald live 1 119), (119, am_const (.long 0) 120), (120, am_lcmp 121), (121, am_if1 (fun x => x = 0) 124 128), (124, am_const (.int 1) 125), (125, am_goto 129), (128, am_const (.int 0) 129), (129, am_i2l 130), (130, am_goto 137), (133, am_aload 2 134), (134, am_iload 3 135), (135, am_lald live 1 136), (136, am_l1 (fun x => -x) 137), (137, am_last live 1 138), (138, am_goto 191), (141, am_iload 6 143), (143, am_const (.int 2) 144), (144, am_if2 (fun x y => x = y) 147 167), (147, am_aload 2 148), (148, am_iload 3 149), (149, am_iload 5 151), (151, am_i1 (fun x => -x) 152), (152, am_aload 2 153), (153, am_iload 3 154), (154, am_lald live 1 155), (155, am_aload 2 156), (156, am_iload 3 157), (157, am_const (.int 1) 158), (158, am_i2 (fun x y => x + y) 159), (159, am_lald live 1 160), (160, am_callS live 3 TX5_joined 163), (163, am_last live 1 164), (164, am_goto 191), (167, am_aload 2 168), (168, am_iload 3 169), (169, am_aload 2 170), (170, am_iload 3 171), (171, am_lald live 1 172), (172, am_const (.long 0) 173), (173, am_lcmp 174), (174, am_if1 (fun x => x = 0) 185 177), (177, am_aload 2 178), (178, am_iload 3 179), (179, am_const (.int 1) 180), (180, am_i2 (fun x y => x + y) 181), (181, am_lald live 1 182), (182, am_goto 190), (185, am_aload 2 186), (186, am_iload 3 187), (187, am_const (.int 2) 188), (188, am_i2 (fun x y => x + y) 189), (189, am_lald live 1 190), (190, am_last live 1 191), (191, am_iinc 3 7 1 194), (194, am_iinc 4 7 1 197), (197, am_goto 5), (200, am_iload 3 201), (201, am_if1 (fun x => x ≤ 0) 215 204), (204, am_aload 2 205), (205, am_alen live 1 206), (206, am_if1 (fun x => x ≤ 0) 215 209), (209, am_aload 2 210), (210, am_const (.int 0) 211), (211, am_lald live 1 212), (212, am_goto 216), (215, am_const (.long 0) 216), (216, am_retL Ret)]
theorem koX5_worked (live : am_E) (Ret : am_R) : ∀ q ∈ kX5_worked live Ret, am_ok RX5 cX5_worked 7 (some .long) 1 24 live Ret q.1 q.2 :=
  am_kc (ak_iconst dX5_worked_0 (by decide +kernel) rfl) <|
  am_kc (ak_istore_n dX5_worked_1 rfl rfl) <|
  am_kc (ak_iconst dX5_worked_2 (by decide +kernel) rfl) <|
  am_kc (ak_istore dX5_worked_3 rfl) <|
  am_kc (ak_iload dX5_worked_5 rfl) <|
  am_kc (ak_aload_n dX5_worked_7 rfl rfl) <|
  am_kc (ak_getI (C := RX5) (T := TX5) (N := 7) rfl inX5w (by decide) rfl rfl rfl wd_170 dX5_worked_8 rfl) <|
  am_kc (ak_icmp_ge dX5_worked_11 (by decide +kernel) rfl) <|
  am_kc (ak_iload dX5_worked_14 rfl) <|
  am_kc (ak_bipush dX5_worked_16 (by decide +kernel) rfl) <|
  am_kc (ak_icmp_ge dX5_worked_18 (by decide +kernel) rfl) <|
  am_kc (ak_aload_n dX5_worked_21 rfl rfl) <|
  am_kc (ak_getR (C := RX5) (T := TX5) (N := 7) rfl inX5w (by decide) rfl rfl rfl wd_169 dX5_worked_22 rfl) <|
  am_kc (ak_iload dX5_worked_25 rfl) <|
  am_kc (ak_iald (t := 0) (fun _ => rfl) rfl dX5_worked_27 rfl) <|
  am_kc (ak_istore dX5_worked_28 rfl) <|
  am_kc (ak_iload dX5_worked_30 rfl) <|
  am_kc (ak_if_lt dX5_worked_32 (by decide +kernel) rfl) <|
  am_kc (ak_iconst dX5_worked_35 (by decide +kernel) rfl) <|
  am_kc (ak_goto dX5_worked_36 (by decide +kernel)) <|
  am_kc (ak_iload dX5_worked_39 rfl) <|
  am_kc (ak_ineg dX5_worked_41 rfl) <|
  am_kc (ak_callS metX5_operands ⟨rfl, by decide +kernel, by decide +kernel, by decide +kernel⟩ (am_w4 wd_593 wd_594 wd_65 wd_595) (by decide) dX5_worked_42 rfl) <|
  am_kc (ak_istore dX5_worked_45 rfl) <|
  am_kc (ak_iload_n dX5_worked_47 rfl rfl) <|
  am_kc (ak_iload dX5_worked_48 rfl) <|
  am_kc (ak_icmp_lt dX5_worked_50 (by decide +kernel) rfl) <|
  am_kc (ak_iload_n dX5_worked_53 rfl rfl) <|
  am_kc (ak_iload dX5_worked_54 rfl) <|
  am_kc (ak_isub dX5_worked_56 rfl) <|
  am_kc (ak_aload_n dX5_worked_57 rfl rfl) <|
  am_kc (ak_alen (t := 1) (fun _ => rfl) dX5_worked_58 rfl) <|
  am_kc (ak_icmp_lt dX5_worked_59 (by decide +kernel) rfl) <|
  am_kc (ak_lconst dX5_worked_62 (by decide +kernel) rfl) <|
  am_kc (ak_retL dX5_worked_63) <|
  am_kc (ak_iload_n dX5_worked_64 rfl rfl) <|
  am_kc (ak_iload dX5_worked_65 rfl) <|
  am_kc (ak_isub dX5_worked_67 rfl) <|
  am_kc (ak_istore_n dX5_worked_68 rfl rfl) <|
  am_kc (ak_iload dX5_worked_69 rfl) <|
  am_kc (ak_if_lt dX5_worked_71 (by decide +kernel) rfl) <|
  am_kc (ak_aload_n dX5_worked_74 rfl rfl) <|
  am_kc (ak_iload_n dX5_worked_75 rfl rfl) <|
  am_kc (ak_iload dX5_worked_76 rfl) <|
  am_kc (ak_i2l dX5_worked_78 rfl) <|
  am_kc (ak_last (t := 1) (fun _ => rfl) rfl dX5_worked_79 rfl) <|
  am_kc (ak_goto dX5_worked_80 (by decide +kernel)) <|
  am_kc (ak_iload dX5_worked_83 rfl) <|
  am_kc (ak_if_ne dX5_worked_85 (by decide +kernel) rfl) <|
  am_kc (ak_aload_n dX5_worked_88 rfl rfl) <|
  am_kc (ak_iload_n dX5_worked_89 rfl rfl) <|
  am_kc (ak_aload_n dX5_worked_90 rfl rfl) <|
  am_kc (ak_iload dX5_worked_91 rfl) <|
  am_kc (ak_ineg dX5_worked_93 rfl) <|
  am_kc (ak_callV (C := RX1) (F := TX1) (N := 7) metX1_valueOf rfl ⟨rfl, by decide +kernel, by decide +kernel, by decide +kernel⟩ (am_w5 wd_596 wd_597 wd_598 wd_66 wd_599) (by decide) dX5_worked_94 rfl) <|
  am_kc (ak_last (t := 1) (fun _ => rfl) rfl dX5_worked_97 rfl) <|
  am_kc (ak_goto dX5_worked_98 (by decide +kernel)) <|
  am_kc (ak_iload dX5_worked_101 rfl) <|
  am_kc (ak_iconst dX5_worked_103 (by decide +kernel) rfl) <|
  am_kc (ak_icmp_ne dX5_worked_104 (by decide +kernel) rfl) <|
  am_kc (ak_aload_n dX5_worked_107 rfl rfl) <|
  am_kc (ak_iload_n dX5_worked_108 rfl rfl) <|
  am_kc (ak_iload dX5_worked_109 rfl) <|
  am_kc (ak_bipush dX5_worked_111 (by decide +kernel) rfl) <|
  am_kc (ak_icmp_ne dX5_worked_113 (by decide +kernel) rfl) <|
  am_kc (ak_aload_n dX5_worked_116 rfl rfl) <|
  am_kc (ak_iload_n dX5_worked_117 rfl rfl) <|
  am_kc (ak_lald (t := 1) (fun _ => rfl) rfl dX5_worked_118 rfl) <|
  am_kc (ak_lconst dX5_worked_119 (by decide +kernel) rfl) <|
  am_kc (ak_lcmp dX5_worked_120 rfl) <|
  am_kc (ak_if_ne dX5_worked_121 (by decide +kernel) rfl) <|
  am_kc (ak_iconst dX5_worked_124 (by decide +kernel) rfl) <|
  am_kc (ak_goto dX5_worked_125 (by decide +kernel)) <|
  am_kc (ak_iconst dX5_worked_128 (by decide +kernel) rfl) <|
  am_kc (ak_i2l dX5_worked_129 rfl) <|
  am_kc (ak_goto dX5_worked_130 (by decide +kernel)) <|
  am_kc (ak_aload_n dX5_worked_133 rfl rfl) <|
  am_kc (ak_iload_n dX5_worked_134 rfl rfl) <|
  am_kc (ak_lald (t := 1) (fun _ => rfl) rfl dX5_worked_135 rfl) <|
  am_kc (ak_lneg dX5_worked_136 rfl) <|
  am_kc (ak_last (t := 1) (fun _ => rfl) rfl dX5_worked_137 rfl) <|
  am_kc (ak_goto dX5_worked_138 (by decide +kernel)) <|
  am_kc (ak_iload dX5_worked_141 rfl) <|
  am_kc (ak_iconst dX5_worked_143 (by decide +kernel) rfl) <|
  am_kc (ak_icmp_ne dX5_worked_144 (by decide +kernel) rfl) <|
  am_kc (ak_aload_n dX5_worked_147 rfl rfl) <|
  am_kc (ak_iload_n dX5_worked_148 rfl rfl) <|
  am_kc (ak_iload dX5_worked_149 rfl) <|
  am_kc (ak_ineg dX5_worked_151 rfl) <|
  am_kc (ak_aload_n dX5_worked_152 rfl rfl) <|
  am_kc (ak_iload_n dX5_worked_153 rfl rfl) <|
  am_kc (ak_lald (t := 1) (fun _ => rfl) rfl dX5_worked_154 rfl) <|
  am_kc (ak_aload_n dX5_worked_155 rfl rfl) <|
  am_kc (ak_iload_n dX5_worked_156 rfl rfl) <|
  am_kc (ak_iconst dX5_worked_157 (by decide +kernel) rfl) <|
  am_kc (ak_iadd dX5_worked_158 rfl) <|
  am_kc (ak_lald (t := 1) (fun _ => rfl) rfl dX5_worked_159 rfl) <|
  am_kc (ak_callS metX5_joined ⟨rfl, by decide +kernel, by decide +kernel, by decide +kernel⟩ (am_w4 wd_600 wd_601 wd_65 wd_602) (by decide) dX5_worked_160 rfl) <|
  am_kc (ak_last (t := 1) (fun _ => rfl) rfl dX5_worked_163 rfl) <|
  am_kc (ak_goto dX5_worked_164 (by decide +kernel)) <|
  am_kc (ak_aload_n dX5_worked_167 rfl rfl) <|
  am_kc (ak_iload_n dX5_worked_168 rfl rfl) <|
  am_kc (ak_aload_n dX5_worked_169 rfl rfl) <|
  am_kc (ak_iload_n dX5_worked_170 rfl rfl) <|
  am_kc (ak_lald (t := 1) (fun _ => rfl) rfl dX5_worked_171 rfl) <|
  am_kc (ak_lconst dX5_worked_172 (by decide +kernel) rfl) <|
  am_kc (ak_lcmp dX5_worked_173 rfl) <|
  am_kc (ak_if_eq dX5_worked_174 (by decide +kernel) rfl) <|
  am_kc (ak_aload_n dX5_worked_177 rfl rfl) <|
  am_kc (ak_iload_n dX5_worked_178 rfl rfl) <|
  am_kc (ak_iconst dX5_worked_179 (by decide +kernel) rfl) <|
  am_kc (ak_iadd dX5_worked_180 rfl) <|
  am_kc (ak_lald (t := 1) (fun _ => rfl) rfl dX5_worked_181 rfl) <|
  am_kc (ak_goto dX5_worked_182 (by decide +kernel)) <|
  am_kc (ak_aload_n dX5_worked_185 rfl rfl) <|
  am_kc (ak_iload_n dX5_worked_186 rfl rfl) <|
  am_kc (ak_iconst dX5_worked_187 (by decide +kernel) rfl) <|
  am_kc (ak_iadd dX5_worked_188 rfl) <|
  am_kc (ak_lald (t := 1) (fun _ => rfl) rfl dX5_worked_189 rfl) <|
  am_kc (ak_last (t := 1) (fun _ => rfl) rfl dX5_worked_190 rfl) <|
  am_kc (ak_iinc dX5_worked_191 (by decide +kernel) rfl) <|
  am_kc (ak_iinc dX5_worked_194 (by decide +kernel) rfl) <|
  am_kc (ak_goto dX5_worked_197 (by decide +kernel)) <|
  am_kc (ak_iload_n dX5_worked_200 rfl rfl) <|
  am_kc (ak_if_le dX5_worked_201 (by decide +kernel) rfl) <|
  am_kc (ak_aload_n dX5_worked_204 rfl rfl) <|
  am_kc (ak_alen (t := 1) (fun _ => rfl) dX5_worked_205 rfl) <|
  am_kc (ak_if_le dX5_worked_206 (by decide +kernel) rfl) <|
  am_kc (ak_aload_n dX5_worked_209 rfl rfl) <|
  am_kc (ak_iconst dX5_worked_210 (by decide +kernel) rfl) <|
  am_kc (ak_lald (t := 1) (fun _ => rfl) rfl dX5_worked_211 rfl) <|
  am_kc (ak_goto dX5_worked_212 (by decide +kernel)) <|
  am_kc (ak_lconst dX5_worked_215 (by decide +kernel) rfl) <|
  am_kc (ak_retL dX5_worked_216) <| am_kn
def am_st (M M' : am_M) : Prop := ∃ _ : Unit, M'.1 = M.1 ∧ ∀ a b, a ≠ 10 → M'.2 a b = M.2 a b
theorem am_st.rf {M : am_M} : am_st M M := ⟨(), rfl, fun _ _ _ => rfl⟩
theorem am_st.w {M M' : am_M} {k : Nat} {v : Int64} (h : am_st M M') : am_st M (am_wJ M' 10 k v) := by
  obtain ⟨-, h1, h2⟩ := h
  refine ⟨(), h1, fun a b q => ?_⟩
  rw [am_wJ_1, if_neg (fun z => q z.1)]
  exact h2 a b q
def TX5_worked : am_T := fun live as M R => match as with
  | [.ref t, .ref l, .ref k] => am_mn live ∧ l = 9 ∧ k = 10 ∧ am_tP live t (fun s c => am_t0 M t ∧ ∀ v M', am_st M M' → R (some (.long v)) M')
  | _ => False
def JX5_worked : am_E → List Value → am_M → am_R → am_inv := fun live as M0 _ pc => match as with
  | [.ref t, .ref l, .ref k] => (match pc with
    | 5 => some ([0, 1, 2, 3, 4], fun w L st M => ∃ p i : Int32, L = [(0, .ref t), (1, .ref 9), (2, .ref 10), (3, .int p), (4, .int i)] ∧ st = [] ∧ w = ((51 - i.toInt).toNat, 0) ∧ 0 ≤ i.toInt ∧ 0 ≤ p.toInt ∧ p.toInt ≤ 50 ∧ am_st M0 M)
    | _ => none)
  | _ => none
theorem am_ops_in (x : Int32) : 0 ≤ (am_ops x).toInt ∧ (am_ops x).toInt ≤ 3 := by
  unfold am_ops
  split
  · decide
  · split
    · decide
    · split <;> decide
set_option maxRecDepth 100000 in
set_option maxHeartbeats 4000000 in
theorem metX5_worked : am_Met yX5_worked cX5_worked 7 (some .long) (1) (24) TX5_worked := by
  refine am_met (own := RX5) (by decide +kernel) rfl kX5_worked koX5_worked 200 JX5_worked ?_ ?_
  · intro live as M Ret h
    unfold TX5_worked at h
    split at h
    · next t l k =>
      refine ⟨Nat.le_of_ble_eq_true rfl, ?_⟩
      change am_wp _ _ _ _ [(0, Value.ref t), (1, Value.ref l), (2, Value.ref k)] _ _
      obtain ⟨⟨i1, i2, rfl⟩, rfl, rfl, h⟩ := h
      have hh := am_tP_mp h
      clear h
      obtain ⟨s, c, h2, h6, hb, h1, h3, h7, h4, h8, h9, h5, h10, hT, h⟩ := hh
      repeat' (first | exact rfl | (with_reducible exact h1) | (with_reducible exact h2) | (with_reducible exact h3) | (with_reducible exact hb) | (with_reducible exact h6) | (with_reducible exact h7) | (refine Exists.intro _ (Exists.intro _ (And.intro h2 (And.intro h6 ?_)))) | (refine Exists.intro _ (And.intro h2 ?_)) | (refine Exists.intro _ (And.intro h6 ?_)) | apply And.intro | intro hx | (refine Exists.intro _ (And.intro rfl ?_)) | ((with_reducible change _ = true); simp only [h1, h2, h3, hb, h6, h7, Bool.true_and]; rfl))
      all_goals try first | (with_reducible change am_tI _ _) | (change Ret _ _) | (change Ret _ _ _) | (change Exists _)
      all_goals try dsimp only at *
      all_goals try exact absurd ‹(1000 : Int64) = 0› (by decide)
      exact ⟨_, _, _, rfl, rfl, rfl, by decide, by decide, by decide, am_st.rf⟩
    · exact h.elim
  · intro live as M0 Ret h k pc I hI L st M hi
    unfold TX5_worked at h
    split at h
    · next t l k =>
      obtain ⟨⟨i1, i2, rfl⟩, rfl, rfl, h⟩ := h
      have hh := am_tP_mp h
      clear h
      obtain ⟨s, c, h2, h6, hb, h1, h3, h7, h4, h8, h9, h5, h10, hT, h⟩ := hh
      change (match pc with | 5 => _ | _ => none) = _ at hI
      split at hI
      · cases hI
        obtain ⟨p, i, rfl, rfl, rfl, e0, e1, e2, e3⟩ := hi
        have hmn : am_mn (am_lv i1 i2, am_q i1 i2) := ⟨i1, i2, rfl⟩
        have l10 : am_len 10 = 50 := rfl
        have hn : (Int32.ofNat (am_len 10)).toInt = 50 := by decide +kernel
        repeat' (first | exact rfl | (with_reducible exact hmn) | (with_reducible exact h1) | (with_reducible exact h2) | (with_reducible exact h3) | (with_reducible exact hb) | (with_reducible exact h6) | (with_reducible exact h7) | (refine Exists.intro _ (Exists.intro _ (And.intro h2 (And.intro h6 ?_)))) | (refine Exists.intro _ (And.intro h2 ?_)) | (refine Exists.intro _ (And.intro h6 ?_)) | apply And.intro | intro hx | (refine Exists.intro _ (And.intro rfl ?_)) | ((with_reducible change _ = true); simp only [h1, h2, h3, hb, h6, h7, Bool.true_and]; rfl))
        all_goals try first | (with_reducible change am_tI _ _) | (change Ret _ _) | (change Ret _ _ _) | (change Exists _)
        all_goals try dsimp only at *
        all_goals try exact absurd ‹(1000 : Int64) = 0› (by decide)
        all_goals try (refine ⟨_, Or.inl ?_, _, i + 1, rfl, rfl, rfl, ?_, ?_, ?_, ?_⟩)
        all_goals first
          | exact h _ _ e3
          | exact e3.w
          | exact e3
          | skip
        all_goals
          have hw := am_ops_in (-M.1 c i.toNatClampNeg)
          generalize am_ops (-M.1 c i.toNatClampNeg) = w at *
          have hs := i_sub (x := p) (y := w) (by omega) (by omega)
          have h1' := i_add (x := p - w) (y := 1) (by simp only [Int32.reduceToInt]; omega) (by simp only [Int32.reduceToInt]; omega)
          have h2' := i_add (x := p - w) (y := 2) (by simp only [Int32.reduceToInt]; omega) (by simp only [Int32.reduceToInt]; omega)
          have h3' := i_add (x := p) (y := 1) (by simp only [Int32.reduceToInt]; omega) (by simp only [Int32.reduceToInt]; omega)
          simp only [i_lt, i_le, i_eq, Int32.reduceToInt, Int32.sub_zero, Int32.toInt_zero, l10, h8, hn] at *
          first
            | omega
            | (have hi := i_add (x := i) (y := 1) (by simp only [Int32.reduceToInt]; omega) (by simp only [Int32.reduceToInt]; omega)
               simp only [Int32.reduceToInt] at hi
               omega)
      · cases hI
    · exact h.elim
end
section
/-! Run: small methods -/
theorem wd_312 : Cond.fieldLink "LearnLoans$Run" 136 "LearnLoans$Run" "earned" "I" ∈ am_ws := am_wsi (List.mem_of_getElem? (i := 312) (by decide +kernel)) (by decide +kernel)
theorem wd_313 : Cond.fieldLink "LearnLoans$Run" 138 "LearnLoans$Run" "land" "I" ∈ am_ws := am_wsi (List.mem_of_getElem? (i := 313) (by decide +kernel)) (by decide +kernel)
theorem wd_314 : Cond.fieldLink "LearnLoans$Run" 141 "LearnLoans$Run" "dead" "Z" ∈ am_ws := am_wsi (List.mem_of_getElem? (i := 314) (by decide +kernel)) (by decide +kernel)
theorem dX4_suppose_0 : decode cX4_suppose 0 = .ok (.aload_n 0, 1) := by decide +kernel
theorem dX4_suppose_1 : decode cX4_suppose 1 = .ok (.iload_n 1, 1) := by decide +kernel
theorem dX4_suppose_2 : decode cX4_suppose 2 = .ok (.putfield 136, 3) := by decide +kernel
theorem dX4_suppose_5 : decode cX4_suppose 5 = .ok (.aload_n 0, 1) := by decide +kernel
theorem dX4_suppose_6 : decode cX4_suppose 6 = .ok (.iload_n 2, 1) := by decide +kernel
theorem dX4_suppose_7 : decode cX4_suppose 7 = .ok (.putfield 138, 3) := by decide +kernel
theorem dX4_suppose_10 : decode cX4_suppose 10 = .ok (.aload_n 0, 1) := by decide +kernel
theorem dX4_suppose_11 : decode cX4_suppose 11 = .ok (.iload_n 3, 1) := by decide +kernel
theorem dX4_suppose_12 : decode cX4_suppose 12 = .ok (.putfield 141, 3) := by decide +kernel
theorem dX4_suppose_15 : decode cX4_suppose 15 = .ok (.return_, 1) := by decide +kernel
def kX4_suppose (live : am_E) (Ret : am_R) : am_code := [(0, am_aload 0 1), (1, am_iload 1 2), (2, am_putI live 4 15 5), (5, am_aload 0 6), (6, am_iload 2 7), (7, am_putI live 4 16 10), (10, am_aload 0 11), (11, am_iload 3 12), (12, am_putZ live 4 17 15), (15, am_retV Ret)]
theorem koX4_suppose (live : am_E) (Ret : am_R) : ∀ q ∈ kX4_suppose live Ret, am_ok RX4 cX4_suppose 4 none 0 0 live Ret q.1 q.2 :=
  am_kc (ak_aload_n dX4_suppose_0 rfl rfl) <|
  am_kc (ak_iload_n dX4_suppose_1 rfl rfl) <|
  am_kc (ak_putI (C := RX4) (T := TX4) (N := 18) rfl inX4w tyX4_ok nmX4 (by decide) rfl rfl rfl rfl (by decide +kernel) wd_312 dX4_suppose_2 rfl) <|
  am_kc (ak_aload_n dX4_suppose_5 rfl rfl) <|
  am_kc (ak_iload_n dX4_suppose_6 rfl rfl) <|
  am_kc (ak_putI (C := RX4) (T := TX4) (N := 18) rfl inX4w tyX4_ok nmX4 (by decide) rfl rfl rfl rfl (by decide +kernel) wd_313 dX4_suppose_7 rfl) <|
  am_kc (ak_aload_n dX4_suppose_10 rfl rfl) <|
  am_kc (ak_iload_n dX4_suppose_11 rfl rfl) <|
  am_kc (ak_putZ (C := RX4) (T := TX4) (N := 18) rfl inX4w tyX4_ok nmX4 (by decide) rfl rfl rfl rfl (by decide +kernel) wd_314 dX4_suppose_12 rfl) <|
  am_kc (ak_retV dX4_suppose_15) <| am_kn
def TX4_suppose : am_T := fun live as M R => match as with
  | [.ref n, .int a, .int b, .int d] => am_mn live ∧ n = 4 ∧ (d = 0 ∨ d = 1) ∧ R none (am_wI (am_wI (am_wI M 4 15 a) 4 16 b) 4 17 d)
  | _ => False
set_option maxRecDepth 100000 in
set_option maxHeartbeats 4000000 in
theorem metX4_suppose : am_Met yX4_suppose cX4_suppose 4 none (0) (0) TX4_suppose := by
  refine am_met (own := RX4) (by decide +kernel) rfl kX4_suppose koX4_suppose 60 (fun _ _ _ _ _ => none) (fun live as M Ret h => ?_) (fun _ _ _ _ _ _ _ _ hI => by cases hI)
  unfold TX4_suppose at h
  split at h
  · next n a b d =>
    refine ⟨Nat.le_of_ble_eq_true rfl, ?_⟩
    change am_wp _ _ _ _ [(0, Value.ref n), (1, Value.int a), (2, Value.int b), (3, Value.int d)] _ _
    obtain ⟨⟨i1, i2, rfl⟩, rfl, hd, h⟩ := h
    repeat' (first | exact rfl | apply And.intro | intro hx | (refine Exists.intro _ (And.intro rfl ?_)))
    all_goals try first | (with_reducible change am_tI _ _) | (change Ret _ _) | (change Ret _ _ _) | (change Exists _)
    all_goals try dsimp only at *
    all_goals try exact absurd ‹(1000 : Int64) = 0› (by decide)
    · exact hd
    · exact h
  · exact h.elim
theorem wd_307 : Cond.fieldLink "LearnLoans$Run" 74 "LearnLoans$Run" "life" "I" ∈ am_ws := am_wsi (List.mem_of_getElem? (i := 307) (by decide +kernel)) (by decide +kernel)
theorem wd_308 : Cond.fieldLink "LearnLoans$Run" 77 "LearnLoans$Run" "plan" "I" ∈ am_ws := am_wsi (List.mem_of_getElem? (i := 308) (by decide +kernel)) (by decide +kernel)
theorem wd_309 : Cond.fieldLink "LearnLoans$Run" 80 "LearnLoans$Run" "due" "J" ∈ am_ws := am_wsi (List.mem_of_getElem? (i := 309) (by decide +kernel)) (by decide +kernel)
theorem wd_310 : Cond.fieldLink "LearnLoans$Run" 84 "LearnLoans$Run" "paid" "J" ∈ am_ws := am_wsi (List.mem_of_getElem? (i := 310) (by decide +kernel)) (by decide +kernel)
theorem dX4_turnTo_0 : decode cX4_turnTo 0 = .ok (.aload_n 0, 1) := by decide +kernel
theorem dX4_turnTo_1 : decode cX4_turnTo 1 = .ok (.iload_n 1, 1) := by decide +kernel
theorem dX4_turnTo_2 : decode cX4_turnTo 2 = .ok (.putfield 74, 3) := by decide +kernel
theorem dX4_turnTo_5 : decode cX4_turnTo 5 = .ok (.aload_n 0, 1) := by decide +kernel
theorem dX4_turnTo_6 : decode cX4_turnTo 6 = .ok (.iload_n 2, 1) := by decide +kernel
theorem dX4_turnTo_7 : decode cX4_turnTo 7 = .ok (.putfield 77, 3) := by decide +kernel
theorem dX4_turnTo_10 : decode cX4_turnTo 10 = .ok (.aload_n 0, 1) := by decide +kernel
theorem dX4_turnTo_11 : decode cX4_turnTo 11 = .ok (.lload_n 3, 1) := by decide +kernel
theorem dX4_turnTo_12 : decode cX4_turnTo 12 = .ok (.putfield 80, 3) := by decide +kernel
theorem dX4_turnTo_15 : decode cX4_turnTo 15 = .ok (.aload_n 0, 1) := by decide +kernel
theorem dX4_turnTo_16 : decode cX4_turnTo 16 = .ok (.lconst 0, 1) := by decide +kernel
theorem dX4_turnTo_17 : decode cX4_turnTo 17 = .ok (.putfield 84, 3) := by decide +kernel
theorem dX4_turnTo_20 : decode cX4_turnTo 20 = .ok (.return_, 1) := by decide +kernel
def kX4_turnTo (live : am_E) (Ret : am_R) : am_code := [(0, am_aload 0 1), (1, am_iload 1 2), (2, am_putI live 4 11 5), (5, am_aload 0 6), (6, am_iload 2 7), (7, am_putI live 4 12 10), (10, am_aload 0 11), (11, am_lload 3 12), (12, am_putJ live 4 13 15), (15, am_aload 0 16), (16, am_const (.long 0) 17), (17, am_putJ live 4 14 20), (20, am_retV Ret)]
theorem koX4_turnTo (live : am_E) (Ret : am_R) : ∀ q ∈ kX4_turnTo live Ret, am_ok RX4 cX4_turnTo 5 none 0 0 live Ret q.1 q.2 :=
  am_kc (ak_aload_n dX4_turnTo_0 rfl rfl) <|
  am_kc (ak_iload_n dX4_turnTo_1 rfl rfl) <|
  am_kc (ak_putI (C := RX4) (T := TX4) (N := 18) rfl inX4w tyX4_ok nmX4 (by decide) rfl rfl rfl rfl (by decide +kernel) wd_307 dX4_turnTo_2 rfl) <|
  am_kc (ak_aload_n dX4_turnTo_5 rfl rfl) <|
  am_kc (ak_iload_n dX4_turnTo_6 rfl rfl) <|
  am_kc (ak_putI (C := RX4) (T := TX4) (N := 18) rfl inX4w tyX4_ok nmX4 (by decide) rfl rfl rfl rfl (by decide +kernel) wd_308 dX4_turnTo_7 rfl) <|
  am_kc (ak_aload_n dX4_turnTo_10 rfl rfl) <|
  am_kc (ak_lload_n dX4_turnTo_11 rfl rfl) <|
  am_kc (ak_putJ (C := RX4) (T := TX4) (N := 18) rfl inX4w tyX4_ok nmX4 (by decide) rfl rfl rfl rfl (by decide +kernel) wd_309 dX4_turnTo_12 rfl) <|
  am_kc (ak_aload_n dX4_turnTo_15 rfl rfl) <|
  am_kc (ak_lconst dX4_turnTo_16 (by decide +kernel) rfl) <|
  am_kc (ak_putJ (C := RX4) (T := TX4) (N := 18) rfl inX4w tyX4_ok nmX4 (by decide) rfl rfl rfl rfl (by decide +kernel) wd_310 dX4_turnTo_17 rfl) <|
  am_kc (ak_retV dX4_turnTo_20) <| am_kn
def TX4_turnTo : am_T := fun live as M R => match as with
  | [.ref n, .int a, .int b, .long d] => am_mn live ∧ n = 4 ∧ R none (am_wJ (am_wJ (am_wI (am_wI M 4 11 a) 4 12 b) 4 13 d) 4 14 0)
  | _ => False
set_option maxRecDepth 100000 in
set_option maxHeartbeats 4000000 in
theorem metX4_turnTo : am_Met yX4_turnTo cX4_turnTo 5 none (0) (0) TX4_turnTo := by
  refine am_met (own := RX4) (by decide +kernel) rfl kX4_turnTo koX4_turnTo 60 (fun _ _ _ _ _ => none) (fun live as M Ret h => ?_) (fun _ _ _ _ _ _ _ _ hI => by cases hI)
  unfold TX4_turnTo at h
  split at h
  · next n a b d =>
    refine ⟨Nat.le_of_ble_eq_true rfl, ?_⟩
    change am_wp _ _ _ _ [(0, Value.ref n), (1, Value.int a), (2, Value.int b), (3, Value.long d)] _ _
    obtain ⟨⟨i1, i2, rfl⟩, rfl, h⟩ := h
    repeat' (first | exact rfl | apply And.intro | intro hx | (refine Exists.intro _ (And.intro rfl ?_)))
    all_goals try first | (with_reducible change am_tI _ _) | (change Ret _ _) | (change Ret _ _ _) | (change Exists _)
    all_goals try dsimp only at *
    all_goals try exact absurd ‹(1000 : Int64) = 0› (by decide)
    exact h
  · exact h.elim
theorem wd_291 : Cond.fieldLink "LearnLoans$Run" 12 "LearnLoans$Run" "house" "LLearnLoans$House;" ∈ am_ws := am_wsi (List.mem_of_getElem? (i := 291) (by decide +kernel)) (by decide +kernel)
theorem wd_212 : Cond.fieldLink "LearnLoans$Run" 184 "LearnLoans$House" "planAt" "[I" ∈ am_ws := am_wsi (List.mem_of_getElem? (i := 212) (by decide +kernel)) (by decide +kernel)
theorem dX4_planIn_0 : decode cX4_planIn 0 = .ok (.aload_n 0, 1) := by decide +kernel
theorem dX4_planIn_1 : decode cX4_planIn 1 = .ok (.getfield 77, 3) := by decide +kernel
theorem dX4_planIn_4 : decode cX4_planIn 4 = .ok (.iconst (-1), 1) := by decide +kernel
theorem dX4_planIn_5 : decode cX4_planIn 5 = .ok (.if_icmp .eq 10, 3) := by decide +kernel
theorem dX4_planIn_8 : decode cX4_planIn 8 = .ok (.aload_n 0, 1) := by decide +kernel
theorem dX4_planIn_9 : decode cX4_planIn 9 = .ok (.getfield 77, 3) := by decide +kernel
theorem dX4_planIn_12 : decode cX4_planIn 12 = .ok (.goto 17, 3) := by decide +kernel
theorem dX4_planIn_15 : decode cX4_planIn 15 = .ok (.aload_n 0, 1) := by decide +kernel
theorem dX4_planIn_16 : decode cX4_planIn 16 = .ok (.getfield 12, 3) := by decide +kernel
theorem dX4_planIn_19 : decode cX4_planIn 19 = .ok (.getfield 184, 3) := by decide +kernel
theorem dX4_planIn_22 : decode cX4_planIn 22 = .ok (.iload_n 1, 1) := by decide +kernel
theorem dX4_planIn_23 : decode cX4_planIn 23 = .ok (.bipush 40, 2) := by decide +kernel
theorem dX4_planIn_25 : decode cX4_planIn 25 = .ok (.imul, 1) := by decide +kernel
theorem dX4_planIn_26 : decode cX4_planIn 26 = .ok (.iload_n 2, 1) := by decide +kernel
theorem dX4_planIn_27 : decode cX4_planIn 27 = .ok (.iadd, 1) := by decide +kernel
theorem dX4_planIn_28 : decode cX4_planIn 28 = .ok (.iaload, 1) := by decide +kernel
theorem dX4_planIn_29 : decode cX4_planIn 29 = .ok (.ireturn, 1) := by decide +kernel
def kX4_planIn (live : am_E) (Ret : am_R) : am_code := [(0, am_aload 0 1), (1, am_getI live 4 12 4), (4, am_const (.int (-1)) 5), (5, am_if2 (fun x y => x = y) 15 8), (8, am_aload 0 9), (9, am_getI live 4 12 12), (12, am_goto 29), (15, am_aload 0 16), (16, am_getR live 4 0 19), (19, am_getR live 0 6 22), (22, am_iload 1 23), (23, am_const (.int 40) 25), (25, am_i2 (fun x y => x * y) 26), (26, am_iload 2 27), (27, am_i2 (fun x y => x + y) 28), (28, am_ald live 0 29), (29, am_retI Ret)]
theorem koX4_planIn (live : am_E) (Ret : am_R) : ∀ q ∈ kX4_planIn live Ret, am_ok RX4 cX4_planIn 3 (some .int) 0 0 live Ret q.1 q.2 :=
  am_kc (ak_aload_n dX4_planIn_0 rfl rfl) <|
  am_kc (ak_getI (C := RX4) (T := TX4) (N := 18) rfl inX4w (by decide) rfl rfl rfl wd_308 dX4_planIn_1 rfl) <|
  am_kc (ak_iconst dX4_planIn_4 (by decide +kernel) rfl) <|
  am_kc (ak_icmp_eq dX4_planIn_5 (by decide +kernel) rfl) <|
  am_kc (ak_aload_n dX4_planIn_8 rfl rfl) <|
  am_kc (ak_getI (C := RX4) (T := TX4) (N := 18) rfl inX4w (by decide) rfl rfl rfl wd_308 dX4_planIn_9 rfl) <|
  am_kc (ak_goto dX4_planIn_12 (by decide +kernel)) <|
  am_kc (ak_aload_n dX4_planIn_15 rfl rfl) <|
  am_kc (ak_getR (C := RX4) (T := TX4) (N := 18) rfl inX4w (by decide) rfl rfl rfl wd_291 dX4_planIn_16 rfl) <|
  am_kc (ak_getR (C := RX0) (T := TX0) (N := 13) rfl inX0w (by decide) rfl rfl rfl wd_212 dX4_planIn_19 rfl) <|
  am_kc (ak_iload_n dX4_planIn_22 rfl rfl) <|
  am_kc (ak_bipush dX4_planIn_23 (by decide +kernel) rfl) <|
  am_kc (ak_imul dX4_planIn_25 rfl) <|
  am_kc (ak_iload_n dX4_planIn_26 rfl rfl) <|
  am_kc (ak_iadd dX4_planIn_27 rfl) <|
  am_kc (ak_iald (t := 0) (fun _ => rfl) rfl dX4_planIn_28 rfl) <|
  am_kc (ak_retI dX4_planIn_29) <| am_kn
def am_pln (M : am_M) (l y : Int32) : Int32 := if M.1 4 12 = -1 then M.1 37 (l * 40 + y).toNatClampNeg else M.1 4 12
theorem am_lny {l y : Int32} (h1 : am_in l 30) (h2 : am_in y 40) : (l * 40 + y).toInt = l.toInt * 40 + y.toInt := by
  obtain ⟨a1, a2⟩ := h1
  obtain ⟨b1, b2⟩ := h2
  have e := i_mul (x := l) (y := 40) (by simp only [Int32.reduceToInt]; omega) (by simp only [Int32.reduceToInt]; omega)
  simp only [Int32.reduceToInt] at e
  rw [i_add (by rw [e]; omega) (by rw [e]; omega), e]
def TX4_planIn : am_T := fun live as M R => match as with
  | [.ref n, .int l, .int y] => am_mn live ∧ n = 4 ∧ am_in l 30 ∧ am_in y 40 ∧ R (some (.int (am_pln M l y))) M
  | _ => False
set_option maxRecDepth 100000 in
set_option maxHeartbeats 4000000 in
theorem metX4_planIn : am_Met yX4_planIn cX4_planIn 3 (some .int) (0) (0) TX4_planIn := by
  refine am_met (own := RX4) (by decide +kernel) rfl kX4_planIn koX4_planIn 60 (fun _ _ _ _ _ => none) (fun live as M Ret h => ?_) (fun _ _ _ _ _ _ _ _ hI => by cases hI)
  unfold TX4_planIn at h
  split at h
  · next n l y =>
    refine ⟨Nat.le_of_ble_eq_true rfl, ?_⟩
    change am_wp _ _ _ _ [(0, Value.ref n), (1, Value.int l), (2, Value.int y)] _ _
    obtain ⟨⟨i1, i2, rfl⟩, rfl, hl, hy, h⟩ := h
    have e := am_lny hl hy
    have l37 : am_len 37 = 1200 := rfl
    obtain ⟨a1, a2⟩ := hl
    obtain ⟨b1, b2⟩ := hy
    repeat' (first | exact rfl | apply And.intro | intro hx | (refine Exists.intro _ (And.intro rfl ?_)))
    all_goals try first | (with_reducible change am_tI _ _) | (change Ret _ _) | (change Ret _ _ _) | (change Exists _)
    all_goals try dsimp only at *
    all_goals try exact absurd ‹(1000 : Int64) = 0› (by decide)
    all_goals first
      | (rw [am_pln, if_pos (by with_reducible assumption)] at h; exact h)
      | (rw [am_pln, if_neg (by with_reducible assumption)] at h; exact h)
      | (rw [e]; omega)
      | (rw [e, l37]; omega)
  · exact h.elim
theorem wd_581 : Cond.methodLink "LearnLoans$Run" 187 yX4_planIn ∈ am_ws := am_wsi (List.mem_of_getElem? (i := 581) (by decide +kernel)) (by decide +kernel)
theorem wd_583 : Cond.instanceMethod yX4_planIn ∈ am_ws := am_wsi (List.mem_of_getElem? (i := 583) (by decide +kernel)) (by decide +kernel)
theorem wd_5 : Cond.selects "LearnLoans$Run" yX4_planIn yX4_planIn ∈ am_ws := am_wsi (List.mem_of_getElem? (i := 5) (by decide +kernel)) (by decide +kernel)
theorem wd_60 : Cond.initialized "LearnLoans$Run" ∈ am_ws := am_wsi (List.mem_of_getElem? (i := 60) (by decide +kernel)) (by decide +kernel)
theorem wd_584 : Cond.code yX4_planIn cX4_planIn 3 (some .int) ∈ am_ws := am_wsi (List.mem_of_getElem? (i := 584) (by decide +kernel)) (by decide +kernel)
theorem dX4_cellOf_0 : decode cX4_cellOf 0 = .ok (.iload_n 2, 1) := by decide +kernel
theorem dX4_cellOf_1 : decode cX4_cellOf 1 = .ok (.iconst 5, 1) := by decide +kernel
theorem dX4_cellOf_2 : decode cX4_cellOf 2 = .ok (.imul, 1) := by decide +kernel
theorem dX4_cellOf_3 : decode cX4_cellOf 3 = .ok (.aload_n 0, 1) := by decide +kernel
theorem dX4_cellOf_4 : decode cX4_cellOf 4 = .ok (.iload_n 1, 1) := by decide +kernel
theorem dX4_cellOf_5 : decode cX4_cellOf 5 = .ok (.iload_n 2, 1) := by decide +kernel
theorem dX4_cellOf_6 : decode cX4_cellOf 6 = .ok (.invokevirtual 187, 3) := by decide +kernel
theorem dX4_cellOf_9 : decode cX4_cellOf 9 = .ok (.iadd, 1) := by decide +kernel
theorem dX4_cellOf_10 : decode cX4_cellOf 10 = .ok (.bipush 6, 2) := by decide +kernel
theorem dX4_cellOf_12 : decode cX4_cellOf 12 = .ok (.imul, 1) := by decide +kernel
theorem dX4_cellOf_13 : decode cX4_cellOf 13 = .ok (.ireturn, 1) := by decide +kernel
def kX4_cellOf (live : am_E) (Ret : am_R) : am_code := [(0, am_iload 2 1), (1, am_const (.int 5) 2), (2, am_i2 (fun x y => x * y) 3), (3, am_aload 0 4), (4, am_iload 1 5), (5, am_iload 2 6), (6, am_callV live 4 2 TX4_planIn 9), (9, am_i2 (fun x y => x + y) 10), (10, am_const (.int 6) 12), (12, am_i2 (fun x y => x * y) 13), (13, am_retI Ret)]
theorem koX4_cellOf (live : am_E) (Ret : am_R) : ∀ q ∈ kX4_cellOf live Ret, am_ok RX4 cX4_cellOf 3 (some .int) 1 22 live Ret q.1 q.2 :=
  am_kc (ak_iload_n dX4_cellOf_0 rfl rfl) <|
  am_kc (ak_iconst dX4_cellOf_1 (by decide +kernel) rfl) <|
  am_kc (ak_imul dX4_cellOf_2 rfl) <|
  am_kc (ak_aload_n dX4_cellOf_3 rfl rfl) <|
  am_kc (ak_iload_n dX4_cellOf_4 rfl rfl) <|
  am_kc (ak_iload_n dX4_cellOf_5 rfl rfl) <|
  am_kc (ak_callV (C := RX4) (F := TX4) (N := 18) metX4_planIn rfl ⟨rfl, by decide +kernel, by decide +kernel, by decide +kernel⟩ (am_w5 wd_581 wd_583 wd_5 wd_60 wd_584) (by decide) dX4_cellOf_6 rfl) <|
  am_kc (ak_iadd dX4_cellOf_9 rfl) <|
  am_kc (ak_bipush dX4_cellOf_10 (by decide +kernel) rfl) <|
  am_kc (ak_imul dX4_cellOf_12 rfl) <|
  am_kc (ak_retI dX4_cellOf_13) <| am_kn
def TX4_cellOf : am_T := fun live as M R => match as with
  | [.ref n, .int l, .int y] => am_mn live ∧ n = 4 ∧ am_in l 30 ∧ am_in y 40 ∧ R (some (.int ((y * 5 + am_pln M l y) * 6))) M
  | _ => False
set_option maxRecDepth 100000 in
set_option maxHeartbeats 4000000 in
theorem metX4_cellOf : am_Met yX4_cellOf cX4_cellOf 3 (some .int) (1) (22) TX4_cellOf := by
  refine am_met (own := RX4) (by decide +kernel) rfl kX4_cellOf koX4_cellOf 60 (fun _ _ _ _ _ => none) (fun live as M Ret h => ?_) (fun _ _ _ _ _ _ _ _ hI => by cases hI)
  unfold TX4_cellOf at h
  split at h
  · next n l y =>
    refine ⟨Nat.le_of_ble_eq_true rfl, ?_⟩
    change am_wp _ _ _ _ [(0, Value.ref n), (1, Value.int l), (2, Value.int y)] _ _
    obtain ⟨hmn, rfl, hl, hy, h⟩ := h
    have hmn2 := hmn
    obtain ⟨i1, i2, rfl⟩ := hmn2
    repeat' (first | exact rfl | (with_reducible exact hmn) | (with_reducible exact hl) | (with_reducible exact hy) | apply And.intro | intro hx | (refine Exists.intro _ (And.intro rfl ?_)))
    all_goals try first | (with_reducible change am_tI _ _) | (change Ret _ _) | (change Ret _ _ _) | (change Exists _)
    all_goals try dsimp only at *
    all_goals try exact absurd ‹(1000 : Int64) = 0› (by decide)
    all_goals first
      | exact hl.1
      | exact hl.2
      | exact hy.1
      | exact hy.2
      | exact h
  · exact h.elim
theorem wd_206 : Cond.fieldLink "LearnLoans$Run" 59 "LearnLoans$House" "loans" "LLearnLoans$Rows;" ∈ am_ws := am_wsi (List.mem_of_getElem? (i := 206) (by decide +kernel)) (by decide +kernel)
theorem wd_499 : Cond.methodLink "LearnLoans$Run" 66 yX3_at ∈ am_ws := am_wsi (List.mem_of_getElem? (i := 499) (by decide +kernel)) (by decide +kernel)
theorem wd_294 : Cond.fieldLink "LearnLoans$Run" 18 "LearnLoans$Run" "numbers" "[I" ∈ am_ws := am_wsi (List.mem_of_getElem? (i := 294) (by decide +kernel)) (by decide +kernel)
theorem wd_577 : Cond.methodLink "LearnLoans$Run" 167 yX4_cellOf ∈ am_ws := am_wsi (List.mem_of_getElem? (i := 577) (by decide +kernel)) (by decide +kernel)
theorem wd_579 : Cond.instanceMethod yX4_cellOf ∈ am_ws := am_wsi (List.mem_of_getElem? (i := 579) (by decide +kernel)) (by decide +kernel)
theorem wd_4 : Cond.selects "LearnLoans$Run" yX4_cellOf yX4_cellOf ∈ am_ws := am_wsi (List.mem_of_getElem? (i := 4) (by decide +kernel)) (by decide +kernel)
theorem wd_580 : Cond.code yX4_cellOf cX4_cellOf 3 (some .int) ∈ am_ws := am_wsi (List.mem_of_getElem? (i := 580) (by decide +kernel)) (by decide +kernel)
theorem dX4_isStruck_0 : decode cX4_isStruck 0 = .ok (.iload_n 2, 1) := by decide +kernel
theorem dX4_isStruck_1 : decode cX4_isStruck 1 = .ok (.aload_n 0, 1) := by decide +kernel
theorem dX4_isStruck_2 : decode cX4_isStruck 2 = .ok (.getfield 12, 3) := by decide +kernel
theorem dX4_isStruck_5 : decode cX4_isStruck 5 = .ok (.getfield 59, 3) := by decide +kernel
theorem dX4_isStruck_8 : decode cX4_isStruck 8 = .ok (.iload_n 1, 1) := by decide +kernel
theorem dX4_isStruck_9 : decode cX4_isStruck 9 = .ok (.iconst 2, 1) := by decide +kernel
theorem dX4_isStruck_10 : decode cX4_isStruck 10 = .ok (.invokevirtual 66, 3) := by decide +kernel
theorem dX4_isStruck_13 : decode cX4_isStruck 13 = .ok (.isub, 1) := by decide +kernel
theorem dX4_isStruck_14 : decode cX4_isStruck 14 = .ok (.istore_n 3, 1) := by decide +kernel
theorem dX4_isStruck_15 : decode cX4_isStruck 15 = .ok (.aload_n 0, 1) := by decide +kernel
theorem dX4_isStruck_16 : decode cX4_isStruck 16 = .ok (.getfield 141, 3) := by decide +kernel
theorem dX4_isStruck_19 : decode cX4_isStruck 19 = .ok (.ifCond .ne 20, 3) := by decide +kernel
theorem dX4_isStruck_22 : decode cX4_isStruck 22 = .ok (.iload_n 3, 1) := by decide +kernel
theorem dX4_isStruck_23 : decode cX4_isStruck 23 = .ok (.aload_n 0, 1) := by decide +kernel
theorem dX4_isStruck_24 : decode cX4_isStruck 24 = .ok (.getfield 18, 3) := by decide +kernel
theorem dX4_isStruck_27 : decode cX4_isStruck 27 = .ok (.aload_n 0, 1) := by decide +kernel
theorem dX4_isStruck_28 : decode cX4_isStruck 28 = .ok (.iload_n 1, 1) := by decide +kernel
theorem dX4_isStruck_29 : decode cX4_isStruck 29 = .ok (.iload_n 2, 1) := by decide +kernel
theorem dX4_isStruck_30 : decode cX4_isStruck 30 = .ok (.invokevirtual 167, 3) := by decide +kernel
theorem dX4_isStruck_33 : decode cX4_isStruck 33 = .ok (.iconst 3, 1) := by decide +kernel
theorem dX4_isStruck_34 : decode cX4_isStruck 34 = .ok (.iadd, 1) := by decide +kernel
theorem dX4_isStruck_35 : decode cX4_isStruck 35 = .ok (.iaload, 1) := by decide +kernel
theorem dX4_isStruck_36 : decode cX4_isStruck 36 = .ok (.if_icmp .lt 7, 3) := by decide +kernel
theorem dX4_isStruck_39 : decode cX4_isStruck 39 = .ok (.iconst 1, 1) := by decide +kernel
theorem dX4_isStruck_40 : decode cX4_isStruck 40 = .ok (.goto 4, 3) := by decide +kernel
theorem dX4_isStruck_43 : decode cX4_isStruck 43 = .ok (.iconst 0, 1) := by decide +kernel
theorem dX4_isStruck_44 : decode cX4_isStruck 44 = .ok (.ireturn, 1) := by decide +kernel
def kX4_isStruck (live : am_E) (Ret : am_R) : am_code := [(0, am_iload 2 1), (1, am_aload 0 2), (2, am_getR live 4 0 5), (5, am_getR live 0 4 8), (8, am_iload 1 9), (9, am_const (.int 2) 10), (10, am_callV live 3 2 TX3_at 13), (13, am_i2 (fun x y => x - y) 14), (14, am_istore 3 4 15), (15, am_aload 0 16), (16, am_getI live 4 17 19), (19, am_if1 (fun x => x = 0) 22 39), (22, am_iload 3 23), (23, am_aload 0 24), (24, am_getR live 4 1 27), (27, am_aload 0 28), (28, am_iload 1 29), (29, am_iload 2 30), (30, am_callV live 4 2 TX4_cellOf 33), (33, am_const (.int 3) 34), (34, am_i2 (fun x y => x + y) 35), (35, am_ald live 0 36), (36, am_if2 (fun x y => x < y) 43 39), (39, am_const (.int 1) 40), (40, am_goto 44), (43, am_const (.int 0) 44), (44, am_retZ Ret)]
theorem koX4_isStruck (live : am_E) (Ret : am_R) : ∀ q ∈ kX4_isStruck live Ret, am_ok RX4 cX4_isStruck 4 (some .boolean) 2 44 live Ret q.1 q.2 :=
  am_kc (ak_iload_n dX4_isStruck_0 rfl rfl) <|
  am_kc (ak_aload_n dX4_isStruck_1 rfl rfl) <|
  am_kc (ak_getR (C := RX4) (T := TX4) (N := 18) rfl inX4w (by decide) rfl rfl rfl wd_291 dX4_isStruck_2 rfl) <|
  am_kc (ak_getR (C := RX0) (T := TX0) (N := 13) rfl inX0w (by decide) rfl rfl rfl wd_206 dX4_isStruck_5 rfl) <|
  am_kc (ak_iload_n dX4_isStruck_8 rfl rfl) <|
  am_kc (ak_iconst dX4_isStruck_9 (by decide +kernel) rfl) <|
  am_kc (ak_callV (C := RX3) (F := TX3) (N := 3) metX3_at rfl ⟨rfl, by decide +kernel, by decide +kernel, by decide +kernel⟩ (am_w5 wd_499 wd_500 wd_501 wd_64 wd_502) (by decide) dX4_isStruck_10 rfl) <|
  am_kc (ak_isub dX4_isStruck_13 rfl) <|
  am_kc (ak_istore_n dX4_isStruck_14 rfl rfl) <|
  am_kc (ak_aload_n dX4_isStruck_15 rfl rfl) <|
  am_kc (ak_getI (C := RX4) (T := TX4) (N := 18) rfl inX4w (by decide) rfl rfl rfl wd_314 dX4_isStruck_16 rfl) <|
  am_kc (ak_if_ne dX4_isStruck_19 (by decide +kernel) rfl) <|
  am_kc (ak_iload_n dX4_isStruck_22 rfl rfl) <|
  am_kc (ak_aload_n dX4_isStruck_23 rfl rfl) <|
  am_kc (ak_getR (C := RX4) (T := TX4) (N := 18) rfl inX4w (by decide) rfl rfl rfl wd_294 dX4_isStruck_24 rfl) <|
  am_kc (ak_aload_n dX4_isStruck_27 rfl rfl) <|
  am_kc (ak_iload_n dX4_isStruck_28 rfl rfl) <|
  am_kc (ak_iload_n dX4_isStruck_29 rfl rfl) <|
  am_kc (ak_callV (C := RX4) (F := TX4) (N := 18) metX4_cellOf rfl ⟨rfl, by decide +kernel, by decide +kernel, by decide +kernel⟩ (am_w5 wd_577 wd_579 wd_4 wd_60 wd_580) (by decide) dX4_isStruck_30 rfl) <|
  am_kc (ak_iconst dX4_isStruck_33 (by decide +kernel) rfl) <|
  am_kc (ak_iadd dX4_isStruck_34 rfl) <|
  am_kc (ak_iald (t := 0) (fun _ => rfl) rfl dX4_isStruck_35 rfl) <|
  am_kc (ak_icmp_lt dX4_isStruck_36 (by decide +kernel) rfl) <|
  am_kc (ak_iconst dX4_isStruck_39 (by decide +kernel) rfl) <|
  am_kc (ak_goto dX4_isStruck_40 (by decide +kernel)) <|
  am_kc (ak_iconst dX4_isStruck_43 (by decide +kernel) rfl) <|
  am_kc (ak_retZ dX4_isStruck_44) <| am_kn
def am_cell (M : am_M) (l y k : Int32) : Int32 := M.1 5 ((y * 5 + am_pln M l y) * 6 + k).toNatClampNeg
def am_isStr (M : am_M) (l y : Int32) : Prop := ¬ M.1 4 17 = 0 ∨ ¬ (y - am_loanAt M l 2 < am_cell M l y 3)
theorem am_celly {y p k : Int32} (h2 : am_in y 40) (h3 : am_in p 5) (h4 : am_in k 6) : ((y * 5 + p) * 6 + k).toInt = (y.toInt * 5 + p.toInt) * 6 + k.toInt := by
  obtain ⟨b1, b2⟩ := h2
  obtain ⟨c1, c2⟩ := h3
  obtain ⟨d1, d2⟩ := h4
  have e := i_mul (x := y) (y := 5) (by simp only [Int32.reduceToInt]; omega) (by simp only [Int32.reduceToInt]; omega)
  simp only [Int32.reduceToInt] at e
  have e2 := i_add (x := y * 5) (y := p) (by rw [e]; omega) (by rw [e]; omega)
  have e3 := i_mul (x := y * 5 + p) (y := 6) (by simp only [Int32.reduceToInt]; omega) (by simp only [Int32.reduceToInt]; omega)
  simp only [Int32.reduceToInt] at e3
  rw [i_add (by omega) (by omega)]
  omega
def TX4_isStruck : am_T := fun live as M R => match as with
  | [.ref n, .int l, .int y] => am_mn live ∧ n = 4 ∧ am_in l 30 ∧ am_in y 40 ∧ am_in (am_pln M l y) 5 ∧ (am_isStr M l y → R (some (.int 1)) M) ∧ (¬ am_isStr M l y → R (some (.int 0)) M)
  | _ => False
set_option maxRecDepth 100000 in
set_option maxHeartbeats 4000000 in
theorem metX4_isStruck : am_Met yX4_isStruck cX4_isStruck 4 (some .boolean) (2) (44) TX4_isStruck := by
  refine am_met (own := RX4) (by decide +kernel) rfl kX4_isStruck koX4_isStruck 100 (fun _ _ _ _ _ => none) (fun live as M Ret h => ?_) (fun _ _ _ _ _ _ _ _ hI => by cases hI)
  unfold TX4_isStruck at h
  split at h
  · next n l y =>
    refine ⟨Nat.le_of_ble_eq_true rfl, ?_⟩
    change am_wp _ _ _ _ [(0, Value.ref n), (1, Value.int l), (2, Value.int y)] _ _
    obtain ⟨hmn, rfl, hl, hy, hp, h, hh⟩ := h
    have hmn2 := hmn
    obtain ⟨i1, i2, rfl⟩ := hmn2
    have e := am_celly hy hp (k := 3) ⟨by decide, by decide⟩
    have l5 : am_len 5 = 1200 := rfl
    have l34 : am_len 34 = 240 := rfl
    have k3 : Int32.toInt 3 = 3 := rfl
    obtain ⟨b1, b2⟩ := hy
    obtain ⟨c1, c2⟩ := hp
    repeat' (first | exact rfl | (with_reducible exact hmn) | (with_reducible exact hl) | apply And.intro | intro hx | (refine Exists.intro _ (And.intro rfl ?_)))
    all_goals try first | (with_reducible change am_tI _ _) | (change Ret _ _) | (change Ret _ _ _) | (change Exists _)
    all_goals try dsimp only at *
    all_goals try exact absurd ‹(1000 : Int64) = 0› (by decide)
    all_goals first
      | (left; rfl)
      | (right; rfl)
      | exact hl.1
      | exact hl.2
      | omega
      | (rw [l5]; omega)
      | exact h (Or.inl hx)
      | exact h (Or.inr hx)
      | (refine hh (fun q => ?_)
         rcases q with q | q
         · exact q (by with_reducible assumption)
         · exact q hx)
  · exact h.elim
end
section
/-! Run: growing, sums together -/
theorem wd_296 : Cond.fieldLink "LearnLoans$Run" 22 "LearnLoans$Run" "sums" "[J" ∈ am_ws := am_wsi (List.mem_of_getElem? (i := 296) (by decide +kernel)) (by decide +kernel)
theorem wd_614 : Cond.constantLong "LearnLoans$Run" 170 1000 ∈ am_ws := am_wsi (List.mem_of_getElem? (i := 614) (by decide +kernel)) (by decide +kernel)
theorem wd_615 : Cond.constantLong "LearnLoans$Run" 172 1000000000000 ∈ am_ws := am_wsi (List.mem_of_getElem? (i := 615) (by decide +kernel)) (by decide +kernel)
theorem wd_604 : Cond.methodLink "LearnLoans$Run" 174 Lib.MathLoose.min_long.x ∈ am_ws := am_wsi (List.mem_of_getElem? (i := 604) (by decide +kernel)) (by decide +kernel)
theorem wd_605 : Cond.static Lib.MathLoose.min_long.x ∈ am_ws := am_wsi (List.mem_of_getElem? (i := 605) (by decide +kernel)) (by decide +kernel)
theorem wd_606 : Cond.code Lib.MathLoose.min_long.x Lib.MathLoose.min_long.code 4 (some .long) ∈ am_ws := am_wsi (List.mem_of_getElem? (i := 606) (by decide +kernel)) (by decide +kernel)
theorem dX4_grow_0 : decode cX4_grow 0 = .ok (.aload_n 0, 1) := by decide +kernel
theorem dX4_grow_1 : decode cX4_grow 1 = .ok (.getfield 22, 3) := by decide +kernel
theorem dX4_grow_4 : decode cX4_grow 4 = .ok (.iconst 0, 1) := by decide +kernel
theorem dX4_grow_5 : decode cX4_grow 5 = .ok (.iload_n 1, 1) := by decide +kernel
theorem dX4_grow_6 : decode cX4_grow 6 = .ok (.iadd, 1) := by decide +kernel
theorem dX4_grow_7 : decode cX4_grow 7 = .ok (.laload, 1) := by decide +kernel
theorem dX4_grow_8 : decode cX4_grow 8 = .ok (.lstore_n 3, 1) := by decide +kernel
theorem dX4_grow_9 : decode cX4_grow 9 = .ok (.lload_n 3, 1) := by decide +kernel
theorem dX4_grow_10 : decode cX4_grow 10 = .ok (.iload_n 2, 1) := by decide +kernel
theorem dX4_grow_11 : decode cX4_grow 11 = .ok (.i2l, 1) := by decide +kernel
theorem dX4_grow_12 : decode cX4_grow 12 = .ok (.lmul, 1) := by decide +kernel
theorem dX4_grow_13 : decode cX4_grow 13 = .ok (.ldc2_w 170, 3) := by decide +kernel
theorem dX4_grow_16 : decode cX4_grow 16 = .ok (.ldiv, 1) := by decide +kernel
theorem dX4_grow_17 : decode cX4_grow 17 = .ok (.ldc2_w 172, 3) := by decide +kernel
theorem dX4_grow_20 : decode cX4_grow 20 = .ok (.lload_n 3, 1) := by decide +kernel
theorem dX4_grow_21 : decode cX4_grow 21 = .ok (.lsub, 1) := by decide +kernel
theorem dX4_grow_22 : decode cX4_grow 22 = .ok (.invokestatic 174, 3) := by decide +kernel
theorem dX4_grow_25 : decode cX4_grow 25 = .ok (.lstore 5, 2) := by decide +kernel
theorem dX4_grow_27 : decode cX4_grow 27 = .ok (.aload_n 0, 1) := by decide +kernel
theorem dX4_grow_28 : decode cX4_grow 28 = .ok (.getfield 22, 3) := by decide +kernel
theorem dX4_grow_31 : decode cX4_grow 31 = .ok (.bipush 120, 2) := by decide +kernel
theorem dX4_grow_33 : decode cX4_grow 33 = .ok (.iload_n 1, 1) := by decide +kernel
theorem dX4_grow_34 : decode cX4_grow 34 = .ok (.iadd, 1) := by decide +kernel
theorem dX4_grow_35 : decode cX4_grow 35 = .ok (.lload 5, 2) := by decide +kernel
theorem dX4_grow_37 : decode cX4_grow 37 = .ok (.lastore, 1) := by decide +kernel
theorem dX4_grow_38 : decode cX4_grow 38 = .ok (.aload_n 0, 1) := by decide +kernel
theorem dX4_grow_39 : decode cX4_grow 39 = .ok (.getfield 22, 3) := by decide +kernel
theorem dX4_grow_42 : decode cX4_grow 42 = .ok (.iconst 0, 1) := by decide +kernel
theorem dX4_grow_43 : decode cX4_grow 43 = .ok (.iload_n 1, 1) := by decide +kernel
theorem dX4_grow_44 : decode cX4_grow 44 = .ok (.iadd, 1) := by decide +kernel
theorem dX4_grow_45 : decode cX4_grow 45 = .ok (.lload_n 3, 1) := by decide +kernel
theorem dX4_grow_46 : decode cX4_grow 46 = .ok (.lload 5, 2) := by decide +kernel
theorem dX4_grow_48 : decode cX4_grow 48 = .ok (.ladd, 1) := by decide +kernel
theorem dX4_grow_49 : decode cX4_grow 49 = .ok (.lastore, 1) := by decide +kernel
theorem dX4_grow_50 : decode cX4_grow 50 = .ok (.return_, 1) := by decide +kernel
def kX4_grow (live : am_E) (Ret : am_R) : am_code := [(0, am_aload 0 1), (1, am_getR live 4 2 4), (4, am_const (.int 0) 5), (5, am_iload 1 6), (6, am_i2 (fun x y => x + y) 7), (7, am_lald live 1 8), (8, am_lstore 3 7 9), (9, am_lload 3 10), (10, am_iload 2 11), (11, am_i2l 12), (12, am_l2 (fun x y => x * y) 13), (13, am_const (.long 1000) 16), (16, am_l2z (fun x y => x / y) 17), (17, am_const (.long 1000000000000) 20), (20, am_lload 3 21), (21, am_l2 (fun x y => x - y) 22), (22, am_mathl (fun x y => if y < x then y else x) 23 25), (25, am_lstore 5 7 27), (27, am_aload 0 28), (28, am_getR live 4 2 31), (31, am_const (.int 120) 33), (33, am_iload 1 34), (34, am_i2 (fun x y => x + y) 35), (35, am_lload 5 37), (37, am_last live 1 38), (38, am_aload 0 39), (39, am_getR live 4 2 42), (42, am_const (.int 0) 43), (43, am_iload 1 44), (44, am_i2 (fun x y => x + y) 45), (45, am_lload 3 46), (46, am_lload 5 48), (48, am_l2 (fun x y => x + y) 49), (49, am_last live 1 50), (50, am_retV Ret)]
theorem koX4_grow (live : am_E) (Ret : am_R) : ∀ q ∈ kX4_grow live Ret, am_ok RX4 cX4_grow 7 none 1 23 live Ret q.1 q.2 :=
  am_kc (ak_aload_n dX4_grow_0 rfl rfl) <|
  am_kc (ak_getR (C := RX4) (T := TX4) (N := 18) rfl inX4w (by decide) rfl rfl rfl wd_296 dX4_grow_1 rfl) <|
  am_kc (ak_iconst dX4_grow_4 (by decide +kernel) rfl) <|
  am_kc (ak_iload_n dX4_grow_5 rfl rfl) <|
  am_kc (ak_iadd dX4_grow_6 rfl) <|
  am_kc (ak_lald (t := 1) (fun _ => rfl) rfl dX4_grow_7 rfl) <|
  am_kc (ak_lstore_n dX4_grow_8 rfl rfl) <|
  am_kc (ak_lload_n dX4_grow_9 rfl rfl) <|
  am_kc (ak_iload_n dX4_grow_10 rfl rfl) <|
  am_kc (ak_i2l dX4_grow_11 rfl) <|
  am_kc (ak_lmul dX4_grow_12 rfl) <|
  am_kc (ak_ldc2 wd_614 dX4_grow_13 rfl) <|
  am_kc (ak_ldiv dX4_grow_16 rfl) <|
  am_kc (ak_ldc2 wd_615 dX4_grow_17 rfl) <|
  am_kc (ak_lload_n dX4_grow_20 rfl rfl) <|
  am_kc (ak_lsub dX4_grow_21 rfl) <|
  am_kc (ak_lmin (am_w4 wd_604 wd_605 wd_68 wd_606) (by decide) dX4_grow_22 rfl) <|
  am_kc (ak_lstore dX4_grow_25 rfl) <|
  am_kc (ak_aload_n dX4_grow_27 rfl rfl) <|
  am_kc (ak_getR (C := RX4) (T := TX4) (N := 18) rfl inX4w (by decide) rfl rfl rfl wd_296 dX4_grow_28 rfl) <|
  am_kc (ak_bipush dX4_grow_31 (by decide +kernel) rfl) <|
  am_kc (ak_iload_n dX4_grow_33 rfl rfl) <|
  am_kc (ak_iadd dX4_grow_34 rfl) <|
  am_kc (ak_lload dX4_grow_35 rfl) <|
  am_kc (ak_last (t := 1) (fun _ => rfl) rfl dX4_grow_37 rfl) <|
  am_kc (ak_aload_n dX4_grow_38 rfl rfl) <|
  am_kc (ak_getR (C := RX4) (T := TX4) (N := 18) rfl inX4w (by decide) rfl rfl rfl wd_296 dX4_grow_39 rfl) <|
  am_kc (ak_iconst dX4_grow_42 (by decide +kernel) rfl) <|
  am_kc (ak_iload_n dX4_grow_43 rfl rfl) <|
  am_kc (ak_iadd dX4_grow_44 rfl) <|
  am_kc (ak_lload_n dX4_grow_45 rfl rfl) <|
  am_kc (ak_lload dX4_grow_46 rfl) <|
  am_kc (ak_ladd dX4_grow_48 rfl) <|
  am_kc (ak_last (t := 1) (fun _ => rfl) rfl dX4_grow_49 rfl) <|
  am_kc (ak_retV dX4_grow_50) <| am_kn
def am_grown (o : Int64) (r : Int32) : Int64 := if 1000000000000 - o < o * r.toInt64 / 1000 then 1000000000000 - o else o * r.toInt64 / 1000
theorem am_ix0 {l : Int32} : (0 + l).toNatClampNeg = l.toNatClampNeg := by rw [Int32.zero_add]
theorem am_ixk {l k : Int32} {n : Nat} (h : am_in l 30) (hk : k.toInt = (n : Int)) (hn : n ≤ 1000) : (k + l).toInt = (n : Int) + l.toInt ∧ (k + l).toNatClampNeg = n + l.toNatClampNeg := by
  obtain ⟨a1, a2⟩ := h
  have e := i_add (x := k) (y := l) (by rw [hk]; omega) (by rw [hk]; omega)
  rw [hk] at e
  have e2 := i_clamp (x := k + l) (by rw [e]; omega)
  have e3 := i_clamp (x := l) a1
  exact ⟨e, by omega⟩
def TX4_grow : am_T := fun live as M R => match as with
  | [.ref n, .int l, .int r] => am_mn live ∧ n = 4 ∧ am_in l 30 ∧ R none (am_wJ (am_wJ M 6 (120 + l.toNatClampNeg) (am_grown (M.2 6 l.toNatClampNeg) r)) 6 l.toNatClampNeg (M.2 6 l.toNatClampNeg + am_grown (M.2 6 l.toNatClampNeg) r))
  | _ => False
set_option maxRecDepth 100000 in
set_option maxHeartbeats 4000000 in
theorem metX4_grow : am_Met yX4_grow cX4_grow 7 none (1) (23) TX4_grow := by
  refine am_met (own := RX4) (by decide +kernel) rfl kX4_grow koX4_grow 100 (fun _ _ _ _ _ => none) (fun live as M Ret h => ?_) (fun _ _ _ _ _ _ _ _ hI => by cases hI)
  unfold TX4_grow at h
  split at h
  · next n l r =>
    refine ⟨Nat.le_of_ble_eq_true rfl, ?_⟩
    change am_wp _ _ _ _ [(0, Value.ref n), (1, Value.int l), (2, Value.int r)] _ _
    obtain ⟨hmn, rfl, hl, h⟩ := h
    obtain ⟨i1, i2, rfl⟩ := hmn
    have l6 : am_len 6 = 180 := rfl
    have e0 := am_ixk hl (k := 0) (n := 0) rfl (by decide)
    have e4 := am_ixk hl (k := 120) (n := 120) rfl (by decide)
    obtain ⟨a1, a2⟩ := hl
    repeat' (first | exact rfl | apply And.intro | intro hx | (refine Exists.intro _ (And.intro rfl ?_)))
    all_goals try first | (with_reducible change am_tI _ _) | (change Ret _ _) | (change Ret _ _ _) | (change Exists _)
    all_goals try dsimp only at *
    all_goals try exact absurd ‹(1000 : Int64) = 0› (by decide)
    all_goals first
      | (rw [e0.1]; omega)
      | (rw [e0.1, l6]; omega)
      | (rw [e4.1]; omega)
      | (rw [e4.1, l6]; omega)
      | skip
    simp only [e4.2, am_ix0]
    exact h
  · exact h.elim
end
section
/-! general: what holds of the told cells of the main house, and of the run's own -/
def am_rg (x : Int32) (n : Nat) : Prop := ∃ _ : Unit, 0 ≤ x.toInt ∧ x.toInt ≤ (n : Int)
def g_in (j : Int32) (N : Nat) : Prop := ∃ _ : Unit, am_in j N
theorem g_in.i {j : Int32} {N : Nat} (h : g_in j N) : am_in j N := by obtain ⟨-, h⟩ := h; exact h
theorem g_in.o {j : Int32} {N : Nat} (h : am_in j N) : g_in j N := ⟨(), h⟩
theorem am_rg.i {x : Int32} {n : Nat} (h : am_rg x n) : 0 ≤ x.toInt ∧ x.toInt ≤ (n : Int) := by obtain ⟨-, h⟩ := h; exact h
theorem am_rg.o {x : Int32} {n : Nat} (h1 : 0 ≤ x.toInt) (h2 : x.toInt ≤ (n : Int)) : am_rg x n := ⟨(), h1, h2⟩
/-- told: plans, lands, texts -/
def g_tI (M : am_M) : Prop := ∃ _ : Unit, (∀ k, k < 1200 → am_in (M.1 37 k) 5) ∧ (∀ k, k < 480 → am_in (M.1 24 k) 4) ∧ (am_t0 M 39 ∧ am_t0 M 42 ∧ am_t0 M 45 ∧ am_t0 M 48 ∧ am_t0 M 51)
/-- the run's own -/
def g_sI (M : am_M) : Prop := ∃ _ : Unit, am_rg (M.1 4 7) 30 ∧ (∀ k, k < 30 → am_in (M.1 7 k) 30) ∧ (∀ k, k < 30 → am_in (M.1 8 k) 30) ∧ am_in (M.1 4 8) 12 ∧ 0 ≤ (M.1 4 10).toInt ∧ (M.1 4 11 = -1 ∨ am_in (M.1 4 11) 4) ∧ (M.1 4 12 = -1 ∨ am_in (M.1 4 12) 5) ∧ am_in (M.1 4 16) 4
def g_rI (M : am_M) : Prop := ∃ _ : Unit, g_tI M ∧ g_sI M
def g_b (n : Nat) : Bool := Nat.ble 4 n && Nat.ble n 10
theorem g_b_of {n : Nat} (h : g_b n = true) : 4 ≤ n ∧ n ≤ 10 := by
  unfold g_b at h
  rw [Bool.and_eq_true] at h
  exact ⟨Nat.le_of_ble_eq_true h.1, Nat.le_of_ble_eq_true h.2⟩
/-- nothing but the run's own has changed -/
def g_sc (M M' : am_M) : Prop := ∃ _ : Unit, ∀ a b, (a < 4 ∨ 11 ≤ a) → M'.1 a b = M.1 a b ∧ M'.2 a b = M.2 a b
theorem g_sc.rf {M : am_M} : g_sc M M := ⟨(), fun _ _ _ => ⟨rfl, rfl⟩⟩
theorem g_sc.tr {M M' M'' : am_M} (h : g_sc M M') (h2 : g_sc M' M'') : g_sc M M'' := by
  obtain ⟨-, h⟩ := h
  obtain ⟨-, h2⟩ := h2
  exact ⟨(), fun a b z => ⟨(h2 a b z).1.trans (h a b z).1, (h2 a b z).2.trans (h a b z).2⟩⟩
theorem g_sc.wI {M M' : am_M} {n k : Nat} {v : Int32} (h : g_sc M M') (hn : g_b n = true) : g_sc M (am_wI M' n k v) := by
  obtain ⟨-, h⟩ := h
  have h1 := (g_b_of hn).1
  have h2 := (g_b_of hn).2
  refine ⟨(), fun a b z => ⟨?_, (h a b z).2⟩⟩
  rw [am_wI_1, if_neg (fun q => by omega)]
  exact (h a b z).1
theorem g_sc.wJ {M M' : am_M} {n k : Nat} {v : Int64} (h : g_sc M M') (hn : g_b n = true) : g_sc M (am_wJ M' n k v) := by
  obtain ⟨-, h⟩ := h
  have h1 := (g_b_of hn).1
  have h2 := (g_b_of hn).2
  refine ⟨(), fun a b z => ⟨(h a b z).1, ?_⟩⟩
  rw [am_wJ_1, if_neg (fun q => by omega)]
  exact (h a b z).2
theorem g_sc.cI {M M' : am_M} {n : Nat} {f : Nat → Int32} (h : g_sc M M') (hn : g_b n = true) : g_sc M (am_cI M' n f) := by
  obtain ⟨-, h⟩ := h
  have h1 := (g_b_of hn).1
  have h2 := (g_b_of hn).2
  refine ⟨(), fun a b z => ⟨?_, (h a b z).2⟩⟩
  rw [am_cI_1, if_neg (fun q => by omega)]
  exact (h a b z).1
theorem g_sc.cJ {M M' : am_M} {n : Nat} {f : Nat → Int64} (h : g_sc M M') (hn : g_b n = true) : g_sc M (am_cJ M' n f) := by
  obtain ⟨-, h⟩ := h
  have h1 := (g_b_of hn).1
  have h2 := (g_b_of hn).2
  refine ⟨(), fun a b z => ⟨(h a b z).1, ?_⟩⟩
  show (if a = n then f b else M'.2 a b) = _
  rw [if_neg (fun q => by omega)]
  exact (h a b z).2
theorem g_sc.st {M M' M'' : am_M} (h : g_sc M M') (h2 : am_st M' M'') : g_sc M M'' := by
  obtain ⟨-, h⟩ := h
  obtain ⟨-, h2, h3⟩ := h2
  refine ⟨(), fun a b z => ⟨?_, ?_⟩⟩
  · rw [h2]; exact (h a b z).1
  · rw [h3 a b (by omega)]; exact (h a b z).2
theorem g_sc.i {M M' : am_M} (h : g_sc M M') {a : Nat} (b : Nat) (ha : 11 ≤ a) : M'.1 a b = M.1 a b := by
  obtain ⟨-, h⟩ := h
  exact (h a b (Or.inr ha)).1
theorem g_sc.i2 {M M' : am_M} (h : g_sc M M') {a : Nat} (b : Nat) (ha : a < 4) : M'.1 a b = M.1 a b := by
  obtain ⟨-, h⟩ := h
  exact (h a b (Or.inl ha)).1
theorem g_rI.t {M : am_M} (h : g_rI M) : g_tI M := by obtain ⟨-, h, -⟩ := h; exact h
theorem g_rI.s {M : am_M} (h : g_rI M) : g_sI M := by obtain ⟨-, -, h⟩ := h; exact h
theorem g_tI.pl {M : am_M} (h : g_tI M) {k : Nat} (hk : k < 1200) : am_in (M.1 37 k) 5 := by obtain ⟨-, h, -⟩ := h; exact h k hk
theorem g_tI.ld {M : am_M} (h : g_tI M) {k : Nat} (hk : k < 480) : am_in (M.1 24 k) 4 := by obtain ⟨-, -, h, -⟩ := h; exact h k hk
theorem g_tI.tx {M : am_M} (h : g_tI M) : am_t0 M 39 ∧ am_t0 M 42 ∧ am_t0 M 45 ∧ am_t0 M 48 ∧ am_t0 M 51 := by obtain ⟨-, -, -, h⟩ := h; exact h
theorem g_tI.sc {M M' : am_M} (h : g_tI M) (c : g_sc M M') : g_tI M' := by
  obtain ⟨-, h1, h2, h3, h4, h5, h6, h7⟩ := h
  have ht : ∀ t, 11 ≤ t → am_t0 M t → am_t0 M' t := fun t ht z => by
    obtain ⟨-, z1, z2⟩ := z
    refine ⟨(), ?_, ?_⟩
    · rw [c.i 2 ht]; exact z1
    · rw [c.i 5 ht]; exact z2
  refine ⟨(), fun k hk => ?_, fun k hk => ?_, ht _ (by decide) h3, ht _ (by decide) h4, ht _ (by decide) h5, ht _ (by decide) h6, ht _ (by decide) h7⟩
  · rw [c.i k (by decide)]; exact h1 k hk
  · rw [c.i k (by decide)]; exact h2 k hk
theorem g_sI.sz {M : am_M} (h : g_sI M) : 0 ≤ (M.1 4 7).toInt ∧ (M.1 4 7).toInt ≤ 30 := by obtain ⟨-, h, -⟩ := h; exact h.i
theorem g_sI.mi {M : am_M} (h : g_sI M) {k : Nat} (hk : k < 30) : am_in (M.1 7 k) 30 := by obtain ⟨-, -, h, -⟩ := h; exact h k hk
theorem g_sI.qu {M : am_M} (h : g_sI M) {k : Nat} (hk : k < 30) : am_in (M.1 8 k) 30 := by obtain ⟨-, -, -, h, -⟩ := h; exact h k hk
theorem g_sI.pe {M : am_M} (h : g_sI M) : am_in (M.1 4 8) 12 := by obtain ⟨-, -, -, -, h, -⟩ := h; exact h
theorem g_sI.ny {M : am_M} (h : g_sI M) : 0 ≤ (M.1 4 10).toInt := by obtain ⟨-, -, -, -, -, h, -⟩ := h; exact h
theorem g_sI.li {M : am_M} (h : g_sI M) : M.1 4 11 = -1 ∨ am_in (M.1 4 11) 4 := by obtain ⟨-, -, -, -, -, -, h, -⟩ := h; exact h
theorem g_sI.pn {M : am_M} (h : g_sI M) : M.1 4 12 = -1 ∨ am_in (M.1 4 12) 5 := by obtain ⟨-, -, -, -, -, -, -, h, -⟩ := h; exact h
theorem g_sI.la {M : am_M} (h : g_sI M) : am_in (M.1 4 16) 4 := by obtain ⟨-, -, -, -, -, -, -, -, h⟩ := h; exact h
/-- a number of the run is written: what must hold of it -/
def g_fld (n k : Nat) (v : Int32) : Prop := (n = 4 → k = 7 → am_rg v 30) ∧ (n = 4 → k = 8 → am_in v 12) ∧ (n = 4 → k = 10 → 0 ≤ v.toInt) ∧ (n = 4 → k = 11 → v = -1 ∨ am_in v 4) ∧ (n = 4 → k = 12 → v = -1 ∨ am_in v 5) ∧ (n = 4 → k = 16 → am_in v 4) ∧ (n = 7 → am_in v 30) ∧ (n = 8 → am_in v 30)
theorem g_sI.wI {M : am_M} {n k : Nat} {v : Int32} (h : g_sI M) (hv : g_fld n k v) : g_sI (am_wI M n k v) := by
  obtain ⟨-, h1, h2, h3, h4, h5, h6, h7, h8⟩ := h
  obtain ⟨v1, v2, v3, v4, v5, v6, v7, v8⟩ := hv
  refine ⟨(), ?_, fun j hj => ?_, fun j hj => ?_, ?_, ?_, ?_, ?_, ?_⟩
  all_goals
    rw [am_wI_1]
    split
    · next q => first | exact v1 q.1.symm q.2.symm | exact v2 q.1.symm q.2.symm | exact v3 q.1.symm q.2.symm | exact v4 q.1.symm q.2.symm | exact v5 q.1.symm q.2.symm | exact v6 q.1.symm q.2.symm | exact v7 q.1.symm | exact v8 q.1.symm
    · first | assumption | exact h2 j hj | exact h3 j hj
theorem g_rI.wI {M : am_M} {n k : Nat} {v : Int32} (h : g_rI M) (hn : g_b n = true) (hv : g_fld n k v) : g_rI (am_wI M n k v) := by
  obtain ⟨-, h1, h2⟩ := h
  exact ⟨(), h1.sc (g_sc.rf.wI hn), h2.wI hv⟩
theorem g_rI.eI {M M' : am_M} (h : g_rI M) (e : ∀ a b, M'.1 a b = M.1 a b) : g_rI M' := by
  obtain ⟨-, h1, h2⟩ := h
  have e' : M'.1 = M.1 := funext fun a => funext fun b => e a b
  obtain ⟨-, a1, a2, a3, a4, a5, a6, a7⟩ := h1
  obtain ⟨-, b1, b2, b3, b4, b5, b6, b7, b8⟩ := h2
  have ht : ∀ t, am_t0 M t → am_t0 M' t := fun t z => by
    obtain ⟨-, z1, z2⟩ := z
    rw [← e'] at z1 z2
    exact ⟨(), z1, z2⟩
  rw [← e'] at a1 a2 b1 b2 b3 b4 b5 b6 b7 b8
  exact ⟨(), ⟨(), a1, a2, ht _ a3, ht _ a4, ht _ a5, ht _ a6, ht _ a7⟩, ⟨(), b1, b2, b3, b4, b5, b6, b7, b8⟩⟩
theorem g_rI.wJ {M : am_M} {n k : Nat} {v : Int64} (h : g_rI M) : g_rI (am_wJ M n k v) := h.eI (fun _ _ => rfl)
theorem g_rI.cJ {M : am_M} {n : Nat} {f : Nat → Int64} (h : g_rI M) : g_rI (am_cJ M n f) := h.eI (fun _ _ => rfl)
theorem g_rI.st {M M' : am_M} (h : g_rI M) (h2 : am_st M M') : g_rI M' := by
  obtain ⟨-, h2, -⟩ := h2
  exact h.eI (fun a b => by rw [h2])
theorem g_rI.c5 {M : am_M} {f : Nat → Int32} (h : g_rI M) : g_rI (am_cI M 5 f) := by
  obtain ⟨-, h1, h2⟩ := h
  refine ⟨(), h1.sc (g_sc.rf.cI rfl), ?_⟩
  obtain ⟨-, b1, b2, b3, b4, b5, b6, b7, b8⟩ := h2
  exact ⟨(), b1, b2, b3, b4, b5, b6, b7, b8⟩
/-- fields and cells of which nothing is asked -/
def g_fre (n k : Nat) : Bool := g_b n && !(Nat.beq n 7) && !(Nat.beq n 8) && !(Nat.beq n 4 && (Nat.beq k 7 || Nat.beq k 8 || Nat.beq k 10 || Nat.beq k 11 || Nat.beq k 12 || Nat.beq k 16))
theorem g_fre_fld {n k : Nat} {v : Int32} (h : g_fre n k = true) : g_fld n k v := by
  refine ⟨?_, ?_, ?_, ?_, ?_, ?_, ?_, ?_⟩
  all_goals
    intros
    subst_vars
    first | (exact absurd h (by decide)) | (simp [g_fre] at h)
theorem g_rI.wF {M : am_M} {n k : Nat} {v : Int32} (h : g_rI M) (hf : g_fre n k = true) : g_rI (am_wI M n k v) := by
  have h2 := hf
  unfold g_fre at h2
  simp only [Bool.and_eq_true] at h2
  exact h.wI h2.1.1.1 (g_fre_fld hf)
/-- a number of the layout: the cell is no literal -/
theorem g_rI.w5 {M : am_M} {k : Nat} {v : Int32} (h : g_rI M) : g_rI (am_wI M 5 k v) := h.wI rfl (by
  refine ⟨?_, ?_, ?_, ?_, ?_, ?_, ?_, ?_⟩
  all_goals intro q; exact absurd q (by decide))
theorem g_rI.w7 {M : am_M} {k : Nat} {v : Int32} (h : g_rI M) (hv : am_in v 30) : g_rI (am_wI M 7 k v) := h.wI rfl (by
  refine ⟨?_, ?_, ?_, ?_, ?_, ?_, fun _ => hv, fun _ => hv⟩
  all_goals intro q; exact absurd q (by decide))
theorem g_rI.w8 {M : am_M} {k : Nat} {v : Int32} (h : g_rI M) (hv : am_in v 30) : g_rI (am_wI M 8 k v) := h.wI rfl (by
  refine ⟨?_, ?_, ?_, ?_, ?_, ?_, fun _ => hv, fun _ => hv⟩
  all_goals intro q; exact absurd q (by decide))
theorem g_4 {k : Nat} {v : Int32} (h7 : k = 7 → am_rg v 30) (h8 : k = 8 → am_in v 12) (h10 : k = 10 → 0 ≤ v.toInt) (h11 : k = 11 → v = -1 ∨ am_in v 4) (h12 : k = 12 → v = -1 ∨ am_in v 5) (h16 : k = 16 → am_in v 4) : g_fld 4 k v :=
  ⟨fun _ => h7, fun _ => h8, fun _ => h10, fun _ => h11, fun _ => h12, fun _ => h16, fun q => absurd q (by decide), fun q => absurd q (by decide)⟩
theorem g_rI.w47 {M : am_M} {v : Int32} (h : g_rI M) (hv : am_rg v 30) : g_rI (am_wI M 4 7 v) := h.wI rfl (g_4 (fun _ => hv) (fun q => absurd q (by decide)) (fun q => absurd q (by decide)) (fun q => absurd q (by decide)) (fun q => absurd q (by decide)) (fun q => absurd q (by decide)))
theorem g_rI.w48 {M : am_M} {v : Int32} (h : g_rI M) (hv : am_in v 12) : g_rI (am_wI M 4 8 v) := h.wI rfl (g_4 (fun q => absurd q (by decide)) (fun _ => hv) (fun q => absurd q (by decide)) (fun q => absurd q (by decide)) (fun q => absurd q (by decide)) (fun q => absurd q (by decide)))
theorem g_rI.w410 {M : am_M} {v : Int32} (h : g_rI M) (hv : 0 ≤ v.toInt) : g_rI (am_wI M 4 10 v) := h.wI rfl (g_4 (fun q => absurd q (by decide)) (fun q => absurd q (by decide)) (fun _ => hv) (fun q => absurd q (by decide)) (fun q => absurd q (by decide)) (fun q => absurd q (by decide)))
theorem g_rI.w411 {M : am_M} {v : Int32} (h : g_rI M) (hv : v = -1 ∨ am_in v 4) : g_rI (am_wI M 4 11 v) := h.wI rfl (g_4 (fun q => absurd q (by decide)) (fun q => absurd q (by decide)) (fun q => absurd q (by decide)) (fun _ => hv) (fun q => absurd q (by decide)) (fun q => absurd q (by decide)))
theorem g_rI.w412 {M : am_M} {v : Int32} (h : g_rI M) (hv : v = -1 ∨ am_in v 5) : g_rI (am_wI M 4 12 v) := h.wI rfl (g_4 (fun q => absurd q (by decide)) (fun q => absurd q (by decide)) (fun q => absurd q (by decide)) (fun q => absurd q (by decide)) (fun _ => hv) (fun q => absurd q (by decide)))
theorem g_rI.w416 {M : am_M} {v : Int32} (h : g_rI M) (hv : am_in v 4) : g_rI (am_wI M 4 16 v) := h.wI rfl (g_4 (fun q => absurd q (by decide)) (fun q => absurd q (by decide)) (fun q => absurd q (by decide)) (fun q => absurd q (by decide)) (fun q => absurd q (by decide)) (fun _ => hv))
/-- the plan that counts is one -/
theorem g_rI.pln {M : am_M} (h : g_rI M) {l y : Int32} (hl : am_in l 30) (hy : am_in y 40) : am_in (am_pln M l y) 5 := by
  have e := am_lny hl hy
  unfold am_pln
  split
  · refine h.t.pl ?_
    have e2 := i_clamp (x := l * 40 + y) (by obtain ⟨a1, a2⟩ := hl; obtain ⟨b1, b2⟩ := hy; omega)
    obtain ⟨a1, a2⟩ := hl; obtain ⟨b1, b2⟩ := hy
    omega
  · next q => exact h.s.pn.resolve_left q
theorem g_cl {x : Int32} {n : Nat} (h : am_in x n) : x.toNatClampNeg < n := by
  obtain ⟨a1, a2⟩ := h
  have := i_clamp a1
  omega
theorem i_inc {x : Int32} (h1 : -1 ≤ x.toInt) (h2 : x.toInt < 2000000000) : (x + 1).toInt = x.toInt + 1 := by
  have hi := i_add (x := x) (y := 1) (by simp only [Int32.reduceToInt]; omega) (by simp only [Int32.reduceToInt]; omega)
  simp only [Int32.reduceToInt] at hi
  exact hi
/-- the place of what is counted of a loan -/
theorem g_ix {l : Int32} (h : am_in l 30) (k : Int32) (n : Nat) (hk : k.toInt = (n : Int)) (hn : n ≤ 150) : 0 ≤ (k + l).toInt ∧ (k + l).toInt < 180 ∧ (k + l).toNatClampNeg = n + l.toNatClampNeg := by
  have e := am_ixk h hk (by omega)
  obtain ⟨a1, a2⟩ := h
  exact ⟨by omega, by omega, e.2⟩
/-- a text stands at its plan -/
theorem g_txt {live : am_E} (hmn : am_mn live) {p : Int32} (hp : am_in p 5) : ∃ t s c : Nat, live.2 38 p.toNatClampNeg = some t ∧ live.2 t 0 = some s ∧ live.2 t 1 = some c ∧ am_tc live t s c = true ∧ am_isO live 5 t = true ∧ (11 ≤ t ∧ t < 60) ∧ t = 39 + 3 * p.toNatClampNeg ∧ s = 40 + 3 * p.toNatClampNeg ∧ c = 41 + 3 * p.toNatClampNeg ∧ ∀ M, g_tI M → am_t0 M t := by
  obtain ⟨i1, i2, rfl⟩ := hmn
  have h := g_cl hp
  generalize p.toNatClampNeg = k at h ⊢
  match k, h with
  | 0, _ => exact ⟨39, 40, 41, rfl, rfl, rfl, rfl, rfl, ⟨by decide, by decide⟩, rfl, rfl, rfl, fun M z => z.tx.1⟩
  | 1, _ => exact ⟨42, 43, 44, rfl, rfl, rfl, rfl, rfl, ⟨by decide, by decide⟩, rfl, rfl, rfl, fun M z => z.tx.2.1⟩
  | 2, _ => exact ⟨45, 46, 47, rfl, rfl, rfl, rfl, rfl, ⟨by decide, by decide⟩, rfl, rfl, rfl, fun M z => z.tx.2.2.1⟩
  | 3, _ => exact ⟨48, 49, 50, rfl, rfl, rfl, rfl, rfl, ⟨by decide, by decide⟩, rfl, rfl, rfl, fun M z => z.tx.2.2.2.1⟩
  | 4, _ => exact ⟨51, 52, 53, rfl, rfl, rfl, rfl, rfl, ⟨by decide, by decide⟩, rfl, rfl, rfl, fun M z => z.tx.2.2.2.2⟩
  | k + 5, h => exact absurd h (by omega)
theorem am_lt_r {x a b : Nat} (h : a < b) : am_lt (x, a) (x, b) := Or.inr ⟨rfl, h⟩
theorem am_lt_l {x y a b : Nat} (h : x < y) : am_lt (x, a) (y, b) := Or.inl h
/-- what the ways change: the run's own, the ways' longs, what was owed ahead -/
def g_sw (M M' : am_M) : Prop := ∃ _ : Unit, ∀ a b, ((a < 4 ∨ 11 ≤ a) → M'.1 a b = M.1 a b) ∧ (11 ≤ a → M'.2 a b = M.2 a b)
def g_we (M M' : am_M) : Prop := ∃ _ : Unit, M'.1 = M.1 ∧ ∀ a b, a ≠ 2 → M'.2 a b = M.2 a b
theorem g_sw.rf {M : am_M} : g_sw M M := ⟨(), fun _ _ => ⟨fun _ => rfl, fun _ => rfl⟩⟩
theorem g_sw.tr {M M' M'' : am_M} (h : g_sw M M') (h2 : g_sw M' M'') : g_sw M M'' := by
  obtain ⟨-, h⟩ := h
  obtain ⟨-, h2⟩ := h2
  exact ⟨(), fun a b => ⟨fun z => ((h2 a b).1 z).trans ((h a b).1 z), fun z => ((h2 a b).2 z).trans ((h a b).2 z)⟩⟩
theorem g_sw.sc {M M' M'' : am_M} (h : g_sw M M') (h2 : g_sc M' M'') : g_sw M M'' := by
  obtain ⟨-, h2⟩ := h2
  exact h.tr ⟨(), fun a b => ⟨fun z => (h2 a b z).1, fun z => (h2 a b (Or.inr z)).2⟩⟩
theorem g_sw.we {M M' M'' : am_M} (h : g_sw M M') (h2 : g_we M' M'') : g_sw M M'' := by
  obtain ⟨-, h2, h3⟩ := h2
  exact h.tr ⟨(), fun a b => ⟨fun z => by rw [h2], fun z => h3 a b (by omega)⟩⟩
def g_b2 (n : Nat) : Bool := Nat.ble 2 n && Nat.ble n 10
theorem g_b2_of {n : Nat} (h : g_b2 n = true) : 2 ≤ n ∧ n ≤ 10 := by
  unfold g_b2 at h
  rw [Bool.and_eq_true] at h
  exact ⟨Nat.le_of_ble_eq_true h.1, Nat.le_of_ble_eq_true h.2⟩
theorem g_sw.wI {M M' : am_M} {n k : Nat} {v : Int32} (h : g_sw M M') (hn : g_b n = true) : g_sw M (am_wI M' n k v) := h.sc (g_sc.rf.wI hn)
theorem g_sw.wJ {M M' : am_M} {n k : Nat} {v : Int64} (h : g_sw M M') (hn : g_b2 n = true) : g_sw M (am_wJ M' n k v) := by
  have h1 := g_b2_of hn
  refine h.tr ⟨(), fun a b => ⟨fun z => rfl, fun z => ?_⟩⟩
  rw [am_wJ_1, if_neg (fun q => by omega)]
theorem g_sw.cJ {M M' : am_M} {n : Nat} {f : Nat → Int64} (h : g_sw M M') (hn : g_b2 n = true) : g_sw M (am_cJ M' n f) := by
  have h1 := g_b2_of hn
  refine h.tr ⟨(), fun a b => ⟨fun z => rfl, fun z => ?_⟩⟩
  show (if a = n then f b else M'.2 a b) = _
  rw [if_neg (fun q => by omega)]
theorem g_rI.cg {M M' : am_M} (h : g_rI M) (e : ∀ a b, 4 ≤ a → M'.1 a b = M.1 a b) : g_rI M' := by
  obtain ⟨-, h1, h2⟩ := h
  obtain ⟨-, a1, a2, a3, a4, a5, a6, a7⟩ := h1
  obtain ⟨-, b1, b2, b3, b4, b5, b6, b7, b8⟩ := h2
  have ht : ∀ t, 4 ≤ t → am_t0 M t → am_t0 M' t := fun t ht z => by
    obtain ⟨-, z1, z2⟩ := z
    refine ⟨(), ?_, ?_⟩
    · rw [e t 2 ht]; exact z1
    · rw [e t 5 ht]; exact z2
  refine ⟨(), ⟨(), fun k hk => ?_, fun k hk => ?_, ht _ (by decide) a3, ht _ (by decide) a4, ht _ (by decide) a5, ht _ (by decide) a6, ht _ (by decide) a7⟩, ⟨(), ?_, fun k hk => ?_, fun k hk => ?_, ?_, ?_, ?_, ?_, ?_⟩⟩
  all_goals rw [e _ _ (by decide)]
  · exact a1 k hk
  · exact a2 k hk
  · exact b1
  · exact b2 k hk
  · exact b3 k hk
  · exact b4
  · exact b5
  · exact b6
  · exact b7
  · exact b8
theorem g_rI.we {M M' : am_M} (h : g_rI M) (h2 : g_we M M') : g_rI M' := by
  obtain ⟨-, h2, -⟩ := h2
  exact h.eI (fun a b => by rw [h2])
/-- the ways' own numbers -/
def g_wI (M : am_M) (p : Int32) : Prop := ∃ _ : Unit, (0 ≤ p.toInt ∧ p.toInt < (M.1 2 3).toInt) ∧ (M.1 2 3).toInt ≤ 5 ∧ 0 ≤ (M.1 2 2).toInt ∧ (M.1 2 2).toInt + (M.1 2 3).toInt ≤ 40
theorem g_wI.sw {M M' : am_M} {p : Int32} (h : g_wI M p) (c : g_sw M M') : g_wI M' p := by
  obtain ⟨-, h1, h2, h3, h4⟩ := h
  obtain ⟨-, c⟩ := c
  have e3 := (c 2 3).1 (Or.inl (by decide))
  have e2 := (c 2 2).1 (Or.inl (by decide))
  rw [← e3] at h1 h2 h4
  rw [← e2] at h3 h4
  exact ⟨(), h1, h2, h3, h4⟩
/-- all that is told stays -/
def g_sv (M M' : am_M) : Prop := ∃ _ : Unit, ∀ a b, 11 ≤ a → M'.1 a b = M.1 a b ∧ M'.2 a b = M.2 a b
theorem g_sw.v {M M' : am_M} (h : g_sw M M') : g_sv M M' := by
  obtain ⟨-, h⟩ := h
  exact ⟨(), fun a b z => ⟨(h a b).1 (Or.inr z), (h a b).2 z⟩⟩
theorem g_sc.v {M M' : am_M} (h : g_sc M M') : g_sv M M' := (g_sw.rf.sc h).v
theorem g_sv.tr {M M' M'' : am_M} (h : g_sv M M') (h2 : g_sv M' M'') : g_sv M M'' := by
  obtain ⟨-, h⟩ := h
  obtain ⟨-, h2⟩ := h2
  exact ⟨(), fun a b z => ⟨(h2 a b z).1.trans (h a b z).1, (h2 a b z).2.trans (h a b z).2⟩⟩
theorem g_sv.w2 {M M' : am_M} {k : Nat} {v : Int32} (h : g_sv M M') : g_sv M (am_wI M' 2 k v) := h.tr ⟨(), fun a b z => ⟨by rw [am_wI_1, if_neg (fun q => by omega)], rfl⟩⟩
theorem g_sv.w2J {M M' : am_M} {k : Nat} {v : Int64} (h : g_sv M M') : g_sv M (am_wJ M' 2 k v) := h.tr ⟨(), fun a b z => ⟨rfl, by rw [am_wJ_1, if_neg (fun q => by omega)]⟩⟩
theorem g_rI.w2 {M : am_M} {k : Nat} {v : Int32} (h : g_rI M) : g_rI (am_wI M 2 k v) := h.cg (fun a b z => by rw [am_wI_1, if_neg (fun q => by omega)])
theorem g_sv.rf {M : am_M} : g_sv M M := ⟨(), fun _ _ _ => ⟨rfl, rfl⟩⟩
end
section
/-! Run: what is safe of it, I -/
theorem wd_620 : Cond.methodLink "LearnLoans$Run" 180 yX0_givenBack ∈ am_ws := am_wsi (List.mem_of_getElem? (i := 620) (by decide +kernel)) (by decide +kernel)
theorem wd_523 : Cond.instanceMethod yX0_givenBack ∈ am_ws := am_wsi (List.mem_of_getElem? (i := 523) (by decide +kernel)) (by decide +kernel)
theorem wd_524 : Cond.selects "LearnLoans$House" yX0_givenBack yX0_givenBack ∈ am_ws := am_wsi (List.mem_of_getElem? (i := 524) (by decide +kernel)) (by decide +kernel)
theorem wd_61 : Cond.initialized "LearnLoans$House" ∈ am_ws := am_wsi (List.mem_of_getElem? (i := 61) (by decide +kernel)) (by decide +kernel)
theorem wd_525 : Cond.code yX0_givenBack cX0_givenBack 5 (some .long) ∈ am_ws := am_wsi (List.mem_of_getElem? (i := 525) (by decide +kernel)) (by decide +kernel)
theorem dX4_draw_0 : decode cX4_draw 0 = .ok (.aload_n 0, 1) := by decide +kernel
theorem dX4_draw_1 : decode cX4_draw 1 = .ok (.getfield 22, 3) := by decide +kernel
theorem dX4_draw_4 : decode cX4_draw 4 = .ok (.iconst 0, 1) := by decide +kernel
theorem dX4_draw_5 : decode cX4_draw 5 = .ok (.iload_n 1, 1) := by decide +kernel
theorem dX4_draw_6 : decode cX4_draw 6 = .ok (.iadd, 1) := by decide +kernel
theorem dX4_draw_7 : decode cX4_draw 7 = .ok (.laload, 1) := by decide +kernel
theorem dX4_draw_8 : decode cX4_draw 8 = .ok (.lstore_n 3, 1) := by decide +kernel
theorem dX4_draw_9 : decode cX4_draw 9 = .ok (.iload_n 2, 1) := by decide +kernel
theorem dX4_draw_10 : decode cX4_draw 10 = .ok (.aload_n 0, 1) := by decide +kernel
theorem dX4_draw_11 : decode cX4_draw 11 = .ok (.getfield 12, 3) := by decide +kernel
theorem dX4_draw_14 : decode cX4_draw 14 = .ok (.getfield 59, 3) := by decide +kernel
theorem dX4_draw_17 : decode cX4_draw 17 = .ok (.iload_n 1, 1) := by decide +kernel
theorem dX4_draw_18 : decode cX4_draw 18 = .ok (.iconst 2, 1) := by decide +kernel
theorem dX4_draw_19 : decode cX4_draw 19 = .ok (.invokevirtual 66, 3) := by decide +kernel
theorem dX4_draw_22 : decode cX4_draw 22 = .ok (.if_icmp .ne 19, 3) := by decide +kernel
theorem dX4_draw_25 : decode cX4_draw 25 = .ok (.lload_n 3, 1) := by decide +kernel
theorem dX4_draw_26 : decode cX4_draw 26 = .ok (.aload_n 0, 1) := by decide +kernel
theorem dX4_draw_27 : decode cX4_draw 27 = .ok (.getfield 12, 3) := by decide +kernel
theorem dX4_draw_30 : decode cX4_draw 30 = .ok (.getfield 59, 3) := by decide +kernel
theorem dX4_draw_33 : decode cX4_draw 33 = .ok (.iload_n 1, 1) := by decide +kernel
theorem dX4_draw_34 : decode cX4_draw 34 = .ok (.iconst 3, 1) := by decide +kernel
theorem dX4_draw_35 : decode cX4_draw 35 = .ok (.invokevirtual 66, 3) := by decide +kernel
theorem dX4_draw_38 : decode cX4_draw 38 = .ok (.i2l, 1) := by decide +kernel
theorem dX4_draw_39 : decode cX4_draw 39 = .ok (.ladd, 1) := by decide +kernel
theorem dX4_draw_40 : decode cX4_draw 40 = .ok (.lstore_n 3, 1) := by decide +kernel
theorem dX4_draw_41 : decode cX4_draw 41 = .ok (.iload_n 2, 1) := by decide +kernel
theorem dX4_draw_42 : decode cX4_draw 42 = .ok (.aload_n 0, 1) := by decide +kernel
theorem dX4_draw_43 : decode cX4_draw 43 = .ok (.getfield 12, 3) := by decide +kernel
theorem dX4_draw_46 : decode cX4_draw 46 = .ok (.getfield 59, 3) := by decide +kernel
theorem dX4_draw_49 : decode cX4_draw 49 = .ok (.iload_n 1, 1) := by decide +kernel
theorem dX4_draw_50 : decode cX4_draw 50 = .ok (.iconst 5, 1) := by decide +kernel
theorem dX4_draw_51 : decode cX4_draw 51 = .ok (.invokevirtual 66, 3) := by decide +kernel
theorem dX4_draw_54 : decode cX4_draw 54 = .ok (.if_icmp .ne 18, 3) := by decide +kernel
theorem dX4_draw_57 : decode cX4_draw 57 = .ok (.lload_n 3, 1) := by decide +kernel
theorem dX4_draw_58 : decode cX4_draw 58 = .ok (.lload_n 3, 1) := by decide +kernel
theorem dX4_draw_59 : decode cX4_draw 59 = .ok (.aload_n 0, 1) := by decide +kernel
theorem dX4_draw_60 : decode cX4_draw 60 = .ok (.getfield 12, 3) := by decide +kernel
theorem dX4_draw_63 : decode cX4_draw 63 = .ok (.iload_n 1, 1) := by decide +kernel
theorem dX4_draw_64 : decode cX4_draw 64 = .ok (.invokevirtual 180, 3) := by decide +kernel
theorem dX4_draw_67 : decode cX4_draw 67 = .ok (.invokestatic 174, 3) := by decide +kernel
theorem dX4_draw_70 : decode cX4_draw 70 = .ok (.lsub, 1) := by decide +kernel
theorem dX4_draw_71 : decode cX4_draw 71 = .ok (.lstore_n 3, 1) := by decide +kernel
theorem dX4_draw_72 : decode cX4_draw 72 = .ok (.aload_n 0, 1) := by decide +kernel
theorem dX4_draw_73 : decode cX4_draw 73 = .ok (.getfield 22, 3) := by decide +kernel
theorem dX4_draw_76 : decode cX4_draw 76 = .ok (.iconst 0, 1) := by decide +kernel
theorem dX4_draw_77 : decode cX4_draw 77 = .ok (.iload_n 1, 1) := by decide +kernel
theorem dX4_draw_78 : decode cX4_draw 78 = .ok (.iadd, 1) := by decide +kernel
theorem dX4_draw_79 : decode cX4_draw 79 = .ok (.lload_n 3, 1) := by decide +kernel
theorem dX4_draw_80 : decode cX4_draw 80 = .ok (.lastore, 1) := by decide +kernel
theorem dX4_draw_81 : decode cX4_draw 81 = .ok (.return_, 1) := by decide +kernel
def kX4_draw (live : am_E) (Ret : am_R) : am_code := [(0, am_aload 0 1), (1, am_getR live 4 2 4), (4, am_const (.int 0) 5), (5, am_iload 1 6), (6, am_i2 (fun x y => x + y) 7), (7, am_lald live 1 8), (8, am_lstore 3 5 9), (9, am_iload 2 10), (10, am_aload 0 11), (11, am_getR live 4 0 14), (14, am_getR live 0 4 17), (17, am_iload 1 18), (18, am_const (.int 2) 19), (19, am_callV live 3 2 TX3_at 22), (22, am_if2 (fun x y => x = y) 25 41), (25, am_lload 3 26), (26, am_aload 0 27), (27, am_getR live 4 0 30), (30, am_getR live 0 4 33), (33, am_iload 1 34), (34, am_const (.int 3) 35), (35, am_callV live 3 2 TX3_at 38), (38, am_i2l 39), (39, am_l2 (fun x y => x + y) 40), (40, am_lstore 3 5 41), (41, am_iload 2 42), (42, am_aload 0 43), (43, am_getR live 4 0 46), (46, am_getR live 0 4 49), (49, am_iload 1 50), (50, am_const (.int 5) 51), (51, am_callV live 3 2 TX3_at 54), (54, am_if2 (fun x y => x = y) 57 72), (57, am_lload 3 58), (58, am_lload 3 59), (59, am_aload 0 60), (60, am_getR live 4 0 63), (63, am_iload 1 64), (64, am_callV live 0 1 TX0_givenBack 67), (67, am_mathl (fun x y => if y < x then y else x) 47 70), (70, am_l2 (fun x y => x - y) 71), (71, am_lstore 3 5 72), (72, am_aload 0 73), (73, am_getR live 4 2 76), (76, am_const (.int 0) 77), (77, am_iload 1 78), (78, am_i2 (fun x y => x + y) 79), (79, am_lload 3 80), (80, am_last live 1 81), (81, am_retV Ret)]
theorem koX4_draw (live : am_E) (Ret : am_R) : ∀ q ∈ kX4_draw live Ret, am_ok RX4 cX4_draw 5 none 2 47 live Ret q.1 q.2 :=
  am_kc (ak_aload_n dX4_draw_0 rfl rfl) <|
  am_kc (ak_getR (C := RX4) (T := TX4) (N := 18) rfl inX4w (by decide) rfl rfl rfl wd_296 dX4_draw_1 rfl) <|
  am_kc (ak_iconst dX4_draw_4 (by decide +kernel) rfl) <|
  am_kc (ak_iload_n dX4_draw_5 rfl rfl) <|
  am_kc (ak_iadd dX4_draw_6 rfl) <|
  am_kc (ak_lald (t := 1) (fun _ => rfl) rfl dX4_draw_7 rfl) <|
  am_kc (ak_lstore_n dX4_draw_8 rfl rfl) <|
  am_kc (ak_iload_n dX4_draw_9 rfl rfl) <|
  am_kc (ak_aload_n dX4_draw_10 rfl rfl) <|
  am_kc (ak_getR (C := RX4) (T := TX4) (N := 18) rfl inX4w (by decide) rfl rfl rfl wd_291 dX4_draw_11 rfl) <|
  am_kc (ak_getR (C := RX0) (T := TX0) (N := 13) rfl inX0w (by decide) rfl rfl rfl wd_206 dX4_draw_14 rfl) <|
  am_kc (ak_iload_n dX4_draw_17 rfl rfl) <|
  am_kc (ak_iconst dX4_draw_18 (by decide +kernel) rfl) <|
  am_kc (ak_callV (C := RX3) (F := TX3) (N := 3) metX3_at rfl ⟨rfl, by decide +kernel, by decide +kernel, by decide +kernel⟩ (am_w5 wd_499 wd_500 wd_501 wd_64 wd_502) (by decide) dX4_draw_19 rfl) <|
  am_kc (ak_icmp_ne dX4_draw_22 (by decide +kernel) rfl) <|
  am_kc (ak_lload_n dX4_draw_25 rfl rfl) <|
  am_kc (ak_aload_n dX4_draw_26 rfl rfl) <|
  am_kc (ak_getR (C := RX4) (T := TX4) (N := 18) rfl inX4w (by decide) rfl rfl rfl wd_291 dX4_draw_27 rfl) <|
  am_kc (ak_getR (C := RX0) (T := TX0) (N := 13) rfl inX0w (by decide) rfl rfl rfl wd_206 dX4_draw_30 rfl) <|
  am_kc (ak_iload_n dX4_draw_33 rfl rfl) <|
  am_kc (ak_iconst dX4_draw_34 (by decide +kernel) rfl) <|
  am_kc (ak_callV (C := RX3) (F := TX3) (N := 3) metX3_at rfl ⟨rfl, by decide +kernel, by decide +kernel, by decide +kernel⟩ (am_w5 wd_499 wd_500 wd_501 wd_64 wd_502) (by decide) dX4_draw_35 rfl) <|
  am_kc (ak_i2l dX4_draw_38 rfl) <|
  am_kc (ak_ladd dX4_draw_39 rfl) <|
  am_kc (ak_lstore_n dX4_draw_40 rfl rfl) <|
  am_kc (ak_iload_n dX4_draw_41 rfl rfl) <|
  am_kc (ak_aload_n dX4_draw_42 rfl rfl) <|
  am_kc (ak_getR (C := RX4) (T := TX4) (N := 18) rfl inX4w (by decide) rfl rfl rfl wd_291 dX4_draw_43 rfl) <|
  am_kc (ak_getR (C := RX0) (T := TX0) (N := 13) rfl inX0w (by decide) rfl rfl rfl wd_206 dX4_draw_46 rfl) <|
  am_kc (ak_iload_n dX4_draw_49 rfl rfl) <|
  am_kc (ak_iconst dX4_draw_50 (by decide +kernel) rfl) <|
  am_kc (ak_callV (C := RX3) (F := TX3) (N := 3) metX3_at rfl ⟨rfl, by decide +kernel, by decide +kernel, by decide +kernel⟩ (am_w5 wd_499 wd_500 wd_501 wd_64 wd_502) (by decide) dX4_draw_51 rfl) <|
  am_kc (ak_icmp_ne dX4_draw_54 (by decide +kernel) rfl) <|
  am_kc (ak_lload_n dX4_draw_57 rfl rfl) <|
  am_kc (ak_lload_n dX4_draw_58 rfl rfl) <|
  am_kc (ak_aload_n dX4_draw_59 rfl rfl) <|
  am_kc (ak_getR (C := RX4) (T := TX4) (N := 18) rfl inX4w (by decide) rfl rfl rfl wd_291 dX4_draw_60 rfl) <|
  am_kc (ak_iload_n dX4_draw_63 rfl rfl) <|
  am_kc (ak_callV (C := RX0) (F := TX0) (N := 13) metX0_givenBack rfl ⟨rfl, by decide +kernel, by decide +kernel, by decide +kernel⟩ (am_w5 wd_620 wd_523 wd_524 wd_61 wd_525) (by decide) dX4_draw_64 rfl) <|
  am_kc (ak_lmin (am_w4 wd_604 wd_605 wd_68 wd_606) (by decide) dX4_draw_67 rfl) <|
  am_kc (ak_lsub dX4_draw_70 rfl) <|
  am_kc (ak_lstore_n dX4_draw_71 rfl rfl) <|
  am_kc (ak_aload_n dX4_draw_72 rfl rfl) <|
  am_kc (ak_getR (C := RX4) (T := TX4) (N := 18) rfl inX4w (by decide) rfl rfl rfl wd_296 dX4_draw_73 rfl) <|
  am_kc (ak_iconst dX4_draw_76 (by decide +kernel) rfl) <|
  am_kc (ak_iload_n dX4_draw_77 rfl rfl) <|
  am_kc (ak_iadd dX4_draw_78 rfl) <|
  am_kc (ak_lload_n dX4_draw_79 rfl rfl) <|
  am_kc (ak_last (t := 1) (fun _ => rfl) rfl dX4_draw_80 rfl) <|
  am_kc (ak_retV dX4_draw_81) <| am_kn
def TX4_draw : am_T := fun live as M R => match as with
  | [.ref n, .int l, .int y] => am_mn live ∧ n = 4 ∧ am_in l 30 ∧ ∀ k v, R none (am_wJ M 6 k v)
  | _ => False
set_option maxRecDepth 100000 in
set_option maxHeartbeats 4000000 in
theorem metX4_draw : am_Met yX4_draw cX4_draw 5 none (2) (47) TX4_draw := by
  refine am_met (own := RX4) (by decide +kernel) rfl kX4_draw koX4_draw 100 (fun _ _ _ _ _ => none) (fun live as M Ret h => ?_) (fun _ _ _ _ _ _ _ _ hI => by cases hI)
  unfold TX4_draw at h
  split at h
  · next n l y =>
    refine ⟨Nat.le_of_ble_eq_true rfl, ?_⟩
    change am_wp _ _ _ _ [(0, Value.ref n), (1, Value.int l), (2, Value.int y)] _ _
    obtain ⟨hmn, rfl, hl, h⟩ := h
    have hmn2 := hmn
    obtain ⟨i1, i2, rfl⟩ := hmn2
    have l6 : am_len 6 = 180 := rfl
    have e0 := g_ix hl 0 0 rfl (by decide)
    repeat' (first | exact rfl | (with_reducible exact hmn) | apply And.intro | intro hx | (refine Exists.intro _ (And.intro rfl ?_)))
    all_goals try first | (with_reducible change am_tI _ _) | (change Ret _ _) | (change Ret _ _ _) | (change Exists _)
    all_goals try dsimp only at *
    all_goals try exact absurd ‹(1000 : Int64) = 0› (by decide)
    all_goals first
      | exact e0.1
      | (rw [l6]; exact e0.2.1)
      | exact h _ _
  · exact h.elim
theorem wd_198 : Cond.fieldLink "LearnLoans$Run" 235 "LearnLoans$House" "scales" "[I" ∈ am_ws := am_wsi (List.mem_of_getElem? (i := 198) (by decide +kernel)) (by decide +kernel)
theorem wd_607 : Cond.methodLink "LearnLoans$Run" 226 Lib.MathLoose.max_long.x ∈ am_ws := am_wsi (List.mem_of_getElem? (i := 607) (by decide +kernel)) (by decide +kernel)
theorem wd_608 : Cond.static Lib.MathLoose.max_long.x ∈ am_ws := am_wsi (List.mem_of_getElem? (i := 608) (by decide +kernel)) (by decide +kernel)
theorem wd_609 : Cond.code Lib.MathLoose.max_long.x Lib.MathLoose.max_long.code 4 (some .long) ∈ am_ws := am_wsi (List.mem_of_getElem? (i := 609) (by decide +kernel)) (by decide +kernel)
theorem dX4_asked_0 : decode cX4_asked 0 = .ok (.aload_n 0, 1) := by decide +kernel
theorem dX4_asked_1 : decode cX4_asked 1 = .ok (.getfield 136, 3) := by decide +kernel
theorem dX4_asked_4 : decode cX4_asked 4 = .ok (.iconst (-1), 1) := by decide +kernel
theorem dX4_asked_5 : decode cX4_asked 5 = .ok (.if_icmp .ne 24, 3) := by decide +kernel
theorem dX4_asked_8 : decode cX4_asked 8 = .ok (.aload_n 0, 1) := by decide +kernel
theorem dX4_asked_9 : decode cX4_asked 9 = .ok (.getfield 138, 3) := by decide +kernel
theorem dX4_asked_12 : decode cX4_asked 12 = .ok (.ifCond .ne 7, 3) := by decide +kernel
theorem dX4_asked_15 : decode cX4_asked 15 = .ok (.lconst 0, 1) := by decide +kernel
theorem dX4_asked_16 : decode cX4_asked 16 = .ok (.goto 12, 3) := by decide +kernel
theorem dX4_asked_19 : decode cX4_asked 19 = .ok (.aload_n 0, 1) := by decide +kernel
theorem dX4_asked_20 : decode cX4_asked 20 = .ok (.getfield 18, 3) := by decide +kernel
theorem dX4_asked_23 : decode cX4_asked 23 = .ok (.iload_n 1, 1) := by decide +kernel
theorem dX4_asked_24 : decode cX4_asked 24 = .ok (.iconst 5, 1) := by decide +kernel
theorem dX4_asked_25 : decode cX4_asked 25 = .ok (.iadd, 1) := by decide +kernel
theorem dX4_asked_26 : decode cX4_asked 26 = .ok (.iaload, 1) := by decide +kernel
theorem dX4_asked_27 : decode cX4_asked 27 = .ok (.i2l, 1) := by decide +kernel
theorem dX4_asked_28 : decode cX4_asked 28 = .ok (.lreturn, 1) := by decide +kernel
theorem dX4_asked_29 : decode cX4_asked 29 = .ok (.aload_n 0, 1) := by decide +kernel
theorem dX4_asked_30 : decode cX4_asked 30 = .ok (.getfield 18, 3) := by decide +kernel
theorem dX4_asked_33 : decode cX4_asked 33 = .ok (.iload_n 1, 1) := by decide +kernel
theorem dX4_asked_34 : decode cX4_asked 34 = .ok (.iconst 0, 1) := by decide +kernel
theorem dX4_asked_35 : decode cX4_asked 35 = .ok (.iadd, 1) := by decide +kernel
theorem dX4_asked_36 : decode cX4_asked 36 = .ok (.iaload, 1) := by decide +kernel
theorem dX4_asked_37 : decode cX4_asked 37 = .ok (.i2l, 1) := by decide +kernel
theorem dX4_asked_38 : decode cX4_asked 38 = .ok (.lstore_n 2, 1) := by decide +kernel
theorem dX4_asked_39 : decode cX4_asked 39 = .ok (.aload_n 0, 1) := by decide +kernel
theorem dX4_asked_40 : decode cX4_asked 40 = .ok (.getfield 138, 3) := by decide +kernel
theorem dX4_asked_43 : decode cX4_asked 43 = .ok (.ifCond .eq 23, 3) := by decide +kernel
theorem dX4_asked_46 : decode cX4_asked 46 = .ok (.lload_n 2, 1) := by decide +kernel
theorem dX4_asked_47 : decode cX4_asked 47 = .ok (.aload_n 0, 1) := by decide +kernel
theorem dX4_asked_48 : decode cX4_asked 48 = .ok (.getfield 12, 3) := by decide +kernel
theorem dX4_asked_51 : decode cX4_asked 51 = .ok (.getfield 235, 3) := by decide +kernel
theorem dX4_asked_54 : decode cX4_asked 54 = .ok (.aload_n 0, 1) := by decide +kernel
theorem dX4_asked_55 : decode cX4_asked 55 = .ok (.getfield 138, 3) := by decide +kernel
theorem dX4_asked_58 : decode cX4_asked 58 = .ok (.iaload, 1) := by decide +kernel
theorem dX4_asked_59 : decode cX4_asked 59 = .ok (.i2l, 1) := by decide +kernel
theorem dX4_asked_60 : decode cX4_asked 60 = .ok (.lmul, 1) := by decide +kernel
theorem dX4_asked_61 : decode cX4_asked 61 = .ok (.ldc2_w 170, 3) := by decide +kernel
theorem dX4_asked_64 : decode cX4_asked 64 = .ok (.ldiv, 1) := by decide +kernel
theorem dX4_asked_65 : decode cX4_asked 65 = .ok (.lstore_n 2, 1) := by decide +kernel
theorem dX4_asked_66 : decode cX4_asked 66 = .ok (.lconst 0, 1) := by decide +kernel
theorem dX4_asked_67 : decode cX4_asked 67 = .ok (.aload_n 0, 1) := by decide +kernel
theorem dX4_asked_68 : decode cX4_asked 68 = .ok (.getfield 136, 3) := by decide +kernel
theorem dX4_asked_71 : decode cX4_asked 71 = .ok (.i2l, 1) := by decide +kernel
theorem dX4_asked_72 : decode cX4_asked 72 = .ok (.lload_n 2, 1) := by decide +kernel
theorem dX4_asked_73 : decode cX4_asked 73 = .ok (.lsub, 1) := by decide +kernel
theorem dX4_asked_74 : decode cX4_asked 74 = .ok (.invokestatic 226, 3) := by decide +kernel
theorem dX4_asked_77 : decode cX4_asked 77 = .ok (.aload_n 0, 1) := by decide +kernel
theorem dX4_asked_78 : decode cX4_asked 78 = .ok (.getfield 18, 3) := by decide +kernel
theorem dX4_asked_81 : decode cX4_asked 81 = .ok (.iload_n 1, 1) := by decide +kernel
theorem dX4_asked_82 : decode cX4_asked 82 = .ok (.iconst 1, 1) := by decide +kernel
theorem dX4_asked_83 : decode cX4_asked 83 = .ok (.iadd, 1) := by decide +kernel
theorem dX4_asked_84 : decode cX4_asked 84 = .ok (.iaload, 1) := by decide +kernel
theorem dX4_asked_85 : decode cX4_asked 85 = .ok (.i2l, 1) := by decide +kernel
theorem dX4_asked_86 : decode cX4_asked 86 = .ok (.lmul, 1) := by decide +kernel
theorem dX4_asked_87 : decode cX4_asked 87 = .ok (.ldc2_w 170, 3) := by decide +kernel
theorem dX4_asked_90 : decode cX4_asked 90 = .ok (.ldiv, 1) := by decide +kernel
theorem dX4_asked_91 : decode cX4_asked 91 = .ok (.lreturn, 1) := by decide +kernel
def kX4_asked (live : am_E) (Ret : am_R) : am_code := [(0, am_aload 0 1), (1, am_getI live 4 15 4), (4, am_const (.int (-1)) 5), (5, am_if2 (fun x y => x = y) 8 29), (8, am_aload 0 9), (9, am_getI live 4 16 12), (12, am_if1 (fun x => x = 0) 15 19), (15, am_const (.long 0) 16), (16, am_goto 28), (19, am_aload 0 20), (20, am_getR live 4 1 23), (23, am_iload 1 24), (24, am_const (.int 5) 25), (25, am_i2 (fun x y => x + y) 26), (26, am_ald live 0 27), (27, am_i2l 28), (28, am_retL Ret), (29, am_aload 0 30), (30, am_getR live 4 1 33), (33, am_iload 1 34), (34, am_const (.int 0) 35), (35, am_i2 (fun x y => x + y) 36), (36, am_ald live 0 37), (37, am_i2l 38), (38, am_lstore 2 4 39), (39, am_aload 0 40), (40, am_getI live 4 16 43), (43, am_if1 (fun x => x = 0) 66 46), (46, am_lload 2 47), (47, am_aload 0 48), (48, am_getR live 4 0 51), (51, am_getR live 0 1 54), (54, am_aload 0 55), (55, am_getI live 4 16 58), (58, am_ald live 0 59), (59, am_i2l 60), (60, am_l2 (fun x y => x * y) 61), (61, am_const (.long 1000) 64), (64, am_l2z (fun x y => x / y) 65), (65, am_lstore 2 4 66), (66, am_const (.long 0) 67), (67, am_aload 0 68), (68, am_getI live 4 15 71), (71, am_i2l 72), (72, am_lload 2 73), (73, am_l2 (fun x y => x - y) 74), (74, am_mathl (fun x y => if y < x then x else y) 23 77), (77, am_aload 0 78), (78, am_getR live 4 1 81), (81, am_iload 1 82), (82, am_const (.int 1) 83), (83, am_i2 (fun x y => x + y) 84), (84, am_ald live 0 85), (85, am_i2l 86), (86, am_l2 (fun x y => x * y) 87), (87, am_const (.long 1000) 90), (90, am_l2z (fun x y => x / y) 91), (91, am_retL Ret)]
theorem koX4_asked (live : am_E) (Ret : am_R) : ∀ q ∈ kX4_asked live Ret, am_ok RX4 cX4_asked 4 (some .long) 1 23 live Ret q.1 q.2 :=
  am_kc (ak_aload_n dX4_asked_0 rfl rfl) <|
  am_kc (ak_getI (C := RX4) (T := TX4) (N := 18) rfl inX4w (by decide) rfl rfl rfl wd_312 dX4_asked_1 rfl) <|
  am_kc (ak_iconst dX4_asked_4 (by decide +kernel) rfl) <|
  am_kc (ak_icmp_ne dX4_asked_5 (by decide +kernel) rfl) <|
  am_kc (ak_aload_n dX4_asked_8 rfl rfl) <|
  am_kc (ak_getI (C := RX4) (T := TX4) (N := 18) rfl inX4w (by decide) rfl rfl rfl wd_313 dX4_asked_9 rfl) <|
  am_kc (ak_if_ne dX4_asked_12 (by decide +kernel) rfl) <|
  am_kc (ak_lconst dX4_asked_15 (by decide +kernel) rfl) <|
  am_kc (ak_goto dX4_asked_16 (by decide +kernel)) <|
  am_kc (ak_aload_n dX4_asked_19 rfl rfl) <|
  am_kc (ak_getR (C := RX4) (T := TX4) (N := 18) rfl inX4w (by decide) rfl rfl rfl wd_294 dX4_asked_20 rfl) <|
  am_kc (ak_iload_n dX4_asked_23 rfl rfl) <|
  am_kc (ak_iconst dX4_asked_24 (by decide +kernel) rfl) <|
  am_kc (ak_iadd dX4_asked_25 rfl) <|
  am_kc (ak_iald (t := 0) (fun _ => rfl) rfl dX4_asked_26 rfl) <|
  am_kc (ak_i2l dX4_asked_27 rfl) <|
  am_kc (ak_retL dX4_asked_28) <|
  am_kc (ak_aload_n dX4_asked_29 rfl rfl) <|
  am_kc (ak_getR (C := RX4) (T := TX4) (N := 18) rfl inX4w (by decide) rfl rfl rfl wd_294 dX4_asked_30 rfl) <|
  am_kc (ak_iload_n dX4_asked_33 rfl rfl) <|
  am_kc (ak_iconst dX4_asked_34 (by decide +kernel) rfl) <|
  am_kc (ak_iadd dX4_asked_35 rfl) <|
  am_kc (ak_iald (t := 0) (fun _ => rfl) rfl dX4_asked_36 rfl) <|
  am_kc (ak_i2l dX4_asked_37 rfl) <|
  am_kc (ak_lstore_n dX4_asked_38 rfl rfl) <|
  am_kc (ak_aload_n dX4_asked_39 rfl rfl) <|
  am_kc (ak_getI (C := RX4) (T := TX4) (N := 18) rfl inX4w (by decide) rfl rfl rfl wd_313 dX4_asked_40 rfl) <|
  am_kc (ak_if_eq dX4_asked_43 (by decide +kernel) rfl) <|
  am_kc (ak_lload_n dX4_asked_46 rfl rfl) <|
  am_kc (ak_aload_n dX4_asked_47 rfl rfl) <|
  am_kc (ak_getR (C := RX4) (T := TX4) (N := 18) rfl inX4w (by decide) rfl rfl rfl wd_291 dX4_asked_48 rfl) <|
  am_kc (ak_getR (C := RX0) (T := TX0) (N := 13) rfl inX0w (by decide) rfl rfl rfl wd_198 dX4_asked_51 rfl) <|
  am_kc (ak_aload_n dX4_asked_54 rfl rfl) <|
  am_kc (ak_getI (C := RX4) (T := TX4) (N := 18) rfl inX4w (by decide) rfl rfl rfl wd_313 dX4_asked_55 rfl) <|
  am_kc (ak_iald (t := 0) (fun _ => rfl) rfl dX4_asked_58 rfl) <|
  am_kc (ak_i2l dX4_asked_59 rfl) <|
  am_kc (ak_lmul dX4_asked_60 rfl) <|
  am_kc (ak_ldc2 wd_614 dX4_asked_61 rfl) <|
  am_kc (ak_ldiv dX4_asked_64 rfl) <|
  am_kc (ak_lstore_n dX4_asked_65 rfl rfl) <|
  am_kc (ak_lconst dX4_asked_66 (by decide +kernel) rfl) <|
  am_kc (ak_aload_n dX4_asked_67 rfl rfl) <|
  am_kc (ak_getI (C := RX4) (T := TX4) (N := 18) rfl inX4w (by decide) rfl rfl rfl wd_312 dX4_asked_68 rfl) <|
  am_kc (ak_i2l dX4_asked_71 rfl) <|
  am_kc (ak_lload_n dX4_asked_72 rfl rfl) <|
  am_kc (ak_lsub dX4_asked_73 rfl) <|
  am_kc (ak_lmax (am_w4 wd_607 wd_608 wd_68 wd_609) (by decide) dX4_asked_74 rfl) <|
  am_kc (ak_aload_n dX4_asked_77 rfl rfl) <|
  am_kc (ak_getR (C := RX4) (T := TX4) (N := 18) rfl inX4w (by decide) rfl rfl rfl wd_294 dX4_asked_78 rfl) <|
  am_kc (ak_iload_n dX4_asked_81 rfl rfl) <|
  am_kc (ak_iconst dX4_asked_82 (by decide +kernel) rfl) <|
  am_kc (ak_iadd dX4_asked_83 rfl) <|
  am_kc (ak_iald (t := 0) (fun _ => rfl) rfl dX4_asked_84 rfl) <|
  am_kc (ak_i2l dX4_asked_85 rfl) <|
  am_kc (ak_lmul dX4_asked_86 rfl) <|
  am_kc (ak_ldc2 wd_614 dX4_asked_87 rfl) <|
  am_kc (ak_ldiv dX4_asked_90 rfl) <|
  am_kc (ak_retL dX4_asked_91) <| am_kn
def am_asked (M : am_M) (c : Int32) : Int64 := if M.1 4 15 = -1 then (if M.1 4 16 = 0 then 0 else (M.1 5 (c + 5).toNatClampNeg).toInt64) else (fun e : Int64 => (if e < 0 then 0 else e) * (M.1 5 (c + 1).toNatClampNeg).toInt64 / 1000) ((M.1 4 15).toInt64 - (if M.1 4 16 = 0 then (M.1 5 (c + 0).toNatClampNeg).toInt64 else (M.1 5 (c + 0).toNatClampNeg).toInt64 * (M.1 29 (M.1 4 16).toNatClampNeg).toInt64 / 1000))
def TX4_asked : am_T := fun live as M R => match as with
  | [.ref n, .int c] => am_mn live ∧ n = 4 ∧ (0 ≤ c.toInt ∧ c.toInt ≤ 1194) ∧ am_in (M.1 4 16) 4 ∧ R (some (.long (am_asked M c))) M
  | _ => False
set_option maxRecDepth 100000 in
set_option maxHeartbeats 4000000 in
theorem metX4_asked : am_Met yX4_asked cX4_asked 4 (some .long) (1) (23) TX4_asked := by
  refine am_met (own := RX4) (by decide +kernel) rfl kX4_asked koX4_asked 100 (fun _ _ _ _ _ => none) (fun live as M Ret h => ?_) (fun _ _ _ _ _ _ _ _ hI => by cases hI)
  unfold TX4_asked at h
  split at h
  · next n c =>
    refine ⟨Nat.le_of_ble_eq_true rfl, ?_⟩
    change am_wp _ _ _ _ [(0, Value.ref n), (1, Value.int c)] _ _
    obtain ⟨⟨i1, i2, rfl⟩, rfl, ⟨c1, c2⟩, ⟨d1, d2⟩, h⟩ := h
    have l5 : am_len 5 = 1200 := rfl
    have l29 : am_len 29 = 4 := rfl
    have f0 := i_add (x := c) (y := 0) (by simp only [Int32.reduceToInt]; omega) (by simp only [Int32.reduceToInt]; omega)
    have f1 := i_add (x := c) (y := 1) (by simp only [Int32.reduceToInt]; omega) (by simp only [Int32.reduceToInt]; omega)
    have f5 := i_add (x := c) (y := 5) (by simp only [Int32.reduceToInt]; omega) (by simp only [Int32.reduceToInt]; omega)
    simp only [Int32.reduceToInt] at f0 f1 f5
    repeat' (first | exact rfl | apply And.intro | intro hx | (refine Exists.intro _ (And.intro rfl ?_)))
    all_goals try first | (with_reducible change am_tI _ _) | (change Ret _ _) | (change Ret _ _ _) | (change Exists _)
    all_goals try dsimp only at *
    all_goals try exact absurd ‹(1000 : Int64) = 0› (by decide)
    all_goals first
      | (rw [f0]; omega)
      | (rw [f1]; omega)
      | (rw [f5]; omega)
      | (rw [f0, l5]; omega)
      | (rw [f1, l5]; omega)
      | (rw [f5, l5]; omega)
      | (rw [l29]; omega)
      | omega
      | skip
    all_goals
      simp only [am_asked] at *
      simp_all
  · exact h.elim
theorem wd_203 : Cond.fieldLink "LearnLoans$Run" 102 "LearnLoans$House" "acts" "LLearnLoans$Rows;" ∈ am_ws := am_wsi (List.mem_of_getElem? (i := 203) (by decide +kernel)) (by decide +kernel)
theorem dX4_layAct_0 : decode cX4_layAct 0 = .ok (.aload_n 0, 1) := by decide +kernel
theorem dX4_layAct_1 : decode cX4_layAct 1 = .ok (.getfield 12, 3) := by decide +kernel
theorem dX4_layAct_4 : decode cX4_layAct 4 = .ok (.getfield 102, 3) := by decide +kernel
theorem dX4_layAct_7 : decode cX4_layAct 7 = .ok (.astore 4, 2) := by decide +kernel
theorem dX4_layAct_9 : decode cX4_layAct 9 = .ok (.iload_n 3, 1) := by decide +kernel
theorem dX4_layAct_10 : decode cX4_layAct 10 = .ok (.aload 4, 2) := by decide +kernel
theorem dX4_layAct_12 : decode cX4_layAct 12 = .ok (.iload_n 1, 1) := by decide +kernel
theorem dX4_layAct_13 : decode cX4_layAct 13 = .ok (.iconst 4, 1) := by decide +kernel
theorem dX4_layAct_14 : decode cX4_layAct 14 = .ok (.invokevirtual 66, 3) := by decide +kernel
theorem dX4_layAct_17 : decode cX4_layAct 17 = .ok (.if_icmp .lt 67, 3) := by decide +kernel
theorem dX4_layAct_20 : decode cX4_layAct 20 = .ok (.iload_n 3, 1) := by decide +kernel
theorem dX4_layAct_21 : decode cX4_layAct 21 = .ok (.aload 4, 2) := by decide +kernel
theorem dX4_layAct_23 : decode cX4_layAct 23 = .ok (.iload_n 1, 1) := by decide +kernel
theorem dX4_layAct_24 : decode cX4_layAct 24 = .ok (.iconst 5, 1) := by decide +kernel
theorem dX4_layAct_25 : decode cX4_layAct 25 = .ok (.invokevirtual 66, 3) := by decide +kernel
theorem dX4_layAct_28 : decode cX4_layAct 28 = .ok (.if_icmp .gt 56, 3) := by decide +kernel
theorem dX4_layAct_31 : decode cX4_layAct 31 = .ok (.iload_n 2, 1) := by decide +kernel
theorem dX4_layAct_32 : decode cX4_layAct 32 = .ok (.iconst 5, 1) := by decide +kernel
theorem dX4_layAct_33 : decode cX4_layAct 33 = .ok (.imul, 1) := by decide +kernel
theorem dX4_layAct_34 : decode cX4_layAct 34 = .ok (.aload 4, 2) := by decide +kernel
theorem dX4_layAct_36 : decode cX4_layAct 36 = .ok (.iload_n 1, 1) := by decide +kernel
theorem dX4_layAct_37 : decode cX4_layAct 37 = .ok (.iconst 0, 1) := by decide +kernel
theorem dX4_layAct_38 : decode cX4_layAct 38 = .ok (.invokevirtual 66, 3) := by decide +kernel
theorem dX4_layAct_41 : decode cX4_layAct 41 = .ok (.iadd, 1) := by decide +kernel
theorem dX4_layAct_42 : decode cX4_layAct 42 = .ok (.bipush 6, 2) := by decide +kernel
theorem dX4_layAct_44 : decode cX4_layAct 44 = .ok (.imul, 1) := by decide +kernel
theorem dX4_layAct_45 : decode cX4_layAct 45 = .ok (.aload 4, 2) := by decide +kernel
theorem dX4_layAct_47 : decode cX4_layAct 47 = .ok (.iload_n 1, 1) := by decide +kernel
theorem dX4_layAct_48 : decode cX4_layAct 48 = .ok (.iconst 1, 1) := by decide +kernel
theorem dX4_layAct_49 : decode cX4_layAct 49 = .ok (.invokevirtual 66, 3) := by decide +kernel
theorem dX4_layAct_52 : decode cX4_layAct 52 = .ok (.iadd, 1) := by decide +kernel
theorem dX4_layAct_53 : decode cX4_layAct 53 = .ok (.istore 5, 2) := by decide +kernel
theorem dX4_layAct_55 : decode cX4_layAct 55 = .ok (.iload 5, 2) := by decide +kernel
theorem dX4_layAct_57 : decode cX4_layAct 57 = .ok (.ifCond .lt 27, 3) := by decide +kernel
theorem dX4_layAct_60 : decode cX4_layAct 60 = .ok (.iload 5, 2) := by decide +kernel
theorem dX4_layAct_62 : decode cX4_layAct 62 = .ok (.aload_n 0, 1) := by decide +kernel
theorem dX4_layAct_63 : decode cX4_layAct 63 = .ok (.getfield 18, 3) := by decide +kernel
theorem dX4_layAct_66 : decode cX4_layAct 66 = .ok (.arraylength, 1) := by decide +kernel
theorem dX4_layAct_67 : decode cX4_layAct 67 = .ok (.if_icmp .ge 17, 3) := by decide +kernel
theorem dX4_layAct_70 : decode cX4_layAct 70 = .ok (.aload_n 0, 1) := by decide +kernel
theorem dX4_layAct_71 : decode cX4_layAct 71 = .ok (.getfield 18, 3) := by decide +kernel
theorem dX4_layAct_74 : decode cX4_layAct 74 = .ok (.iload 5, 2) := by decide +kernel
theorem dX4_layAct_76 : decode cX4_layAct 76 = .ok (.aload 4, 2) := by decide +kernel
theorem dX4_layAct_78 : decode cX4_layAct 78 = .ok (.iload_n 1, 1) := by decide +kernel
theorem dX4_layAct_79 : decode cX4_layAct 79 = .ok (.iconst 2, 1) := by decide +kernel
theorem dX4_layAct_80 : decode cX4_layAct 80 = .ok (.invokevirtual 66, 3) := by decide +kernel
theorem dX4_layAct_83 : decode cX4_layAct 83 = .ok (.iastore, 1) := by decide +kernel
theorem dX4_layAct_84 : decode cX4_layAct 84 = .ok (.return_, 1) := by decide +kernel
def kX4_layAct (live : am_E) (Ret : am_R) : am_code := [(0, am_aload 0 1), (1, am_getR live 4 0 4), (4, am_getR live 0 3 7), (7, am_astore 4 6 9), (9, am_iload 3 10), (10, am_aload 4 12), (12, am_iload 1 13), (13, am_const (.int 4) 14), (14, am_callV live 3 2 TX3_at 17), (17, am_if2 (fun x y => x < y) 84 20), (20, am_iload 3 21), (21, am_aload 4 23), (23, am_iload 1 24), (24, am_const (.int 5) 25), (25, am_callV live 3 2 TX3_at 28), (28, am_if2 (fun x y => y < x) 84 31), (31, am_iload 2 32), (32, am_const (.int 5) 33), (33, am_i2 (fun x y => x * y) 34), (34, am_aload 4 36), (36, am_iload 1 37), (37, am_const (.int 0) 38), (38, am_callV live 3 2 TX3_at 41), (41, am_i2 (fun x y => x + y) 42), (42, am_const (.int 6) 44), (44, am_i2 (fun x y => x * y) 45), (45, am_aload 4 47), (47, am_iload 1 48), (48, am_const (.int 1) 49), (49, am_callV live 3 2 TX3_at 52), (52, am_i2 (fun x y => x + y) 53), (53, am_istore 5 6 55), (55, am_iload 5 57), (57, am_if1 (fun x => x < 0) 84 60), (60, am_iload 5 62), (62, am_aload 0 63), (63, am_getR live 4 1 66), (66, am_alen live 0 67), (67, am_if2 (fun x y => y ≤ x) 84 70), (70, am_aload 0 71), (71, am_getR live 4 1 74), (74, am_iload 5 76), (76, am_aload 4 78), (78, am_iload 1 79), (79, am_const (.int 2) 80), (80, am_callV live 3 2 TX3_at 83), (83, am_ast live 0 84), (84, am_retV Ret)]
theorem koX4_layAct (live : am_E) (Ret : am_R) : ∀ q ∈ kX4_layAct live Ret, am_ok RX4 cX4_layAct 6 none 1 23 live Ret q.1 q.2 :=
  am_kc (ak_aload_n dX4_layAct_0 rfl rfl) <|
  am_kc (ak_getR (C := RX4) (T := TX4) (N := 18) rfl inX4w (by decide) rfl rfl rfl wd_291 dX4_layAct_1 rfl) <|
  am_kc (ak_getR (C := RX0) (T := TX0) (N := 13) rfl inX0w (by decide) rfl rfl rfl wd_203 dX4_layAct_4 rfl) <|
  am_kc (ak_astore dX4_layAct_7 rfl) <|
  am_kc (ak_iload_n dX4_layAct_9 rfl rfl) <|
  am_kc (ak_aload dX4_layAct_10 rfl) <|
  am_kc (ak_iload_n dX4_layAct_12 rfl rfl) <|
  am_kc (ak_iconst dX4_layAct_13 (by decide +kernel) rfl) <|
  am_kc (ak_callV (C := RX3) (F := TX3) (N := 3) metX3_at rfl ⟨rfl, by decide +kernel, by decide +kernel, by decide +kernel⟩ (am_w5 wd_499 wd_500 wd_501 wd_64 wd_502) (by decide) dX4_layAct_14 rfl) <|
  am_kc (ak_icmp_lt dX4_layAct_17 (by decide +kernel) rfl) <|
  am_kc (ak_iload_n dX4_layAct_20 rfl rfl) <|
  am_kc (ak_aload dX4_layAct_21 rfl) <|
  am_kc (ak_iload_n dX4_layAct_23 rfl rfl) <|
  am_kc (ak_iconst dX4_layAct_24 (by decide +kernel) rfl) <|
  am_kc (ak_callV (C := RX3) (F := TX3) (N := 3) metX3_at rfl ⟨rfl, by decide +kernel, by decide +kernel, by decide +kernel⟩ (am_w5 wd_499 wd_500 wd_501 wd_64 wd_502) (by decide) dX4_layAct_25 rfl) <|
  am_kc (ak_icmp_gt dX4_layAct_28 (by decide +kernel) rfl) <|
  am_kc (ak_iload_n dX4_layAct_31 rfl rfl) <|
  am_kc (ak_iconst dX4_layAct_32 (by decide +kernel) rfl) <|
  am_kc (ak_imul dX4_layAct_33 rfl) <|
  am_kc (ak_aload dX4_layAct_34 rfl) <|
  am_kc (ak_iload_n dX4_layAct_36 rfl rfl) <|
  am_kc (ak_iconst dX4_layAct_37 (by decide +kernel) rfl) <|
  am_kc (ak_callV (C := RX3) (F := TX3) (N := 3) metX3_at rfl ⟨rfl, by decide +kernel, by decide +kernel, by decide +kernel⟩ (am_w5 wd_499 wd_500 wd_501 wd_64 wd_502) (by decide) dX4_layAct_38 rfl) <|
  am_kc (ak_iadd dX4_layAct_41 rfl) <|
  am_kc (ak_bipush dX4_layAct_42 (by decide +kernel) rfl) <|
  am_kc (ak_imul dX4_layAct_44 rfl) <|
  am_kc (ak_aload dX4_layAct_45 rfl) <|
  am_kc (ak_iload_n dX4_layAct_47 rfl rfl) <|
  am_kc (ak_iconst dX4_layAct_48 (by decide +kernel) rfl) <|
  am_kc (ak_callV (C := RX3) (F := TX3) (N := 3) metX3_at rfl ⟨rfl, by decide +kernel, by decide +kernel, by decide +kernel⟩ (am_w5 wd_499 wd_500 wd_501 wd_64 wd_502) (by decide) dX4_layAct_49 rfl) <|
  am_kc (ak_iadd dX4_layAct_52 rfl) <|
  am_kc (ak_istore dX4_layAct_53 rfl) <|
  am_kc (ak_iload dX4_layAct_55 rfl) <|
  am_kc (ak_if_lt dX4_layAct_57 (by decide +kernel) rfl) <|
  am_kc (ak_iload dX4_layAct_60 rfl) <|
  am_kc (ak_aload_n dX4_layAct_62 rfl rfl) <|
  am_kc (ak_getR (C := RX4) (T := TX4) (N := 18) rfl inX4w (by decide) rfl rfl rfl wd_294 dX4_layAct_63 rfl) <|
  am_kc (ak_alen (t := 0) (fun _ => rfl) dX4_layAct_66 rfl) <|
  am_kc (ak_icmp_ge dX4_layAct_67 (by decide +kernel) rfl) <|
  am_kc (ak_aload_n dX4_layAct_70 rfl rfl) <|
  am_kc (ak_getR (C := RX4) (T := TX4) (N := 18) rfl inX4w (by decide) rfl rfl rfl wd_294 dX4_layAct_71 rfl) <|
  am_kc (ak_iload dX4_layAct_74 rfl) <|
  am_kc (ak_aload dX4_layAct_76 rfl) <|
  am_kc (ak_iload_n dX4_layAct_78 rfl rfl) <|
  am_kc (ak_iconst dX4_layAct_79 (by decide +kernel) rfl) <|
  am_kc (ak_callV (C := RX3) (F := TX3) (N := 3) metX3_at rfl ⟨rfl, by decide +kernel, by decide +kernel, by decide +kernel⟩ (am_w5 wd_499 wd_500 wd_501 wd_64 wd_502) (by decide) dX4_layAct_80 rfl) <|
  am_kc (ak_iast (t := 0) (fun _ => rfl) rfl dX4_layAct_83 rfl) <|
  am_kc (ak_retV dX4_layAct_84) <| am_kn
def TX4_layAct : am_T := fun live as M R => match as with
  | [.ref n, .int a, .int y, .int b] => am_mn live ∧ n = 4 ∧ g_rI M ∧ ∀ M', g_sc M M' → g_rI M' → R none M'
  | _ => False
set_option maxRecDepth 100000 in
set_option maxHeartbeats 4000000 in
theorem metX4_layAct : am_Met yX4_layAct cX4_layAct 6 none (1) (23) TX4_layAct := by
  refine am_met (own := RX4) (by decide +kernel) rfl kX4_layAct koX4_layAct 100 (fun _ _ _ _ _ => none) (fun live as M Ret h => ?_) (fun _ _ _ _ _ _ _ _ hI => by cases hI)
  unfold TX4_layAct at h
  split at h
  · next n a y b =>
    refine ⟨Nat.le_of_ble_eq_true rfl, ?_⟩
    change am_wp _ _ _ _ [(0, Value.ref n), (1, Value.int a), (2, Value.int y), (3, Value.int b)] _ _
    obtain ⟨hmn, rfl, hr, h⟩ := h
    have hmn2 := hmn
    obtain ⟨i1, i2, rfl⟩ := hmn2
    repeat' (first | exact rfl | (with_reducible exact hmn) | apply And.intro | intro hx | (refine Exists.intro _ (And.intro rfl ?_)))
    all_goals try first | (with_reducible change am_tI _ _) | (change Ret _ _) | (change Ret _ _ _) | (change Exists _)
    all_goals try dsimp only at *
    all_goals try exact absurd ‹(1000 : Int64) = 0› (by decide)
    all_goals first
      | exact h _ g_sc.rf hr
      | exact h _ (g_sc.rf.wI rfl) hr.w5
      | (simp only [i_lt, i_le, Int32.reduceToInt] at *; omega)
      | skip
    · have hn : (Int32.ofNat (am_len 5)).toInt = 1200 := by decide +kernel
      have l5 : am_len 5 = 1200 := rfl
      simp only [i_le, hn] at hx
      rw [l5]
      omega
  · exact h.elim
theorem wd_303 : Cond.fieldLink "LearnLoans$Run" 56 "LearnLoans$Run" "size" "I" ∈ am_ws := am_wsi (List.mem_of_getElem? (i := 303) (by decide +kernel)) (by decide +kernel)
theorem wd_300 : Cond.fieldLink "LearnLoans$Run" 29 "LearnLoans$Run" "queue" "[I" ∈ am_ws := am_wsi (List.mem_of_getElem? (i := 300) (by decide +kernel)) (by decide +kernel)
theorem dX4_payAhead_0 : decode cX4_payAhead 0 = .ok (.iconst 0, 1) := by decide +kernel
theorem dX4_payAhead_1 : decode cX4_payAhead 1 = .ok (.istore_n 1, 1) := by decide +kernel
theorem dX4_payAhead_2 : decode cX4_payAhead 2 = .ok (.iload_n 1, 1) := by decide +kernel
theorem dX4_payAhead_3 : decode cX4_payAhead 3 = .ok (.aload_n 0, 1) := by decide +kernel
theorem dX4_payAhead_4 : decode cX4_payAhead 4 = .ok (.getfield 56, 3) := by decide +kernel
theorem dX4_payAhead_7 : decode cX4_payAhead 7 = .ok (.if_icmp .ge 62, 3) := by decide +kernel
theorem dX4_payAhead_10 : decode cX4_payAhead 10 = .ok (.iconst 0, 1) := by decide +kernel
theorem dX4_payAhead_11 : decode cX4_payAhead 11 = .ok (.aload_n 0, 1) := by decide +kernel
theorem dX4_payAhead_12 : decode cX4_payAhead 12 = .ok (.getfield 29, 3) := by decide +kernel
theorem dX4_payAhead_15 : decode cX4_payAhead 15 = .ok (.iload_n 1, 1) := by decide +kernel
theorem dX4_payAhead_16 : decode cX4_payAhead 16 = .ok (.iaload, 1) := by decide +kernel
theorem dX4_payAhead_17 : decode cX4_payAhead 17 = .ok (.iadd, 1) := by decide +kernel
theorem dX4_payAhead_18 : decode cX4_payAhead 18 = .ok (.istore_n 2, 1) := by decide +kernel
theorem dX4_payAhead_19 : decode cX4_payAhead 19 = .ok (.aload_n 0, 1) := by decide +kernel
theorem dX4_payAhead_20 : decode cX4_payAhead 20 = .ok (.getfield 80, 3) := by decide +kernel
theorem dX4_payAhead_23 : decode cX4_payAhead 23 = .ok (.aload_n 0, 1) := by decide +kernel
theorem dX4_payAhead_24 : decode cX4_payAhead 24 = .ok (.getfield 22, 3) := by decide +kernel
theorem dX4_payAhead_27 : decode cX4_payAhead 27 = .ok (.iload_n 2, 1) := by decide +kernel
theorem dX4_payAhead_28 : decode cX4_payAhead 28 = .ok (.laload, 1) := by decide +kernel
theorem dX4_payAhead_29 : decode cX4_payAhead 29 = .ok (.invokestatic 174, 3) := by decide +kernel
theorem dX4_payAhead_32 : decode cX4_payAhead 32 = .ok (.lstore_n 3, 1) := by decide +kernel
theorem dX4_payAhead_33 : decode cX4_payAhead 33 = .ok (.aload_n 0, 1) := by decide +kernel
theorem dX4_payAhead_34 : decode cX4_payAhead 34 = .ok (.getfield 22, 3) := by decide +kernel
theorem dX4_payAhead_37 : decode cX4_payAhead 37 = .ok (.iload_n 2, 1) := by decide +kernel
theorem dX4_payAhead_38 : decode cX4_payAhead 38 = .ok (.dup2, 1) := by decide +kernel
theorem dX4_payAhead_39 : decode cX4_payAhead 39 = .ok (.laload, 1) := by decide +kernel
theorem dX4_payAhead_40 : decode cX4_payAhead 40 = .ok (.lload_n 3, 1) := by decide +kernel
theorem dX4_payAhead_41 : decode cX4_payAhead 41 = .ok (.lsub, 1) := by decide +kernel
theorem dX4_payAhead_42 : decode cX4_payAhead 42 = .ok (.lastore, 1) := by decide +kernel
theorem dX4_payAhead_43 : decode cX4_payAhead 43 = .ok (.aload_n 0, 1) := by decide +kernel
theorem dX4_payAhead_44 : decode cX4_payAhead 44 = .ok (.dup, 1) := by decide +kernel
theorem dX4_payAhead_45 : decode cX4_payAhead 45 = .ok (.getfield 80, 3) := by decide +kernel
theorem dX4_payAhead_48 : decode cX4_payAhead 48 = .ok (.lload_n 3, 1) := by decide +kernel
theorem dX4_payAhead_49 : decode cX4_payAhead 49 = .ok (.lsub, 1) := by decide +kernel
theorem dX4_payAhead_50 : decode cX4_payAhead 50 = .ok (.putfield 80, 3) := by decide +kernel
theorem dX4_payAhead_53 : decode cX4_payAhead 53 = .ok (.aload_n 0, 1) := by decide +kernel
theorem dX4_payAhead_54 : decode cX4_payAhead 54 = .ok (.dup, 1) := by decide +kernel
theorem dX4_payAhead_55 : decode cX4_payAhead 55 = .ok (.getfield 84, 3) := by decide +kernel
theorem dX4_payAhead_58 : decode cX4_payAhead 58 = .ok (.lload_n 3, 1) := by decide +kernel
theorem dX4_payAhead_59 : decode cX4_payAhead 59 = .ok (.ladd, 1) := by decide +kernel
theorem dX4_payAhead_60 : decode cX4_payAhead 60 = .ok (.putfield 84, 3) := by decide +kernel
theorem dX4_payAhead_63 : decode cX4_payAhead 63 = .ok (.iinc 1 1, 3) := by decide +kernel
theorem dX4_payAhead_66 : decode cX4_payAhead 66 = .ok (.goto (-64), 3) := by decide +kernel
theorem dX4_payAhead_69 : decode cX4_payAhead 69 = .ok (.aload_n 0, 1) := by decide +kernel
theorem dX4_payAhead_70 : decode cX4_payAhead 70 = .ok (.lconst 0, 1) := by decide +kernel
theorem dX4_payAhead_71 : decode cX4_payAhead 71 = .ok (.putfield 80, 3) := by decide +kernel
theorem dX4_payAhead_74 : decode cX4_payAhead 74 = .ok (.return_, 1) := by decide +kernel
def kX4_payAhead (live : am_E) (Ret : am_R) : am_code := [(0, am_const (.int 0) 1), (1, am_istore 1 5 2), (2, am_iload 1 3), (3, am_aload 0 4), (4, am_getI live 4 7 7), (7, am_if2 (fun x y => y ≤ x) 69 10), (10, am_const (.int 0) 11), (11, am_aload 0 12), (12, am_getR live 4 4 15), (15, am_iload 1 16), (16, am_ald live 0 17), (17, am_i2 (fun x y => x + y) 18), (18, am_istore 2 5 19), (19, am_aload 0 20), (20, am_getJ live 4 13 23), (23, am_aload 0 24), (24, am_getR live 4 2 27), (27, am_iload 2 28), (28, am_lald live 1 29), (29, am_mathl (fun x y => if y < x then y else x) 23 32), (32, am_lstore 3 5 33), (33, am_aload 0 34), (34, am_getR live 4 2 37), (37, am_iload 2 38), (38, am_dup2 39), (39, am_lald live 1 40), (40, am_lload 3 41), (41, am_l2 (fun x y => x - y) 42), (42, am_last live 1 43), (43, am_aload 0 44), (44, am_dup 45), (45, am_getJ live 4 13 48), (48, am_lload 3 49), (49, am_l2 (fun x y => x - y) 50), (50, am_putJ live 4 13 53), (53, am_aload 0 54), (54, am_dup 55), (55, am_getJ live 4 14 58), (58, am_lload 3 59), (59, am_l2 (fun x y => x + y) 60), (60, am_putJ live 4 14 63), (63, am_iinc 1 5 1 66), (66, am_goto 2), (69, am_aload 0 70), (70, am_const (.long 0) 71), (71, am_putJ live 4 13 74), (74, am_retV Ret)]
theorem koX4_payAhead (live : am_E) (Ret : am_R) : ∀ q ∈ kX4_payAhead live Ret, am_ok RX4 cX4_payAhead 5 none 1 23 live Ret q.1 q.2 :=
  am_kc (ak_iconst dX4_payAhead_0 (by decide +kernel) rfl) <|
  am_kc (ak_istore_n dX4_payAhead_1 rfl rfl) <|
  am_kc (ak_iload_n dX4_payAhead_2 rfl rfl) <|
  am_kc (ak_aload_n dX4_payAhead_3 rfl rfl) <|
  am_kc (ak_getI (C := RX4) (T := TX4) (N := 18) rfl inX4w (by decide) rfl rfl rfl wd_303 dX4_payAhead_4 rfl) <|
  am_kc (ak_icmp_ge dX4_payAhead_7 (by decide +kernel) rfl) <|
  am_kc (ak_iconst dX4_payAhead_10 (by decide +kernel) rfl) <|
  am_kc (ak_aload_n dX4_payAhead_11 rfl rfl) <|
  am_kc (ak_getR (C := RX4) (T := TX4) (N := 18) rfl inX4w (by decide) rfl rfl rfl wd_300 dX4_payAhead_12 rfl) <|
  am_kc (ak_iload_n dX4_payAhead_15 rfl rfl) <|
  am_kc (ak_iald (t := 0) (fun _ => rfl) rfl dX4_payAhead_16 rfl) <|
  am_kc (ak_iadd dX4_payAhead_17 rfl) <|
  am_kc (ak_istore_n dX4_payAhead_18 rfl rfl) <|
  am_kc (ak_aload_n dX4_payAhead_19 rfl rfl) <|
  am_kc (ak_getJ (C := RX4) (T := TX4) (N := 18) rfl inX4w (by decide) rfl rfl rfl wd_309 dX4_payAhead_20 rfl) <|
  am_kc (ak_aload_n dX4_payAhead_23 rfl rfl) <|
  am_kc (ak_getR (C := RX4) (T := TX4) (N := 18) rfl inX4w (by decide) rfl rfl rfl wd_296 dX4_payAhead_24 rfl) <|
  am_kc (ak_iload_n dX4_payAhead_27 rfl rfl) <|
  am_kc (ak_lald (t := 1) (fun _ => rfl) rfl dX4_payAhead_28 rfl) <|
  am_kc (ak_lmin (am_w4 wd_604 wd_605 wd_68 wd_606) (by decide) dX4_payAhead_29 rfl) <|
  am_kc (ak_lstore_n dX4_payAhead_32 rfl rfl) <|
  am_kc (ak_aload_n dX4_payAhead_33 rfl rfl) <|
  am_kc (ak_getR (C := RX4) (T := TX4) (N := 18) rfl inX4w (by decide) rfl rfl rfl wd_296 dX4_payAhead_34 rfl) <|
  am_kc (ak_iload_n dX4_payAhead_37 rfl rfl) <|
  am_kc (ak_dup2 dX4_payAhead_38 rfl) <|
  am_kc (ak_lald (t := 1) (fun _ => rfl) rfl dX4_payAhead_39 rfl) <|
  am_kc (ak_lload_n dX4_payAhead_40 rfl rfl) <|
  am_kc (ak_lsub dX4_payAhead_41 rfl) <|
  am_kc (ak_last (t := 1) (fun _ => rfl) rfl dX4_payAhead_42 rfl) <|
  am_kc (ak_aload_n dX4_payAhead_43 rfl rfl) <|
  am_kc (ak_dup dX4_payAhead_44 rfl) <|
  am_kc (ak_getJ (C := RX4) (T := TX4) (N := 18) rfl inX4w (by decide) rfl rfl rfl wd_309 dX4_payAhead_45 rfl) <|
  am_kc (ak_lload_n dX4_payAhead_48 rfl rfl) <|
  am_kc (ak_lsub dX4_payAhead_49 rfl) <|
  am_kc (ak_putJ (C := RX4) (T := TX4) (N := 18) rfl inX4w tyX4_ok nmX4 (by decide) rfl rfl rfl rfl (by decide +kernel) wd_309 dX4_payAhead_50 rfl) <|
  am_kc (ak_aload_n dX4_payAhead_53 rfl rfl) <|
  am_kc (ak_dup dX4_payAhead_54 rfl) <|
  am_kc (ak_getJ (C := RX4) (T := TX4) (N := 18) rfl inX4w (by decide) rfl rfl rfl wd_310 dX4_payAhead_55 rfl) <|
  am_kc (ak_lload_n dX4_payAhead_58 rfl rfl) <|
  am_kc (ak_ladd dX4_payAhead_59 rfl) <|
  am_kc (ak_putJ (C := RX4) (T := TX4) (N := 18) rfl inX4w tyX4_ok nmX4 (by decide) rfl rfl rfl rfl (by decide +kernel) wd_310 dX4_payAhead_60 rfl) <|
  am_kc (ak_iinc dX4_payAhead_63 (by decide +kernel) rfl) <|
  am_kc (ak_goto dX4_payAhead_66 (by decide +kernel)) <|
  am_kc (ak_aload_n dX4_payAhead_69 rfl rfl) <|
  am_kc (ak_lconst dX4_payAhead_70 (by decide +kernel) rfl) <|
  am_kc (ak_putJ (C := RX4) (T := TX4) (N := 18) rfl inX4w tyX4_ok nmX4 (by decide) rfl rfl rfl rfl (by decide +kernel) wd_309 dX4_payAhead_71 rfl) <|
  am_kc (ak_retV dX4_payAhead_74) <| am_kn
def TX4_payAhead : am_T := fun live as M R => match as with
  | [.ref n] => am_mn live ∧ n = 4 ∧ g_rI M ∧ ∀ M', g_sc M M' → g_rI M' → R none M'
  | _ => False
def JX4_payAhead : am_E → List Value → am_M → am_R → am_inv := fun live as M0 _ pc => match as with
  | [.ref n] => (match pc with
    | 2 => some ([0, 1], fun k L st M => ∃ i : Int32, L = [(0, .ref 4), (1, .int i)] ∧ st = [] ∧ k = ((31 - i.toInt).toNat, 0) ∧ 0 ≤ i.toInt ∧ g_sc M0 M ∧ g_rI M)
    | _ => none)
  | _ => none
set_option maxRecDepth 100000 in
set_option maxHeartbeats 4000000 in
theorem metX4_payAhead : am_Met yX4_payAhead cX4_payAhead 5 none (1) (23) TX4_payAhead := by
  refine am_met (own := RX4) (by decide +kernel) rfl kX4_payAhead koX4_payAhead 100 JX4_payAhead ?_ ?_
  · intro live as M Ret h
    unfold TX4_payAhead at h
    split at h
    · next n =>
      refine ⟨Nat.le_of_ble_eq_true rfl, ?_⟩
      change am_wp _ _ _ _ [(0, Value.ref n)] _ _
      obtain ⟨hmn, rfl, hr, h⟩ := h
      repeat' (first | exact rfl | apply And.intro | intro hx | (refine Exists.intro _ (And.intro rfl ?_)))
      all_goals try first | (with_reducible change am_tI _ _) | (change Ret _ _) | (change Ret _ _ _) | (change Exists _)
      all_goals try dsimp only at *
      all_goals try exact absurd ‹(1000 : Int64) = 0› (by decide)
      exact ⟨_, _, rfl, rfl, rfl, by decide, g_sc.rf, hr⟩
    · exact h.elim
  · intro live as M0 Ret h k pc I hI L st M hi
    unfold TX4_payAhead at h
    split at h
    · next n =>
      obtain ⟨hmn, rfl, hr, h⟩ := h
      obtain ⟨i1, i2, rfl⟩ := hmn
      change (match pc with | 2 => _ | _ => none) = _ at hI
      split at hI
      · cases hI
        obtain ⟨i, rfl, rfl, rfl, e1, e2, e3⟩ := hi
        by_cases hz : M.1 4 7 ≤ i
        · clear hr
          repeat' (first | exact rfl | apply And.intro | (intro hx; with_reducible exact absurd hz hx) | intro hx | (refine Exists.intro _ (And.intro rfl ?_)))
          all_goals try first | (with_reducible change am_tI _ _) | (change Ret _ _) | (change Ret _ _ _) | (change Exists _)
          all_goals try dsimp only at *
          all_goals try exact absurd ‹(1000 : Int64) = 0› (by decide)
          exact h _ (e2.wJ rfl) e3.wJ
        · have q := e3.s.sz
          have hz2 := hz
          simp only [i_le] at hz2
          have ha : am_in i 30 := ⟨e1, by omega⟩
          have hb := e3.s.qu (g_cl ha)
          have e0 := g_ix hb 0 0 rfl (by decide)
          have l6 : am_len 6 = 180 := rfl
          have l8 : am_len 8 = 30 := rfl
          have hi := i_inc (x := i) (by omega) (by omega)
          repeat' (first | exact rfl | apply And.intro | (intro hx; with_reducible exact absurd hx hz) | intro hx | (refine Exists.intro _ (And.intro rfl ?_)))
          all_goals try first | (with_reducible change am_tI _ _) | (change Ret _ _) | (change Ret _ _ _) | (change Exists _)
          all_goals try dsimp only at *
          all_goals try exact absurd ‹(1000 : Int64) = 0› (by decide)
          all_goals first
            | omega
            | exact e0.1
            | (rw [l6]; exact e0.2.1)
            | (rw [l8]; exact ha.2)
            | skip
          exact ⟨_, am_lt_l (by omega), i + 1, rfl, rfl, rfl, by omega, (((e2.wJ rfl).wJ rfl).wJ rfl), ((e3.wJ).wJ).wJ⟩
      · cases hI
    · exact h.elim
theorem wd_299 : Cond.fieldLink "LearnLoans$Run" 26 "LearnLoans$Run" "mine" "[I" ∈ am_ws := am_wsi (List.mem_of_getElem? (i := 299) (by decide +kernel)) (by decide +kernel)
theorem dX4_together_0 : decode cX4_together 0 = .ok (.lconst 0, 1) := by decide +kernel
theorem dX4_together_1 : decode cX4_together 1 = .ok (.lstore_n 2, 1) := by decide +kernel
theorem dX4_together_2 : decode cX4_together 2 = .ok (.iconst 0, 1) := by decide +kernel
theorem dX4_together_3 : decode cX4_together 3 = .ok (.istore 4, 2) := by decide +kernel
theorem dX4_together_5 : decode cX4_together 5 = .ok (.iload 4, 2) := by decide +kernel
theorem dX4_together_7 : decode cX4_together 7 = .ok (.aload_n 0, 1) := by decide +kernel
theorem dX4_together_8 : decode cX4_together 8 = .ok (.getfield 56, 3) := by decide +kernel
theorem dX4_together_11 : decode cX4_together 11 = .ok (.if_icmp .ge 29, 3) := by decide +kernel
theorem dX4_together_14 : decode cX4_together 14 = .ok (.lload_n 2, 1) := by decide +kernel
theorem dX4_together_15 : decode cX4_together 15 = .ok (.aload_n 0, 1) := by decide +kernel
theorem dX4_together_16 : decode cX4_together 16 = .ok (.getfield 22, 3) := by decide +kernel
theorem dX4_together_19 : decode cX4_together 19 = .ok (.iload_n 1, 1) := by decide +kernel
theorem dX4_together_20 : decode cX4_together 20 = .ok (.bipush 30, 2) := by decide +kernel
theorem dX4_together_22 : decode cX4_together 22 = .ok (.imul, 1) := by decide +kernel
theorem dX4_together_23 : decode cX4_together 23 = .ok (.aload_n 0, 1) := by decide +kernel
theorem dX4_together_24 : decode cX4_together 24 = .ok (.getfield 26, 3) := by decide +kernel
theorem dX4_together_27 : decode cX4_together 27 = .ok (.iload 4, 2) := by decide +kernel
theorem dX4_together_29 : decode cX4_together 29 = .ok (.iaload, 1) := by decide +kernel
theorem dX4_together_30 : decode cX4_together 30 = .ok (.iadd, 1) := by decide +kernel
theorem dX4_together_31 : decode cX4_together 31 = .ok (.laload, 1) := by decide +kernel
theorem dX4_together_32 : decode cX4_together 32 = .ok (.ladd, 1) := by decide +kernel
theorem dX4_together_33 : decode cX4_together 33 = .ok (.lstore_n 2, 1) := by decide +kernel
theorem dX4_together_34 : decode cX4_together 34 = .ok (.iinc 4 1, 3) := by decide +kernel
theorem dX4_together_37 : decode cX4_together 37 = .ok (.goto (-32), 3) := by decide +kernel
theorem dX4_together_40 : decode cX4_together 40 = .ok (.lload_n 2, 1) := by decide +kernel
theorem dX4_together_41 : decode cX4_together 41 = .ok (.lreturn, 1) := by decide +kernel
def kX4_together (live : am_E) (Ret : am_R) : am_code := [(0, am_const (.long 0) 1), (1, am_lstore 2 5 2), (2, am_const (.int 0) 3), (3, am_istore 4 5 5), (5, am_iload 4 7), (7, am_aload 0 8), (8, am_getI live 4 7 11), (11, am_if2 (fun x y => y ≤ x) 40 14), (14, am_lload 2 15), (15, am_aload 0 16), (16, am_getR live 4 2 19), (19, am_iload 1 20), (20, am_const (.int 30) 22), (22, am_i2 (fun x y => x * y) 23), (23, am_aload 0 24), (24, am_getR live 4 3 27), (27, am_iload 4 29), (29, am_ald live 0 30), (30, am_i2 (fun x y => x + y) 31), (31, am_lald live 1 32), (32, am_l2 (fun x y => x + y) 33), (33, am_lstore 2 5 34), (34, am_iinc 4 5 1 37), (37, am_goto 5), (40, am_lload 2 41), (41, am_retL Ret)]
theorem koX4_together (live : am_E) (Ret : am_R) : ∀ q ∈ kX4_together live Ret, am_ok RX4 cX4_together 5 (some .long) 0 0 live Ret q.1 q.2 :=
  am_kc (ak_lconst dX4_together_0 (by decide +kernel) rfl) <|
  am_kc (ak_lstore_n dX4_together_1 rfl rfl) <|
  am_kc (ak_iconst dX4_together_2 (by decide +kernel) rfl) <|
  am_kc (ak_istore dX4_together_3 rfl) <|
  am_kc (ak_iload dX4_together_5 rfl) <|
  am_kc (ak_aload_n dX4_together_7 rfl rfl) <|
  am_kc (ak_getI (C := RX4) (T := TX4) (N := 18) rfl inX4w (by decide) rfl rfl rfl wd_303 dX4_together_8 rfl) <|
  am_kc (ak_icmp_ge dX4_together_11 (by decide +kernel) rfl) <|
  am_kc (ak_lload_n dX4_together_14 rfl rfl) <|
  am_kc (ak_aload_n dX4_together_15 rfl rfl) <|
  am_kc (ak_getR (C := RX4) (T := TX4) (N := 18) rfl inX4w (by decide) rfl rfl rfl wd_296 dX4_together_16 rfl) <|
  am_kc (ak_iload_n dX4_together_19 rfl rfl) <|
  am_kc (ak_bipush dX4_together_20 (by decide +kernel) rfl) <|
  am_kc (ak_imul dX4_together_22 rfl) <|
  am_kc (ak_aload_n dX4_together_23 rfl rfl) <|
  am_kc (ak_getR (C := RX4) (T := TX4) (N := 18) rfl inX4w (by decide) rfl rfl rfl wd_299 dX4_together_24 rfl) <|
  am_kc (ak_iload dX4_together_27 rfl) <|
  am_kc (ak_iald (t := 0) (fun _ => rfl) rfl dX4_together_29 rfl) <|
  am_kc (ak_iadd dX4_together_30 rfl) <|
  am_kc (ak_lald (t := 1) (fun _ => rfl) rfl dX4_together_31 rfl) <|
  am_kc (ak_ladd dX4_together_32 rfl) <|
  am_kc (ak_lstore_n dX4_together_33 rfl rfl) <|
  am_kc (ak_iinc dX4_together_34 (by decide +kernel) rfl) <|
  am_kc (ak_goto dX4_together_37 (by decide +kernel)) <|
  am_kc (ak_lload_n dX4_together_40 rfl rfl) <|
  am_kc (ak_retL dX4_together_41) <| am_kn
def TX4_together : am_T := fun live as M R => match as with
  | [.ref n, .int w] => am_mn live ∧ n = 4 ∧ am_in w 6 ∧ g_rI M ∧ ∀ v, R (some (.long v)) M
  | _ => False
def JX4_together : am_E → List Value → am_M → am_R → am_inv := fun live as M0 _ pc => match as with
  | [.ref n, .int w] => (match pc with
    | 5 => some ([0, 1, 2, 4], fun k L st M => ∃ (v : Int64) (i : Int32), L = [(0, .ref 4), (1, .int w), (2, .long v), (4, .int i)] ∧ st = [] ∧ k = ((31 - i.toInt).toNat, 0) ∧ 0 ≤ i.toInt ∧ M = M0)
    | _ => none)
  | _ => none
set_option maxRecDepth 100000 in
set_option maxHeartbeats 4000000 in
theorem metX4_together : am_Met yX4_together cX4_together 5 (some .long) (0) (0) TX4_together := by
  refine am_met (own := RX4) (by decide +kernel) rfl kX4_together koX4_together 100 JX4_together ?_ ?_
  · intro live as M Ret h
    unfold TX4_together at h
    split at h
    · next n w =>
      refine ⟨Nat.le_of_ble_eq_true rfl, ?_⟩
      change am_wp _ _ _ _ [(0, Value.ref n), (1, Value.int w)] _ _
      obtain ⟨hmn, rfl, hw, hr, h⟩ := h
      repeat' (first | exact rfl | apply And.intro | intro hx | (refine Exists.intro _ (And.intro rfl ?_)))
      all_goals try first | (with_reducible change am_tI _ _) | (change Ret _ _) | (change Ret _ _ _) | (change Exists _)
      all_goals try dsimp only at *
      all_goals try exact absurd ‹(1000 : Int64) = 0› (by decide)
      exact ⟨_, _, _, rfl, rfl, rfl, by decide, rfl⟩
    · exact h.elim
  · intro live as M0 Ret h k pc I hI L st M hi
    unfold TX4_together at h
    split at h
    · next n w =>
      obtain ⟨hmn, rfl, hw, hr, h⟩ := h
      obtain ⟨i1, i2, rfl⟩ := hmn
      change (match pc with | 5 => _ | _ => none) = _ at hI
      split at hI
      · cases hI
        obtain ⟨v, i, rfl, rfl, rfl, e1, rfl⟩ := hi
        by_cases hz : M.1 4 7 ≤ i
        · skip
          repeat' (first | exact rfl | apply And.intro | (intro hx; with_reducible exact absurd hz hx) | intro hx | (refine Exists.intro _ (And.intro rfl ?_)))
          all_goals try first | (with_reducible change am_tI _ _) | (change Ret _ _) | (change Ret _ _ _) | (change Exists _)
          all_goals try dsimp only at *
          all_goals try exact absurd ‹(1000 : Int64) = 0› (by decide)
          exact h _
        · have q := hr.s.sz
          have hz2 := hz
          simp only [i_le] at hz2
          have ha : am_in i 30 := ⟨e1, by omega⟩
          have hb := hr.s.mi (g_cl ha)
          have l6 : am_len 6 = 180 := rfl
          have l7 : am_len 7 = 30 := rfl
          have hi := i_inc (x := i) (by omega) (by omega)
          have e30 := i_mul (x := w) (y := 30) (by simp only [Int32.reduceToInt]; have := hw.1; have := hw.2; omega) (by simp only [Int32.reduceToInt]; have := hw.1; have := hw.2; omega)
          simp only [Int32.reduceToInt] at e30
          have hw1 := hw.1
          have hw2 := hw.2
          have hb1 := hb.1
          have hb2 := hb.2
          have e := i_add (x := w * 30) (y := M.1 7 i.toNatClampNeg) (by rw [e30]; omega) (by rw [e30]; omega)
          repeat' (first | exact rfl | apply And.intro | (intro hx; with_reducible exact absurd hx hz) | intro hx | (refine Exists.intro _ (And.intro rfl ?_)))
          all_goals try first | (with_reducible change am_tI _ _) | (change Ret _ _) | (change Ret _ _ _) | (change Exists _)
          all_goals try dsimp only at *
          all_goals try exact absurd ‹(1000 : Int64) = 0› (by decide)
          all_goals first
            | omega
            | (rw [l7]; exact ha.2)
            | (rw [l6]; omega)
            | skip
          exact ⟨_, am_lt_l (by omega), _, i + 1, rfl, rfl, rfl, by omega, rfl⟩
      · cases hI
    · exact h.elim
end
section
/-! Run: what is safe of it, II -/
theorem wd_219 : Cond.fieldLink "LearnLoans$Run" 118 "LearnLoans$House" "lives" "[I" ∈ am_ws := am_wsi (List.mem_of_getElem? (i := 219) (by decide +kernel)) (by decide +kernel)
theorem wd_560 : Cond.methodLink "LearnLoans$Run" 121 yX4_suppose ∈ am_ws := am_wsi (List.mem_of_getElem? (i := 560) (by decide +kernel)) (by decide +kernel)
theorem wd_561 : Cond.instanceMethod yX4_suppose ∈ am_ws := am_wsi (List.mem_of_getElem? (i := 561) (by decide +kernel)) (by decide +kernel)
theorem wd_562 : Cond.selects "LearnLoans$Run" yX4_suppose yX4_suppose ∈ am_ws := am_wsi (List.mem_of_getElem? (i := 562) (by decide +kernel)) (by decide +kernel)
theorem wd_563 : Cond.code yX4_suppose cX4_suppose 4 none ∈ am_ws := am_wsi (List.mem_of_getElem? (i := 563) (by decide +kernel)) (by decide +kernel)
theorem wd_195 : Cond.fieldLink "LearnLoans$Run" 105 "LearnLoans$House" "people" "LLearnLoans$People;" ∈ am_ws := am_wsi (List.mem_of_getElem? (i := 195) (by decide +kernel)) (by decide +kernel)
theorem wd_304 : Cond.fieldLink "LearnLoans$Run" 42 "LearnLoans$Run" "person" "I" ∈ am_ws := am_wsi (List.mem_of_getElem? (i := 304) (by decide +kernel)) (by decide +kernel)
theorem wd_305 : Cond.fieldLink "LearnLoans$Run" 46 "LearnLoans$Run" "known" "I" ∈ am_ws := am_wsi (List.mem_of_getElem? (i := 305) (by decide +kernel)) (by decide +kernel)
theorem wd_564 : Cond.methodLink "LearnLoans$Run" 125 yX2_earned ∈ am_ws := am_wsi (List.mem_of_getElem? (i := 564) (by decide +kernel)) (by decide +kernel)
theorem wd_456 : Cond.instanceMethod yX2_earned ∈ am_ws := am_wsi (List.mem_of_getElem? (i := 456) (by decide +kernel)) (by decide +kernel)
theorem wd_457 : Cond.selects "LearnLoans$People" yX2_earned yX2_earned ∈ am_ws := am_wsi (List.mem_of_getElem? (i := 457) (by decide +kernel)) (by decide +kernel)
theorem wd_62 : Cond.initialized "LearnLoans$People" ∈ am_ws := am_wsi (List.mem_of_getElem? (i := 62) (by decide +kernel)) (by decide +kernel)
theorem wd_458 : Cond.code yX2_earned cX2_earned 5 (some .int) ∈ am_ws := am_wsi (List.mem_of_getElem? (i := 458) (by decide +kernel)) (by decide +kernel)
theorem wd_112 : Cond.fieldLink "LearnLoans$Run" 129 "LearnLoans$People" "lands" "[I" ∈ am_ws := am_wsi (List.mem_of_getElem? (i := 112) (by decide +kernel)) (by decide +kernel)
theorem wd_565 : Cond.methodLink "LearnLoans$Run" 132 yX2_isDead ∈ am_ws := am_wsi (List.mem_of_getElem? (i := 565) (by decide +kernel)) (by decide +kernel)
theorem wd_566 : Cond.instanceMethod yX2_isDead ∈ am_ws := am_wsi (List.mem_of_getElem? (i := 566) (by decide +kernel)) (by decide +kernel)
theorem wd_567 : Cond.selects "LearnLoans$People" yX2_isDead yX2_isDead ∈ am_ws := am_wsi (List.mem_of_getElem? (i := 567) (by decide +kernel)) (by decide +kernel)
theorem wd_568 : Cond.code yX2_isDead cX2_isDead 3 (some .boolean) ∈ am_ws := am_wsi (List.mem_of_getElem? (i := 568) (by decide +kernel)) (by decide +kernel)
theorem dX4_look_0 : decode cX4_look 0 = .ok (.aload_n 0, 1) := by decide +kernel
theorem dX4_look_1 : decode cX4_look 1 = .ok (.getfield 74, 3) := by decide +kernel
theorem dX4_look_4 : decode cX4_look 4 = .ok (.iconst (-1), 1) := by decide +kernel
theorem dX4_look_5 : decode cX4_look 5 = .ok (.if_icmp .eq 29, 3) := by decide +kernel
theorem dX4_look_8 : decode cX4_look 8 = .ok (.aload_n 0, 1) := by decide +kernel
theorem dX4_look_9 : decode cX4_look 9 = .ok (.aload_n 0, 1) := by decide +kernel
theorem dX4_look_10 : decode cX4_look 10 = .ok (.getfield 12, 3) := by decide +kernel
theorem dX4_look_13 : decode cX4_look 13 = .ok (.getfield 118, 3) := by decide +kernel
theorem dX4_look_16 : decode cX4_look 16 = .ok (.aload_n 0, 1) := by decide +kernel
theorem dX4_look_17 : decode cX4_look 17 = .ok (.getfield 74, 3) := by decide +kernel
theorem dX4_look_20 : decode cX4_look 20 = .ok (.bipush 40, 2) := by decide +kernel
theorem dX4_look_22 : decode cX4_look 22 = .ok (.imul, 1) := by decide +kernel
theorem dX4_look_23 : decode cX4_look 23 = .ok (.iload_n 1, 1) := by decide +kernel
theorem dX4_look_24 : decode cX4_look 24 = .ok (.iadd, 1) := by decide +kernel
theorem dX4_look_25 : decode cX4_look 25 = .ok (.iaload, 1) := by decide +kernel
theorem dX4_look_26 : decode cX4_look 26 = .ok (.iconst 0, 1) := by decide +kernel
theorem dX4_look_27 : decode cX4_look 27 = .ok (.iconst 0, 1) := by decide +kernel
theorem dX4_look_28 : decode cX4_look 28 = .ok (.invokevirtual 121, 3) := by decide +kernel
theorem dX4_look_31 : decode cX4_look 31 = .ok (.goto 61, 3) := by decide +kernel
theorem dX4_look_34 : decode cX4_look 34 = .ok (.aload_n 0, 1) := by decide +kernel
theorem dX4_look_35 : decode cX4_look 35 = .ok (.aload_n 0, 1) := by decide +kernel
theorem dX4_look_36 : decode cX4_look 36 = .ok (.getfield 12, 3) := by decide +kernel
theorem dX4_look_39 : decode cX4_look 39 = .ok (.getfield 105, 3) := by decide +kernel
theorem dX4_look_42 : decode cX4_look 42 = .ok (.aload_n 0, 1) := by decide +kernel
theorem dX4_look_43 : decode cX4_look 43 = .ok (.getfield 42, 3) := by decide +kernel
theorem dX4_look_46 : decode cX4_look 46 = .ok (.iload_n 1, 1) := by decide +kernel
theorem dX4_look_47 : decode cX4_look 47 = .ok (.aload_n 0, 1) := by decide +kernel
theorem dX4_look_48 : decode cX4_look 48 = .ok (.getfield 46, 3) := by decide +kernel
theorem dX4_look_51 : decode cX4_look 51 = .ok (.invokevirtual 125, 3) := by decide +kernel
theorem dX4_look_54 : decode cX4_look 54 = .ok (.aload_n 0, 1) := by decide +kernel
theorem dX4_look_55 : decode cX4_look 55 = .ok (.getfield 12, 3) := by decide +kernel
theorem dX4_look_58 : decode cX4_look 58 = .ok (.getfield 105, 3) := by decide +kernel
theorem dX4_look_61 : decode cX4_look 61 = .ok (.getfield 129, 3) := by decide +kernel
theorem dX4_look_64 : decode cX4_look 64 = .ok (.aload_n 0, 1) := by decide +kernel
theorem dX4_look_65 : decode cX4_look 65 = .ok (.getfield 42, 3) := by decide +kernel
theorem dX4_look_68 : decode cX4_look 68 = .ok (.bipush 40, 2) := by decide +kernel
theorem dX4_look_70 : decode cX4_look 70 = .ok (.imul, 1) := by decide +kernel
theorem dX4_look_71 : decode cX4_look 71 = .ok (.iload_n 1, 1) := by decide +kernel
theorem dX4_look_72 : decode cX4_look 72 = .ok (.iadd, 1) := by decide +kernel
theorem dX4_look_73 : decode cX4_look 73 = .ok (.iaload, 1) := by decide +kernel
theorem dX4_look_74 : decode cX4_look 74 = .ok (.aload_n 0, 1) := by decide +kernel
theorem dX4_look_75 : decode cX4_look 75 = .ok (.getfield 12, 3) := by decide +kernel
theorem dX4_look_78 : decode cX4_look 78 = .ok (.getfield 105, 3) := by decide +kernel
theorem dX4_look_81 : decode cX4_look 81 = .ok (.aload_n 0, 1) := by decide +kernel
theorem dX4_look_82 : decode cX4_look 82 = .ok (.getfield 42, 3) := by decide +kernel
theorem dX4_look_85 : decode cX4_look 85 = .ok (.iload_n 1, 1) := by decide +kernel
theorem dX4_look_86 : decode cX4_look 86 = .ok (.invokevirtual 132, 3) := by decide +kernel
theorem dX4_look_89 : decode cX4_look 89 = .ok (.invokevirtual 121, 3) := by decide +kernel
theorem dX4_look_92 : decode cX4_look 92 = .ok (.return_, 1) := by decide +kernel
def kX4_look (live : am_E) (Ret : am_R) : am_code := [(0, am_aload 0 1), (1, am_getI live 4 11 4), (4, am_const (.int (-1)) 5), (5, am_if2 (fun x y => x = y) 34 8), (8, am_aload 0 9), (9, am_aload 0 10), (10, am_getR live 4 0 13), (13, am_getR live 0 9 16), (16, am_aload 0 17), (17, am_getI live 4 11 20), (20, am_const (.int 40) 22), (22, am_i2 (fun x y => x * y) 23), (23, am_iload 1 24), (24, am_i2 (fun x y => x + y) 25), (25, am_ald live 0 26), (26, am_const (.int 0) 27), (27, am_const (.int 0) 28), (28, am_callV live 4 3 TX4_suppose 31), (31, am_goto 92), (34, am_aload 0 35), (35, am_aload 0 36), (36, am_getR live 4 0 39), (39, am_getR live 0 0 42), (42, am_aload 0 43), (43, am_getI live 4 8 46), (46, am_iload 1 47), (47, am_aload 0 48), (48, am_getI live 4 9 51), (51, am_callV live 2 3 TX2_earned 54), (54, am_aload 0 55), (55, am_getR live 4 0 58), (58, am_getR live 0 0 61), (61, am_getR live 2 2 64), (64, am_aload 0 65), (65, am_getI live 4 8 68), (68, am_const (.int 40) 70), (70, am_i2 (fun x y => x * y) 71), (71, am_iload 1 72), (72, am_i2 (fun x y => x + y) 73), (73, am_ald live 0 74), (74, am_aload 0 75), (75, am_getR live 4 0 78), (78, am_getR live 0 0 81), (81, am_aload 0 82), (82, am_getI live 4 8 85), (85, am_iload 1 86), (86, am_callV live 2 2 TX2_isDead 89), (89, am_callV live 4 3 TX4_suppose 92), (92, am_retV Ret)]
theorem koX4_look (live : am_E) (Ret : am_R) : ∀ q ∈ kX4_look live Ret, am_ok RX4 cX4_look 2 none 1 24 live Ret q.1 q.2 :=
  am_kc (ak_aload_n dX4_look_0 rfl rfl) <|
  am_kc (ak_getI (C := RX4) (T := TX4) (N := 18) rfl inX4w (by decide) rfl rfl rfl wd_307 dX4_look_1 rfl) <|
  am_kc (ak_iconst dX4_look_4 (by decide +kernel) rfl) <|
  am_kc (ak_icmp_eq dX4_look_5 (by decide +kernel) rfl) <|
  am_kc (ak_aload_n dX4_look_8 rfl rfl) <|
  am_kc (ak_aload_n dX4_look_9 rfl rfl) <|
  am_kc (ak_getR (C := RX4) (T := TX4) (N := 18) rfl inX4w (by decide) rfl rfl rfl wd_291 dX4_look_10 rfl) <|
  am_kc (ak_getR (C := RX0) (T := TX0) (N := 13) rfl inX0w (by decide) rfl rfl rfl wd_219 dX4_look_13 rfl) <|
  am_kc (ak_aload_n dX4_look_16 rfl rfl) <|
  am_kc (ak_getI (C := RX4) (T := TX4) (N := 18) rfl inX4w (by decide) rfl rfl rfl wd_307 dX4_look_17 rfl) <|
  am_kc (ak_bipush dX4_look_20 (by decide +kernel) rfl) <|
  am_kc (ak_imul dX4_look_22 rfl) <|
  am_kc (ak_iload_n dX4_look_23 rfl rfl) <|
  am_kc (ak_iadd dX4_look_24 rfl) <|
  am_kc (ak_iald (t := 0) (fun _ => rfl) rfl dX4_look_25 rfl) <|
  am_kc (ak_iconst dX4_look_26 (by decide +kernel) rfl) <|
  am_kc (ak_iconst dX4_look_27 (by decide +kernel) rfl) <|
  am_kc (ak_callV (C := RX4) (F := TX4) (N := 18) metX4_suppose rfl ⟨rfl, by decide +kernel, by decide +kernel, by decide +kernel⟩ (am_w5 wd_560 wd_561 wd_562 wd_60 wd_563) (by decide) dX4_look_28 rfl) <|
  am_kc (ak_goto dX4_look_31 (by decide +kernel)) <|
  am_kc (ak_aload_n dX4_look_34 rfl rfl) <|
  am_kc (ak_aload_n dX4_look_35 rfl rfl) <|
  am_kc (ak_getR (C := RX4) (T := TX4) (N := 18) rfl inX4w (by decide) rfl rfl rfl wd_291 dX4_look_36 rfl) <|
  am_kc (ak_getR (C := RX0) (T := TX0) (N := 13) rfl inX0w (by decide) rfl rfl rfl wd_195 dX4_look_39 rfl) <|
  am_kc (ak_aload_n dX4_look_42 rfl rfl) <|
  am_kc (ak_getI (C := RX4) (T := TX4) (N := 18) rfl inX4w (by decide) rfl rfl rfl wd_304 dX4_look_43 rfl) <|
  am_kc (ak_iload_n dX4_look_46 rfl rfl) <|
  am_kc (ak_aload_n dX4_look_47 rfl rfl) <|
  am_kc (ak_getI (C := RX4) (T := TX4) (N := 18) rfl inX4w (by decide) rfl rfl rfl wd_305 dX4_look_48 rfl) <|
  am_kc (ak_callV (C := RX2) (F := TX2) (N := 8) metX2_earned rfl ⟨rfl, by decide +kernel, by decide +kernel, by decide +kernel⟩ (am_w5 wd_564 wd_456 wd_457 wd_62 wd_458) (by decide) dX4_look_51 rfl) <|
  am_kc (ak_aload_n dX4_look_54 rfl rfl) <|
  am_kc (ak_getR (C := RX4) (T := TX4) (N := 18) rfl inX4w (by decide) rfl rfl rfl wd_291 dX4_look_55 rfl) <|
  am_kc (ak_getR (C := RX0) (T := TX0) (N := 13) rfl inX0w (by decide) rfl rfl rfl wd_195 dX4_look_58 rfl) <|
  am_kc (ak_getR (C := RX2) (T := TX2) (N := 8) rfl inX2w (by decide) rfl rfl rfl wd_112 dX4_look_61 rfl) <|
  am_kc (ak_aload_n dX4_look_64 rfl rfl) <|
  am_kc (ak_getI (C := RX4) (T := TX4) (N := 18) rfl inX4w (by decide) rfl rfl rfl wd_304 dX4_look_65 rfl) <|
  am_kc (ak_bipush dX4_look_68 (by decide +kernel) rfl) <|
  am_kc (ak_imul dX4_look_70 rfl) <|
  am_kc (ak_iload_n dX4_look_71 rfl rfl) <|
  am_kc (ak_iadd dX4_look_72 rfl) <|
  am_kc (ak_iald (t := 0) (fun _ => rfl) rfl dX4_look_73 rfl) <|
  am_kc (ak_aload_n dX4_look_74 rfl rfl) <|
  am_kc (ak_getR (C := RX4) (T := TX4) (N := 18) rfl inX4w (by decide) rfl rfl rfl wd_291 dX4_look_75 rfl) <|
  am_kc (ak_getR (C := RX0) (T := TX0) (N := 13) rfl inX0w (by decide) rfl rfl rfl wd_195 dX4_look_78 rfl) <|
  am_kc (ak_aload_n dX4_look_81 rfl rfl) <|
  am_kc (ak_getI (C := RX4) (T := TX4) (N := 18) rfl inX4w (by decide) rfl rfl rfl wd_304 dX4_look_82 rfl) <|
  am_kc (ak_iload_n dX4_look_85 rfl rfl) <|
  am_kc (ak_callV (C := RX2) (F := TX2) (N := 8) metX2_isDead rfl ⟨rfl, by decide +kernel, by decide +kernel, by decide +kernel⟩ (am_w5 wd_565 wd_566 wd_567 wd_62 wd_568) (by decide) dX4_look_86 rfl) <|
  am_kc (ak_callV (C := RX4) (F := TX4) (N := 18) metX4_suppose rfl ⟨rfl, by decide +kernel, by decide +kernel, by decide +kernel⟩ (am_w5 wd_560 wd_561 wd_562 wd_60 wd_563) (by decide) dX4_look_89 rfl) <|
  am_kc (ak_retV dX4_look_92) <| am_kn
def TX4_look : am_T := fun live as M R => match as with
  | [.ref n, .int y] => am_mn live ∧ n = 4 ∧ am_in y 40 ∧ g_rI M ∧ ∀ M', g_sc M M' → g_rI M' → R none M'
  | _ => False
theorem g_40 {a y : Int32} {n : Nat} (hn : n ≤ 100) (h1 : am_in a n) (h2 : am_in y 40) : (a * 40 + y).toInt = a.toInt * 40 + y.toInt := by
  obtain ⟨a1, a2⟩ := h1
  obtain ⟨b1, b2⟩ := h2
  have e := i_mul (x := a) (y := 40) (by simp only [Int32.reduceToInt]; omega) (by simp only [Int32.reduceToInt]; omega)
  simp only [Int32.reduceToInt] at e
  rw [i_add (by rw [e]; omega) (by rw [e]; omega), e]
theorem g_01 (q : Prop) [Decidable q] : (if q then (1 : Int32) else 0) = 0 ∨ (if q then (1 : Int32) else 0) = 1 := by
  split
  · exact Or.inr rfl
  · exact Or.inl rfl
set_option maxRecDepth 100000 in
set_option maxHeartbeats 4000000 in
theorem metX4_look : am_Met yX4_look cX4_look 2 none (1) (24) TX4_look := by
  refine am_met (own := RX4) (by decide +kernel) rfl kX4_look koX4_look 100 (fun _ _ _ _ _ => none) (fun live as M Ret h => ?_) (fun _ _ _ _ _ _ _ _ hI => by cases hI)
  unfold TX4_look at h
  split at h
  · next n y =>
    refine ⟨Nat.le_of_ble_eq_true rfl, ?_⟩
    change am_wp _ _ _ _ [(0, Value.ref n), (1, Value.int y)] _ _
    obtain ⟨hmn, rfl, hy, hr, h⟩ := h
    have hmn2 := hmn
    obtain ⟨i1, i2, rfl⟩ := hmn2
    have l56 : am_len 56 = 160 := rfl
    have l24 : am_len 24 = 480 := rfl
    have hp := hr.s.pe
    have ep := g_40 (by decide) hp hy
    have hy1 := hy.1
    have hy2 := hy.2
    have hp1 := hp.1
    have hp2 := hp.2
    have hld := hr.t.ld (k := (M.1 4 8 * 40 + y).toNatClampNeg) (by have := i_clamp (x := M.1 4 8 * 40 + y) (by omega); omega)
    by_cases hz : M.1 4 11 = -1
    · skip
      repeat' (first | exact rfl | (with_reducible exact hmn) | (with_reducible exact hp) | apply And.intro | (intro hx; with_reducible exact absurd hz hx) | intro hx | (refine Exists.intro _ (And.intro rfl ?_)))
      all_goals try first | (with_reducible change am_tI _ _) | (change Ret _ _) | (change Ret _ _ _) | (change Exists _)
      all_goals try dsimp only at *
      all_goals try exact absurd ‹(1000 : Int64) = 0› (by decide)
      all_goals first
        | exact hp.1
        | exact hp.2
        | exact g_01 _
        | (rw [ep]; omega)
        | (rw [ep, l24]; omega)
        | skip
      exact h _ (((g_sc.rf.wI rfl).wI rfl).wI rfl) (((hr.wF rfl).w416 hld).wF rfl)
    · have hl := hr.s.li.resolve_left hz
      have el := g_40 (by decide) hl hy
      have hl1 := hl.1
      have hl2 := hl.2
      repeat' (first | exact rfl | (with_reducible exact hmn) | apply And.intro | (intro hx; with_reducible exact absurd hx hz) | intro hx | (refine Exists.intro _ (And.intro rfl ?_)))
      all_goals try first | (with_reducible change am_tI _ _) | (change Ret _ _) | (change Ret _ _ _) | (change Exists _)
      all_goals try dsimp only at *
      all_goals try exact absurd ‹(1000 : Int64) = 0› (by decide)
      all_goals first
        | (left; rfl)
        | (rw [el]; omega)
        | (rw [el, l56]; omega)
        | skip
      exact h _ (((g_sc.rf.wI rfl).wI rfl).wI rfl) (((hr.wF rfl).w416 ⟨by decide, by decide⟩).wF rfl)
  · exact h.elim
theorem wd_214 : Cond.fieldLink "LearnLoans$Run" 190 "LearnLoans$House" "texts" "[LLearnLoans$Text;" ∈ am_ws := am_wsi (List.mem_of_getElem? (i := 214) (by decide +kernel)) (by decide +kernel)
theorem wd_176 : Cond.fieldLink "LearnLoans$Run" 194 "LearnLoans$Text" "wrong" "I" ∈ am_ws := am_wsi (List.mem_of_getElem? (i := 176) (by decide +kernel)) (by decide +kernel)
theorem wd_301 : Cond.fieldLink "LearnLoans$Run" 35 "LearnLoans$Run" "letters" "LLearnLoans$Letters;" ∈ am_ws := am_wsi (List.mem_of_getElem? (i := 301) (by decide +kernel)) (by decide +kernel)
theorem wd_262 : Cond.fieldLink "LearnLoans$Run" 199 "LearnLoans$Letters" "rate" "J" ∈ am_ws := am_wsi (List.mem_of_getElem? (i := 262) (by decide +kernel)) (by decide +kernel)
theorem wd_201 : Cond.fieldLink "LearnLoans$Run" 202 "LearnLoans$House" "prices" "[I" ∈ am_ws := am_wsi (List.mem_of_getElem? (i := 201) (by decide +kernel)) (by decide +kernel)
theorem wd_264 : Cond.fieldLink "LearnLoans$Run" 205 "LearnLoans$Letters" "prices" "J" ∈ am_ws := am_wsi (List.mem_of_getElem? (i := 264) (by decide +kernel)) (by decide +kernel)
theorem wd_266 : Cond.fieldLink "LearnLoans$Run" 207 "LearnLoans$Letters" "earned" "J" ∈ am_ws := am_wsi (List.mem_of_getElem? (i := 266) (by decide +kernel)) (by decide +kernel)
theorem wd_268 : Cond.fieldLink "LearnLoans$Run" 209 "LearnLoans$Letters" "line" "J" ∈ am_ws := am_wsi (List.mem_of_getElem? (i := 268) (by decide +kernel)) (by decide +kernel)
theorem wd_270 : Cond.fieldLink "LearnLoans$Run" 212 "LearnLoans$Letters" "years" "J" ∈ am_ws := am_wsi (List.mem_of_getElem? (i := 270) (by decide +kernel)) (by decide +kernel)
theorem wd_272 : Cond.fieldLink "LearnLoans$Run" 215 "LearnLoans$Letters" "owed" "J" ∈ am_ws := am_wsi (List.mem_of_getElem? (i := 272) (by decide +kernel)) (by decide +kernel)
theorem wd_274 : Cond.fieldLink "LearnLoans$Run" 218 "LearnLoans$Letters" "land" "J" ∈ am_ws := am_wsi (List.mem_of_getElem? (i := 274) (by decide +kernel)) (by decide +kernel)
theorem wd_302 : Cond.fieldLink "LearnLoans$Run" 39 "LearnLoans$Run" "stack" "[J" ∈ am_ws := am_wsi (List.mem_of_getElem? (i := 302) (by decide +kernel)) (by decide +kernel)
theorem wd_589 : Cond.methodLink "LearnLoans$Run" 220 yX5_worked ∈ am_ws := am_wsi (List.mem_of_getElem? (i := 589) (by decide +kernel)) (by decide +kernel)
theorem wd_590 : Cond.instanceMethod yX5_worked ∈ am_ws := am_wsi (List.mem_of_getElem? (i := 590) (by decide +kernel)) (by decide +kernel)
theorem wd_591 : Cond.selects "LearnLoans$Text" yX5_worked yX5_worked ∈ am_ws := am_wsi (List.mem_of_getElem? (i := 591) (by decide +kernel)) (by decide +kernel)
theorem wd_592 : Cond.code yX5_worked cX5_worked 7 (some .long) ∈ am_ws := am_wsi (List.mem_of_getElem? (i := 592) (by decide +kernel)) (by decide +kernel)
theorem wd_603 : Cond.constantLong "LearnLoans$Run" 224 500 ∈ am_ws := am_wsi (List.mem_of_getElem? (i := 603) (by decide +kernel)) (by decide +kernel)
theorem dX4_rateOf_0 : decode cX4_rateOf 0 = .ok (.aload_n 0, 1) := by decide +kernel
theorem dX4_rateOf_1 : decode cX4_rateOf 1 = .ok (.iload_n 1, 1) := by decide +kernel
theorem dX4_rateOf_2 : decode cX4_rateOf 2 = .ok (.iload_n 2, 1) := by decide +kernel
theorem dX4_rateOf_3 : decode cX4_rateOf 3 = .ok (.invokevirtual 167, 3) := by decide +kernel
theorem dX4_rateOf_6 : decode cX4_rateOf 6 = .ok (.istore_n 3, 1) := by decide +kernel
theorem dX4_rateOf_7 : decode cX4_rateOf 7 = .ok (.aload_n 0, 1) := by decide +kernel
theorem dX4_rateOf_8 : decode cX4_rateOf 8 = .ok (.getfield 12, 3) := by decide +kernel
theorem dX4_rateOf_11 : decode cX4_rateOf 11 = .ok (.getfield 190, 3) := by decide +kernel
theorem dX4_rateOf_14 : decode cX4_rateOf 14 = .ok (.aload_n 0, 1) := by decide +kernel
theorem dX4_rateOf_15 : decode cX4_rateOf 15 = .ok (.iload_n 1, 1) := by decide +kernel
theorem dX4_rateOf_16 : decode cX4_rateOf 16 = .ok (.iload_n 2, 1) := by decide +kernel
theorem dX4_rateOf_17 : decode cX4_rateOf 17 = .ok (.invokevirtual 187, 3) := by decide +kernel
theorem dX4_rateOf_20 : decode cX4_rateOf 20 = .ok (.aaload, 1) := by decide +kernel
theorem dX4_rateOf_21 : decode cX4_rateOf 21 = .ok (.astore 4, 2) := by decide +kernel
theorem dX4_rateOf_23 : decode cX4_rateOf 23 = .ok (.aload 4, 2) := by decide +kernel
theorem dX4_rateOf_25 : decode cX4_rateOf 25 = .ok (.getfield 194, 3) := by decide +kernel
theorem dX4_rateOf_28 : decode cX4_rateOf 28 = .ok (.iconst (-1), 1) := by decide +kernel
theorem dX4_rateOf_29 : decode cX4_rateOf 29 = .ok (.if_icmp .eq 12, 3) := by decide +kernel
theorem dX4_rateOf_32 : decode cX4_rateOf 32 = .ok (.aload_n 0, 1) := by decide +kernel
theorem dX4_rateOf_33 : decode cX4_rateOf 33 = .ok (.getfield 18, 3) := by decide +kernel
theorem dX4_rateOf_36 : decode cX4_rateOf 36 = .ok (.iload_n 3, 1) := by decide +kernel
theorem dX4_rateOf_37 : decode cX4_rateOf 37 = .ok (.iconst 2, 1) := by decide +kernel
theorem dX4_rateOf_38 : decode cX4_rateOf 38 = .ok (.iadd, 1) := by decide +kernel
theorem dX4_rateOf_39 : decode cX4_rateOf 39 = .ok (.iaload, 1) := by decide +kernel
theorem dX4_rateOf_40 : decode cX4_rateOf 40 = .ok (.ireturn, 1) := by decide +kernel
theorem dX4_rateOf_41 : decode cX4_rateOf 41 = .ok (.aload_n 0, 1) := by decide +kernel
theorem dX4_rateOf_42 : decode cX4_rateOf 42 = .ok (.getfield 35, 3) := by decide +kernel
theorem dX4_rateOf_45 : decode cX4_rateOf 45 = .ok (.aload_n 0, 1) := by decide +kernel
theorem dX4_rateOf_46 : decode cX4_rateOf 46 = .ok (.getfield 18, 3) := by decide +kernel
theorem dX4_rateOf_49 : decode cX4_rateOf 49 = .ok (.iload_n 3, 1) := by decide +kernel
theorem dX4_rateOf_50 : decode cX4_rateOf 50 = .ok (.iconst 2, 1) := by decide +kernel
theorem dX4_rateOf_51 : decode cX4_rateOf 51 = .ok (.iadd, 1) := by decide +kernel
theorem dX4_rateOf_52 : decode cX4_rateOf 52 = .ok (.iaload, 1) := by decide +kernel
theorem dX4_rateOf_53 : decode cX4_rateOf 53 = .ok (.i2l, 1) := by decide +kernel
theorem dX4_rateOf_54 : decode cX4_rateOf 54 = .ok (.putfield 199, 3) := by decide +kernel
theorem dX4_rateOf_57 : decode cX4_rateOf 57 = .ok (.aload_n 0, 1) := by decide +kernel
theorem dX4_rateOf_58 : decode cX4_rateOf 58 = .ok (.getfield 35, 3) := by decide +kernel
theorem dX4_rateOf_61 : decode cX4_rateOf 61 = .ok (.aload_n 0, 1) := by decide +kernel
theorem dX4_rateOf_62 : decode cX4_rateOf 62 = .ok (.getfield 12, 3) := by decide +kernel
theorem dX4_rateOf_65 : decode cX4_rateOf 65 = .ok (.getfield 202, 3) := by decide +kernel
theorem dX4_rateOf_68 : decode cX4_rateOf 68 = .ok (.iload_n 2, 1) := by decide +kernel
theorem dX4_rateOf_69 : decode cX4_rateOf 69 = .ok (.iaload, 1) := by decide +kernel
theorem dX4_rateOf_70 : decode cX4_rateOf 70 = .ok (.i2l, 1) := by decide +kernel
theorem dX4_rateOf_71 : decode cX4_rateOf 71 = .ok (.putfield 205, 3) := by decide +kernel
theorem dX4_rateOf_74 : decode cX4_rateOf 74 = .ok (.aload_n 0, 1) := by decide +kernel
theorem dX4_rateOf_75 : decode cX4_rateOf 75 = .ok (.getfield 35, 3) := by decide +kernel
theorem dX4_rateOf_78 : decode cX4_rateOf 78 = .ok (.aload_n 0, 1) := by decide +kernel
theorem dX4_rateOf_79 : decode cX4_rateOf 79 = .ok (.getfield 136, 3) := by decide +kernel
theorem dX4_rateOf_82 : decode cX4_rateOf 82 = .ok (.i2l, 1) := by decide +kernel
theorem dX4_rateOf_83 : decode cX4_rateOf 83 = .ok (.putfield 207, 3) := by decide +kernel
theorem dX4_rateOf_86 : decode cX4_rateOf 86 = .ok (.aload_n 0, 1) := by decide +kernel
theorem dX4_rateOf_87 : decode cX4_rateOf 87 = .ok (.getfield 35, 3) := by decide +kernel
theorem dX4_rateOf_90 : decode cX4_rateOf 90 = .ok (.aload_n 0, 1) := by decide +kernel
theorem dX4_rateOf_91 : decode cX4_rateOf 91 = .ok (.getfield 18, 3) := by decide +kernel
theorem dX4_rateOf_94 : decode cX4_rateOf 94 = .ok (.iload_n 3, 1) := by decide +kernel
theorem dX4_rateOf_95 : decode cX4_rateOf 95 = .ok (.iconst 0, 1) := by decide +kernel
theorem dX4_rateOf_96 : decode cX4_rateOf 96 = .ok (.iadd, 1) := by decide +kernel
theorem dX4_rateOf_97 : decode cX4_rateOf 97 = .ok (.iaload, 1) := by decide +kernel
theorem dX4_rateOf_98 : decode cX4_rateOf 98 = .ok (.i2l, 1) := by decide +kernel
theorem dX4_rateOf_99 : decode cX4_rateOf 99 = .ok (.putfield 209, 3) := by decide +kernel
theorem dX4_rateOf_102 : decode cX4_rateOf 102 = .ok (.aload_n 0, 1) := by decide +kernel
theorem dX4_rateOf_103 : decode cX4_rateOf 103 = .ok (.getfield 35, 3) := by decide +kernel
theorem dX4_rateOf_106 : decode cX4_rateOf 106 = .ok (.iload_n 2, 1) := by decide +kernel
theorem dX4_rateOf_107 : decode cX4_rateOf 107 = .ok (.aload_n 0, 1) := by decide +kernel
theorem dX4_rateOf_108 : decode cX4_rateOf 108 = .ok (.getfield 12, 3) := by decide +kernel
theorem dX4_rateOf_111 : decode cX4_rateOf 111 = .ok (.getfield 59, 3) := by decide +kernel
theorem dX4_rateOf_114 : decode cX4_rateOf 114 = .ok (.iload_n 1, 1) := by decide +kernel
theorem dX4_rateOf_115 : decode cX4_rateOf 115 = .ok (.iconst 2, 1) := by decide +kernel
theorem dX4_rateOf_116 : decode cX4_rateOf 116 = .ok (.invokevirtual 66, 3) := by decide +kernel
theorem dX4_rateOf_119 : decode cX4_rateOf 119 = .ok (.isub, 1) := by decide +kernel
theorem dX4_rateOf_120 : decode cX4_rateOf 120 = .ok (.i2l, 1) := by decide +kernel
theorem dX4_rateOf_121 : decode cX4_rateOf 121 = .ok (.putfield 212, 3) := by decide +kernel
theorem dX4_rateOf_124 : decode cX4_rateOf 124 = .ok (.aload_n 0, 1) := by decide +kernel
theorem dX4_rateOf_125 : decode cX4_rateOf 125 = .ok (.getfield 35, 3) := by decide +kernel
theorem dX4_rateOf_128 : decode cX4_rateOf 128 = .ok (.aload_n 0, 1) := by decide +kernel
theorem dX4_rateOf_129 : decode cX4_rateOf 129 = .ok (.getfield 22, 3) := by decide +kernel
theorem dX4_rateOf_132 : decode cX4_rateOf 132 = .ok (.iconst 0, 1) := by decide +kernel
theorem dX4_rateOf_133 : decode cX4_rateOf 133 = .ok (.iload_n 1, 1) := by decide +kernel
theorem dX4_rateOf_134 : decode cX4_rateOf 134 = .ok (.iadd, 1) := by decide +kernel
theorem dX4_rateOf_135 : decode cX4_rateOf 135 = .ok (.laload, 1) := by decide +kernel
theorem dX4_rateOf_136 : decode cX4_rateOf 136 = .ok (.putfield 215, 3) := by decide +kernel
theorem dX4_rateOf_139 : decode cX4_rateOf 139 = .ok (.aload_n 0, 1) := by decide +kernel
theorem dX4_rateOf_140 : decode cX4_rateOf 140 = .ok (.getfield 35, 3) := by decide +kernel
theorem dX4_rateOf_143 : decode cX4_rateOf 143 = .ok (.aload_n 0, 1) := by decide +kernel
theorem dX4_rateOf_144 : decode cX4_rateOf 144 = .ok (.getfield 138, 3) := by decide +kernel
theorem dX4_rateOf_147 : decode cX4_rateOf 147 = .ok (.i2l, 1) := by decide +kernel
theorem dX4_rateOf_148 : decode cX4_rateOf 148 = .ok (.putfield 218, 3) := by decide +kernel
theorem dX4_rateOf_151 : decode cX4_rateOf 151 = .ok (.aload 4, 2) := by decide +kernel
theorem dX4_rateOf_153 : decode cX4_rateOf 153 = .ok (.aload_n 0, 1) := by decide +kernel
theorem dX4_rateOf_154 : decode cX4_rateOf 154 = .ok (.getfield 35, 3) := by decide +kernel
theorem dX4_rateOf_157 : decode cX4_rateOf 157 = .ok (.aload_n 0, 1) := by decide +kernel
theorem dX4_rateOf_158 : decode cX4_rateOf 158 = .ok (.getfield 39, 3) := by decide +kernel
theorem dX4_rateOf_161 : decode cX4_rateOf 161 = .ok (.invokevirtual 220, 3) := by decide +kernel
theorem dX4_rateOf_164 : decode cX4_rateOf 164 = .ok (.lstore 5, 2) := by decide +kernel
theorem dX4_rateOf_166 : decode cX4_rateOf 166 = .ok (.lconst 0, 1) := by decide +kernel
theorem dX4_rateOf_167 : decode cX4_rateOf 167 = .ok (.ldc2_w 224, 3) := by decide +kernel
theorem dX4_rateOf_170 : decode cX4_rateOf 170 = .ok (.lload 5, 2) := by decide +kernel
theorem dX4_rateOf_172 : decode cX4_rateOf 172 = .ok (.invokestatic 174, 3) := by decide +kernel
theorem dX4_rateOf_175 : decode cX4_rateOf 175 = .ok (.invokestatic 226, 3) := by decide +kernel
theorem dX4_rateOf_178 : decode cX4_rateOf 178 = .ok (.l2i, 1) := by decide +kernel
theorem dX4_rateOf_179 : decode cX4_rateOf 179 = .ok (.ireturn, 1) := by decide +kernel
def kX4_rateOf (live : am_E) (Ret : am_R) : am_code := [(0, am_aload 0 1), (1, am_iload 1 2), (2, am_iload 2 3), (3, am_callV live 4 2 TX4_cellOf 6), (6, am_istore 3 7 7), (7, am_aload 0 8), (8, am_getR live 4 0 11), (11, am_getR live 0 7 14), (14, am_aload 0 15), (15, am_iload 1 16), (16, am_iload 2 17), (17, am_callV live 4 2 TX4_planIn 20), (20, am_aald live 3 21), (21, am_astore 4 7 23), (23, am_aload 4 25), (25, am_getI live 5 6 28), (28, am_const (.int (-1)) 29), (29, am_if2 (fun x y => x = y) 41 32), (32, am_aload 0 33), (33, am_getR live 4 1 36), (36, am_iload 3 37), (37, am_const (.int 2) 38), (38, am_i2 (fun x y => x + y) 39), (39, am_ald live 0 40), (40, am_retI Ret), (41, am_aload 0 42), (42, am_getR live 4 5 45), (45, am_aload 0 46), (46, am_getR live 4 1 49), (49, am_iload 3 50), (50, am_const (.int 2) 51), (51, am_i2 (fun x y => x + y) 52), (52, am_ald live 0 53), (53, am_i2l 54), (54, am_putJ live 1 0 57), (57, am_aload 0 58), (58, am_getR live 4 5 61), (61, am_aload 0 62), (62, am_getR live 4 0 65), (65, am_getR live 0 2 68), (68, am_iload 2 69), (69, am_ald live 0 70), (70, am_i2l 71), (71, am_putJ live 1 1 74), (74, am_aload 0 75), (75, am_getR live 4 5 78), (78, am_aload 0 79), (79, am_getI live 4 15 82), (82, am_i2l 83), (83, am_putJ live 1 2 86), (86, am_aload 0 87), (87, am_getR live 4 5 90), (90, am_aload 0 91), (91, am_getR live 4 1 94), (94, am_iload 3 95), (95, am_const (.int 0) 96), (96, am_i2 (fun x y => x + y) 97), (97, am_ald live 0 98), (98, am_i2l 99), (99, am_putJ live 1 3 102), (102, am_aload 0 103), (103, am_getR live 4 5 106), (106, am_iload 2 107), (107, am_aload 0 108), (108, am_getR live 4 0 111), (111, am_getR live 0 4 114), (114, am_iload 1 115), (115, am_const (.int 2) 116), (116, am_callV live 3 2 TX3_at 119), (119, am_i2 (fun x y => x - y) 120), (120, am_i2l 121), (121, am_putJ live 1 4 124), (124, am_aload 0 125), (125, am_getR live 4 5 128), (128, am_aload 0 129), (129, am_getR live 4 2 132), (132, am_const (.int 0) 133), (133, am_iload 1 134), (134, am_i2 (fun x y => x + y) 135), (135, am_lald live 1 136), (136, am_putJ live 1 5 139), (139, am_aload 0 140), (140, am_getR live 4 5 143), (143, am_aload 0 144), (144, am_getI live 4 16 147), (147, am_i2l 148), (148, am_putJ live 1 6 151), (151, am_aload 4 153), (153, am_aload 0 154), (154, am_getR live 4 5 157), (157, am_aload 0 158), (158, am_getR live 4 6 161), (161, am_callV live 5 2 TX5_worked 164), (164, am_lstore 5 7 166), (166, am_const (.long 0) 167), (167, am_const (.long 500) 170), (170, am_lload 5 172), (172, am_mathl (fun x y => if y < x then y else x) 50 175), (175, am_mathl (fun x y => if y < x then x else y) 50 178), (178, am_l2i 179), (179, am_retI Ret)]
theorem koX4_rateOf (live : am_E) (Ret : am_R) : ∀ q ∈ kX4_rateOf live Ret, am_ok RX4 cX4_rateOf 7 (some .int) 2 50 live Ret q.1 q.2 :=
  am_kc (ak_aload_n dX4_rateOf_0 rfl rfl) <|
  am_kc (ak_iload_n dX4_rateOf_1 rfl rfl) <|
  am_kc (ak_iload_n dX4_rateOf_2 rfl rfl) <|
  am_kc (ak_callV (C := RX4) (F := TX4) (N := 18) metX4_cellOf rfl ⟨rfl, by decide +kernel, by decide +kernel, by decide +kernel⟩ (am_w5 wd_577 wd_579 wd_4 wd_60 wd_580) (by decide) dX4_rateOf_3 rfl) <|
  am_kc (ak_istore_n dX4_rateOf_6 rfl rfl) <|
  am_kc (ak_aload_n dX4_rateOf_7 rfl rfl) <|
  am_kc (ak_getR (C := RX4) (T := TX4) (N := 18) rfl inX4w (by decide) rfl rfl rfl wd_291 dX4_rateOf_8 rfl) <|
  am_kc (ak_getR (C := RX0) (T := TX0) (N := 13) rfl inX0w (by decide) rfl rfl rfl wd_214 dX4_rateOf_11 rfl) <|
  am_kc (ak_aload_n dX4_rateOf_14 rfl rfl) <|
  am_kc (ak_iload_n dX4_rateOf_15 rfl rfl) <|
  am_kc (ak_iload_n dX4_rateOf_16 rfl rfl) <|
  am_kc (ak_callV (C := RX4) (F := TX4) (N := 18) metX4_planIn rfl ⟨rfl, by decide +kernel, by decide +kernel, by decide +kernel⟩ (am_w5 wd_581 wd_583 wd_5 wd_60 wd_584) (by decide) dX4_rateOf_17 rfl) <|
  am_kc (ak_aald (t := 3) (fun _ => rfl) rfl dX4_rateOf_20 rfl) <|
  am_kc (ak_astore dX4_rateOf_21 rfl) <|
  am_kc (ak_aload dX4_rateOf_23 rfl) <|
  am_kc (ak_getI (C := RX5) (T := TX5) (N := 7) rfl inX5w (by decide) rfl rfl rfl wd_176 dX4_rateOf_25 rfl) <|
  am_kc (ak_iconst dX4_rateOf_28 (by decide +kernel) rfl) <|
  am_kc (ak_icmp_eq dX4_rateOf_29 (by decide +kernel) rfl) <|
  am_kc (ak_aload_n dX4_rateOf_32 rfl rfl) <|
  am_kc (ak_getR (C := RX4) (T := TX4) (N := 18) rfl inX4w (by decide) rfl rfl rfl wd_294 dX4_rateOf_33 rfl) <|
  am_kc (ak_iload_n dX4_rateOf_36 rfl rfl) <|
  am_kc (ak_iconst dX4_rateOf_37 (by decide +kernel) rfl) <|
  am_kc (ak_iadd dX4_rateOf_38 rfl) <|
  am_kc (ak_iald (t := 0) (fun _ => rfl) rfl dX4_rateOf_39 rfl) <|
  am_kc (ak_retI dX4_rateOf_40) <|
  am_kc (ak_aload_n dX4_rateOf_41 rfl rfl) <|
  am_kc (ak_getR (C := RX4) (T := TX4) (N := 18) rfl inX4w (by decide) rfl rfl rfl wd_301 dX4_rateOf_42 rfl) <|
  am_kc (ak_aload_n dX4_rateOf_45 rfl rfl) <|
  am_kc (ak_getR (C := RX4) (T := TX4) (N := 18) rfl inX4w (by decide) rfl rfl rfl wd_294 dX4_rateOf_46 rfl) <|
  am_kc (ak_iload_n dX4_rateOf_49 rfl rfl) <|
  am_kc (ak_iconst dX4_rateOf_50 (by decide +kernel) rfl) <|
  am_kc (ak_iadd dX4_rateOf_51 rfl) <|
  am_kc (ak_iald (t := 0) (fun _ => rfl) rfl dX4_rateOf_52 rfl) <|
  am_kc (ak_i2l dX4_rateOf_53 rfl) <|
  am_kc (ak_putJ (C := RX1) (T := TX1) (N := 7) rfl inX1w tyX1_ok nmX1 (by decide) rfl rfl rfl rfl (by decide +kernel) wd_262 dX4_rateOf_54 rfl) <|
  am_kc (ak_aload_n dX4_rateOf_57 rfl rfl) <|
  am_kc (ak_getR (C := RX4) (T := TX4) (N := 18) rfl inX4w (by decide) rfl rfl rfl wd_301 dX4_rateOf_58 rfl) <|
  am_kc (ak_aload_n dX4_rateOf_61 rfl rfl) <|
  am_kc (ak_getR (C := RX4) (T := TX4) (N := 18) rfl inX4w (by decide) rfl rfl rfl wd_291 dX4_rateOf_62 rfl) <|
  am_kc (ak_getR (C := RX0) (T := TX0) (N := 13) rfl inX0w (by decide) rfl rfl rfl wd_201 dX4_rateOf_65 rfl) <|
  am_kc (ak_iload_n dX4_rateOf_68 rfl rfl) <|
  am_kc (ak_iald (t := 0) (fun _ => rfl) rfl dX4_rateOf_69 rfl) <|
  am_kc (ak_i2l dX4_rateOf_70 rfl) <|
  am_kc (ak_putJ (C := RX1) (T := TX1) (N := 7) rfl inX1w tyX1_ok nmX1 (by decide) rfl rfl rfl rfl (by decide +kernel) wd_264 dX4_rateOf_71 rfl) <|
  am_kc (ak_aload_n dX4_rateOf_74 rfl rfl) <|
  am_kc (ak_getR (C := RX4) (T := TX4) (N := 18) rfl inX4w (by decide) rfl rfl rfl wd_301 dX4_rateOf_75 rfl) <|
  am_kc (ak_aload_n dX4_rateOf_78 rfl rfl) <|
  am_kc (ak_getI (C := RX4) (T := TX4) (N := 18) rfl inX4w (by decide) rfl rfl rfl wd_312 dX4_rateOf_79 rfl) <|
  am_kc (ak_i2l dX4_rateOf_82 rfl) <|
  am_kc (ak_putJ (C := RX1) (T := TX1) (N := 7) rfl inX1w tyX1_ok nmX1 (by decide) rfl rfl rfl rfl (by decide +kernel) wd_266 dX4_rateOf_83 rfl) <|
  am_kc (ak_aload_n dX4_rateOf_86 rfl rfl) <|
  am_kc (ak_getR (C := RX4) (T := TX4) (N := 18) rfl inX4w (by decide) rfl rfl rfl wd_301 dX4_rateOf_87 rfl) <|
  am_kc (ak_aload_n dX4_rateOf_90 rfl rfl) <|
  am_kc (ak_getR (C := RX4) (T := TX4) (N := 18) rfl inX4w (by decide) rfl rfl rfl wd_294 dX4_rateOf_91 rfl) <|
  am_kc (ak_iload_n dX4_rateOf_94 rfl rfl) <|
  am_kc (ak_iconst dX4_rateOf_95 (by decide +kernel) rfl) <|
  am_kc (ak_iadd dX4_rateOf_96 rfl) <|
  am_kc (ak_iald (t := 0) (fun _ => rfl) rfl dX4_rateOf_97 rfl) <|
  am_kc (ak_i2l dX4_rateOf_98 rfl) <|
  am_kc (ak_putJ (C := RX1) (T := TX1) (N := 7) rfl inX1w tyX1_ok nmX1 (by decide) rfl rfl rfl rfl (by decide +kernel) wd_268 dX4_rateOf_99 rfl) <|
  am_kc (ak_aload_n dX4_rateOf_102 rfl rfl) <|
  am_kc (ak_getR (C := RX4) (T := TX4) (N := 18) rfl inX4w (by decide) rfl rfl rfl wd_301 dX4_rateOf_103 rfl) <|
  am_kc (ak_iload_n dX4_rateOf_106 rfl rfl) <|
  am_kc (ak_aload_n dX4_rateOf_107 rfl rfl) <|
  am_kc (ak_getR (C := RX4) (T := TX4) (N := 18) rfl inX4w (by decide) rfl rfl rfl wd_291 dX4_rateOf_108 rfl) <|
  am_kc (ak_getR (C := RX0) (T := TX0) (N := 13) rfl inX0w (by decide) rfl rfl rfl wd_206 dX4_rateOf_111 rfl) <|
  am_kc (ak_iload_n dX4_rateOf_114 rfl rfl) <|
  am_kc (ak_iconst dX4_rateOf_115 (by decide +kernel) rfl) <|
  am_kc (ak_callV (C := RX3) (F := TX3) (N := 3) metX3_at rfl ⟨rfl, by decide +kernel, by decide +kernel, by decide +kernel⟩ (am_w5 wd_499 wd_500 wd_501 wd_64 wd_502) (by decide) dX4_rateOf_116 rfl) <|
  am_kc (ak_isub dX4_rateOf_119 rfl) <|
  am_kc (ak_i2l dX4_rateOf_120 rfl) <|
  am_kc (ak_putJ (C := RX1) (T := TX1) (N := 7) rfl inX1w tyX1_ok nmX1 (by decide) rfl rfl rfl rfl (by decide +kernel) wd_270 dX4_rateOf_121 rfl) <|
  am_kc (ak_aload_n dX4_rateOf_124 rfl rfl) <|
  am_kc (ak_getR (C := RX4) (T := TX4) (N := 18) rfl inX4w (by decide) rfl rfl rfl wd_301 dX4_rateOf_125 rfl) <|
  am_kc (ak_aload_n dX4_rateOf_128 rfl rfl) <|
  am_kc (ak_getR (C := RX4) (T := TX4) (N := 18) rfl inX4w (by decide) rfl rfl rfl wd_296 dX4_rateOf_129 rfl) <|
  am_kc (ak_iconst dX4_rateOf_132 (by decide +kernel) rfl) <|
  am_kc (ak_iload_n dX4_rateOf_133 rfl rfl) <|
  am_kc (ak_iadd dX4_rateOf_134 rfl) <|
  am_kc (ak_lald (t := 1) (fun _ => rfl) rfl dX4_rateOf_135 rfl) <|
  am_kc (ak_putJ (C := RX1) (T := TX1) (N := 7) rfl inX1w tyX1_ok nmX1 (by decide) rfl rfl rfl rfl (by decide +kernel) wd_272 dX4_rateOf_136 rfl) <|
  am_kc (ak_aload_n dX4_rateOf_139 rfl rfl) <|
  am_kc (ak_getR (C := RX4) (T := TX4) (N := 18) rfl inX4w (by decide) rfl rfl rfl wd_301 dX4_rateOf_140 rfl) <|
  am_kc (ak_aload_n dX4_rateOf_143 rfl rfl) <|
  am_kc (ak_getI (C := RX4) (T := TX4) (N := 18) rfl inX4w (by decide) rfl rfl rfl wd_313 dX4_rateOf_144 rfl) <|
  am_kc (ak_i2l dX4_rateOf_147 rfl) <|
  am_kc (ak_putJ (C := RX1) (T := TX1) (N := 7) rfl inX1w tyX1_ok nmX1 (by decide) rfl rfl rfl rfl (by decide +kernel) wd_274 dX4_rateOf_148 rfl) <|
  am_kc (ak_aload dX4_rateOf_151 rfl) <|
  am_kc (ak_aload_n dX4_rateOf_153 rfl rfl) <|
  am_kc (ak_getR (C := RX4) (T := TX4) (N := 18) rfl inX4w (by decide) rfl rfl rfl wd_301 dX4_rateOf_154 rfl) <|
  am_kc (ak_aload_n dX4_rateOf_157 rfl rfl) <|
  am_kc (ak_getR (C := RX4) (T := TX4) (N := 18) rfl inX4w (by decide) rfl rfl rfl wd_302 dX4_rateOf_158 rfl) <|
  am_kc (ak_callV (C := RX5) (F := TX5) (N := 7) metX5_worked rfl ⟨rfl, by decide +kernel, by decide +kernel, by decide +kernel⟩ (am_w5 wd_589 wd_590 wd_591 wd_65 wd_592) (by decide) dX4_rateOf_161 rfl) <|
  am_kc (ak_lstore dX4_rateOf_164 rfl) <|
  am_kc (ak_lconst dX4_rateOf_166 (by decide +kernel) rfl) <|
  am_kc (ak_ldc2 wd_603 dX4_rateOf_167 rfl) <|
  am_kc (ak_lload dX4_rateOf_170 rfl) <|
  am_kc (ak_lmin (am_w4 wd_604 wd_605 wd_68 wd_606) (by decide) dX4_rateOf_172 rfl) <|
  am_kc (ak_lmax (am_w4 wd_607 wd_608 wd_68 wd_609) (by decide) dX4_rateOf_175 rfl) <|
  am_kc (ak_l2i dX4_rateOf_178 rfl) <|
  am_kc (ak_retI dX4_rateOf_179) <| am_kn
def TX4_rateOf : am_T := fun live as M R => match as with
  | [.ref n, .int l, .int y] => am_mn live ∧ n = 4 ∧ am_in l 30 ∧ am_in y 40 ∧ g_rI M ∧ ∀ v M', g_sc M M' → g_rI M' → R (some (.int v)) M'
  | _ => False
set_option maxRecDepth 100000 in
set_option maxHeartbeats 4000000 in
theorem metX4_rateOf : am_Met yX4_rateOf cX4_rateOf 7 (some .int) (2) (50) TX4_rateOf := by
  refine am_met (own := RX4) (by decide +kernel) rfl kX4_rateOf koX4_rateOf 150 (fun _ _ _ _ _ => none) (fun live as M Ret h => ?_) (fun _ _ _ _ _ _ _ _ hI => by cases hI)
  unfold TX4_rateOf at h
  split at h
  · next n l y =>
    refine ⟨Nat.le_of_ble_eq_true rfl, ?_⟩
    change am_wp _ _ _ _ [(0, Value.ref n), (1, Value.int l), (2, Value.int y)] _ _
    obtain ⟨hmn, rfl, hl, hy, hr, h⟩ := h
    have hp := hr.pln hl hy
    obtain ⟨t, s, c, h2, k1, k2, k3, h1, ht, -, -, -, k4⟩ := g_txt hmn hp
    have hmn2 := hmn
    obtain ⟨i1, i2, rfl⟩ := hmn2
    have e0 := am_celly hy hp (k := 0) ⟨by decide, by decide⟩
    have e2 := am_celly hy hp (k := 2) ⟨by decide, by decide⟩
    have f0 := g_ix hl 0 0 rfl (by decide)
    have l5 : am_len 5 = 1200 := rfl
    have l6 : am_len 6 = 180 := rfl
    have l30 : am_len 30 = 40 := rfl
    have l38 : am_len 38 = 5 := rfl
    have k0 : Int32.toInt 0 = 0 := rfl
    have k22 : Int32.toInt 2 = 2 := rfl
    have hy1 := hy.1
    have hy2 := hy.2
    have hp1 := hp.1
    have hp2 := hp.2
    repeat' (first | exact rfl | (with_reducible exact hmn) | (with_reducible exact hl) | (with_reducible exact hy) | (with_reducible exact h1) | (with_reducible exact h2) | (refine Exists.intro _ (And.intro h2 ?_)) | apply And.intro | intro hx | (refine Exists.intro _ (And.intro rfl ?_)) | (refine am_tP_in k1 k2 k3 ?_) | ((with_reducible change _ = true); simp only [h1, h2, Bool.true_and]; rfl))
    all_goals try first | (with_reducible change am_tI _ _) | (change Ret _ _) | (change Ret _ _ _) | (change Exists _)
    all_goals try dsimp only at *
    all_goals try exact absurd ‹(1000 : Int64) = 0› (by decide)
    all_goals first
      | omega
      | (rw [l5]; omega)
      | (rw [l38]; omega)
      | (rw [l30]; omega)
      | exact f0.1
      | (rw [l6]; exact f0.2.1)
      | exact k4 _ hr.t
      | exact h _ _ g_sc.rf hr
      | skip
    exact h _ _ ((((((((g_sc.rf.wJ rfl).wJ rfl).wJ rfl).wJ rfl).wJ rfl).wJ rfl).wJ rfl).st (by with_reducible assumption)) (g_rI.st (((((((hr.wJ).wJ).wJ).wJ).wJ).wJ).wJ) (by with_reducible assumption))
  · exact h.elim
theorem dX4_lineUp_0 : decode cX4_lineUp 0 = .ok (.iconst 0, 1) := by decide +kernel
theorem dX4_lineUp_1 : decode cX4_lineUp 1 = .ok (.istore_n 2, 1) := by decide +kernel
theorem dX4_lineUp_2 : decode cX4_lineUp 2 = .ok (.iconst 0, 1) := by decide +kernel
theorem dX4_lineUp_3 : decode cX4_lineUp 3 = .ok (.istore_n 3, 1) := by decide +kernel
theorem dX4_lineUp_4 : decode cX4_lineUp 4 = .ok (.iload_n 3, 1) := by decide +kernel
theorem dX4_lineUp_5 : decode cX4_lineUp 5 = .ok (.getstatic 229, 3) := by decide +kernel
theorem dX4_lineUp_8 : decode cX4_lineUp 8 = .ok (.iconst 4, 1) := by decide +kernel
theorem dX4_lineUp_9 : decode cX4_lineUp 9 = .ok (.iaload, 1) := by decide +kernel
theorem dX4_lineUp_10 : decode cX4_lineUp 10 = .ok (.if_icmp .gt 72, 3) := by decide +kernel
theorem dX4_lineUp_13 : decode cX4_lineUp 13 = .ok (.iconst 0, 1) := by decide +kernel
theorem dX4_lineUp_14 : decode cX4_lineUp 14 = .ok (.istore 4, 2) := by decide +kernel
theorem dX4_lineUp_16 : decode cX4_lineUp 16 = .ok (.iload 4, 2) := by decide +kernel
theorem dX4_lineUp_18 : decode cX4_lineUp 18 = .ok (.aload_n 0, 1) := by decide +kernel
theorem dX4_lineUp_19 : decode cX4_lineUp 19 = .ok (.getfield 56, 3) := by decide +kernel
theorem dX4_lineUp_22 : decode cX4_lineUp 22 = .ok (.if_icmp .ge 54, 3) := by decide +kernel
theorem dX4_lineUp_25 : decode cX4_lineUp 25 = .ok (.iload_n 2, 1) := by decide +kernel
theorem dX4_lineUp_26 : decode cX4_lineUp 26 = .ok (.bipush 30, 2) := by decide +kernel
theorem dX4_lineUp_28 : decode cX4_lineUp 28 = .ok (.if_icmp .ge 48, 3) := by decide +kernel
theorem dX4_lineUp_31 : decode cX4_lineUp 31 = .ok (.aload_n 0, 1) := by decide +kernel
theorem dX4_lineUp_32 : decode cX4_lineUp 32 = .ok (.getfield 18, 3) := by decide +kernel
theorem dX4_lineUp_35 : decode cX4_lineUp 35 = .ok (.aload_n 0, 1) := by decide +kernel
theorem dX4_lineUp_36 : decode cX4_lineUp 36 = .ok (.aload_n 0, 1) := by decide +kernel
theorem dX4_lineUp_37 : decode cX4_lineUp 37 = .ok (.getfield 26, 3) := by decide +kernel
theorem dX4_lineUp_40 : decode cX4_lineUp 40 = .ok (.iload 4, 2) := by decide +kernel
theorem dX4_lineUp_42 : decode cX4_lineUp 42 = .ok (.iaload, 1) := by decide +kernel
theorem dX4_lineUp_43 : decode cX4_lineUp 43 = .ok (.iload_n 1, 1) := by decide +kernel
theorem dX4_lineUp_44 : decode cX4_lineUp 44 = .ok (.invokevirtual 167, 3) := by decide +kernel
theorem dX4_lineUp_47 : decode cX4_lineUp 47 = .ok (.iconst 4, 1) := by decide +kernel
theorem dX4_lineUp_48 : decode cX4_lineUp 48 = .ok (.iadd, 1) := by decide +kernel
theorem dX4_lineUp_49 : decode cX4_lineUp 49 = .ok (.iaload, 1) := by decide +kernel
theorem dX4_lineUp_50 : decode cX4_lineUp 50 = .ok (.iload_n 3, 1) := by decide +kernel
theorem dX4_lineUp_51 : decode cX4_lineUp 51 = .ok (.if_icmp .ne 19, 3) := by decide +kernel
theorem dX4_lineUp_54 : decode cX4_lineUp 54 = .ok (.aload_n 0, 1) := by decide +kernel
theorem dX4_lineUp_55 : decode cX4_lineUp 55 = .ok (.getfield 29, 3) := by decide +kernel
theorem dX4_lineUp_58 : decode cX4_lineUp 58 = .ok (.iload_n 2, 1) := by decide +kernel
theorem dX4_lineUp_59 : decode cX4_lineUp 59 = .ok (.aload_n 0, 1) := by decide +kernel
theorem dX4_lineUp_60 : decode cX4_lineUp 60 = .ok (.getfield 26, 3) := by decide +kernel
theorem dX4_lineUp_63 : decode cX4_lineUp 63 = .ok (.iload 4, 2) := by decide +kernel
theorem dX4_lineUp_65 : decode cX4_lineUp 65 = .ok (.iaload, 1) := by decide +kernel
theorem dX4_lineUp_66 : decode cX4_lineUp 66 = .ok (.iastore, 1) := by decide +kernel
theorem dX4_lineUp_67 : decode cX4_lineUp 67 = .ok (.iinc 2 1, 3) := by decide +kernel
theorem dX4_lineUp_70 : decode cX4_lineUp 70 = .ok (.iinc 4 1, 3) := by decide +kernel
theorem dX4_lineUp_73 : decode cX4_lineUp 73 = .ok (.goto (-57), 3) := by decide +kernel
theorem dX4_lineUp_76 : decode cX4_lineUp 76 = .ok (.iinc 3 1, 3) := by decide +kernel
theorem dX4_lineUp_79 : decode cX4_lineUp 79 = .ok (.goto (-75), 3) := by decide +kernel
theorem dX4_lineUp_82 : decode cX4_lineUp 82 = .ok (.return_, 1) := by decide +kernel
def kX4_lineUp (live : am_E) (Ret : am_R) : am_code := [(0, am_const (.int 0) 1), (1, am_istore 2 5 2), (2, am_const (.int 0) 3), (3, am_istore 3 5 4), (4, am_iload 3 5), (5, am_const (.ref 1002) 8), (8, am_const (.int 4) 9), (9, am_sld 2 10), (10, am_if2 (fun x y => y < x) 82 13), (13, am_const (.int 0) 14), (14, am_istore 4 5 16), (16, am_iload 4 18), (18, am_aload 0 19), (19, am_getI live 4 7 22), (22, am_if2 (fun x y => y ≤ x) 76 25), (25, am_iload 2 26), (26, am_const (.int 30) 28), (28, am_if2 (fun x y => y ≤ x) 76 31), (31, am_aload 0 32), (32, am_getR live 4 1 35), (35, am_aload 0 36), (36, am_aload 0 37), (37, am_getR live 4 3 40), (40, am_iload 4 42), (42, am_ald live 0 43), (43, am_iload 1 44), (44, am_callV live 4 2 TX4_cellOf 47), (47, am_const (.int 4) 48), (48, am_i2 (fun x y => x + y) 49), (49, am_ald live 0 50), (50, am_iload 3 51), (51, am_if2 (fun x y => x = y) 54 70), (54, am_aload 0 55), (55, am_getR live 4 4 58), (58, am_iload 2 59), (59, am_aload 0 60), (60, am_getR live 4 3 63), (63, am_iload 4 65), (65, am_ald live 0 66), (66, am_ast live 0 67), (67, am_iinc 2 5 1 70), (70, am_iinc 4 5 1 73), (73, am_goto 16), (76, am_iinc 3 5 1 79), (79, am_goto 4), (82, am_retV Ret)]
theorem koX4_lineUp (live : am_E) (Ret : am_R) : ∀ q ∈ kX4_lineUp live Ret, am_ok RX4 cX4_lineUp 5 none 2 44 live Ret q.1 q.2 :=
  am_kc (ak_iconst dX4_lineUp_0 (by decide +kernel) rfl) <|
  am_kc (ak_istore_n dX4_lineUp_1 rfl rfl) <|
  am_kc (ak_iconst dX4_lineUp_2 (by decide +kernel) rfl) <|
  am_kc (ak_istore_n dX4_lineUp_3 rfl rfl) <|
  am_kc (ak_iload_n dX4_lineUp_4 rfl rfl) <|
  am_kc (ak_getsN (k := 2) (C := "LearnLoans") (n := "MOST") (d := "[I") (host := "LearnLoans") (by decide) rfl (by decide +kernel) dX4_lineUp_5 rfl) <|
  am_kc (ak_iconst dX4_lineUp_8 (by decide +kernel) rfl) <|
  am_kc (ak_sld (by decide) dX4_lineUp_9 rfl) <|
  am_kc (ak_icmp_gt dX4_lineUp_10 (by decide +kernel) rfl) <|
  am_kc (ak_iconst dX4_lineUp_13 (by decide +kernel) rfl) <|
  am_kc (ak_istore dX4_lineUp_14 rfl) <|
  am_kc (ak_iload dX4_lineUp_16 rfl) <|
  am_kc (ak_aload_n dX4_lineUp_18 rfl rfl) <|
  am_kc (ak_getI (C := RX4) (T := TX4) (N := 18) rfl inX4w (by decide) rfl rfl rfl wd_303 dX4_lineUp_19 rfl) <|
  am_kc (ak_icmp_ge dX4_lineUp_22 (by decide +kernel) rfl) <|
  am_kc (ak_iload_n dX4_lineUp_25 rfl rfl) <|
  am_kc (ak_bipush dX4_lineUp_26 (by decide +kernel) rfl) <|
  am_kc (ak_icmp_ge dX4_lineUp_28 (by decide +kernel) rfl) <|
  am_kc (ak_aload_n dX4_lineUp_31 rfl rfl) <|
  am_kc (ak_getR (C := RX4) (T := TX4) (N := 18) rfl inX4w (by decide) rfl rfl rfl wd_294 dX4_lineUp_32 rfl) <|
  am_kc (ak_aload_n dX4_lineUp_35 rfl rfl) <|
  am_kc (ak_aload_n dX4_lineUp_36 rfl rfl) <|
  am_kc (ak_getR (C := RX4) (T := TX4) (N := 18) rfl inX4w (by decide) rfl rfl rfl wd_299 dX4_lineUp_37 rfl) <|
  am_kc (ak_iload dX4_lineUp_40 rfl) <|
  am_kc (ak_iald (t := 0) (fun _ => rfl) rfl dX4_lineUp_42 rfl) <|
  am_kc (ak_iload_n dX4_lineUp_43 rfl rfl) <|
  am_kc (ak_callV (C := RX4) (F := TX4) (N := 18) metX4_cellOf rfl ⟨rfl, by decide +kernel, by decide +kernel, by decide +kernel⟩ (am_w5 wd_577 wd_579 wd_4 wd_60 wd_580) (by decide) dX4_lineUp_44 rfl) <|
  am_kc (ak_iconst dX4_lineUp_47 (by decide +kernel) rfl) <|
  am_kc (ak_iadd dX4_lineUp_48 rfl) <|
  am_kc (ak_iald (t := 0) (fun _ => rfl) rfl dX4_lineUp_49 rfl) <|
  am_kc (ak_iload_n dX4_lineUp_50 rfl rfl) <|
  am_kc (ak_icmp_ne dX4_lineUp_51 (by decide +kernel) rfl) <|
  am_kc (ak_aload_n dX4_lineUp_54 rfl rfl) <|
  am_kc (ak_getR (C := RX4) (T := TX4) (N := 18) rfl inX4w (by decide) rfl rfl rfl wd_300 dX4_lineUp_55 rfl) <|
  am_kc (ak_iload_n dX4_lineUp_58 rfl rfl) <|
  am_kc (ak_aload_n dX4_lineUp_59 rfl rfl) <|
  am_kc (ak_getR (C := RX4) (T := TX4) (N := 18) rfl inX4w (by decide) rfl rfl rfl wd_299 dX4_lineUp_60 rfl) <|
  am_kc (ak_iload dX4_lineUp_63 rfl) <|
  am_kc (ak_iald (t := 0) (fun _ => rfl) rfl dX4_lineUp_65 rfl) <|
  am_kc (ak_iast (t := 0) (fun _ => rfl) rfl dX4_lineUp_66 rfl) <|
  am_kc (ak_iinc dX4_lineUp_67 (by decide +kernel) rfl) <|
  am_kc (ak_iinc dX4_lineUp_70 (by decide +kernel) rfl) <|
  am_kc (ak_goto dX4_lineUp_73 (by decide +kernel)) <|
  am_kc (ak_iinc dX4_lineUp_76 (by decide +kernel) rfl) <|
  am_kc (ak_goto dX4_lineUp_79 (by decide +kernel)) <|
  am_kc (ak_retV dX4_lineUp_82) <| am_kn
def TX4_lineUp : am_T := fun live as M R => match as with
  | [.ref n, .int y] => am_mn live ∧ n = 4 ∧ am_in y 40 ∧ g_rI M ∧ ∀ M', g_sc M M' → g_rI M' → R none M'
  | _ => False
def JX4_lineUp : am_E → List Value → am_M → am_R → am_inv := fun live as M0 _ pc => match as with
  | [.ref n, .int y] => (match pc with
    | 4 => some ([0, 1, 2, 3], fun k L st M => ∃ d o : Int32, L = [(0, .ref 4), (1, .int y), (2, .int d), (3, .int o)] ∧ st = [] ∧ k = ((11 - o.toInt).toNat, 31) ∧ 0 ≤ o.toInt ∧ (0 ≤ d.toInt ∧ d.toInt ≤ 30) ∧ g_sc M0 M ∧ g_rI M)
    | 16 => some ([0, 1, 2, 3, 4], fun k L st M => ∃ d o i : Int32, L = [(0, .ref 4), (1, .int y), (2, .int d), (3, .int o), (4, .int i)] ∧ st = [] ∧ k = ((11 - o.toInt).toNat, (30 - i.toInt).toNat) ∧ (0 ≤ o.toInt ∧ o.toInt ≤ 9) ∧ (0 ≤ d.toInt ∧ d.toInt ≤ 30) ∧ 0 ≤ i.toInt ∧ g_sc M0 M ∧ g_rI M)
    | _ => none)
  | _ => none
set_option maxRecDepth 100000 in
set_option maxHeartbeats 4000000 in
theorem metX4_lineUp : am_Met yX4_lineUp cX4_lineUp 5 none (2) (44) TX4_lineUp := by
  refine am_met (own := RX4) (by decide +kernel) rfl kX4_lineUp koX4_lineUp 100 JX4_lineUp ?_ ?_
  · intro live as M Ret h
    unfold TX4_lineUp at h
    split at h
    · next n y =>
      refine ⟨Nat.le_of_ble_eq_true rfl, ?_⟩
      change am_wp _ _ _ _ [(0, Value.ref n), (1, Value.int y)] _ _
      obtain ⟨hmn, rfl, hy, hr, h⟩ := h
      repeat' (first | exact rfl | apply And.intro | intro hx | (refine Exists.intro _ (And.intro rfl ?_)))
      all_goals try first | (with_reducible change am_tI _ _) | (change Ret _ _) | (change Ret _ _ _) | (change Exists _)
      all_goals try dsimp only at *
      all_goals try exact absurd ‹(1000 : Int64) = 0› (by decide)
      exact ⟨_, _, _, rfl, rfl, rfl, by decide, ⟨by decide, by decide⟩, g_sc.rf, hr⟩
    · exact h.elim
  · intro live as M0 Ret h k pc I hI L st M hi
    unfold TX4_lineUp at h
    split at h
    · next n y =>
      obtain ⟨hmn, rfl, hy, hr, h⟩ := h
      have hmn2 := hmn
      obtain ⟨i1, i2, rfl⟩ := hmn2
      change (match pc with | 4 => _ | 16 => _ | _ => none) = _ at hI
      split at hI
      · cases hI
        obtain ⟨d, o, rfl, rfl, rfl, e0, e1, e2, e3⟩ := hi
        have s24 : am_sf 2 (4 : Int32).toNatClampNeg = 9 := rfl
        by_cases hz : am_sf 2 (4 : Int32).toNatClampNeg < o
        · skip
          repeat' (first | exact rfl | apply And.intro | (intro hx; with_reducible exact absurd hz hx) | (intro hx; exact absurd hx (by decide)) | (intro hx; exact absurd (by decide) hx) | decide | intro hx | (refine Exists.intro _ (And.intro rfl ?_)))
          all_goals try first | (with_reducible change am_tI _ _) | (change Ret _ _) | (change Ret _ _ _) | (change Exists _)
          all_goals try dsimp only at *
          all_goals try exact absurd ‹(1000 : Int64) = 0› (by decide)
          all_goals exact h _ e2 e3
        · have hz2 := hz
          rw [s24] at hz2
          simp only [i_lt, Int32.reduceToInt] at hz2
          repeat' (first | exact rfl | apply And.intro | (intro hx; with_reducible exact absurd hx hz) | (intro hx; exact absurd hx (by decide)) | (intro hx; exact absurd (by decide) hx) | decide | intro hx | (refine Exists.intro _ (And.intro rfl ?_)))
          all_goals try first | (with_reducible change am_tI _ _) | (change Ret _ _) | (change Ret _ _ _) | (change Exists _)
          all_goals try dsimp only at *
          all_goals try exact absurd ‹(1000 : Int64) = 0› (by decide)
          all_goals exact ⟨_, am_lt_r (by simp only [Int32.reduceToInt]; omega), _, _, _, rfl, rfl, rfl, ⟨e0, by omega⟩, e1, by decide, e2, e3⟩
      · cases hI
        obtain ⟨d, o, i, rfl, rfl, rfl, ⟨e0, e4⟩, ⟨e5, e6⟩, e1, e2, e3⟩ := hi
        have ho := i_inc (x := o) (by omega) (by omega)
        by_cases hz : M.1 4 7 ≤ i
        · skip
          repeat' (first | exact rfl | apply And.intro | (intro hx; with_reducible exact absurd hz hx) | intro hx | (refine Exists.intro _ (And.intro rfl ?_)))
          all_goals try first | (with_reducible change am_tI _ _) | (change Ret _ _) | (change Ret _ _ _) | (change Exists _)
          all_goals try dsimp only at *
          all_goals try exact absurd ‹(1000 : Int64) = 0› (by decide)
          exact ⟨_, am_lt_l (by omega), _, _, rfl, rfl, rfl, by omega, ⟨e5, e6⟩, e2, e3⟩
        · have q := e3.s.sz
          have hz2 := hz
          simp only [i_le] at hz2
          have ha : am_in i 30 := ⟨e1, by omega⟩
          have hb := e3.s.mi (g_cl ha)
          have hp := e3.pln hb hy
          have c4 := am_celly hy hp (k := 4) ⟨by decide, by decide⟩
          have hi := i_inc (x := i) (by omega) (by omega)
          have l5 : am_len 5 = 1200 := rfl
          have l7 : am_len 7 = 30 := rfl
          have l8 : am_len 8 = 30 := rfl
          have k4 : Int32.toInt 4 = 4 := rfl
          have hy1 := hy.1
          have hy2 := hy.2
          have hp1 := hp.1
          have hp2 := hp.2
          by_cases hd : (30 : Int32) ≤ d
          · skip
            repeat' (first | exact rfl | apply And.intro | (intro hx; with_reducible exact absurd hx hz) | (intro hx; with_reducible exact absurd hd hx) | intro hx | (refine Exists.intro _ (And.intro rfl ?_)))
            all_goals try first | (with_reducible change am_tI _ _) | (change Ret _ _) | (change Ret _ _ _) | (change Exists _)
            all_goals try dsimp only at *
            all_goals try exact absurd ‹(1000 : Int64) = 0› (by decide)
            exact ⟨_, am_lt_l (by omega), _, _, rfl, rfl, rfl, by omega, ⟨e5, e6⟩, e2, e3⟩
          · have hd2 := hd
            simp only [i_le, Int32.reduceToInt] at hd2
            have hdi := i_inc (x := d) (by omega) (by omega)
            repeat' (first | exact rfl | (with_reducible exact hmn) | (with_reducible exact hb) | (with_reducible exact hy) | apply And.intro | (intro hx; with_reducible exact absurd hx hz) | (intro hx; with_reducible exact absurd hx hd) | intro hx | (refine Exists.intro _ (And.intro rfl ?_)))
            all_goals try first | (with_reducible change am_tI _ _) | (change Ret _ _) | (change Ret _ _ _) | (change Exists _)
            all_goals try dsimp only at *
            all_goals try exact absurd ‹(1000 : Int64) = 0› (by decide)
            all_goals first
              | omega
              | (rw [l7]; exact ha.2)
              | (rw [l5]; omega)
              | (rw [l8]; omega)
              | exact ⟨_, am_lt_r (by omega), _, _, _, rfl, rfl, rfl, ⟨e0, e4⟩, ⟨by omega, by omega⟩, by omega, e2.wI rfl, e3.w8 hb⟩
              | exact ⟨_, am_lt_r (by omega), _, _, _, rfl, rfl, rfl, ⟨e0, e4⟩, ⟨e5, e6⟩, by omega, e2, e3⟩
              | skip
      · cases hI
    · exact h.elim
theorem wd_634 : Cond.methodLink "LearnLoans$Run" 232 yX4_asked ∈ am_ws := am_wsi (List.mem_of_getElem? (i := 634) (by decide +kernel)) (by decide +kernel)
theorem wd_636 : Cond.instanceMethod yX4_asked ∈ am_ws := am_wsi (List.mem_of_getElem? (i := 636) (by decide +kernel)) (by decide +kernel)
theorem wd_11 : Cond.selects "LearnLoans$Run" yX4_asked yX4_asked ∈ am_ws := am_wsi (List.mem_of_getElem? (i := 11) (by decide +kernel)) (by decide +kernel)
theorem wd_637 : Cond.code yX4_asked cX4_asked 4 (some .long) ∈ am_ws := am_wsi (List.mem_of_getElem? (i := 637) (by decide +kernel)) (by decide +kernel)
theorem dX4_takeAll_0 : decode cX4_takeAll 0 = .ok (.lconst 0, 1) := by decide +kernel
theorem dX4_takeAll_1 : decode cX4_takeAll 1 = .ok (.lstore_n 2, 1) := by decide +kernel
theorem dX4_takeAll_2 : decode cX4_takeAll 2 = .ok (.iconst 0, 1) := by decide +kernel
theorem dX4_takeAll_3 : decode cX4_takeAll 3 = .ok (.istore 4, 2) := by decide +kernel
theorem dX4_takeAll_5 : decode cX4_takeAll 5 = .ok (.iload 4, 2) := by decide +kernel
theorem dX4_takeAll_7 : decode cX4_takeAll 7 = .ok (.aload_n 0, 1) := by decide +kernel
theorem dX4_takeAll_8 : decode cX4_takeAll 8 = .ok (.getfield 56, 3) := by decide +kernel
theorem dX4_takeAll_11 : decode cX4_takeAll 11 = .ok (.if_icmp .ge 143, 3) := by decide +kernel
theorem dX4_takeAll_14 : decode cX4_takeAll 14 = .ok (.aload_n 0, 1) := by decide +kernel
theorem dX4_takeAll_15 : decode cX4_takeAll 15 = .ok (.getfield 29, 3) := by decide +kernel
theorem dX4_takeAll_18 : decode cX4_takeAll 18 = .ok (.iload 4, 2) := by decide +kernel
theorem dX4_takeAll_20 : decode cX4_takeAll 20 = .ok (.iaload, 1) := by decide +kernel
theorem dX4_takeAll_21 : decode cX4_takeAll 21 = .ok (.istore 5, 2) := by decide +kernel
theorem dX4_takeAll_23 : decode cX4_takeAll 23 = .ok (.lconst 0, 1) := by decide +kernel
theorem dX4_takeAll_24 : decode cX4_takeAll 24 = .ok (.aload_n 0, 1) := by decide +kernel
theorem dX4_takeAll_25 : decode cX4_takeAll 25 = .ok (.aload_n 0, 1) := by decide +kernel
theorem dX4_takeAll_26 : decode cX4_takeAll 26 = .ok (.iload 5, 2) := by decide +kernel
theorem dX4_takeAll_28 : decode cX4_takeAll 28 = .ok (.iload_n 1, 1) := by decide +kernel
theorem dX4_takeAll_29 : decode cX4_takeAll 29 = .ok (.invokevirtual 167, 3) := by decide +kernel
theorem dX4_takeAll_32 : decode cX4_takeAll 32 = .ok (.invokevirtual 232, 3) := by decide +kernel
theorem dX4_takeAll_35 : decode cX4_takeAll 35 = .ok (.lload_n 2, 1) := by decide +kernel
theorem dX4_takeAll_36 : decode cX4_takeAll 36 = .ok (.lsub, 1) := by decide +kernel
theorem dX4_takeAll_37 : decode cX4_takeAll 37 = .ok (.invokestatic 226, 3) := by decide +kernel
theorem dX4_takeAll_40 : decode cX4_takeAll 40 = .ok (.lstore 6, 2) := by decide +kernel
theorem dX4_takeAll_42 : decode cX4_takeAll 42 = .ok (.lload 6, 2) := by decide +kernel
theorem dX4_takeAll_44 : decode cX4_takeAll 44 = .ok (.aload_n 0, 1) := by decide +kernel
theorem dX4_takeAll_45 : decode cX4_takeAll 45 = .ok (.getfield 22, 3) := by decide +kernel
theorem dX4_takeAll_48 : decode cX4_takeAll 48 = .ok (.iconst 0, 1) := by decide +kernel
theorem dX4_takeAll_49 : decode cX4_takeAll 49 = .ok (.iload 5, 2) := by decide +kernel
theorem dX4_takeAll_51 : decode cX4_takeAll 51 = .ok (.iadd, 1) := by decide +kernel
theorem dX4_takeAll_52 : decode cX4_takeAll 52 = .ok (.laload, 1) := by decide +kernel
theorem dX4_takeAll_53 : decode cX4_takeAll 53 = .ok (.invokestatic 174, 3) := by decide +kernel
theorem dX4_takeAll_56 : decode cX4_takeAll 56 = .ok (.lstore 8, 2) := by decide +kernel
theorem dX4_takeAll_58 : decode cX4_takeAll 58 = .ok (.lload_n 2, 1) := by decide +kernel
theorem dX4_takeAll_59 : decode cX4_takeAll 59 = .ok (.lload 8, 2) := by decide +kernel
theorem dX4_takeAll_61 : decode cX4_takeAll 61 = .ok (.ladd, 1) := by decide +kernel
theorem dX4_takeAll_62 : decode cX4_takeAll 62 = .ok (.lstore_n 2, 1) := by decide +kernel
theorem dX4_takeAll_63 : decode cX4_takeAll 63 = .ok (.aload_n 0, 1) := by decide +kernel
theorem dX4_takeAll_64 : decode cX4_takeAll 64 = .ok (.getfield 22, 3) := by decide +kernel
theorem dX4_takeAll_67 : decode cX4_takeAll 67 = .ok (.iconst 0, 1) := by decide +kernel
theorem dX4_takeAll_68 : decode cX4_takeAll 68 = .ok (.iload 5, 2) := by decide +kernel
theorem dX4_takeAll_70 : decode cX4_takeAll 70 = .ok (.iadd, 1) := by decide +kernel
theorem dX4_takeAll_71 : decode cX4_takeAll 71 = .ok (.dup2, 1) := by decide +kernel
theorem dX4_takeAll_72 : decode cX4_takeAll 72 = .ok (.laload, 1) := by decide +kernel
theorem dX4_takeAll_73 : decode cX4_takeAll 73 = .ok (.lload 8, 2) := by decide +kernel
theorem dX4_takeAll_75 : decode cX4_takeAll 75 = .ok (.lsub, 1) := by decide +kernel
theorem dX4_takeAll_76 : decode cX4_takeAll 76 = .ok (.lastore, 1) := by decide +kernel
theorem dX4_takeAll_77 : decode cX4_takeAll 77 = .ok (.aload_n 0, 1) := by decide +kernel
theorem dX4_takeAll_78 : decode cX4_takeAll 78 = .ok (.getfield 22, 3) := by decide +kernel
theorem dX4_takeAll_81 : decode cX4_takeAll 81 = .ok (.bipush 30, 2) := by decide +kernel
theorem dX4_takeAll_83 : decode cX4_takeAll 83 = .ok (.iload 5, 2) := by decide +kernel
theorem dX4_takeAll_85 : decode cX4_takeAll 85 = .ok (.iadd, 1) := by decide +kernel
theorem dX4_takeAll_86 : decode cX4_takeAll 86 = .ok (.lload 8, 2) := by decide +kernel
theorem dX4_takeAll_88 : decode cX4_takeAll 88 = .ok (.lastore, 1) := by decide +kernel
theorem dX4_takeAll_89 : decode cX4_takeAll 89 = .ok (.aload_n 0, 1) := by decide +kernel
theorem dX4_takeAll_90 : decode cX4_takeAll 90 = .ok (.getfield 22, 3) := by decide +kernel
theorem dX4_takeAll_93 : decode cX4_takeAll 93 = .ok (.bipush 90, 2) := by decide +kernel
theorem dX4_takeAll_95 : decode cX4_takeAll 95 = .ok (.iload 5, 2) := by decide +kernel
theorem dX4_takeAll_97 : decode cX4_takeAll 97 = .ok (.iadd, 1) := by decide +kernel
theorem dX4_takeAll_98 : decode cX4_takeAll 98 = .ok (.dup2, 1) := by decide +kernel
theorem dX4_takeAll_99 : decode cX4_takeAll 99 = .ok (.laload, 1) := by decide +kernel
theorem dX4_takeAll_100 : decode cX4_takeAll 100 = .ok (.lload 8, 2) := by decide +kernel
theorem dX4_takeAll_102 : decode cX4_takeAll 102 = .ok (.ladd, 1) := by decide +kernel
theorem dX4_takeAll_103 : decode cX4_takeAll 103 = .ok (.lastore, 1) := by decide +kernel
theorem dX4_takeAll_104 : decode cX4_takeAll 104 = .ok (.aload_n 0, 1) := by decide +kernel
theorem dX4_takeAll_105 : decode cX4_takeAll 105 = .ok (.getfield 12, 3) := by decide +kernel
theorem dX4_takeAll_108 : decode cX4_takeAll 108 = .ok (.getfield 59, 3) := by decide +kernel
theorem dX4_takeAll_111 : decode cX4_takeAll 111 = .ok (.iload 5, 2) := by decide +kernel
theorem dX4_takeAll_113 : decode cX4_takeAll 113 = .ok (.bipush 7, 2) := by decide +kernel
theorem dX4_takeAll_115 : decode cX4_takeAll 115 = .ok (.invokevirtual 66, 3) := by decide +kernel
theorem dX4_takeAll_118 : decode cX4_takeAll 118 = .ok (.istore 10, 2) := by decide +kernel
theorem dX4_takeAll_120 : decode cX4_takeAll 120 = .ok (.iload 10, 2) := by decide +kernel
theorem dX4_takeAll_122 : decode cX4_takeAll 122 = .ok (.iconst (-1), 1) := by decide +kernel
theorem dX4_takeAll_123 : decode cX4_takeAll 123 = .ok (.if_icmp .eq 25, 3) := by decide +kernel
theorem dX4_takeAll_126 : decode cX4_takeAll 126 = .ok (.iload_n 1, 1) := by decide +kernel
theorem dX4_takeAll_127 : decode cX4_takeAll 127 = .ok (.iload 10, 2) := by decide +kernel
theorem dX4_takeAll_129 : decode cX4_takeAll 129 = .ok (.if_icmp .lt 19, 3) := by decide +kernel
theorem dX4_takeAll_132 : decode cX4_takeAll 132 = .ok (.aload_n 0, 1) := by decide +kernel
theorem dX4_takeAll_133 : decode cX4_takeAll 133 = .ok (.getfield 22, 3) := by decide +kernel
theorem dX4_takeAll_136 : decode cX4_takeAll 136 = .ok (.sipush 150, 3) := by decide +kernel
theorem dX4_takeAll_139 : decode cX4_takeAll 139 = .ok (.iload 5, 2) := by decide +kernel
theorem dX4_takeAll_141 : decode cX4_takeAll 141 = .ok (.iadd, 1) := by decide +kernel
theorem dX4_takeAll_142 : decode cX4_takeAll 142 = .ok (.dup2, 1) := by decide +kernel
theorem dX4_takeAll_143 : decode cX4_takeAll 143 = .ok (.laload, 1) := by decide +kernel
theorem dX4_takeAll_144 : decode cX4_takeAll 144 = .ok (.lload 8, 2) := by decide +kernel
theorem dX4_takeAll_146 : decode cX4_takeAll 146 = .ok (.ladd, 1) := by decide +kernel
theorem dX4_takeAll_147 : decode cX4_takeAll 147 = .ok (.lastore, 1) := by decide +kernel
theorem dX4_takeAll_148 : decode cX4_takeAll 148 = .ok (.iinc 4 1, 3) := by decide +kernel
theorem dX4_takeAll_151 : decode cX4_takeAll 151 = .ok (.goto (-146), 3) := by decide +kernel
theorem dX4_takeAll_154 : decode cX4_takeAll 154 = .ok (.return_, 1) := by decide +kernel
def kX4_takeAll (live : am_E) (Ret : am_R) : am_code := [(0, am_const (.long 0) 1), (1, am_lstore 2 11 2), (2, am_const (.int 0) 3), (3, am_istore 4 11 5), (5, am_iload 4 7), (7, am_aload 0 8), (8, am_getI live 4 7 11), (11, am_if2 (fun x y => y ≤ x) 154 14), (14, am_aload 0 15), (15, am_getR live 4 4 18), (18, am_iload 4 20), (20, am_ald live 0 21), (21, am_istore 5 11 23), (23, am_const (.long 0) 24), (24, am_aload 0 25), (25, am_aload 0 26), (26, am_iload 5 28), (28, am_iload 1 29), (29, am_callV live 4 2 TX4_cellOf 32), (32, am_callV live 4 1 TX4_asked 35), (35, am_lload 2 36), (36, am_l2 (fun x y => x - y) 37), (37, am_mathl (fun x y => if y < x then x else y) 46 40), (40, am_lstore 6 11 42), (42, am_lload 6 44), (44, am_aload 0 45), (45, am_getR live 4 2 48), (48, am_const (.int 0) 49), (49, am_iload 5 51), (51, am_i2 (fun x y => x + y) 52), (52, am_lald live 1 53), (53, am_mathl (fun x y => if y < x then y else x) 46 56), (56, am_lstore 8 11 58), (58, am_lload 2 59), (59, am_lload 8 61), (61, am_l2 (fun x y => x + y) 62), (62, am_lstore 2 11 63), (63, am_aload 0 64), (64, am_getR live 4 2 67), (67, am_const (.int 0) 68), (68, am_iload 5 70), (70, am_i2 (fun x y => x + y) 71), (71, am_dup2 72), (72, am_lald live 1 73), (73, am_lload 8 75), (75, am_l2 (fun x y => x - y) 76), (76, am_last live 1 77), (77, am_aload 0 78), (78, am_getR live 4 2 81), (81, am_const (.int 30) 83), (83, am_iload 5 85), (85, am_i2 (fun x y => x + y) 86), (86, am_lload 8 88), (88, am_last live 1 89), (89, am_aload 0 90), (90, am_getR live 4 2 93), (93, am_const (.int 90) 95), (95, am_iload 5 97), (97, am_i2 (fun x y => x + y) 98), (98, am_dup2 99), (99, am_lald live 1 100), (100, am_lload 8 102), (102, am_l2 (fun x y => x + y) 103), (103, am_last live 1 104), (104, am_aload 0 105), (105, am_getR live 4 0 108), (108, am_getR live 0 4 111), (111, am_iload 5 113), (113, am_const (.int 7) 115), (115, am_callV live 3 2 TX3_at 118), (118, am_istore 10 11 120), (120, am_iload 10 122), (122, am_const (.int (-1)) 123), (123, am_if2 (fun x y => x = y) 148 126), (126, am_iload 1 127), (127, am_iload 10 129), (129, am_if2 (fun x y => x < y) 148 132), (132, am_aload 0 133), (133, am_getR live 4 2 136), (136, am_const (.int 150) 139), (139, am_iload 5 141), (141, am_i2 (fun x y => x + y) 142), (142, am_dup2 143), (143, am_lald live 1 144), (144, am_lload 8 146), (146, am_l2 (fun x y => x + y) 147), (147, am_last live 1 148), (148, am_iinc 4 11 1 151), (151, am_goto 5), (154, am_retV Ret)]
theorem koX4_takeAll (live : am_E) (Ret : am_R) : ∀ q ∈ kX4_takeAll live Ret, am_ok RX4 cX4_takeAll 11 none 2 46 live Ret q.1 q.2 :=
  am_kc (ak_lconst dX4_takeAll_0 (by decide +kernel) rfl) <|
  am_kc (ak_lstore_n dX4_takeAll_1 rfl rfl) <|
  am_kc (ak_iconst dX4_takeAll_2 (by decide +kernel) rfl) <|
  am_kc (ak_istore dX4_takeAll_3 rfl) <|
  am_kc (ak_iload dX4_takeAll_5 rfl) <|
  am_kc (ak_aload_n dX4_takeAll_7 rfl rfl) <|
  am_kc (ak_getI (C := RX4) (T := TX4) (N := 18) rfl inX4w (by decide) rfl rfl rfl wd_303 dX4_takeAll_8 rfl) <|
  am_kc (ak_icmp_ge dX4_takeAll_11 (by decide +kernel) rfl) <|
  am_kc (ak_aload_n dX4_takeAll_14 rfl rfl) <|
  am_kc (ak_getR (C := RX4) (T := TX4) (N := 18) rfl inX4w (by decide) rfl rfl rfl wd_300 dX4_takeAll_15 rfl) <|
  am_kc (ak_iload dX4_takeAll_18 rfl) <|
  am_kc (ak_iald (t := 0) (fun _ => rfl) rfl dX4_takeAll_20 rfl) <|
  am_kc (ak_istore dX4_takeAll_21 rfl) <|
  am_kc (ak_lconst dX4_takeAll_23 (by decide +kernel) rfl) <|
  am_kc (ak_aload_n dX4_takeAll_24 rfl rfl) <|
  am_kc (ak_aload_n dX4_takeAll_25 rfl rfl) <|
  am_kc (ak_iload dX4_takeAll_26 rfl) <|
  am_kc (ak_iload_n dX4_takeAll_28 rfl rfl) <|
  am_kc (ak_callV (C := RX4) (F := TX4) (N := 18) metX4_cellOf rfl ⟨rfl, by decide +kernel, by decide +kernel, by decide +kernel⟩ (am_w5 wd_577 wd_579 wd_4 wd_60 wd_580) (by decide) dX4_takeAll_29 rfl) <|
  am_kc (ak_callV (C := RX4) (F := TX4) (N := 18) metX4_asked rfl ⟨rfl, by decide +kernel, by decide +kernel, by decide +kernel⟩ (am_w5 wd_634 wd_636 wd_11 wd_60 wd_637) (by decide) dX4_takeAll_32 rfl) <|
  am_kc (ak_lload_n dX4_takeAll_35 rfl rfl) <|
  am_kc (ak_lsub dX4_takeAll_36 rfl) <|
  am_kc (ak_lmax (am_w4 wd_607 wd_608 wd_68 wd_609) (by decide) dX4_takeAll_37 rfl) <|
  am_kc (ak_lstore dX4_takeAll_40 rfl) <|
  am_kc (ak_lload dX4_takeAll_42 rfl) <|
  am_kc (ak_aload_n dX4_takeAll_44 rfl rfl) <|
  am_kc (ak_getR (C := RX4) (T := TX4) (N := 18) rfl inX4w (by decide) rfl rfl rfl wd_296 dX4_takeAll_45 rfl) <|
  am_kc (ak_iconst dX4_takeAll_48 (by decide +kernel) rfl) <|
  am_kc (ak_iload dX4_takeAll_49 rfl) <|
  am_kc (ak_iadd dX4_takeAll_51 rfl) <|
  am_kc (ak_lald (t := 1) (fun _ => rfl) rfl dX4_takeAll_52 rfl) <|
  am_kc (ak_lmin (am_w4 wd_604 wd_605 wd_68 wd_606) (by decide) dX4_takeAll_53 rfl) <|
  am_kc (ak_lstore dX4_takeAll_56 rfl) <|
  am_kc (ak_lload_n dX4_takeAll_58 rfl rfl) <|
  am_kc (ak_lload dX4_takeAll_59 rfl) <|
  am_kc (ak_ladd dX4_takeAll_61 rfl) <|
  am_kc (ak_lstore_n dX4_takeAll_62 rfl rfl) <|
  am_kc (ak_aload_n dX4_takeAll_63 rfl rfl) <|
  am_kc (ak_getR (C := RX4) (T := TX4) (N := 18) rfl inX4w (by decide) rfl rfl rfl wd_296 dX4_takeAll_64 rfl) <|
  am_kc (ak_iconst dX4_takeAll_67 (by decide +kernel) rfl) <|
  am_kc (ak_iload dX4_takeAll_68 rfl) <|
  am_kc (ak_iadd dX4_takeAll_70 rfl) <|
  am_kc (ak_dup2 dX4_takeAll_71 rfl) <|
  am_kc (ak_lald (t := 1) (fun _ => rfl) rfl dX4_takeAll_72 rfl) <|
  am_kc (ak_lload dX4_takeAll_73 rfl) <|
  am_kc (ak_lsub dX4_takeAll_75 rfl) <|
  am_kc (ak_last (t := 1) (fun _ => rfl) rfl dX4_takeAll_76 rfl) <|
  am_kc (ak_aload_n dX4_takeAll_77 rfl rfl) <|
  am_kc (ak_getR (C := RX4) (T := TX4) (N := 18) rfl inX4w (by decide) rfl rfl rfl wd_296 dX4_takeAll_78 rfl) <|
  am_kc (ak_bipush dX4_takeAll_81 (by decide +kernel) rfl) <|
  am_kc (ak_iload dX4_takeAll_83 rfl) <|
  am_kc (ak_iadd dX4_takeAll_85 rfl) <|
  am_kc (ak_lload dX4_takeAll_86 rfl) <|
  am_kc (ak_last (t := 1) (fun _ => rfl) rfl dX4_takeAll_88 rfl) <|
  am_kc (ak_aload_n dX4_takeAll_89 rfl rfl) <|
  am_kc (ak_getR (C := RX4) (T := TX4) (N := 18) rfl inX4w (by decide) rfl rfl rfl wd_296 dX4_takeAll_90 rfl) <|
  am_kc (ak_bipush dX4_takeAll_93 (by decide +kernel) rfl) <|
  am_kc (ak_iload dX4_takeAll_95 rfl) <|
  am_kc (ak_iadd dX4_takeAll_97 rfl) <|
  am_kc (ak_dup2 dX4_takeAll_98 rfl) <|
  am_kc (ak_lald (t := 1) (fun _ => rfl) rfl dX4_takeAll_99 rfl) <|
  am_kc (ak_lload dX4_takeAll_100 rfl) <|
  am_kc (ak_ladd dX4_takeAll_102 rfl) <|
  am_kc (ak_last (t := 1) (fun _ => rfl) rfl dX4_takeAll_103 rfl) <|
  am_kc (ak_aload_n dX4_takeAll_104 rfl rfl) <|
  am_kc (ak_getR (C := RX4) (T := TX4) (N := 18) rfl inX4w (by decide) rfl rfl rfl wd_291 dX4_takeAll_105 rfl) <|
  am_kc (ak_getR (C := RX0) (T := TX0) (N := 13) rfl inX0w (by decide) rfl rfl rfl wd_206 dX4_takeAll_108 rfl) <|
  am_kc (ak_iload dX4_takeAll_111 rfl) <|
  am_kc (ak_bipush dX4_takeAll_113 (by decide +kernel) rfl) <|
  am_kc (ak_callV (C := RX3) (F := TX3) (N := 3) metX3_at rfl ⟨rfl, by decide +kernel, by decide +kernel, by decide +kernel⟩ (am_w5 wd_499 wd_500 wd_501 wd_64 wd_502) (by decide) dX4_takeAll_115 rfl) <|
  am_kc (ak_istore dX4_takeAll_118 rfl) <|
  am_kc (ak_iload dX4_takeAll_120 rfl) <|
  am_kc (ak_iconst dX4_takeAll_122 (by decide +kernel) rfl) <|
  am_kc (ak_icmp_eq dX4_takeAll_123 (by decide +kernel) rfl) <|
  am_kc (ak_iload_n dX4_takeAll_126 rfl rfl) <|
  am_kc (ak_iload dX4_takeAll_127 rfl) <|
  am_kc (ak_icmp_lt dX4_takeAll_129 (by decide +kernel) rfl) <|
  am_kc (ak_aload_n dX4_takeAll_132 rfl rfl) <|
  am_kc (ak_getR (C := RX4) (T := TX4) (N := 18) rfl inX4w (by decide) rfl rfl rfl wd_296 dX4_takeAll_133 rfl) <|
  am_kc (ak_sipush dX4_takeAll_136 (by decide +kernel) rfl) <|
  am_kc (ak_iload dX4_takeAll_139 rfl) <|
  am_kc (ak_iadd dX4_takeAll_141 rfl) <|
  am_kc (ak_dup2 dX4_takeAll_142 rfl) <|
  am_kc (ak_lald (t := 1) (fun _ => rfl) rfl dX4_takeAll_143 rfl) <|
  am_kc (ak_lload dX4_takeAll_144 rfl) <|
  am_kc (ak_ladd dX4_takeAll_146 rfl) <|
  am_kc (ak_last (t := 1) (fun _ => rfl) rfl dX4_takeAll_147 rfl) <|
  am_kc (ak_iinc dX4_takeAll_148 (by decide +kernel) rfl) <|
  am_kc (ak_goto dX4_takeAll_151 (by decide +kernel)) <|
  am_kc (ak_retV dX4_takeAll_154) <| am_kn
def TX4_takeAll : am_T := fun live as M R => match as with
  | [.ref n, .int y] => am_mn live ∧ n = 4 ∧ am_in y 40 ∧ g_rI M ∧ ∀ M', g_sc M M' → g_rI M' → R none M'
  | _ => False
def JX4_takeAll : am_E → List Value → am_M → am_R → am_inv := fun live as M0 _ pc => match as with
  | [.ref n, .int y] => (match pc with
    | 5 => some ([0, 1, 2, 4], fun k L st M => ∃ (v : Int64) (i : Int32), L = [(0, .ref 4), (1, .int y), (2, .long v), (4, .int i)] ∧ st = [] ∧ k = ((31 - i.toInt).toNat, 0) ∧ 0 ≤ i.toInt ∧ g_sc M0 M ∧ g_rI M)
    | _ => none)
  | _ => none
set_option maxRecDepth 100000 in
set_option maxHeartbeats 4000000 in
theorem metX4_takeAll : am_Met yX4_takeAll cX4_takeAll 11 none (2) (46) TX4_takeAll := by
  refine am_met (own := RX4) (by decide +kernel) rfl kX4_takeAll koX4_takeAll 150 JX4_takeAll ?_ ?_
  · intro live as M Ret h
    unfold TX4_takeAll at h
    split at h
    · next n y =>
      refine ⟨Nat.le_of_ble_eq_true rfl, ?_⟩
      change am_wp _ _ _ _ [(0, Value.ref n), (1, Value.int y)] _ _
      obtain ⟨hmn, rfl, hy, hr, h⟩ := h
      repeat' (first | exact rfl | apply And.intro | intro hx | (refine Exists.intro _ (And.intro rfl ?_)))
      all_goals try first | (with_reducible change am_tI _ _) | (change Ret _ _) | (change Ret _ _ _) | (change Exists _)
      all_goals try dsimp only at *
      all_goals try exact absurd ‹(1000 : Int64) = 0› (by decide)
      exact ⟨_, _, _, rfl, rfl, rfl, by decide, g_sc.rf, hr⟩
    · exact h.elim
  · intro live as M0 Ret h k pc I hI L st M hi
    unfold TX4_takeAll at h
    split at h
    · next n y =>
      obtain ⟨hmn, rfl, hy, hr, h⟩ := h
      have hmn2 := hmn
      obtain ⟨i1, i2, rfl⟩ := hmn2
      change (match pc with | 5 => _ | _ => none) = _ at hI
      split at hI
      · cases hI
        obtain ⟨v, i, rfl, rfl, rfl, e1, e2, e3⟩ := hi
        by_cases hz : M.1 4 7 ≤ i
        · skip
          repeat' (first | exact rfl | apply And.intro | (intro hx; with_reducible exact absurd hz hx) | intro hx | (refine Exists.intro _ (And.intro rfl ?_)))
          all_goals try first | (with_reducible change am_tI _ _) | (change Ret _ _) | (change Ret _ _ _) | (change Exists _)
          all_goals try dsimp only at *
          all_goals try exact absurd ‹(1000 : Int64) = 0› (by decide)
          exact h _ e2 e3
        · have q := e3.s.sz
          have hz2 := hz
          simp only [i_le] at hz2
          have ha : am_in i 30 := ⟨e1, by omega⟩
          have hb := e3.s.qu (g_cl ha)
          have hp := e3.pln hb hy
          have hla := e3.s.la
          have hi := i_inc (x := i) (by omega) (by omega)
          have f0 := g_ix hb 0 0 rfl (by decide)
          have f30 := g_ix hb 30 30 rfl (by decide)
          have f90 := g_ix hb 90 90 rfl (by decide)
          have f150 := g_ix hb 150 150 rfl (by decide)
          have l6 : am_len 6 = 180 := rfl
          have l8 : am_len 8 = 30 := rfl
          have e0 := am_celly hy hp (k := 0) ⟨by decide, by decide⟩
          have k0 : Int32.toInt 0 = 0 := rfl
          rw [Int32.add_zero] at e0
          have hy1 := hy.1
          have hy2 := hy.2
          have hp1 := hp.1
          have hp2 := hp.2
          repeat' (first | exact rfl | (with_reducible exact hmn) | (with_reducible exact hb) | (with_reducible exact hy) | (with_reducible exact hla) | apply And.intro | (intro hx; with_reducible exact absurd hx hz) | intro hx | (refine Exists.intro _ (And.intro rfl ?_)))
          all_goals try first | (with_reducible change am_tI _ _) | (change Ret _ _) | (change Ret _ _ _) | (change Exists _)
          all_goals try dsimp only at *
          all_goals try exact absurd ‹(1000 : Int64) = 0› (by decide)
          all_goals first
            | omega
            | (rw [l8]; exact ha.2)
            | exact f0.1
            | (rw [l6]; exact f0.2.1)
            | exact f30.1
            | (rw [l6]; exact f30.2.1)
            | exact f90.1
            | (rw [l6]; exact f90.2.1)
            | exact f150.1
            | (rw [l6]; exact f150.2.1)
            | exact ⟨_, am_lt_l (by omega), _, _, rfl, rfl, rfl, by omega, (((e2.wJ rfl).wJ rfl).wJ rfl), ((e3.wJ).wJ).wJ⟩
            | exact ⟨_, am_lt_l (by omega), _, _, rfl, rfl, rfl, by omega, ((((e2.wJ rfl).wJ rfl).wJ rfl).wJ rfl), (((e3.wJ).wJ).wJ).wJ⟩
            | skip
      · cases hI
    · exact h.elim
end
section
/-! Run: what is safe of it, III -/
theorem wd_496 : Cond.methodLink "LearnLoans$Run" 96 arraycopyName ∈ am_ws := am_wsi (List.mem_of_getElem? (i := 496) (by decide +kernel)) (by decide +kernel)
theorem wd_149 : Cond.fieldLink "LearnLoans$Run" 63 "LearnLoans$Rows" "size" "I" ∈ am_ws := am_wsi (List.mem_of_getElem? (i := 149) (by decide +kernel)) (by decide +kernel)
theorem wd_107 : Cond.fieldLink "LearnLoans$Run" 109 "LearnLoans$People" "began" "[I" ∈ am_ws := am_wsi (List.mem_of_getElem? (i := 107) (by decide +kernel)) (by decide +kernel)
theorem wd_503 : Cond.methodLink "LearnLoans$Run" 114 yX4_layAct ∈ am_ws := am_wsi (List.mem_of_getElem? (i := 503) (by decide +kernel)) (by decide +kernel)
theorem wd_505 : Cond.instanceMethod yX4_layAct ∈ am_ws := am_wsi (List.mem_of_getElem? (i := 505) (by decide +kernel)) (by decide +kernel)
theorem wd_1 : Cond.selects "LearnLoans$Run" yX4_layAct yX4_layAct ∈ am_ws := am_wsi (List.mem_of_getElem? (i := 1) (by decide +kernel)) (by decide +kernel)
theorem wd_506 : Cond.code yX4_layAct cX4_layAct 6 none ∈ am_ws := am_wsi (List.mem_of_getElem? (i := 506) (by decide +kernel)) (by decide +kernel)
theorem dX4_layNumbers_0 : decode cX4_layNumbers 0 = .ok (.bipush 30, 2) := by decide +kernel
theorem dX4_layNumbers_2 : decode cX4_layNumbers 2 = .ok (.istore_n 2, 1) := by decide +kernel
theorem dX4_layNumbers_3 : decode cX4_layNumbers 3 = .ok (.iconst 0, 1) := by decide +kernel
theorem dX4_layNumbers_4 : decode cX4_layNumbers 4 = .ok (.istore_n 3, 1) := by decide +kernel
theorem dX4_layNumbers_5 : decode cX4_layNumbers 5 = .ok (.iload_n 3, 1) := by decide +kernel
theorem dX4_layNumbers_6 : decode cX4_layNumbers 6 = .ok (.iload_n 2, 1) := by decide +kernel
theorem dX4_layNumbers_7 : decode cX4_layNumbers 7 = .ok (.if_icmp .ge 23, 3) := by decide +kernel
theorem dX4_layNumbers_10 : decode cX4_layNumbers 10 = .ok (.aload_n 0, 1) := by decide +kernel
theorem dX4_layNumbers_11 : decode cX4_layNumbers 11 = .ok (.getfield 18, 3) := by decide +kernel
theorem dX4_layNumbers_14 : decode cX4_layNumbers 14 = .ok (.iload_n 3, 1) := by decide +kernel
theorem dX4_layNumbers_15 : decode cX4_layNumbers 15 = .ok (.getstatic 93, 3) := by decide +kernel
theorem dX4_layNumbers_18 : decode cX4_layNumbers 18 = .ok (.iload_n 3, 1) := by decide +kernel
theorem dX4_layNumbers_19 : decode cX4_layNumbers 19 = .ok (.bipush 6, 2) := by decide +kernel
theorem dX4_layNumbers_21 : decode cX4_layNumbers 21 = .ok (.irem, 1) := by decide +kernel
theorem dX4_layNumbers_22 : decode cX4_layNumbers 22 = .ok (.iaload, 1) := by decide +kernel
theorem dX4_layNumbers_23 : decode cX4_layNumbers 23 = .ok (.iastore, 1) := by decide +kernel
theorem dX4_layNumbers_24 : decode cX4_layNumbers 24 = .ok (.iinc 3 1, 3) := by decide +kernel
theorem dX4_layNumbers_27 : decode cX4_layNumbers 27 = .ok (.goto (-22), 3) := by decide +kernel
theorem dX4_layNumbers_30 : decode cX4_layNumbers 30 = .ok (.iconst 0, 1) := by decide +kernel
theorem dX4_layNumbers_31 : decode cX4_layNumbers 31 = .ok (.istore_n 3, 1) := by decide +kernel
theorem dX4_layNumbers_32 : decode cX4_layNumbers 32 = .ok (.iload_n 3, 1) := by decide +kernel
theorem dX4_layNumbers_33 : decode cX4_layNumbers 33 = .ok (.bipush 40, 2) := by decide +kernel
theorem dX4_layNumbers_35 : decode cX4_layNumbers 35 = .ok (.if_icmp .ge 93, 3) := by decide +kernel
theorem dX4_layNumbers_38 : decode cX4_layNumbers 38 = .ok (.iload_n 3, 1) := by decide +kernel
theorem dX4_layNumbers_39 : decode cX4_layNumbers 39 = .ok (.ifCond .le 23, 3) := by decide +kernel
theorem dX4_layNumbers_42 : decode cX4_layNumbers 42 = .ok (.aload_n 0, 1) := by decide +kernel
theorem dX4_layNumbers_43 : decode cX4_layNumbers 43 = .ok (.getfield 18, 3) := by decide +kernel
theorem dX4_layNumbers_46 : decode cX4_layNumbers 46 = .ok (.iload_n 3, 1) := by decide +kernel
theorem dX4_layNumbers_47 : decode cX4_layNumbers 47 = .ok (.iconst 1, 1) := by decide +kernel
theorem dX4_layNumbers_48 : decode cX4_layNumbers 48 = .ok (.isub, 1) := by decide +kernel
theorem dX4_layNumbers_49 : decode cX4_layNumbers 49 = .ok (.iload_n 2, 1) := by decide +kernel
theorem dX4_layNumbers_50 : decode cX4_layNumbers 50 = .ok (.imul, 1) := by decide +kernel
theorem dX4_layNumbers_51 : decode cX4_layNumbers 51 = .ok (.aload_n 0, 1) := by decide +kernel
theorem dX4_layNumbers_52 : decode cX4_layNumbers 52 = .ok (.getfield 18, 3) := by decide +kernel
theorem dX4_layNumbers_55 : decode cX4_layNumbers 55 = .ok (.iload_n 3, 1) := by decide +kernel
theorem dX4_layNumbers_56 : decode cX4_layNumbers 56 = .ok (.iload_n 2, 1) := by decide +kernel
theorem dX4_layNumbers_57 : decode cX4_layNumbers 57 = .ok (.imul, 1) := by decide +kernel
theorem dX4_layNumbers_58 : decode cX4_layNumbers 58 = .ok (.iload_n 2, 1) := by decide +kernel
theorem dX4_layNumbers_59 : decode cX4_layNumbers 59 = .ok (.invokestatic 96, 3) := by decide +kernel
theorem dX4_layNumbers_62 : decode cX4_layNumbers 62 = .ok (.iconst 0, 1) := by decide +kernel
theorem dX4_layNumbers_63 : decode cX4_layNumbers 63 = .ok (.istore 4, 2) := by decide +kernel
theorem dX4_layNumbers_65 : decode cX4_layNumbers 65 = .ok (.iload 4, 2) := by decide +kernel
theorem dX4_layNumbers_67 : decode cX4_layNumbers 67 = .ok (.aload_n 0, 1) := by decide +kernel
theorem dX4_layNumbers_68 : decode cX4_layNumbers 68 = .ok (.getfield 12, 3) := by decide +kernel
theorem dX4_layNumbers_71 : decode cX4_layNumbers 71 = .ok (.getfield 102, 3) := by decide +kernel
theorem dX4_layNumbers_74 : decode cX4_layNumbers 74 = .ok (.getfield 63, 3) := by decide +kernel
theorem dX4_layNumbers_77 : decode cX4_layNumbers 77 = .ok (.if_icmp .ge 45, 3) := by decide +kernel
theorem dX4_layNumbers_80 : decode cX4_layNumbers 80 = .ok (.aload_n 0, 1) := by decide +kernel
theorem dX4_layNumbers_81 : decode cX4_layNumbers 81 = .ok (.getfield 12, 3) := by decide +kernel
theorem dX4_layNumbers_84 : decode cX4_layNumbers 84 = .ok (.getfield 102, 3) := by decide +kernel
theorem dX4_layNumbers_87 : decode cX4_layNumbers 87 = .ok (.iload 4, 2) := by decide +kernel
theorem dX4_layNumbers_89 : decode cX4_layNumbers 89 = .ok (.iconst 3, 1) := by decide +kernel
theorem dX4_layNumbers_90 : decode cX4_layNumbers 90 = .ok (.invokevirtual 66, 3) := by decide +kernel
theorem dX4_layNumbers_93 : decode cX4_layNumbers 93 = .ok (.iload_n 3, 1) := by decide +kernel
theorem dX4_layNumbers_94 : decode cX4_layNumbers 94 = .ok (.if_icmp .ne 22, 3) := by decide +kernel
theorem dX4_layNumbers_97 : decode cX4_layNumbers 97 = .ok (.aload_n 0, 1) := by decide +kernel
theorem dX4_layNumbers_98 : decode cX4_layNumbers 98 = .ok (.iload 4, 2) := by decide +kernel
theorem dX4_layNumbers_100 : decode cX4_layNumbers 100 = .ok (.iload_n 3, 1) := by decide +kernel
theorem dX4_layNumbers_101 : decode cX4_layNumbers 101 = .ok (.aload_n 0, 1) := by decide +kernel
theorem dX4_layNumbers_102 : decode cX4_layNumbers 102 = .ok (.getfield 12, 3) := by decide +kernel
theorem dX4_layNumbers_105 : decode cX4_layNumbers 105 = .ok (.getfield 105, 3) := by decide +kernel
theorem dX4_layNumbers_108 : decode cX4_layNumbers 108 = .ok (.getfield 109, 3) := by decide +kernel
theorem dX4_layNumbers_111 : decode cX4_layNumbers 111 = .ok (.iload_n 1, 1) := by decide +kernel
theorem dX4_layNumbers_112 : decode cX4_layNumbers 112 = .ok (.iaload, 1) := by decide +kernel
theorem dX4_layNumbers_113 : decode cX4_layNumbers 113 = .ok (.invokevirtual 114, 3) := by decide +kernel
theorem dX4_layNumbers_116 : decode cX4_layNumbers 116 = .ok (.iinc 4 1, 3) := by decide +kernel
theorem dX4_layNumbers_119 : decode cX4_layNumbers 119 = .ok (.goto (-54), 3) := by decide +kernel
theorem dX4_layNumbers_122 : decode cX4_layNumbers 122 = .ok (.iinc 3 1, 3) := by decide +kernel
theorem dX4_layNumbers_125 : decode cX4_layNumbers 125 = .ok (.goto (-93), 3) := by decide +kernel
theorem dX4_layNumbers_128 : decode cX4_layNumbers 128 = .ok (.return_, 1) := by decide +kernel
def kX4_layNumbers (live : am_E) (Ret : am_R) : am_code := [(0, am_const (.int 30) 2), (2, am_istore 2 5 3), (3, am_const (.int 0) 4), (4, am_istore 3 5 5), (5, am_iload 3 6), (6, am_iload 2 7), (7, am_if2 (fun x y => y ≤ x) 30 10), (10, am_aload 0 11), (11, am_getR live 4 1 14), (14, am_iload 3 15), (15, am_const (.ref 1000) 18), (18, am_iload 3 19), (19, am_const (.int 6) 21), (21, am_i2z (fun x y => x - x / y * y) 22), (22, am_sld 0 23), (23, am_ast live 0 24), (24, am_iinc 3 5 1 27), (27, am_goto 5), (30, am_const (.int 0) 31), (31, am_istore 3 5 32), (32, am_iload 3 33), (33, am_const (.int 40) 35), (35, am_if2 (fun x y => y ≤ x) 128 38), (38, am_iload 3 39), (39, am_if1 (fun x => x ≤ 0) 62 42), (42, am_aload 0 43), (43, am_getR live 4 1 46), (46, am_iload 3 47), (47, am_const (.int 1) 48), (48, am_i2 (fun x y => x - y) 49), (49, am_iload 2 50), (50, am_i2 (fun x y => x * y) 51), (51, am_aload 0 52), (52, am_getR live 4 1 55), (55, am_iload 3 56), (56, am_iload 2 57), (57, am_i2 (fun x y => x * y) 58), (58, am_iload 2 59), (59, am_copyI live 48 62), (62, am_const (.int 0) 63), (63, am_istore 4 5 65), (65, am_iload 4 67), (67, am_aload 0 68), (68, am_getR live 4 0 71), (71, am_getR live 0 3 74), (74, am_getI live 3 2 77), (77, am_if2 (fun x y => y ≤ x) 122 80), (80, am_aload 0 81), (81, am_getR live 4 0 84), (84, am_getR live 0 3 87), (87, am_iload 4 89), (89, am_const (.int 3) 90), (90, am_callV live 3 2 TX3_at 93), (93, am_iload 3 94), (94, am_if2 (fun x y => x = y) 97 116), (97, am_aload 0 98), (98, am_iload 4 100), (100, am_iload 3 101), (101, am_aload 0 102), (102, am_getR live 4 0 105), (105, am_getR live 0 0 108), (108, am_getR live 2 0 111), (111, am_iload 1 112), (112, am_ald live 0 113), (113, am_callV live 4 3 TX4_layAct 116), (116, am_iinc 4 5 1 119), (119, am_goto 65), (122, am_iinc 3 5 1 125), (125, am_goto 32), (128, am_retV Ret)]
theorem koX4_layNumbers (live : am_E) (Ret : am_R) : ∀ q ∈ kX4_layNumbers live Ret, am_ok RX4 cX4_layNumbers 5 none 2 48 live Ret q.1 q.2 :=
  am_kc (ak_bipush dX4_layNumbers_0 (by decide +kernel) rfl) <|
  am_kc (ak_istore_n dX4_layNumbers_2 rfl rfl) <|
  am_kc (ak_iconst dX4_layNumbers_3 (by decide +kernel) rfl) <|
  am_kc (ak_istore_n dX4_layNumbers_4 rfl rfl) <|
  am_kc (ak_iload_n dX4_layNumbers_5 rfl rfl) <|
  am_kc (ak_iload_n dX4_layNumbers_6 rfl rfl) <|
  am_kc (ak_icmp_ge dX4_layNumbers_7 (by decide +kernel) rfl) <|
  am_kc (ak_aload_n dX4_layNumbers_10 rfl rfl) <|
  am_kc (ak_getR (C := RX4) (T := TX4) (N := 18) rfl inX4w (by decide) rfl rfl rfl wd_294 dX4_layNumbers_11 rfl) <|
  am_kc (ak_iload_n dX4_layNumbers_14 rfl rfl) <|
  am_kc (ak_getsN (k := 0) (C := "LearnLoans") (n := "AT_FIRST") (d := "[I") (host := "LearnLoans") (by decide) rfl (by decide +kernel) dX4_layNumbers_15 rfl) <|
  am_kc (ak_iload_n dX4_layNumbers_18 rfl rfl) <|
  am_kc (ak_bipush dX4_layNumbers_19 (by decide +kernel) rfl) <|
  am_kc (ak_irem dX4_layNumbers_21 rfl) <|
  am_kc (ak_sld (by decide) dX4_layNumbers_22 rfl) <|
  am_kc (ak_iast (t := 0) (fun _ => rfl) rfl dX4_layNumbers_23 rfl) <|
  am_kc (ak_iinc dX4_layNumbers_24 (by decide +kernel) rfl) <|
  am_kc (ak_goto dX4_layNumbers_27 (by decide +kernel)) <|
  am_kc (ak_iconst dX4_layNumbers_30 (by decide +kernel) rfl) <|
  am_kc (ak_istore_n dX4_layNumbers_31 rfl rfl) <|
  am_kc (ak_iload_n dX4_layNumbers_32 rfl rfl) <|
  am_kc (ak_bipush dX4_layNumbers_33 (by decide +kernel) rfl) <|
  am_kc (ak_icmp_ge dX4_layNumbers_35 (by decide +kernel) rfl) <|
  am_kc (ak_iload_n dX4_layNumbers_38 rfl rfl) <|
  am_kc (ak_if_le dX4_layNumbers_39 (by decide +kernel) rfl) <|
  am_kc (ak_aload_n dX4_layNumbers_42 rfl rfl) <|
  am_kc (ak_getR (C := RX4) (T := TX4) (N := 18) rfl inX4w (by decide) rfl rfl rfl wd_294 dX4_layNumbers_43 rfl) <|
  am_kc (ak_iload_n dX4_layNumbers_46 rfl rfl) <|
  am_kc (ak_iconst dX4_layNumbers_47 (by decide +kernel) rfl) <|
  am_kc (ak_isub dX4_layNumbers_48 rfl) <|
  am_kc (ak_iload_n dX4_layNumbers_49 rfl rfl) <|
  am_kc (ak_imul dX4_layNumbers_50 rfl) <|
  am_kc (ak_aload_n dX4_layNumbers_51 rfl rfl) <|
  am_kc (ak_getR (C := RX4) (T := TX4) (N := 18) rfl inX4w (by decide) rfl rfl rfl wd_294 dX4_layNumbers_52 rfl) <|
  am_kc (ak_iload_n dX4_layNumbers_55 rfl rfl) <|
  am_kc (ak_iload_n dX4_layNumbers_56 rfl rfl) <|
  am_kc (ak_imul dX4_layNumbers_57 rfl) <|
  am_kc (ak_iload_n dX4_layNumbers_58 rfl rfl) <|
  am_kc (ak_copyI (am_w4 wd_496 wd_498 wd_497 wd_69) (by decide) dX4_layNumbers_59 rfl) <|
  am_kc (ak_iconst dX4_layNumbers_62 (by decide +kernel) rfl) <|
  am_kc (ak_istore dX4_layNumbers_63 rfl) <|
  am_kc (ak_iload dX4_layNumbers_65 rfl) <|
  am_kc (ak_aload_n dX4_layNumbers_67 rfl rfl) <|
  am_kc (ak_getR (C := RX4) (T := TX4) (N := 18) rfl inX4w (by decide) rfl rfl rfl wd_291 dX4_layNumbers_68 rfl) <|
  am_kc (ak_getR (C := RX0) (T := TX0) (N := 13) rfl inX0w (by decide) rfl rfl rfl wd_203 dX4_layNumbers_71 rfl) <|
  am_kc (ak_getI (C := RX3) (T := TX3) (N := 3) rfl inX3w (by decide) rfl rfl rfl wd_149 dX4_layNumbers_74 rfl) <|
  am_kc (ak_icmp_ge dX4_layNumbers_77 (by decide +kernel) rfl) <|
  am_kc (ak_aload_n dX4_layNumbers_80 rfl rfl) <|
  am_kc (ak_getR (C := RX4) (T := TX4) (N := 18) rfl inX4w (by decide) rfl rfl rfl wd_291 dX4_layNumbers_81 rfl) <|
  am_kc (ak_getR (C := RX0) (T := TX0) (N := 13) rfl inX0w (by decide) rfl rfl rfl wd_203 dX4_layNumbers_84 rfl) <|
  am_kc (ak_iload dX4_layNumbers_87 rfl) <|
  am_kc (ak_iconst dX4_layNumbers_89 (by decide +kernel) rfl) <|
  am_kc (ak_callV (C := RX3) (F := TX3) (N := 3) metX3_at rfl ⟨rfl, by decide +kernel, by decide +kernel, by decide +kernel⟩ (am_w5 wd_499 wd_500 wd_501 wd_64 wd_502) (by decide) dX4_layNumbers_90 rfl) <|
  am_kc (ak_iload_n dX4_layNumbers_93 rfl rfl) <|
  am_kc (ak_icmp_ne dX4_layNumbers_94 (by decide +kernel) rfl) <|
  am_kc (ak_aload_n dX4_layNumbers_97 rfl rfl) <|
  am_kc (ak_iload dX4_layNumbers_98 rfl) <|
  am_kc (ak_iload_n dX4_layNumbers_100 rfl rfl) <|
  am_kc (ak_aload_n dX4_layNumbers_101 rfl rfl) <|
  am_kc (ak_getR (C := RX4) (T := TX4) (N := 18) rfl inX4w (by decide) rfl rfl rfl wd_291 dX4_layNumbers_102 rfl) <|
  am_kc (ak_getR (C := RX0) (T := TX0) (N := 13) rfl inX0w (by decide) rfl rfl rfl wd_195 dX4_layNumbers_105 rfl) <|
  am_kc (ak_getR (C := RX2) (T := TX2) (N := 8) rfl inX2w (by decide) rfl rfl rfl wd_107 dX4_layNumbers_108 rfl) <|
  am_kc (ak_iload_n dX4_layNumbers_111 rfl rfl) <|
  am_kc (ak_iald (t := 0) (fun _ => rfl) rfl dX4_layNumbers_112 rfl) <|
  am_kc (ak_callV (C := RX4) (F := TX4) (N := 18) metX4_layAct rfl ⟨rfl, by decide +kernel, by decide +kernel, by decide +kernel⟩ (am_w5 wd_503 wd_505 wd_1 wd_60 wd_506) (by decide) dX4_layNumbers_113 rfl) <|
  am_kc (ak_iinc dX4_layNumbers_116 (by decide +kernel) rfl) <|
  am_kc (ak_goto dX4_layNumbers_119 (by decide +kernel)) <|
  am_kc (ak_iinc dX4_layNumbers_122 (by decide +kernel) rfl) <|
  am_kc (ak_goto dX4_layNumbers_125 (by decide +kernel)) <|
  am_kc (ak_retV dX4_layNumbers_128) <| am_kn
theorem i_div {x y : Int32} (hx : 0 ≤ x.toInt) (hy : 0 < y.toInt) : (x / y).toInt = x.toInt / y.toInt := by
  have h1 := Int.ediv_nonneg hx (Int.le_of_lt hy)
  have h2 := Int.ediv_le_self y.toInt hx
  have h3 := i_hi x
  rw [Int32.toInt_div, Int.tdiv_eq_ediv_of_nonneg hx]
  exact Int.bmod_eq_of_le (by omega) (by omega)
theorem i_rem6 {x : Int32} (h1 : 0 ≤ x.toInt) (h2 : x.toInt < 1000000) : am_in (x - x / 6 * 6) 6 := by
  have e := i_div (x := x) (y := 6) h1 (by decide)
  simp only [Int32.reduceToInt] at e
  have e2 := i_mul (x := x / 6) (y := 6) (by simp only [Int32.reduceToInt]; omega) (by simp only [Int32.reduceToInt]; omega)
  simp only [Int32.reduceToInt] at e2
  have e3 := i_sub (x := x) (y := x / 6 * 6) (by omega) (by omega)
  exact ⟨by omega, by omega⟩
def TX4_layNumbers : am_T := fun live as M R => match as with
  | [.ref n, .int p] => am_mn live ∧ n = 4 ∧ am_in p 12 ∧ g_rI M ∧ ∀ M', g_sc M M' → g_rI M' → R none M'
  | _ => False
def JX4_layNumbers : am_E → List Value → am_M → am_R → am_inv := fun live as M0 _ pc => match as with
  | [.ref n, .int p] => (match pc with
    | 5 => some ([0, 1, 2, 3], fun k L st M => ∃ i : Int32, L = [(0, .ref 4), (1, .int p), (2, .int 30), (3, .int i)] ∧ st = [] ∧ k = (1000 + (31 - i.toInt).toNat, 0) ∧ 0 ≤ i.toInt ∧ g_sc M0 M ∧ g_rI M)
    | 32 => some ([0, 1, 2, 3], fun k L st M => ∃ y : Int32, L = [(0, .ref 4), (1, .int p), (2, .int 30), (3, .int y)] ∧ st = [] ∧ k = ((42 - y.toInt).toNat * 2, 0) ∧ 0 ≤ y.toInt ∧ g_sc M0 M ∧ g_rI M)
    | 65 => some ([0, 1, 2, 3, 4], fun k L st M => ∃ y i : Int32, L = [(0, .ref 4), (1, .int p), (2, .int 30), (3, .int y), (4, .int i)] ∧ st = [] ∧ k = ((42 - y.toInt).toNat * 2 - 1, ((M.1 31 2).toInt - i.toInt).toNat) ∧ (0 ≤ y.toInt ∧ y.toInt < 40) ∧ 0 ≤ i.toInt ∧ g_sc M0 M ∧ g_rI M)
    | _ => none)
  | _ => none
set_option maxRecDepth 100000 in
set_option maxHeartbeats 4000000 in
theorem metX4_layNumbers : am_Met yX4_layNumbers cX4_layNumbers 5 none (2) (48) TX4_layNumbers := by
  refine am_met (own := RX4) (by decide +kernel) rfl kX4_layNumbers koX4_layNumbers 150 JX4_layNumbers ?_ ?_
  · intro live as M Ret h
    unfold TX4_layNumbers at h
    split at h
    · next n p =>
      refine ⟨Nat.le_of_ble_eq_true rfl, ?_⟩
      change am_wp _ _ _ _ [(0, Value.ref n), (1, Value.int p)] _ _
      obtain ⟨hmn, rfl, hp, hr, h⟩ := h
      repeat' (first | exact rfl | apply And.intro | intro hx | (refine Exists.intro _ (And.intro rfl ?_)))
      all_goals try first | (with_reducible change am_tI _ _) | (change Ret _ _) | (change Ret _ _ _) | (change Exists _)
      all_goals try dsimp only at *
      all_goals try exact absurd ‹(1000 : Int64) = 0› (by decide)
      exact ⟨_, _, rfl, rfl, rfl, by decide, g_sc.rf, hr⟩
    · exact h.elim
  · intro live as M0 Ret h k pc I hI L st M hi
    unfold TX4_layNumbers at h
    split at h
    · next n p =>
      obtain ⟨hmn, rfl, hp, hr, h⟩ := h
      have hmn2 := hmn
      obtain ⟨i1, i2, rfl⟩ := hmn2
      have l5 : am_len 5 = 1200 := rfl
      change (match pc with | 5 => _ | 32 => _ | 65 => _ | _ => none) = _ at hI
      split at hI
      · cases hI
        obtain ⟨i, rfl, rfl, rfl, e1, e2, e3⟩ := hi
        by_cases hz : (30 : Int32) ≤ i
        · skip
          repeat' (first | exact rfl | apply And.intro | (intro hx; with_reducible exact absurd hz hx) | intro hx | (refine Exists.intro _ (And.intro rfl ?_)))
          all_goals try first | (with_reducible change am_tI _ _) | (change Ret _ _) | (change Ret _ _ _) | (change Exists _)
          all_goals try dsimp only at *
          all_goals try exact absurd ‹(1000 : Int64) = 0› (by decide)
          exact ⟨_, am_lt_l (by simp only [Int32.reduceToInt]; omega), _, rfl, rfl, rfl, by decide, e2, e3⟩
        · have hz2 := hz
          simp only [i_le, Int32.reduceToInt] at hz2
          have hi := i_inc (x := i) (by omega) (by omega)
          have hr6 := i_rem6 (x := i) e1 (by omega)
          repeat' (first | exact rfl | apply And.intro | (intro hx; with_reducible exact absurd hx hz) | intro hx | (refine Exists.intro _ (And.intro rfl ?_)))
          all_goals try first | (with_reducible change am_tI _ _) | (change Ret _ _) | (change Ret _ _ _) | (change Exists _)
          all_goals try dsimp only at *
          all_goals try exact absurd ‹(1000 : Int64) = 0› (by decide)
          all_goals first
            | decide
            | exact absurd hx (by decide)
            | exact hr6.1
            | exact hr6.2
            | omega
            | (rw [l5]; omega)
            | skip
          exact ⟨_, am_lt_l (by omega), _, rfl, rfl, rfl, by omega, e2.wI rfl, e3.w5⟩
      · cases hI
        obtain ⟨y, rfl, rfl, rfl, e1, e2, e3⟩ := hi
        by_cases hz : (40 : Int32) ≤ y
        · skip
          repeat' (first | exact rfl | apply And.intro | (intro hx; with_reducible exact absurd hz hx) | intro hx | (refine Exists.intro _ (And.intro rfl ?_)))
          all_goals try first | (with_reducible change am_tI _ _) | (change Ret _ _) | (change Ret _ _ _) | (change Exists _)
          all_goals try dsimp only at *
          all_goals try exact absurd ‹(1000 : Int64) = 0› (by decide)
          exact h _ e2 e3
        · have hz2 := hz
          simp only [i_le, Int32.reduceToInt] at hz2
          have hs := i_sub (x := y) (y := 1) (by simp only [Int32.reduceToInt]; omega) (by simp only [Int32.reduceToInt]; omega)
          simp only [Int32.reduceToInt] at hs
          have ht := i_mul (x := y - 1) (y := 30) (by simp only [Int32.reduceToInt]; omega) (by simp only [Int32.reduceToInt]; omega)
          simp only [Int32.reduceToInt] at ht
          have hu := i_mul (x := y) (y := 30) (by simp only [Int32.reduceToInt]; omega) (by simp only [Int32.reduceToInt]; omega)
          simp only [Int32.reduceToInt] at hu
          by_cases hw : y ≤ 0
          · skip
            repeat' (first | exact rfl | apply And.intro | (intro hx; with_reducible exact absurd hx hz) | (intro hx; with_reducible exact absurd hw hx) | intro hx | (refine Exists.intro _ (And.intro rfl ?_)))
            all_goals try first | (with_reducible change am_tI _ _) | (change Ret _ _) | (change Ret _ _ _) | (change Exists _)
            all_goals try dsimp only at *
            all_goals try exact absurd ‹(1000 : Int64) = 0› (by decide)
            exact ⟨_, am_lt_l (by omega), _, _, rfl, rfl, rfl, ⟨e1, by omega⟩, by decide, e2, e3⟩
          · have hw2 := hw
            simp only [i_le, Int32.reduceToInt] at hw2
            repeat' (first | exact rfl | apply And.intro | (intro hx; with_reducible exact absurd hx hz) | (intro hx; with_reducible exact absurd hx hw) | intro hx | (refine Exists.intro _ (And.intro rfl ?_)))
            all_goals try first | (with_reducible change am_tI _ _) | (change Ret _ _) | (change Ret _ _ _) | (change Exists _)
            all_goals try dsimp only at *
            all_goals try exact absurd ‹(1000 : Int64) = 0› (by decide)
            all_goals first
              | exact ⟨_, am_lt_l (by omega), _, _, rfl, rfl, rfl, ⟨e1, by omega⟩, by decide, e2.cI rfl, e3.c5⟩
              | (simp only [l5, Int32.reduceToInt]; omega)
              | omega
              | skip
      · cases hI
        obtain ⟨y, i, rfl, rfl, rfl, ⟨e0, e4⟩, e1, e2, e3⟩ := hi
        have hy := i_inc (x := y) (by omega) (by omega)
        by_cases hz : M.1 31 2 ≤ i
        · skip
          repeat' (first | exact rfl | apply And.intro | (intro hx; with_reducible exact absurd hz hx) | intro hx | (refine Exists.intro _ (And.intro rfl ?_)))
          all_goals try first | (with_reducible change am_tI _ _) | (change Ret _ _) | (change Ret _ _ _) | (change Exists _)
          all_goals try dsimp only at *
          all_goals try exact absurd ‹(1000 : Int64) = 0› (by decide)
          exact ⟨_, am_lt_l (by omega), _, rfl, rfl, rfl, by omega, e2, e3⟩
        · have hz2 := hz
          simp only [i_le] at hz2
          have hh := i_hi (M.1 31 2)
          have hi := i_add (x := i) (y := 1) (by simp only [Int32.reduceToInt]; omega) (by simp only [Int32.reduceToInt]; omega)
          simp only [Int32.reduceToInt] at hi
          have l22 : am_len 22 = 12 := rfl
          have hp1 := hp.1
          have hp2 := hp.2
          repeat' (first | exact rfl | (with_reducible exact hmn) | (with_reducible exact e3) | apply And.intro | (intro hx; with_reducible exact absurd hx hz) | intro hx | (refine Exists.intro _ (And.intro rfl ?_)))
          all_goals try first | (with_reducible change am_tI _ _) | (change Ret _ _) | (change Ret _ _ _) | (change Exists _)
          all_goals try dsimp only at *
          all_goals try exact absurd ‹(1000 : Int64) = 0› (by decide)
          all_goals first
            | omega
            | (rw [l22]; omega)
            | exact ⟨_, am_lt_r (by omega), _, _, rfl, rfl, rfl, ⟨e0, e4⟩, by omega, e2, e3⟩
            | skip
          all_goals
            rename_i M1 c1
            exact ⟨_, am_lt_r (by rw [c1.i 2 (by decide)]; omega), _, _, rfl, rfl, rfl, ⟨e0, e4⟩, by omega, e2.tr c1, hx⟩
      · cases hI
    · exact h.elim
theorem wd_573 : Cond.methodLink "LearnLoans$Run" 145 yX4_isStruck ∈ am_ws := am_wsi (List.mem_of_getElem? (i := 573) (by decide +kernel)) (by decide +kernel)
theorem wd_575 : Cond.instanceMethod yX4_isStruck ∈ am_ws := am_wsi (List.mem_of_getElem? (i := 575) (by decide +kernel)) (by decide +kernel)
theorem wd_3 : Cond.selects "LearnLoans$Run" yX4_isStruck yX4_isStruck ∈ am_ws := am_wsi (List.mem_of_getElem? (i := 3) (by decide +kernel)) (by decide +kernel)
theorem wd_576 : Cond.code yX4_isStruck cX4_isStruck 4 (some .boolean) ∈ am_ws := am_wsi (List.mem_of_getElem? (i := 576) (by decide +kernel)) (by decide +kernel)
theorem wd_585 : Cond.methodLink "LearnLoans$Run" 148 yX4_rateOf ∈ am_ws := am_wsi (List.mem_of_getElem? (i := 585) (by decide +kernel)) (by decide +kernel)
theorem wd_586 : Cond.instanceMethod yX4_rateOf ∈ am_ws := am_wsi (List.mem_of_getElem? (i := 586) (by decide +kernel)) (by decide +kernel)
theorem wd_587 : Cond.selects "LearnLoans$Run" yX4_rateOf yX4_rateOf ∈ am_ws := am_wsi (List.mem_of_getElem? (i := 587) (by decide +kernel)) (by decide +kernel)
theorem wd_588 : Cond.code yX4_rateOf cX4_rateOf 7 (some .int) ∈ am_ws := am_wsi (List.mem_of_getElem? (i := 588) (by decide +kernel)) (by decide +kernel)
theorem wd_610 : Cond.methodLink "LearnLoans$Run" 151 yX4_grow ∈ am_ws := am_wsi (List.mem_of_getElem? (i := 610) (by decide +kernel)) (by decide +kernel)
theorem wd_612 : Cond.instanceMethod yX4_grow ∈ am_ws := am_wsi (List.mem_of_getElem? (i := 612) (by decide +kernel)) (by decide +kernel)
theorem wd_6 : Cond.selects "LearnLoans$Run" yX4_grow yX4_grow ∈ am_ws := am_wsi (List.mem_of_getElem? (i := 6) (by decide +kernel)) (by decide +kernel)
theorem wd_613 : Cond.code yX4_grow cX4_grow 7 none ∈ am_ws := am_wsi (List.mem_of_getElem? (i := 613) (by decide +kernel)) (by decide +kernel)
theorem wd_616 : Cond.methodLink "LearnLoans$Run" 155 yX4_draw ∈ am_ws := am_wsi (List.mem_of_getElem? (i := 616) (by decide +kernel)) (by decide +kernel)
theorem wd_618 : Cond.instanceMethod yX4_draw ∈ am_ws := am_wsi (List.mem_of_getElem? (i := 618) (by decide +kernel)) (by decide +kernel)
theorem wd_7 : Cond.selects "LearnLoans$Run" yX4_draw yX4_draw ∈ am_ws := am_wsi (List.mem_of_getElem? (i := 7) (by decide +kernel)) (by decide +kernel)
theorem wd_619 : Cond.code yX4_draw cX4_draw 5 none ∈ am_ws := am_wsi (List.mem_of_getElem? (i := 619) (by decide +kernel)) (by decide +kernel)
theorem wd_621 : Cond.methodLink "LearnLoans$Run" 158 yX4_lineUp ∈ am_ws := am_wsi (List.mem_of_getElem? (i := 621) (by decide +kernel)) (by decide +kernel)
theorem wd_623 : Cond.instanceMethod yX4_lineUp ∈ am_ws := am_wsi (List.mem_of_getElem? (i := 623) (by decide +kernel)) (by decide +kernel)
theorem wd_8 : Cond.selects "LearnLoans$Run" yX4_lineUp yX4_lineUp ∈ am_ws := am_wsi (List.mem_of_getElem? (i := 8) (by decide +kernel)) (by decide +kernel)
theorem wd_624 : Cond.code yX4_lineUp cX4_lineUp 5 none ∈ am_ws := am_wsi (List.mem_of_getElem? (i := 624) (by decide +kernel)) (by decide +kernel)
theorem wd_626 : Cond.methodLink "LearnLoans$Run" 161 yX4_payAhead ∈ am_ws := am_wsi (List.mem_of_getElem? (i := 626) (by decide +kernel)) (by decide +kernel)
theorem wd_628 : Cond.instanceMethod yX4_payAhead ∈ am_ws := am_wsi (List.mem_of_getElem? (i := 628) (by decide +kernel)) (by decide +kernel)
theorem wd_9 : Cond.selects "LearnLoans$Run" yX4_payAhead yX4_payAhead ∈ am_ws := am_wsi (List.mem_of_getElem? (i := 9) (by decide +kernel)) (by decide +kernel)
theorem wd_629 : Cond.code yX4_payAhead cX4_payAhead 5 none ∈ am_ws := am_wsi (List.mem_of_getElem? (i := 629) (by decide +kernel)) (by decide +kernel)
theorem wd_630 : Cond.methodLink "LearnLoans$Run" 164 yX4_takeAll ∈ am_ws := am_wsi (List.mem_of_getElem? (i := 630) (by decide +kernel)) (by decide +kernel)
theorem wd_632 : Cond.instanceMethod yX4_takeAll ∈ am_ws := am_wsi (List.mem_of_getElem? (i := 632) (by decide +kernel)) (by decide +kernel)
theorem wd_10 : Cond.selects "LearnLoans$Run" yX4_takeAll yX4_takeAll ∈ am_ws := am_wsi (List.mem_of_getElem? (i := 10) (by decide +kernel)) (by decide +kernel)
theorem wd_633 : Cond.code yX4_takeAll cX4_takeAll 11 none ∈ am_ws := am_wsi (List.mem_of_getElem? (i := 633) (by decide +kernel)) (by decide +kernel)
theorem dX4_turn_0 : decode cX4_turn 0 = .ok (.iconst 0, 1) := by decide +kernel
theorem dX4_turn_1 : decode cX4_turn 1 = .ok (.istore_n 2, 1) := by decide +kernel
theorem dX4_turn_2 : decode cX4_turn 2 = .ok (.iload_n 2, 1) := by decide +kernel
theorem dX4_turn_3 : decode cX4_turn 3 = .ok (.aload_n 0, 1) := by decide +kernel
theorem dX4_turn_4 : decode cX4_turn 4 = .ok (.getfield 56, 3) := by decide +kernel
theorem dX4_turn_7 : decode cX4_turn 7 = .ok (.if_icmp .ge 105, 3) := by decide +kernel
theorem dX4_turn_10 : decode cX4_turn 10 = .ok (.aload_n 0, 1) := by decide +kernel
theorem dX4_turn_11 : decode cX4_turn 11 = .ok (.getfield 26, 3) := by decide +kernel
theorem dX4_turn_14 : decode cX4_turn 14 = .ok (.iload_n 2, 1) := by decide +kernel
theorem dX4_turn_15 : decode cX4_turn 15 = .ok (.iaload, 1) := by decide +kernel
theorem dX4_turn_16 : decode cX4_turn 16 = .ok (.istore_n 3, 1) := by decide +kernel
theorem dX4_turn_17 : decode cX4_turn 17 = .ok (.aload_n 0, 1) := by decide +kernel
theorem dX4_turn_18 : decode cX4_turn 18 = .ok (.getfield 22, 3) := by decide +kernel
theorem dX4_turn_21 : decode cX4_turn 21 = .ok (.iconst 0, 1) := by decide +kernel
theorem dX4_turn_22 : decode cX4_turn 22 = .ok (.iload_n 3, 1) := by decide +kernel
theorem dX4_turn_23 : decode cX4_turn 23 = .ok (.iadd, 1) := by decide +kernel
theorem dX4_turn_24 : decode cX4_turn 24 = .ok (.laload, 1) := by decide +kernel
theorem dX4_turn_25 : decode cX4_turn 25 = .ok (.lstore 4, 2) := by decide +kernel
theorem dX4_turn_27 : decode cX4_turn 27 = .ok (.aload_n 0, 1) := by decide +kernel
theorem dX4_turn_28 : decode cX4_turn 28 = .ok (.iload_n 3, 1) := by decide +kernel
theorem dX4_turn_29 : decode cX4_turn 29 = .ok (.iload_n 1, 1) := by decide +kernel
theorem dX4_turn_30 : decode cX4_turn 30 = .ok (.invokevirtual 145, 3) := by decide +kernel
theorem dX4_turn_33 : decode cX4_turn 33 = .ok (.istore 6, 2) := by decide +kernel
theorem dX4_turn_35 : decode cX4_turn 35 = .ok (.aload_n 0, 1) := by decide +kernel
theorem dX4_turn_36 : decode cX4_turn 36 = .ok (.getfield 22, 3) := by decide +kernel
theorem dX4_turn_39 : decode cX4_turn 39 = .ok (.bipush 60, 2) := by decide +kernel
theorem dX4_turn_41 : decode cX4_turn 41 = .ok (.iload_n 3, 1) := by decide +kernel
theorem dX4_turn_42 : decode cX4_turn 42 = .ok (.iadd, 1) := by decide +kernel
theorem dX4_turn_43 : decode cX4_turn 43 = .ok (.iload 6, 2) := by decide +kernel
theorem dX4_turn_45 : decode cX4_turn 45 = .ok (.ifCond .eq 8, 3) := by decide +kernel
theorem dX4_turn_48 : decode cX4_turn 48 = .ok (.lload 4, 2) := by decide +kernel
theorem dX4_turn_50 : decode cX4_turn 50 = .ok (.goto 4, 3) := by decide +kernel
theorem dX4_turn_53 : decode cX4_turn 53 = .ok (.lconst 0, 1) := by decide +kernel
theorem dX4_turn_54 : decode cX4_turn 54 = .ok (.lastore, 1) := by decide +kernel
theorem dX4_turn_55 : decode cX4_turn 55 = .ok (.aload_n 0, 1) := by decide +kernel
theorem dX4_turn_56 : decode cX4_turn 56 = .ok (.getfield 22, 3) := by decide +kernel
theorem dX4_turn_59 : decode cX4_turn 59 = .ok (.bipush 120, 2) := by decide +kernel
theorem dX4_turn_61 : decode cX4_turn 61 = .ok (.iload_n 3, 1) := by decide +kernel
theorem dX4_turn_62 : decode cX4_turn 62 = .ok (.iadd, 1) := by decide +kernel
theorem dX4_turn_63 : decode cX4_turn 63 = .ok (.lconst 0, 1) := by decide +kernel
theorem dX4_turn_64 : decode cX4_turn 64 = .ok (.lastore, 1) := by decide +kernel
theorem dX4_turn_65 : decode cX4_turn 65 = .ok (.iload 6, 2) := by decide +kernel
theorem dX4_turn_67 : decode cX4_turn 67 = .ok (.ifCond .eq 15, 3) := by decide +kernel
theorem dX4_turn_70 : decode cX4_turn 70 = .ok (.aload_n 0, 1) := by decide +kernel
theorem dX4_turn_71 : decode cX4_turn 71 = .ok (.getfield 22, 3) := by decide +kernel
theorem dX4_turn_74 : decode cX4_turn 74 = .ok (.iconst 0, 1) := by decide +kernel
theorem dX4_turn_75 : decode cX4_turn 75 = .ok (.iload_n 3, 1) := by decide +kernel
theorem dX4_turn_76 : decode cX4_turn 76 = .ok (.iadd, 1) := by decide +kernel
theorem dX4_turn_77 : decode cX4_turn 77 = .ok (.lconst 0, 1) := by decide +kernel
theorem dX4_turn_78 : decode cX4_turn 78 = .ok (.lastore, 1) := by decide +kernel
theorem dX4_turn_79 : decode cX4_turn 79 = .ok (.goto 27, 3) := by decide +kernel
theorem dX4_turn_82 : decode cX4_turn 82 = .ok (.lload 4, 2) := by decide +kernel
theorem dX4_turn_84 : decode cX4_turn 84 = .ok (.lconst 0, 1) := by decide +kernel
theorem dX4_turn_85 : decode cX4_turn 85 = .ok (.lcmp, 1) := by decide +kernel
theorem dX4_turn_86 : decode cX4_turn 86 = .ok (.ifCond .le 14, 3) := by decide +kernel
theorem dX4_turn_89 : decode cX4_turn 89 = .ok (.aload_n 0, 1) := by decide +kernel
theorem dX4_turn_90 : decode cX4_turn 90 = .ok (.iload_n 3, 1) := by decide +kernel
theorem dX4_turn_91 : decode cX4_turn 91 = .ok (.aload_n 0, 1) := by decide +kernel
theorem dX4_turn_92 : decode cX4_turn 92 = .ok (.iload_n 3, 1) := by decide +kernel
theorem dX4_turn_93 : decode cX4_turn 93 = .ok (.iload_n 1, 1) := by decide +kernel
theorem dX4_turn_94 : decode cX4_turn 94 = .ok (.invokevirtual 148, 3) := by decide +kernel
theorem dX4_turn_97 : decode cX4_turn 97 = .ok (.invokevirtual 151, 3) := by decide +kernel
theorem dX4_turn_100 : decode cX4_turn 100 = .ok (.aload_n 0, 1) := by decide +kernel
theorem dX4_turn_101 : decode cX4_turn 101 = .ok (.iload_n 3, 1) := by decide +kernel
theorem dX4_turn_102 : decode cX4_turn 102 = .ok (.iload_n 1, 1) := by decide +kernel
theorem dX4_turn_103 : decode cX4_turn 103 = .ok (.invokevirtual 155, 3) := by decide +kernel
theorem dX4_turn_106 : decode cX4_turn 106 = .ok (.iinc 2 1, 3) := by decide +kernel
theorem dX4_turn_109 : decode cX4_turn 109 = .ok (.goto (-107), 3) := by decide +kernel
theorem dX4_turn_112 : decode cX4_turn 112 = .ok (.aload_n 0, 1) := by decide +kernel
theorem dX4_turn_113 : decode cX4_turn 113 = .ok (.iload_n 1, 1) := by decide +kernel
theorem dX4_turn_114 : decode cX4_turn 114 = .ok (.invokevirtual 158, 3) := by decide +kernel
theorem dX4_turn_117 : decode cX4_turn 117 = .ok (.aload_n 0, 1) := by decide +kernel
theorem dX4_turn_118 : decode cX4_turn 118 = .ok (.getfield 80, 3) := by decide +kernel
theorem dX4_turn_121 : decode cX4_turn 121 = .ok (.lconst 0, 1) := by decide +kernel
theorem dX4_turn_122 : decode cX4_turn 122 = .ok (.lcmp, 1) := by decide +kernel
theorem dX4_turn_123 : decode cX4_turn 123 = .ok (.ifCond .le 7, 3) := by decide +kernel
theorem dX4_turn_126 : decode cX4_turn 126 = .ok (.aload_n 0, 1) := by decide +kernel
theorem dX4_turn_127 : decode cX4_turn 127 = .ok (.invokevirtual 161, 3) := by decide +kernel
theorem dX4_turn_130 : decode cX4_turn 130 = .ok (.aload_n 0, 1) := by decide +kernel
theorem dX4_turn_131 : decode cX4_turn 131 = .ok (.iload_n 1, 1) := by decide +kernel
theorem dX4_turn_132 : decode cX4_turn 132 = .ok (.invokevirtual 164, 3) := by decide +kernel
theorem dX4_turn_135 : decode cX4_turn 135 = .ok (.return_, 1) := by decide +kernel
def kX4_turn (live : am_E) (Ret : am_R) : am_code := [(0, am_const (.int 0) 1), (1, am_istore 2 7 2), (2, am_iload 2 3), (3, am_aload 0 4), (4, am_getI live 4 7 7), (7, am_if2 (fun x y => y ≤ x) 112 10), (10, am_aload 0 11), (11, am_getR live 4 3 14), (14, am_iload 2 15), (15, am_ald live 0 16), (16, am_istore 3 7 17), (17, am_aload 0 18), (18, am_getR live 4 2 21), (21, am_const (.int 0) 22), (22, am_iload 3 23), (23, am_i2 (fun x y => x + y) 24), (24, am_lald live 1 25), (25, am_lstore 4 7 27), (27, am_aload 0 28), (28, am_iload 3 29), (29, am_iload 1 30), (30, am_callV live 4 2 TX4_isStruck 33), (33, am_istore 6 7 35), (35, am_aload 0 36), (36, am_getR live 4 2 39), (39, am_const (.int 60) 41), (41, am_iload 3 42), (42, am_i2 (fun x y => x + y) 43), (43, am_iload 6 45), (45, am_if1 (fun x => x = 0) 53 48), (48, am_lload 4 50), (50, am_goto 54), (53, am_const (.long 0) 54), (54, am_last live 1 55), (55, am_aload 0 56), (56, am_getR live 4 2 59), (59, am_const (.int 120) 61), (61, am_iload 3 62), (62, am_i2 (fun x y => x + y) 63), (63, am_const (.long 0) 64), (64, am_last live 1 65), (65, am_iload 6 67), (67, am_if1 (fun x => x = 0) 82 70), (70, am_aload 0 71), (71, am_getR live 4 2 74), (74, am_const (.int 0) 75), (75, am_iload 3 76), (76, am_i2 (fun x y => x + y) 77), (77, am_const (.long 0) 78), (78, am_last live 1 79), (79, am_goto 106), (82, am_lload 4 84), (84, am_const (.long 0) 85), (85, am_lcmp 86), (86, am_if1 (fun x => x ≤ 0) 100 89), (89, am_aload 0 90), (90, am_iload 3 91), (91, am_aload 0 92), (92, am_iload 3 93), (93, am_iload 1 94), (94, am_callV live 4 2 TX4_rateOf 97), (97, am_callV live 4 2 TX4_grow 100), (100, am_aload 0 101), (101, am_iload 3 102), (102, am_iload 1 103), (103, am_callV live 4 2 TX4_draw 106), (106, am_iinc 2 7 1 109), (109, am_goto 2), (112, am_aload 0 113), (113, am_iload 1 114), (114, am_callV live 4 1 TX4_lineUp 117), (117, am_aload 0 118), (118, am_getJ live 4 13 121), (121, am_const (.long 0) 122), (122, am_lcmp 123), (123, am_if1 (fun x => x ≤ 0) 130 126), (126, am_aload 0 127), (127, am_callV live 4 0 TX4_payAhead 130), (130, am_aload 0 131), (131, am_iload 1 132), (132, am_callV live 4 1 TX4_takeAll 135), (135, am_retV Ret)]
theorem koX4_turn (live : am_E) (Ret : am_R) : ∀ q ∈ kX4_turn live Ret, am_ok RX4 cX4_turn 7 none 3 76 live Ret q.1 q.2 :=
  am_kc (ak_iconst dX4_turn_0 (by decide +kernel) rfl) <|
  am_kc (ak_istore_n dX4_turn_1 rfl rfl) <|
  am_kc (ak_iload_n dX4_turn_2 rfl rfl) <|
  am_kc (ak_aload_n dX4_turn_3 rfl rfl) <|
  am_kc (ak_getI (C := RX4) (T := TX4) (N := 18) rfl inX4w (by decide) rfl rfl rfl wd_303 dX4_turn_4 rfl) <|
  am_kc (ak_icmp_ge dX4_turn_7 (by decide +kernel) rfl) <|
  am_kc (ak_aload_n dX4_turn_10 rfl rfl) <|
  am_kc (ak_getR (C := RX4) (T := TX4) (N := 18) rfl inX4w (by decide) rfl rfl rfl wd_299 dX4_turn_11 rfl) <|
  am_kc (ak_iload_n dX4_turn_14 rfl rfl) <|
  am_kc (ak_iald (t := 0) (fun _ => rfl) rfl dX4_turn_15 rfl) <|
  am_kc (ak_istore_n dX4_turn_16 rfl rfl) <|
  am_kc (ak_aload_n dX4_turn_17 rfl rfl) <|
  am_kc (ak_getR (C := RX4) (T := TX4) (N := 18) rfl inX4w (by decide) rfl rfl rfl wd_296 dX4_turn_18 rfl) <|
  am_kc (ak_iconst dX4_turn_21 (by decide +kernel) rfl) <|
  am_kc (ak_iload_n dX4_turn_22 rfl rfl) <|
  am_kc (ak_iadd dX4_turn_23 rfl) <|
  am_kc (ak_lald (t := 1) (fun _ => rfl) rfl dX4_turn_24 rfl) <|
  am_kc (ak_lstore dX4_turn_25 rfl) <|
  am_kc (ak_aload_n dX4_turn_27 rfl rfl) <|
  am_kc (ak_iload_n dX4_turn_28 rfl rfl) <|
  am_kc (ak_iload_n dX4_turn_29 rfl rfl) <|
  am_kc (ak_callV (C := RX4) (F := TX4) (N := 18) metX4_isStruck rfl ⟨rfl, by decide +kernel, by decide +kernel, by decide +kernel⟩ (am_w5 wd_573 wd_575 wd_3 wd_60 wd_576) (by decide) dX4_turn_30 rfl) <|
  am_kc (ak_istore dX4_turn_33 rfl) <|
  am_kc (ak_aload_n dX4_turn_35 rfl rfl) <|
  am_kc (ak_getR (C := RX4) (T := TX4) (N := 18) rfl inX4w (by decide) rfl rfl rfl wd_296 dX4_turn_36 rfl) <|
  am_kc (ak_bipush dX4_turn_39 (by decide +kernel) rfl) <|
  am_kc (ak_iload_n dX4_turn_41 rfl rfl) <|
  am_kc (ak_iadd dX4_turn_42 rfl) <|
  am_kc (ak_iload dX4_turn_43 rfl) <|
  am_kc (ak_if_eq dX4_turn_45 (by decide +kernel) rfl) <|
  am_kc (ak_lload dX4_turn_48 rfl) <|
  am_kc (ak_goto dX4_turn_50 (by decide +kernel)) <|
  am_kc (ak_lconst dX4_turn_53 (by decide +kernel) rfl) <|
  am_kc (ak_last (t := 1) (fun _ => rfl) rfl dX4_turn_54 rfl) <|
  am_kc (ak_aload_n dX4_turn_55 rfl rfl) <|
  am_kc (ak_getR (C := RX4) (T := TX4) (N := 18) rfl inX4w (by decide) rfl rfl rfl wd_296 dX4_turn_56 rfl) <|
  am_kc (ak_bipush dX4_turn_59 (by decide +kernel) rfl) <|
  am_kc (ak_iload_n dX4_turn_61 rfl rfl) <|
  am_kc (ak_iadd dX4_turn_62 rfl) <|
  am_kc (ak_lconst dX4_turn_63 (by decide +kernel) rfl) <|
  am_kc (ak_last (t := 1) (fun _ => rfl) rfl dX4_turn_64 rfl) <|
  am_kc (ak_iload dX4_turn_65 rfl) <|
  am_kc (ak_if_eq dX4_turn_67 (by decide +kernel) rfl) <|
  am_kc (ak_aload_n dX4_turn_70 rfl rfl) <|
  am_kc (ak_getR (C := RX4) (T := TX4) (N := 18) rfl inX4w (by decide) rfl rfl rfl wd_296 dX4_turn_71 rfl) <|
  am_kc (ak_iconst dX4_turn_74 (by decide +kernel) rfl) <|
  am_kc (ak_iload_n dX4_turn_75 rfl rfl) <|
  am_kc (ak_iadd dX4_turn_76 rfl) <|
  am_kc (ak_lconst dX4_turn_77 (by decide +kernel) rfl) <|
  am_kc (ak_last (t := 1) (fun _ => rfl) rfl dX4_turn_78 rfl) <|
  am_kc (ak_goto dX4_turn_79 (by decide +kernel)) <|
  am_kc (ak_lload dX4_turn_82 rfl) <|
  am_kc (ak_lconst dX4_turn_84 (by decide +kernel) rfl) <|
  am_kc (ak_lcmp dX4_turn_85 rfl) <|
  am_kc (ak_if_le dX4_turn_86 (by decide +kernel) rfl) <|
  am_kc (ak_aload_n dX4_turn_89 rfl rfl) <|
  am_kc (ak_iload_n dX4_turn_90 rfl rfl) <|
  am_kc (ak_aload_n dX4_turn_91 rfl rfl) <|
  am_kc (ak_iload_n dX4_turn_92 rfl rfl) <|
  am_kc (ak_iload_n dX4_turn_93 rfl rfl) <|
  am_kc (ak_callV (C := RX4) (F := TX4) (N := 18) metX4_rateOf rfl ⟨rfl, by decide +kernel, by decide +kernel, by decide +kernel⟩ (am_w5 wd_585 wd_586 wd_587 wd_60 wd_588) (by decide) dX4_turn_94 rfl) <|
  am_kc (ak_callV (C := RX4) (F := TX4) (N := 18) metX4_grow rfl ⟨rfl, by decide +kernel, by decide +kernel, by decide +kernel⟩ (am_w5 wd_610 wd_612 wd_6 wd_60 wd_613) (by decide) dX4_turn_97 rfl) <|
  am_kc (ak_aload_n dX4_turn_100 rfl rfl) <|
  am_kc (ak_iload_n dX4_turn_101 rfl rfl) <|
  am_kc (ak_iload_n dX4_turn_102 rfl rfl) <|
  am_kc (ak_callV (C := RX4) (F := TX4) (N := 18) metX4_draw rfl ⟨rfl, by decide +kernel, by decide +kernel, by decide +kernel⟩ (am_w5 wd_616 wd_618 wd_7 wd_60 wd_619) (by decide) dX4_turn_103 rfl) <|
  am_kc (ak_iinc dX4_turn_106 (by decide +kernel) rfl) <|
  am_kc (ak_goto dX4_turn_109 (by decide +kernel)) <|
  am_kc (ak_aload_n dX4_turn_112 rfl rfl) <|
  am_kc (ak_iload_n dX4_turn_113 rfl rfl) <|
  am_kc (ak_callV (C := RX4) (F := TX4) (N := 18) metX4_lineUp rfl ⟨rfl, by decide +kernel, by decide +kernel, by decide +kernel⟩ (am_w5 wd_621 wd_623 wd_8 wd_60 wd_624) (by decide) dX4_turn_114 rfl) <|
  am_kc (ak_aload_n dX4_turn_117 rfl rfl) <|
  am_kc (ak_getJ (C := RX4) (T := TX4) (N := 18) rfl inX4w (by decide) rfl rfl rfl wd_309 dX4_turn_118 rfl) <|
  am_kc (ak_lconst dX4_turn_121 (by decide +kernel) rfl) <|
  am_kc (ak_lcmp dX4_turn_122 rfl) <|
  am_kc (ak_if_le dX4_turn_123 (by decide +kernel) rfl) <|
  am_kc (ak_aload_n dX4_turn_126 rfl rfl) <|
  am_kc (ak_callV (C := RX4) (F := TX4) (N := 18) metX4_payAhead rfl ⟨rfl, by decide +kernel, by decide +kernel, by decide +kernel⟩ (am_w5 wd_626 wd_628 wd_9 wd_60 wd_629) (by decide) dX4_turn_127 rfl) <|
  am_kc (ak_aload_n dX4_turn_130 rfl rfl) <|
  am_kc (ak_iload_n dX4_turn_131 rfl rfl) <|
  am_kc (ak_callV (C := RX4) (F := TX4) (N := 18) metX4_takeAll rfl ⟨rfl, by decide +kernel, by decide +kernel, by decide +kernel⟩ (am_w5 wd_630 wd_632 wd_10 wd_60 wd_633) (by decide) dX4_turn_132 rfl) <|
  am_kc (ak_retV dX4_turn_135) <| am_kn
def TX4_turn : am_T := fun live as M R => match as with
  | [.ref n, .int y] => am_mn live ∧ n = 4 ∧ am_in y 40 ∧ g_rI M ∧ ∀ M', g_sc M M' → g_rI M' → R none M'
  | _ => False
def JX4_turn : am_E → List Value → am_M → am_R → am_inv := fun live as M0 _ pc => match as with
  | [.ref n, .int y] => (match pc with
    | 2 => some ([0, 1, 2], fun k L st M => ∃ i : Int32, L = [(0, .ref 4), (1, .int y), (2, .int i)] ∧ st = [] ∧ k = ((31 - i.toInt).toNat, 0) ∧ 0 ≤ i.toInt ∧ g_sc M0 M ∧ g_rI M)
    | _ => none)
  | _ => none
set_option maxRecDepth 100000 in
set_option maxHeartbeats 4000000 in
theorem metX4_turn : am_Met yX4_turn cX4_turn 7 none (3) (76) TX4_turn := by
  refine am_met (own := RX4) (by decide +kernel) rfl kX4_turn koX4_turn 150 JX4_turn ?_ ?_
  · intro live as M Ret h
    unfold TX4_turn at h
    split at h
    · next n y =>
      refine ⟨Nat.le_of_ble_eq_true rfl, ?_⟩
      change am_wp _ _ _ _ [(0, Value.ref n), (1, Value.int y)] _ _
      obtain ⟨hmn, rfl, hy, hr, h⟩ := h
      repeat' (first | exact rfl | apply And.intro | intro hx | (refine Exists.intro _ (And.intro rfl ?_)))
      all_goals try first | (with_reducible change am_tI _ _) | (change Ret _ _) | (change Ret _ _ _) | (change Exists _)
      all_goals try dsimp only at *
      all_goals try exact absurd ‹(1000 : Int64) = 0› (by decide)
      exact ⟨_, _, rfl, rfl, rfl, by decide, g_sc.rf, hr⟩
    · exact h.elim
  · intro live as M0 Ret h k pc I hI L st M hi
    unfold TX4_turn at h
    split at h
    · next n y =>
      obtain ⟨hmn, rfl, hy, hr, h⟩ := h
      have hmn2 := hmn
      obtain ⟨i1, i2, rfl⟩ := hmn2
      change (match pc with | 2 => _ | _ => none) = _ at hI
      split at hI
      · cases hI
        obtain ⟨i, rfl, rfl, rfl, e1, e2, e3⟩ := hi
        by_cases hz : M.1 4 7 ≤ i
        · skip
          repeat' (first | exact rfl | (with_reducible exact hmn) | (with_reducible exact hy) | (with_reducible exact e3) | apply And.intro | (intro hx; with_reducible exact absurd hz hx) | ((with_reducible change g_rI _); (with_reducible assumption)) | intro hx | (refine Exists.intro _ (And.intro rfl ?_)))
          all_goals try first | (with_reducible change am_tI _ _) | (change Ret _ _) | (change Ret _ _ _) | (change Exists _)
          all_goals try dsimp only at *
          all_goals try exact absurd ‹(1000 : Int64) = 0› (by decide)
          all_goals exact h _ (by (repeat' (first | (with_reducible exact g_sc.rf) | (with_reducible assumption) | ((with_reducible change g_sc _ (am_wI _ _ _ _)); refine g_sc.wI ?_ rfl) | ((with_reducible change g_sc _ (am_wJ _ _ _ _)); refine g_sc.wJ ?_ rfl) | ((with_reducible change g_sc _ (am_cI _ _ _)); refine g_sc.cI ?_ rfl) | ((with_reducible change g_sc _ (am_cJ _ _ _)); refine g_sc.cJ ?_ rfl) | (refine g_sc.tr ?_ (by with_reducible assumption)) | (refine g_sc.st ?_ (by with_reducible assumption))))) (by (repeat' (first | (with_reducible assumption) | ((with_reducible change g_rI (am_wJ _ _ _ _)); refine g_rI.wJ ?_) | ((with_reducible change g_rI (am_cJ _ _ _)); refine g_rI.cJ ?_) | ((with_reducible change g_rI (am_wI _ 5 _ _)); refine g_rI.w5 ?_) | ((with_reducible change g_rI (am_wI _ _ _ _)); refine g_rI.wF ?_ rfl) | (refine g_rI.st ?_ (by with_reducible assumption)) | (refine g_rI.we ?_ (by with_reducible assumption)))))
        · have q := e3.s.sz
          have hz2 := hz
          simp only [i_le] at hz2
          have ha : am_in i 30 := ⟨e1, by omega⟩
          have hb := e3.s.mi (g_cl ha)
          have hp := e3.pln hb hy
          have hi := i_inc (x := i) (by omega) (by omega)
          have f0 := g_ix hb 0 0 rfl (by decide)
          have f60 := g_ix hb 60 60 rfl (by decide)
          have f120 := g_ix hb 120 120 rfl (by decide)
          have l6 : am_len 6 = 180 := rfl
          have l7 : am_len 7 = 30 := rfl
          repeat' (first | exact rfl | (with_reducible exact hmn) | (with_reducible exact hb) | (with_reducible exact hy) | (with_reducible exact hp) | apply And.intro | (intro hx; with_reducible exact absurd hx hz) | ((with_reducible change g_rI _); (with_reducible assumption)) | (intro hx; exact absurd hx (by decide)) | (intro hx; exact absurd (by decide) hx) | decide | intro hx | (refine Exists.intro _ (And.intro rfl ?_)))
          all_goals try first | (with_reducible change am_tI _ _) | (change Ret _ _) | (change Ret _ _ _) | (change Exists _)
          all_goals try dsimp only at *
          all_goals try exact absurd ‹(1000 : Int64) = 0› (by decide)
          all_goals first
            | omega
            | (rw [l7]; exact ha.2)
            | exact f0.1
            | (rw [l6]; exact f0.2.1)
            | exact f60.1
            | (rw [l6]; exact f60.2.1)
            | exact f120.1
            | (rw [l6]; exact f120.2.1)
            | (left; rfl)
            | (right; rfl)
            | exact ⟨_, am_lt_l (by omega), _, rfl, rfl, rfl, by omega, by (repeat' (first | (with_reducible exact g_sc.rf) | (with_reducible assumption) | ((with_reducible change g_sc _ (am_wI _ _ _ _)); refine g_sc.wI ?_ rfl) | ((with_reducible change g_sc _ (am_wJ _ _ _ _)); refine g_sc.wJ ?_ rfl) | ((with_reducible change g_sc _ (am_cI _ _ _)); refine g_sc.cI ?_ rfl) | ((with_reducible change g_sc _ (am_cJ _ _ _)); refine g_sc.cJ ?_ rfl) | (refine g_sc.tr ?_ (by with_reducible assumption)) | (refine g_sc.st ?_ (by with_reducible assumption)))), by (repeat' (first | (with_reducible assumption) | ((with_reducible change g_rI (am_wJ _ _ _ _)); refine g_rI.wJ ?_) | ((with_reducible change g_rI (am_cJ _ _ _)); refine g_rI.cJ ?_) | ((with_reducible change g_rI (am_wI _ 5 _ _)); refine g_rI.w5 ?_) | ((with_reducible change g_rI (am_wI _ _ _ _)); refine g_rI.wF ?_ rfl) | (refine g_rI.st ?_ (by with_reducible assumption)) | (refine g_rI.we ?_ (by with_reducible assumption))))⟩
            | (change g_rI _; (repeat' (first | (with_reducible assumption) | ((with_reducible change g_rI (am_wJ _ _ _ _)); refine g_rI.wJ ?_) | ((with_reducible change g_rI (am_cJ _ _ _)); refine g_rI.cJ ?_) | ((with_reducible change g_rI (am_wI _ 5 _ _)); refine g_rI.w5 ?_) | ((with_reducible change g_rI (am_wI _ _ _ _)); refine g_rI.wF ?_ rfl) | (refine g_rI.st ?_ (by with_reducible assumption)) | (refine g_rI.we ?_ (by with_reducible assumption)))))
            | skip
      · cases hI
    · exact h.elim
end
section
/-! Run: what is safe of it, IV -/
theorem wd_306 : Cond.fieldLink "LearnLoans$Run" 49 "LearnLoans$Run" "nextYea\x72" "I" ∈ am_ws := am_wsi (List.mem_of_getElem? (i := 306) (by decide +kernel)) (by decide +kernel)
theorem wd_556 : Cond.methodLink "LearnLoans$Run" 87 yX4_look ∈ am_ws := am_wsi (List.mem_of_getElem? (i := 556) (by decide +kernel)) (by decide +kernel)
theorem wd_557 : Cond.instanceMethod yX4_look ∈ am_ws := am_wsi (List.mem_of_getElem? (i := 557) (by decide +kernel)) (by decide +kernel)
theorem wd_558 : Cond.selects "LearnLoans$Run" yX4_look yX4_look ∈ am_ws := am_wsi (List.mem_of_getElem? (i := 558) (by decide +kernel)) (by decide +kernel)
theorem wd_559 : Cond.code yX4_look cX4_look 2 none ∈ am_ws := am_wsi (List.mem_of_getElem? (i := 559) (by decide +kernel)) (by decide +kernel)
theorem wd_569 : Cond.methodLink "LearnLoans$Run" 90 yX4_turn ∈ am_ws := am_wsi (List.mem_of_getElem? (i := 569) (by decide +kernel)) (by decide +kernel)
theorem wd_570 : Cond.instanceMethod yX4_turn ∈ am_ws := am_wsi (List.mem_of_getElem? (i := 570) (by decide +kernel)) (by decide +kernel)
theorem wd_571 : Cond.selects "LearnLoans$Run" yX4_turn yX4_turn ∈ am_ws := am_wsi (List.mem_of_getElem? (i := 571) (by decide +kernel)) (by decide +kernel)
theorem wd_572 : Cond.code yX4_turn cX4_turn 7 none ∈ am_ws := am_wsi (List.mem_of_getElem? (i := 572) (by decide +kernel)) (by decide +kernel)
theorem dX4_go_0 : decode cX4_go 0 = .ok (.aload_n 0, 1) := by decide +kernel
theorem dX4_go_1 : decode cX4_go 1 = .ok (.getfield 49, 3) := by decide +kernel
theorem dX4_go_4 : decode cX4_go 4 = .ok (.istore_n 2, 1) := by decide +kernel
theorem dX4_go_5 : decode cX4_go 5 = .ok (.iload_n 2, 1) := by decide +kernel
theorem dX4_go_6 : decode cX4_go 6 = .ok (.iload_n 1, 1) := by decide +kernel
theorem dX4_go_7 : decode cX4_go 7 = .ok (.if_icmp .gt 32, 3) := by decide +kernel
theorem dX4_go_10 : decode cX4_go 10 = .ok (.iload_n 2, 1) := by decide +kernel
theorem dX4_go_11 : decode cX4_go 11 = .ok (.bipush 40, 2) := by decide +kernel
theorem dX4_go_13 : decode cX4_go 13 = .ok (.if_icmp .ge 26, 3) := by decide +kernel
theorem dX4_go_16 : decode cX4_go 16 = .ok (.aload_n 0, 1) := by decide +kernel
theorem dX4_go_17 : decode cX4_go 17 = .ok (.iload_n 2, 1) := by decide +kernel
theorem dX4_go_18 : decode cX4_go 18 = .ok (.invokevirtual 87, 3) := by decide +kernel
theorem dX4_go_21 : decode cX4_go 21 = .ok (.aload_n 0, 1) := by decide +kernel
theorem dX4_go_22 : decode cX4_go 22 = .ok (.iload_n 2, 1) := by decide +kernel
theorem dX4_go_23 : decode cX4_go 23 = .ok (.invokevirtual 90, 3) := by decide +kernel
theorem dX4_go_26 : decode cX4_go 26 = .ok (.aload_n 0, 1) := by decide +kernel
theorem dX4_go_27 : decode cX4_go 27 = .ok (.iload_n 2, 1) := by decide +kernel
theorem dX4_go_28 : decode cX4_go 28 = .ok (.iconst 1, 1) := by decide +kernel
theorem dX4_go_29 : decode cX4_go 29 = .ok (.iadd, 1) := by decide +kernel
theorem dX4_go_30 : decode cX4_go 30 = .ok (.putfield 49, 3) := by decide +kernel
theorem dX4_go_33 : decode cX4_go 33 = .ok (.iinc 2 1, 3) := by decide +kernel
theorem dX4_go_36 : decode cX4_go 36 = .ok (.goto (-31), 3) := by decide +kernel
theorem dX4_go_39 : decode cX4_go 39 = .ok (.return_, 1) := by decide +kernel
def kX4_go (live : am_E) (Ret : am_R) : am_code := [(0, am_aload 0 1), (1, am_getI live 4 10 4), (4, am_istore 2 3 5), (5, am_iload 2 6), (6, am_iload 1 7), (7, am_if2 (fun x y => y < x) 39 10), (10, am_iload 2 11), (11, am_const (.int 40) 13), (13, am_if2 (fun x y => y ≤ x) 39 16), (16, am_aload 0 17), (17, am_iload 2 18), (18, am_callV live 4 1 TX4_look 21), (21, am_aload 0 22), (22, am_iload 2 23), (23, am_callV live 4 1 TX4_turn 26), (26, am_aload 0 27), (27, am_iload 2 28), (28, am_const (.int 1) 29), (29, am_i2 (fun x y => x + y) 30), (30, am_putI live 4 10 33), (33, am_iinc 2 3 1 36), (36, am_goto 5), (39, am_retV Ret)]
theorem koX4_go (live : am_E) (Ret : am_R) : ∀ q ∈ kX4_go live Ret, am_ok RX4 cX4_go 3 none 4 102 live Ret q.1 q.2 :=
  am_kc (ak_aload_n dX4_go_0 rfl rfl) <|
  am_kc (ak_getI (C := RX4) (T := TX4) (N := 18) rfl inX4w (by decide) rfl rfl rfl wd_306 dX4_go_1 rfl) <|
  am_kc (ak_istore_n dX4_go_4 rfl rfl) <|
  am_kc (ak_iload_n dX4_go_5 rfl rfl) <|
  am_kc (ak_iload_n dX4_go_6 rfl rfl) <|
  am_kc (ak_icmp_gt dX4_go_7 (by decide +kernel) rfl) <|
  am_kc (ak_iload_n dX4_go_10 rfl rfl) <|
  am_kc (ak_bipush dX4_go_11 (by decide +kernel) rfl) <|
  am_kc (ak_icmp_ge dX4_go_13 (by decide +kernel) rfl) <|
  am_kc (ak_aload_n dX4_go_16 rfl rfl) <|
  am_kc (ak_iload_n dX4_go_17 rfl rfl) <|
  am_kc (ak_callV (C := RX4) (F := TX4) (N := 18) metX4_look rfl ⟨rfl, by decide +kernel, by decide +kernel, by decide +kernel⟩ (am_w5 wd_556 wd_557 wd_558 wd_60 wd_559) (by decide) dX4_go_18 rfl) <|
  am_kc (ak_aload_n dX4_go_21 rfl rfl) <|
  am_kc (ak_iload_n dX4_go_22 rfl rfl) <|
  am_kc (ak_callV (C := RX4) (F := TX4) (N := 18) metX4_turn rfl ⟨rfl, by decide +kernel, by decide +kernel, by decide +kernel⟩ (am_w5 wd_569 wd_570 wd_571 wd_60 wd_572) (by decide) dX4_go_23 rfl) <|
  am_kc (ak_aload_n dX4_go_26 rfl rfl) <|
  am_kc (ak_iload_n dX4_go_27 rfl rfl) <|
  am_kc (ak_iconst dX4_go_28 (by decide +kernel) rfl) <|
  am_kc (ak_iadd dX4_go_29 rfl) <|
  am_kc (ak_putI (C := RX4) (T := TX4) (N := 18) rfl inX4w tyX4_ok nmX4 (by decide) rfl rfl rfl rfl (by decide +kernel) wd_306 dX4_go_30 rfl) <|
  am_kc (ak_iinc dX4_go_33 (by decide +kernel) rfl) <|
  am_kc (ak_goto dX4_go_36 (by decide +kernel)) <|
  am_kc (ak_retV dX4_go_39) <| am_kn
def TX4_go : am_T := fun live as M R => match as with
  | [.ref n, .int u] => am_mn live ∧ n = 4 ∧ g_rI M ∧ ∀ M', g_sc M M' → g_rI M' → R none M'
  | _ => False
def JX4_go : am_E → List Value → am_M → am_R → am_inv := fun live as M0 _ pc => match as with
  | [.ref n, .int u] => (match pc with
    | 5 => some ([0, 1, 2], fun k L st M => ∃ y : Int32, L = [(0, .ref 4), (1, .int u), (2, .int y)] ∧ st = [] ∧ k = ((41 - y.toInt).toNat, 0) ∧ 0 ≤ y.toInt ∧ g_sc M0 M ∧ g_rI M)
    | _ => none)
  | _ => none
set_option maxRecDepth 100000 in
set_option maxHeartbeats 4000000 in
theorem metX4_go : am_Met yX4_go cX4_go 3 none (4) (102) TX4_go := by
  refine am_met (own := RX4) (by decide +kernel) rfl kX4_go koX4_go 100 JX4_go ?_ ?_
  · intro live as M Ret h
    unfold TX4_go at h
    split at h
    · next n u =>
      refine ⟨Nat.le_of_ble_eq_true rfl, ?_⟩
      change am_wp _ _ _ _ [(0, Value.ref n), (1, Value.int u)] _ _
      obtain ⟨hmn, rfl, hr, h⟩ := h
      have hmn2 := hmn
      obtain ⟨i1, i2, rfl⟩ := hmn2
      repeat' (first | exact rfl | (with_reducible exact hmn) | apply And.intro | intro hx | (refine Exists.intro _ (And.intro rfl ?_)))
      all_goals try first | (with_reducible change am_tI _ _) | (change Ret _ _) | (change Ret _ _ _) | (change Exists _)
      all_goals try dsimp only at *
      all_goals try exact absurd ‹(1000 : Int64) = 0› (by decide)
      exact ⟨_, _, rfl, rfl, rfl, hr.s.ny, g_sc.rf, hr⟩
    · exact h.elim
  · intro live as M0 Ret h k pc I hI L st M hi
    unfold TX4_go at h
    split at h
    · next n u =>
      obtain ⟨hmn, rfl, hr, h⟩ := h
      have hmn2 := hmn
      obtain ⟨i1, i2, rfl⟩ := hmn2
      change (match pc with | 5 => _ | _ => none) = _ at hI
      split at hI
      · cases hI
        obtain ⟨y, rfl, rfl, rfl, e1, e2, e3⟩ := hi
        by_cases hz : (40 : Int32) ≤ y
        · skip
          repeat' (first | exact rfl | apply And.intro | (intro hx; with_reducible exact absurd hz hx) | intro hx | (refine Exists.intro _ (And.intro rfl ?_)))
          all_goals try first | (with_reducible change am_tI _ _) | (change Ret _ _) | (change Ret _ _ _) | (change Exists _)
          all_goals try dsimp only at *
          all_goals try exact absurd ‹(1000 : Int64) = 0› (by decide)
          all_goals exact h _ e2 e3
        · have hz2 := hz
          simp only [i_le, Int32.reduceToInt] at hz2
          have hy : am_in y 40 := ⟨e1, by omega⟩
          have hi := i_inc (x := y) (by omega) (by omega)
          repeat' (first | exact rfl | (with_reducible exact hmn) | (with_reducible exact hy) | (with_reducible exact e3) | apply And.intro | (intro hx; with_reducible exact absurd hx hz) | ((with_reducible change g_rI _); (with_reducible assumption)) | intro hx | (refine Exists.intro _ (And.intro rfl ?_)))
          all_goals try first | (with_reducible change am_tI _ _) | (change Ret _ _) | (change Ret _ _ _) | (change Exists _)
          all_goals try dsimp only at *
          all_goals try exact absurd ‹(1000 : Int64) = 0› (by decide)
          · exact h _ e2 e3
          · exact ⟨_, am_lt_l (by omega), _, rfl, rfl, rfl, by omega, by (repeat' (first | (with_reducible exact g_sc.rf) | (with_reducible assumption) | ((with_reducible change g_sc _ (am_wI _ _ _ _)); refine g_sc.wI ?_ rfl) | ((with_reducible change g_sc _ (am_wJ _ _ _ _)); refine g_sc.wJ ?_ rfl) | ((with_reducible change g_sc _ (am_cI _ _ _)); refine g_sc.cI ?_ rfl) | ((with_reducible change g_sc _ (am_cJ _ _ _)); refine g_sc.cJ ?_ rfl) | (refine g_sc.tr ?_ (by with_reducible assumption)) | (refine g_sc.st ?_ (by with_reducible assumption)))), g_rI.w410 hx (by omega)⟩
      · cases hI
    · exact h.elim
theorem wd_547 : Cond.methodLink "LearnLoans$Run" 52 yX4_turnTo ∈ am_ws := am_wsi (List.mem_of_getElem? (i := 547) (by decide +kernel)) (by decide +kernel)
theorem wd_548 : Cond.instanceMethod yX4_turnTo ∈ am_ws := am_wsi (List.mem_of_getElem? (i := 548) (by decide +kernel)) (by decide +kernel)
theorem wd_549 : Cond.selects "LearnLoans$Run" yX4_turnTo yX4_turnTo ∈ am_ws := am_wsi (List.mem_of_getElem? (i := 549) (by decide +kernel)) (by decide +kernel)
theorem wd_550 : Cond.code yX4_turnTo cX4_turnTo 5 none ∈ am_ws := am_wsi (List.mem_of_getElem? (i := 550) (by decide +kernel)) (by decide +kernel)
theorem wd_551 : Cond.methodLink "LearnLoans$Run" 70 yX4_layNumbers ∈ am_ws := am_wsi (List.mem_of_getElem? (i := 551) (by decide +kernel)) (by decide +kernel)
theorem wd_491 : Cond.instanceMethod yX4_layNumbers ∈ am_ws := am_wsi (List.mem_of_getElem? (i := 491) (by decide +kernel)) (by decide +kernel)
theorem wd_492 : Cond.selects "LearnLoans$Run" yX4_layNumbers yX4_layNumbers ∈ am_ws := am_wsi (List.mem_of_getElem? (i := 492) (by decide +kernel)) (by decide +kernel)
theorem wd_493 : Cond.code yX4_layNumbers cX4_layNumbers 5 none ∈ am_ws := am_wsi (List.mem_of_getElem? (i := 493) (by decide +kernel)) (by decide +kernel)
theorem dX4_begin_0 : decode cX4_begin 0 = .ok (.aload_n 0, 1) := by decide +kernel
theorem dX4_begin_1 : decode cX4_begin 1 = .ok (.iload_n 1, 1) := by decide +kernel
theorem dX4_begin_2 : decode cX4_begin 2 = .ok (.putfield 42, 3) := by decide +kernel
theorem dX4_begin_5 : decode cX4_begin 5 = .ok (.aload_n 0, 1) := by decide +kernel
theorem dX4_begin_6 : decode cX4_begin 6 = .ok (.iload_n 2, 1) := by decide +kernel
theorem dX4_begin_7 : decode cX4_begin 7 = .ok (.putfield 46, 3) := by decide +kernel
theorem dX4_begin_10 : decode cX4_begin 10 = .ok (.aload_n 0, 1) := by decide +kernel
theorem dX4_begin_11 : decode cX4_begin 11 = .ok (.iconst 0, 1) := by decide +kernel
theorem dX4_begin_12 : decode cX4_begin 12 = .ok (.putfield 49, 3) := by decide +kernel
theorem dX4_begin_15 : decode cX4_begin 15 = .ok (.aload_n 0, 1) := by decide +kernel
theorem dX4_begin_16 : decode cX4_begin 16 = .ok (.iconst (-1), 1) := by decide +kernel
theorem dX4_begin_17 : decode cX4_begin 17 = .ok (.iconst (-1), 1) := by decide +kernel
theorem dX4_begin_18 : decode cX4_begin 18 = .ok (.lconst 0, 1) := by decide +kernel
theorem dX4_begin_19 : decode cX4_begin 19 = .ok (.invokevirtual 52, 3) := by decide +kernel
theorem dX4_begin_22 : decode cX4_begin 22 = .ok (.aload_n 0, 1) := by decide +kernel
theorem dX4_begin_23 : decode cX4_begin 23 = .ok (.iconst 0, 1) := by decide +kernel
theorem dX4_begin_24 : decode cX4_begin 24 = .ok (.putfield 56, 3) := by decide +kernel
theorem dX4_begin_27 : decode cX4_begin 27 = .ok (.iconst 0, 1) := by decide +kernel
theorem dX4_begin_28 : decode cX4_begin 28 = .ok (.istore_n 3, 1) := by decide +kernel
theorem dX4_begin_29 : decode cX4_begin 29 = .ok (.iload_n 3, 1) := by decide +kernel
theorem dX4_begin_30 : decode cX4_begin 30 = .ok (.aload_n 0, 1) := by decide +kernel
theorem dX4_begin_31 : decode cX4_begin 31 = .ok (.getfield 12, 3) := by decide +kernel
theorem dX4_begin_34 : decode cX4_begin 34 = .ok (.getfield 59, 3) := by decide +kernel
theorem dX4_begin_37 : decode cX4_begin 37 = .ok (.getfield 63, 3) := by decide +kernel
theorem dX4_begin_40 : decode cX4_begin 40 = .ok (.if_icmp .ge 80, 3) := by decide +kernel
theorem dX4_begin_43 : decode cX4_begin 43 = .ok (.iload_n 3, 1) := by decide +kernel
theorem dX4_begin_44 : decode cX4_begin 44 = .ok (.bipush 30, 2) := by decide +kernel
theorem dX4_begin_46 : decode cX4_begin 46 = .ok (.if_icmp .ge 74, 3) := by decide +kernel
theorem dX4_begin_49 : decode cX4_begin 49 = .ok (.aload_n 0, 1) := by decide +kernel
theorem dX4_begin_50 : decode cX4_begin 50 = .ok (.getfield 12, 3) := by decide +kernel
theorem dX4_begin_53 : decode cX4_begin 53 = .ok (.getfield 59, 3) := by decide +kernel
theorem dX4_begin_56 : decode cX4_begin 56 = .ok (.iload_n 3, 1) := by decide +kernel
theorem dX4_begin_57 : decode cX4_begin 57 = .ok (.iconst 0, 1) := by decide +kernel
theorem dX4_begin_58 : decode cX4_begin 58 = .ok (.invokevirtual 66, 3) := by decide +kernel
theorem dX4_begin_61 : decode cX4_begin 61 = .ok (.iload_n 1, 1) := by decide +kernel
theorem dX4_begin_62 : decode cX4_begin 62 = .ok (.if_icmp .ne 52, 3) := by decide +kernel
theorem dX4_begin_65 : decode cX4_begin 65 = .ok (.aload_n 0, 1) := by decide +kernel
theorem dX4_begin_66 : decode cX4_begin 66 = .ok (.getfield 26, 3) := by decide +kernel
theorem dX4_begin_69 : decode cX4_begin 69 = .ok (.aload_n 0, 1) := by decide +kernel
theorem dX4_begin_70 : decode cX4_begin 70 = .ok (.getfield 56, 3) := by decide +kernel
theorem dX4_begin_73 : decode cX4_begin 73 = .ok (.iload_n 3, 1) := by decide +kernel
theorem dX4_begin_74 : decode cX4_begin 74 = .ok (.iastore, 1) := by decide +kernel
theorem dX4_begin_75 : decode cX4_begin 75 = .ok (.aload_n 0, 1) := by decide +kernel
theorem dX4_begin_76 : decode cX4_begin 76 = .ok (.dup, 1) := by decide +kernel
theorem dX4_begin_77 : decode cX4_begin 77 = .ok (.getfield 56, 3) := by decide +kernel
theorem dX4_begin_80 : decode cX4_begin 80 = .ok (.iconst 1, 1) := by decide +kernel
theorem dX4_begin_81 : decode cX4_begin 81 = .ok (.iadd, 1) := by decide +kernel
theorem dX4_begin_82 : decode cX4_begin 82 = .ok (.putfield 56, 3) := by decide +kernel
theorem dX4_begin_85 : decode cX4_begin 85 = .ok (.iconst 0, 1) := by decide +kernel
theorem dX4_begin_86 : decode cX4_begin 86 = .ok (.istore 4, 2) := by decide +kernel
theorem dX4_begin_88 : decode cX4_begin 88 = .ok (.iload 4, 2) := by decide +kernel
theorem dX4_begin_90 : decode cX4_begin 90 = .ok (.bipush 6, 2) := by decide +kernel
theorem dX4_begin_92 : decode cX4_begin 92 = .ok (.if_icmp .ge 22, 3) := by decide +kernel
theorem dX4_begin_95 : decode cX4_begin 95 = .ok (.aload_n 0, 1) := by decide +kernel
theorem dX4_begin_96 : decode cX4_begin 96 = .ok (.getfield 22, 3) := by decide +kernel
theorem dX4_begin_99 : decode cX4_begin 99 = .ok (.iload 4, 2) := by decide +kernel
theorem dX4_begin_101 : decode cX4_begin 101 = .ok (.bipush 30, 2) := by decide +kernel
theorem dX4_begin_103 : decode cX4_begin 103 = .ok (.imul, 1) := by decide +kernel
theorem dX4_begin_104 : decode cX4_begin 104 = .ok (.iload_n 3, 1) := by decide +kernel
theorem dX4_begin_105 : decode cX4_begin 105 = .ok (.iadd, 1) := by decide +kernel
theorem dX4_begin_106 : decode cX4_begin 106 = .ok (.lconst 0, 1) := by decide +kernel
theorem dX4_begin_107 : decode cX4_begin 107 = .ok (.lastore, 1) := by decide +kernel
theorem dX4_begin_108 : decode cX4_begin 108 = .ok (.iinc 4 1, 3) := by decide +kernel
theorem dX4_begin_111 : decode cX4_begin 111 = .ok (.goto (-23), 3) := by decide +kernel
theorem dX4_begin_114 : decode cX4_begin 114 = .ok (.iinc 3 1, 3) := by decide +kernel
theorem dX4_begin_117 : decode cX4_begin 117 = .ok (.goto (-88), 3) := by decide +kernel
theorem dX4_begin_120 : decode cX4_begin 120 = .ok (.aload_n 0, 1) := by decide +kernel
theorem dX4_begin_121 : decode cX4_begin 121 = .ok (.getfield 56, 3) := by decide +kernel
theorem dX4_begin_124 : decode cX4_begin 124 = .ok (.ifCond .le 8, 3) := by decide +kernel
theorem dX4_begin_127 : decode cX4_begin 127 = .ok (.aload_n 0, 1) := by decide +kernel
theorem dX4_begin_128 : decode cX4_begin 128 = .ok (.iload_n 1, 1) := by decide +kernel
theorem dX4_begin_129 : decode cX4_begin 129 = .ok (.invokevirtual 70, 3) := by decide +kernel
theorem dX4_begin_132 : decode cX4_begin 132 = .ok (.return_, 1) := by decide +kernel
def kX4_begin (live : am_E) (Ret : am_R) : am_code := [(0, am_aload 0 1), (1, am_iload 1 2), (2, am_putI live 4 8 5), (5, am_aload 0 6), (6, am_iload 2 7), (7, am_putI live 4 9 10), (10, am_aload 0 11), (11, am_const (.int 0) 12), (12, am_putI live 4 10 15), (15, am_aload 0 16), (16, am_const (.int (-1)) 17), (17, am_const (.int (-1)) 18), (18, am_const (.long 0) 19), (19, am_callV live 4 3 TX4_turnTo 22), (22, am_aload 0 23), (23, am_const (.int 0) 24), (24, am_putI live 4 7 27), (27, am_const (.int 0) 28), (28, am_istore 3 5 29), (29, am_iload 3 30), (30, am_aload 0 31), (31, am_getR live 4 0 34), (34, am_getR live 0 4 37), (37, am_getI live 3 2 40), (40, am_if2 (fun x y => y ≤ x) 120 43), (43, am_iload 3 44), (44, am_const (.int 30) 46), (46, am_if2 (fun x y => y ≤ x) 120 49), (49, am_aload 0 50), (50, am_getR live 4 0 53), (53, am_getR live 0 4 56), (56, am_iload 3 57), (57, am_const (.int 0) 58), (58, am_callV live 3 2 TX3_at 61), (61, am_iload 1 62), (62, am_if2 (fun x y => x = y) 65 114), (65, am_aload 0 66), (66, am_getR live 4 3 69), (69, am_aload 0 70), (70, am_getI live 4 7 73), (73, am_iload 3 74), (74, am_ast live 0 75), (75, am_aload 0 76), (76, am_dup 77), (77, am_getI live 4 7 80), (80, am_const (.int 1) 81), (81, am_i2 (fun x y => x + y) 82), (82, am_putI live 4 7 85), (85, am_const (.int 0) 86), (86, am_istore 4 5 88), (88, am_iload 4 90), (90, am_const (.int 6) 92), (92, am_if2 (fun x y => y ≤ x) 114 95), (95, am_aload 0 96), (96, am_getR live 4 2 99), (99, am_iload 4 101), (101, am_const (.int 30) 103), (103, am_i2 (fun x y => x * y) 104), (104, am_iload 3 105), (105, am_i2 (fun x y => x + y) 106), (106, am_const (.long 0) 107), (107, am_last live 1 108), (108, am_iinc 4 5 1 111), (111, am_goto 88), (114, am_iinc 3 5 1 117), (117, am_goto 29), (120, am_aload 0 121), (121, am_getI live 4 7 124), (124, am_if1 (fun x => x ≤ 0) 132 127), (127, am_aload 0 128), (128, am_iload 1 129), (129, am_callV live 4 1 TX4_layNumbers 132), (132, am_retV Ret)]
theorem koX4_begin (live : am_E) (Ret : am_R) : ∀ q ∈ kX4_begin live Ret, am_ok RX4 cX4_begin 5 none 3 72 live Ret q.1 q.2 :=
  am_kc (ak_aload_n dX4_begin_0 rfl rfl) <|
  am_kc (ak_iload_n dX4_begin_1 rfl rfl) <|
  am_kc (ak_putI (C := RX4) (T := TX4) (N := 18) rfl inX4w tyX4_ok nmX4 (by decide) rfl rfl rfl rfl (by decide +kernel) wd_304 dX4_begin_2 rfl) <|
  am_kc (ak_aload_n dX4_begin_5 rfl rfl) <|
  am_kc (ak_iload_n dX4_begin_6 rfl rfl) <|
  am_kc (ak_putI (C := RX4) (T := TX4) (N := 18) rfl inX4w tyX4_ok nmX4 (by decide) rfl rfl rfl rfl (by decide +kernel) wd_305 dX4_begin_7 rfl) <|
  am_kc (ak_aload_n dX4_begin_10 rfl rfl) <|
  am_kc (ak_iconst dX4_begin_11 (by decide +kernel) rfl) <|
  am_kc (ak_putI (C := RX4) (T := TX4) (N := 18) rfl inX4w tyX4_ok nmX4 (by decide) rfl rfl rfl rfl (by decide +kernel) wd_306 dX4_begin_12 rfl) <|
  am_kc (ak_aload_n dX4_begin_15 rfl rfl) <|
  am_kc (ak_iconst dX4_begin_16 (by decide +kernel) rfl) <|
  am_kc (ak_iconst dX4_begin_17 (by decide +kernel) rfl) <|
  am_kc (ak_lconst dX4_begin_18 (by decide +kernel) rfl) <|
  am_kc (ak_callV (C := RX4) (F := TX4) (N := 18) metX4_turnTo rfl ⟨rfl, by decide +kernel, by decide +kernel, by decide +kernel⟩ (am_w5 wd_547 wd_548 wd_549 wd_60 wd_550) (by decide) dX4_begin_19 rfl) <|
  am_kc (ak_aload_n dX4_begin_22 rfl rfl) <|
  am_kc (ak_iconst dX4_begin_23 (by decide +kernel) rfl) <|
  am_kc (ak_putI (C := RX4) (T := TX4) (N := 18) rfl inX4w tyX4_ok nmX4 (by decide) rfl rfl rfl rfl (by decide +kernel) wd_303 dX4_begin_24 rfl) <|
  am_kc (ak_iconst dX4_begin_27 (by decide +kernel) rfl) <|
  am_kc (ak_istore_n dX4_begin_28 rfl rfl) <|
  am_kc (ak_iload_n dX4_begin_29 rfl rfl) <|
  am_kc (ak_aload_n dX4_begin_30 rfl rfl) <|
  am_kc (ak_getR (C := RX4) (T := TX4) (N := 18) rfl inX4w (by decide) rfl rfl rfl wd_291 dX4_begin_31 rfl) <|
  am_kc (ak_getR (C := RX0) (T := TX0) (N := 13) rfl inX0w (by decide) rfl rfl rfl wd_206 dX4_begin_34 rfl) <|
  am_kc (ak_getI (C := RX3) (T := TX3) (N := 3) rfl inX3w (by decide) rfl rfl rfl wd_149 dX4_begin_37 rfl) <|
  am_kc (ak_icmp_ge dX4_begin_40 (by decide +kernel) rfl) <|
  am_kc (ak_iload_n dX4_begin_43 rfl rfl) <|
  am_kc (ak_bipush dX4_begin_44 (by decide +kernel) rfl) <|
  am_kc (ak_icmp_ge dX4_begin_46 (by decide +kernel) rfl) <|
  am_kc (ak_aload_n dX4_begin_49 rfl rfl) <|
  am_kc (ak_getR (C := RX4) (T := TX4) (N := 18) rfl inX4w (by decide) rfl rfl rfl wd_291 dX4_begin_50 rfl) <|
  am_kc (ak_getR (C := RX0) (T := TX0) (N := 13) rfl inX0w (by decide) rfl rfl rfl wd_206 dX4_begin_53 rfl) <|
  am_kc (ak_iload_n dX4_begin_56 rfl rfl) <|
  am_kc (ak_iconst dX4_begin_57 (by decide +kernel) rfl) <|
  am_kc (ak_callV (C := RX3) (F := TX3) (N := 3) metX3_at rfl ⟨rfl, by decide +kernel, by decide +kernel, by decide +kernel⟩ (am_w5 wd_499 wd_500 wd_501 wd_64 wd_502) (by decide) dX4_begin_58 rfl) <|
  am_kc (ak_iload_n dX4_begin_61 rfl rfl) <|
  am_kc (ak_icmp_ne dX4_begin_62 (by decide +kernel) rfl) <|
  am_kc (ak_aload_n dX4_begin_65 rfl rfl) <|
  am_kc (ak_getR (C := RX4) (T := TX4) (N := 18) rfl inX4w (by decide) rfl rfl rfl wd_299 dX4_begin_66 rfl) <|
  am_kc (ak_aload_n dX4_begin_69 rfl rfl) <|
  am_kc (ak_getI (C := RX4) (T := TX4) (N := 18) rfl inX4w (by decide) rfl rfl rfl wd_303 dX4_begin_70 rfl) <|
  am_kc (ak_iload_n dX4_begin_73 rfl rfl) <|
  am_kc (ak_iast (t := 0) (fun _ => rfl) rfl dX4_begin_74 rfl) <|
  am_kc (ak_aload_n dX4_begin_75 rfl rfl) <|
  am_kc (ak_dup dX4_begin_76 rfl) <|
  am_kc (ak_getI (C := RX4) (T := TX4) (N := 18) rfl inX4w (by decide) rfl rfl rfl wd_303 dX4_begin_77 rfl) <|
  am_kc (ak_iconst dX4_begin_80 (by decide +kernel) rfl) <|
  am_kc (ak_iadd dX4_begin_81 rfl) <|
  am_kc (ak_putI (C := RX4) (T := TX4) (N := 18) rfl inX4w tyX4_ok nmX4 (by decide) rfl rfl rfl rfl (by decide +kernel) wd_303 dX4_begin_82 rfl) <|
  am_kc (ak_iconst dX4_begin_85 (by decide +kernel) rfl) <|
  am_kc (ak_istore dX4_begin_86 rfl) <|
  am_kc (ak_iload dX4_begin_88 rfl) <|
  am_kc (ak_bipush dX4_begin_90 (by decide +kernel) rfl) <|
  am_kc (ak_icmp_ge dX4_begin_92 (by decide +kernel) rfl) <|
  am_kc (ak_aload_n dX4_begin_95 rfl rfl) <|
  am_kc (ak_getR (C := RX4) (T := TX4) (N := 18) rfl inX4w (by decide) rfl rfl rfl wd_296 dX4_begin_96 rfl) <|
  am_kc (ak_iload dX4_begin_99 rfl) <|
  am_kc (ak_bipush dX4_begin_101 (by decide +kernel) rfl) <|
  am_kc (ak_imul dX4_begin_103 rfl) <|
  am_kc (ak_iload_n dX4_begin_104 rfl rfl) <|
  am_kc (ak_iadd dX4_begin_105 rfl) <|
  am_kc (ak_lconst dX4_begin_106 (by decide +kernel) rfl) <|
  am_kc (ak_last (t := 1) (fun _ => rfl) rfl dX4_begin_107 rfl) <|
  am_kc (ak_iinc dX4_begin_108 (by decide +kernel) rfl) <|
  am_kc (ak_goto dX4_begin_111 (by decide +kernel)) <|
  am_kc (ak_iinc dX4_begin_114 (by decide +kernel) rfl) <|
  am_kc (ak_goto dX4_begin_117 (by decide +kernel)) <|
  am_kc (ak_aload_n dX4_begin_120 rfl rfl) <|
  am_kc (ak_getI (C := RX4) (T := TX4) (N := 18) rfl inX4w (by decide) rfl rfl rfl wd_303 dX4_begin_121 rfl) <|
  am_kc (ak_if_le dX4_begin_124 (by decide +kernel) rfl) <|
  am_kc (ak_aload_n dX4_begin_127 rfl rfl) <|
  am_kc (ak_iload_n dX4_begin_128 rfl rfl) <|
  am_kc (ak_callV (C := RX4) (F := TX4) (N := 18) metX4_layNumbers rfl ⟨rfl, by decide +kernel, by decide +kernel, by decide +kernel⟩ (am_w5 wd_551 wd_491 wd_492 wd_60 wd_493) (by decide) dX4_begin_129 rfl) <|
  am_kc (ak_retV dX4_begin_132) <| am_kn
def TX4_begin : am_T := fun live as M R => match as with
  | [.ref n, .int p, .int w] => am_mn live ∧ n = 4 ∧ am_in p 12 ∧ g_rI M ∧ ∀ M', g_sc M M' → g_rI M' → R none M'
  | _ => False
def JX4_begin : am_E → List Value → am_M → am_R → am_inv := fun live as M0 _ pc => match as with
  | [.ref n, .int p, .int w] => (match pc with
    | 29 => some ([0, 1, 3], fun k L st M => ∃ l : Int32, L = [(0, .ref 4), (1, .int p), (3, .int l)] ∧ st = [] ∧ k = ((31 - l.toInt).toNat * 2, 0) ∧ 0 ≤ l.toInt ∧ (M.1 4 7).toInt ≤ l.toInt ∧ g_sc M0 M ∧ g_rI M)
    | 88 => some ([0, 1, 3, 4], fun k L st M => ∃ l o : Int32, L = [(0, .ref 4), (1, .int p), (3, .int l), (4, .int o)] ∧ st = [] ∧ k = ((31 - l.toInt).toNat * 2 - 1, (6 - o.toInt).toNat) ∧ (0 ≤ l.toInt ∧ l.toInt < 30) ∧ (M.1 4 7).toInt ≤ l.toInt + 1 ∧ 0 ≤ o.toInt ∧ g_sc M0 M ∧ g_rI M)
    | _ => none)
  | _ => none
set_option maxRecDepth 100000 in
set_option maxHeartbeats 4000000 in
theorem metX4_begin : am_Met yX4_begin cX4_begin 5 none (3) (72) TX4_begin := by
  refine am_met (own := RX4) (by decide +kernel) rfl kX4_begin koX4_begin 150 JX4_begin ?_ ?_
  · intro live as M Ret h
    unfold TX4_begin at h
    split at h
    · next n p w =>
      refine ⟨Nat.le_of_ble_eq_true rfl, ?_⟩
      change am_wp _ _ _ _ [(0, Value.ref n), (1, Value.int p), (2, Value.int w)] _ _
      obtain ⟨hmn, rfl, hp, hr, h⟩ := h
      have hmn2 := hmn
      obtain ⟨i1, i2, rfl⟩ := hmn2
      repeat' (first | exact rfl | (with_reducible exact hmn) | apply And.intro | intro hx | (refine Exists.intro _ (And.intro rfl ?_)))
      all_goals try first | (with_reducible change am_tI _ _) | (change Ret _ _) | (change Ret _ _ _) | (change Exists _)
      all_goals try dsimp only at *
      all_goals try exact absurd ‹(1000 : Int64) = 0› (by decide)
      refine ⟨_, _, rfl, rfl, rfl, by decide, by rw [am_wI_self]; decide, by (repeat' (first | (with_reducible exact g_sc.rf) | (with_reducible assumption) | ((with_reducible change g_sc _ (am_wI _ _ _ _)); refine g_sc.wI ?_ rfl) | ((with_reducible change g_sc _ (am_wJ _ _ _ _)); refine g_sc.wJ ?_ rfl) | ((with_reducible change g_sc _ (am_cI _ _ _)); refine g_sc.cI ?_ rfl) | ((with_reducible change g_sc _ (am_cJ _ _ _)); refine g_sc.cJ ?_ rfl) | (refine g_sc.tr ?_ (by with_reducible assumption)) | (refine g_sc.st ?_ (by with_reducible assumption)))), ?_⟩
      exact g_rI.w47 (g_rI.wJ (g_rI.wJ (g_rI.w412 (g_rI.w411 (g_rI.w410 (g_rI.wF (g_rI.w48 hr hp) rfl) (by decide)) (Or.inl rfl)) (Or.inl rfl)))) ⟨(), by decide, by decide⟩
    · exact h.elim
  · intro live as M0 Ret h k pc I hI L st M hi
    unfold TX4_begin at h
    split at h
    · next n p w =>
      obtain ⟨hmn, rfl, hp, hr, h⟩ := h
      have hmn2 := hmn
      obtain ⟨i1, i2, rfl⟩ := hmn2
      change (match pc with | 29 => _ | 88 => _ | _ => none) = _ at hI
      split at hI
      · cases hI
        obtain ⟨l, rfl, rfl, rfl, e1, e4, e2, e3⟩ := hi
        by_cases hz : (30 : Int32) ≤ l
        · skip
          repeat' (first | exact rfl | (with_reducible exact hmn) | (with_reducible exact hp) | (with_reducible exact e3) | apply And.intro | (intro hx; with_reducible exact absurd hz hx) | ((with_reducible change g_rI _); (with_reducible assumption)) | intro hx | (refine Exists.intro _ (And.intro rfl ?_)))
          all_goals try first | (with_reducible change am_tI _ _) | (change Ret _ _) | (change Ret _ _ _) | (change Exists _)
          all_goals try dsimp only at *
          all_goals try exact absurd ‹(1000 : Int64) = 0› (by decide)
          all_goals exact h _ (by (repeat' (first | (with_reducible exact g_sc.rf) | (with_reducible assumption) | ((with_reducible change g_sc _ (am_wI _ _ _ _)); refine g_sc.wI ?_ rfl) | ((with_reducible change g_sc _ (am_wJ _ _ _ _)); refine g_sc.wJ ?_ rfl) | ((with_reducible change g_sc _ (am_cI _ _ _)); refine g_sc.cI ?_ rfl) | ((with_reducible change g_sc _ (am_cJ _ _ _)); refine g_sc.cJ ?_ rfl) | (refine g_sc.tr ?_ (by with_reducible assumption)) | (refine g_sc.st ?_ (by with_reducible assumption))))) (by (repeat' (first | (with_reducible assumption) | ((with_reducible change g_rI (am_wJ _ _ _ _)); refine g_rI.wJ ?_) | ((with_reducible change g_rI (am_cJ _ _ _)); refine g_rI.cJ ?_) | ((with_reducible change g_rI (am_wI _ 5 _ _)); refine g_rI.w5 ?_) | ((with_reducible change g_rI (am_wI _ _ _ _)); refine g_rI.wF ?_ rfl) | (refine g_rI.st ?_ (by with_reducible assumption)) | (refine g_rI.we ?_ (by with_reducible assumption)))))
        · have hz2 := hz
          simp only [i_le, Int32.reduceToInt] at hz2
          have hi := i_inc (x := l) (by omega) (by omega)
          have hl : am_in l 30 := ⟨e1, by omega⟩
          have hs := e3.s.sz
          have hsi := i_inc (x := M.1 4 7) (by omega) (by omega)
          have e47 : ∀ k v, (am_wI M 7 k v).1 4 7 = M.1 4 7 := fun k v => by rw [am_wI_1, if_neg (fun q => absurd q.1 (by decide))]
          have l7 : am_len 7 = 30 := rfl
          repeat' (first | exact rfl | (with_reducible exact hmn) | (with_reducible exact hp) | (with_reducible exact e3) | apply And.intro | (intro hx; with_reducible exact absurd hx hz) | ((with_reducible change g_rI _); (with_reducible assumption)) | intro hx | (refine Exists.intro _ (And.intro rfl ?_)))
          all_goals try first | (with_reducible change am_tI _ _) | (change Ret _ _) | (change Ret _ _ _) | (change Exists _)
          all_goals try dsimp only at *
          all_goals try exact absurd ‹(1000 : Int64) = 0› (by decide)
          all_goals first
            | omega
            | (rw [l7]; omega)
            | exact h _ (by (repeat' (first | (with_reducible exact g_sc.rf) | (with_reducible assumption) | ((with_reducible change g_sc _ (am_wI _ _ _ _)); refine g_sc.wI ?_ rfl) | ((with_reducible change g_sc _ (am_wJ _ _ _ _)); refine g_sc.wJ ?_ rfl) | ((with_reducible change g_sc _ (am_cI _ _ _)); refine g_sc.cI ?_ rfl) | ((with_reducible change g_sc _ (am_cJ _ _ _)); refine g_sc.cJ ?_ rfl) | (refine g_sc.tr ?_ (by with_reducible assumption)) | (refine g_sc.st ?_ (by with_reducible assumption))))) (by (repeat' (first | (with_reducible assumption) | ((with_reducible change g_rI (am_wJ _ _ _ _)); refine g_rI.wJ ?_) | ((with_reducible change g_rI (am_cJ _ _ _)); refine g_rI.cJ ?_) | ((with_reducible change g_rI (am_wI _ 5 _ _)); refine g_rI.w5 ?_) | ((with_reducible change g_rI (am_wI _ _ _ _)); refine g_rI.wF ?_ rfl) | (refine g_rI.st ?_ (by with_reducible assumption)) | (refine g_rI.we ?_ (by with_reducible assumption)))))
            | exact ⟨_, am_lt_l (by omega), _, rfl, rfl, rfl, by omega, by omega, e2, e3⟩
            | skip
          refine ⟨_, am_lt_l (by omega), _, _, rfl, rfl, rfl, ⟨e1, by omega⟩, ?_, by decide, by (repeat' (first | (with_reducible exact g_sc.rf) | (with_reducible assumption) | ((with_reducible change g_sc _ (am_wI _ _ _ _)); refine g_sc.wI ?_ rfl) | ((with_reducible change g_sc _ (am_wJ _ _ _ _)); refine g_sc.wJ ?_ rfl) | ((with_reducible change g_sc _ (am_cI _ _ _)); refine g_sc.cI ?_ rfl) | ((with_reducible change g_sc _ (am_cJ _ _ _)); refine g_sc.cJ ?_ rfl) | (refine g_sc.tr ?_ (by with_reducible assumption)) | (refine g_sc.st ?_ (by with_reducible assumption)))), g_rI.w47 (g_rI.w7 e3 hl) ?_⟩
          · rw [am_wI_self, e47]; omega
          · rw [e47]; exact ⟨(), by omega, by omega⟩
      · cases hI
        obtain ⟨l, o, rfl, rfl, rfl, ⟨e1, e5⟩, e4, e6, e2, e3⟩ := hi
        have hi := i_inc (x := l) (by omega) (by omega)
        by_cases hz : (6 : Int32) ≤ o
        · skip
          repeat' (first | exact rfl | apply And.intro | (intro hx; with_reducible exact absurd hz hx) | intro hx | (refine Exists.intro _ (And.intro rfl ?_)))
          all_goals try first | (with_reducible change am_tI _ _) | (change Ret _ _) | (change Ret _ _ _) | (change Exists _)
          all_goals try dsimp only at *
          all_goals try exact absurd ‹(1000 : Int64) = 0› (by decide)
          exact ⟨_, am_lt_l (by omega), _, rfl, rfl, rfl, by omega, by omega, e2, e3⟩
        · have hz2 := hz
          simp only [i_le, Int32.reduceToInt] at hz2
          have ho := i_inc (x := o) (by omega) (by omega)
          have e30 := i_mul (x := o) (y := 30) (by simp only [Int32.reduceToInt]; omega) (by simp only [Int32.reduceToInt]; omega)
          simp only [Int32.reduceToInt] at e30
          have e := i_add (x := o * 30) (y := l) (by rw [e30]; omega) (by rw [e30]; omega)
          have l6 : am_len 6 = 180 := rfl
          repeat' (first | exact rfl | apply And.intro | (intro hx; with_reducible exact absurd hx hz) | intro hx | (refine Exists.intro _ (And.intro rfl ?_)))
          all_goals try first | (with_reducible change am_tI _ _) | (change Ret _ _) | (change Ret _ _ _) | (change Exists _)
          all_goals try dsimp only at *
          all_goals try exact absurd ‹(1000 : Int64) = 0› (by decide)
          all_goals first
            | omega
            | (rw [l6]; omega)
            | exact ⟨_, am_lt_r (by omega), _, _, rfl, rfl, rfl, ⟨e1, e5⟩, e4, by omega, by (repeat' (first | (with_reducible exact g_sc.rf) | (with_reducible assumption) | ((with_reducible change g_sc _ (am_wI _ _ _ _)); refine g_sc.wI ?_ rfl) | ((with_reducible change g_sc _ (am_wJ _ _ _ _)); refine g_sc.wJ ?_ rfl) | ((with_reducible change g_sc _ (am_cI _ _ _)); refine g_sc.cI ?_ rfl) | ((with_reducible change g_sc _ (am_cJ _ _ _)); refine g_sc.cJ ?_ rfl) | (refine g_sc.tr ?_ (by with_reducible assumption)) | (refine g_sc.st ?_ (by with_reducible assumption)))), by (repeat' (first | (with_reducible assumption) | ((with_reducible change g_rI (am_wJ _ _ _ _)); refine g_rI.wJ ?_) | ((with_reducible change g_rI (am_cJ _ _ _)); refine g_rI.cJ ?_) | ((with_reducible change g_rI (am_wI _ 5 _ _)); refine g_rI.w5 ?_) | ((with_reducible change g_rI (am_wI _ _ _ _)); refine g_rI.wF ?_ rfl) | (refine g_rI.st ?_ (by with_reducible assumption)) | (refine g_rI.we ?_ (by with_reducible assumption))))⟩
            | skip
      · cases hI
    · exact h.elim
end
section
/-! Ways: what is safe of them -/
theorem wd_358 : Cond.fieldLink "LearnLoans$Ways" 32 "LearnLoans$Ways" "mean" "J" ∈ am_ws := am_wsi (List.mem_of_getElem? (i := 358) (by decide +kernel)) (by decide +kernel)
theorem wd_364 : Cond.fieldLink "LearnLoans$Ways" 36 "LearnLoans$Ways" "neve\x72" "J" ∈ am_ws := am_wsi (List.mem_of_getElem? (i := 364) (by decide +kernel)) (by decide +kernel)
theorem wd_360 : Cond.fieldLink "LearnLoans$Ways" 41 "LearnLoans$Ways" "least" "J" ∈ am_ws := am_wsi (List.mem_of_getElem? (i := 360) (by decide +kernel)) (by decide +kernel)
theorem wd_795 : Cond.methodLink "LearnLoans$Ways" 93 Lib.MathLoose.min_long.x ∈ am_ws := am_wsi (List.mem_of_getElem? (i := 795) (by decide +kernel)) (by decide +kernel)
theorem wd_362 : Cond.fieldLink "LearnLoans$Ways" 44 "LearnLoans$Ways" "greatest" "J" ∈ am_ws := am_wsi (List.mem_of_getElem? (i := 362) (by decide +kernel)) (by decide +kernel)
theorem wd_796 : Cond.methodLink "LearnLoans$Ways" 99 Lib.MathLoose.max_long.x ∈ am_ws := am_wsi (List.mem_of_getElem? (i := 796) (by decide +kernel)) (by decide +kernel)
theorem dX6_end_0 : decode cX6_end 0 = .ok (.aload_n 0, 1) := by decide +kernel
theorem dX6_end_1 : decode cX6_end 1 = .ok (.dup, 1) := by decide +kernel
theorem dX6_end_2 : decode cX6_end 2 = .ok (.getfield 32, 3) := by decide +kernel
theorem dX6_end_5 : decode cX6_end 5 = .ok (.lload_n 1, 1) := by decide +kernel
theorem dX6_end_6 : decode cX6_end 6 = .ok (.lload_n 3, 1) := by decide +kernel
theorem dX6_end_7 : decode cX6_end 7 = .ok (.lmul, 1) := by decide +kernel
theorem dX6_end_8 : decode cX6_end 8 = .ok (.ladd, 1) := by decide +kernel
theorem dX6_end_9 : decode cX6_end 9 = .ok (.putfield 32, 3) := by decide +kernel
theorem dX6_end_12 : decode cX6_end 12 = .ok (.aload_n 0, 1) := by decide +kernel
theorem dX6_end_13 : decode cX6_end 13 = .ok (.dup, 1) := by decide +kernel
theorem dX6_end_14 : decode cX6_end 14 = .ok (.getfield 36, 3) := by decide +kernel
theorem dX6_end_17 : decode cX6_end 17 = .ok (.lload_n 1, 1) := by decide +kernel
theorem dX6_end_18 : decode cX6_end 18 = .ok (.lload 5, 2) := by decide +kernel
theorem dX6_end_20 : decode cX6_end 20 = .ok (.lmul, 1) := by decide +kernel
theorem dX6_end_21 : decode cX6_end 21 = .ok (.ladd, 1) := by decide +kernel
theorem dX6_end_22 : decode cX6_end 22 = .ok (.putfield 36, 3) := by decide +kernel
theorem dX6_end_25 : decode cX6_end 25 = .ok (.aload_n 0, 1) := by decide +kernel
theorem dX6_end_26 : decode cX6_end 26 = .ok (.aload_n 0, 1) := by decide +kernel
theorem dX6_end_27 : decode cX6_end 27 = .ok (.getfield 41, 3) := by decide +kernel
theorem dX6_end_30 : decode cX6_end 30 = .ok (.lload_n 3, 1) := by decide +kernel
theorem dX6_end_31 : decode cX6_end 31 = .ok (.invokestatic 93, 3) := by decide +kernel
theorem dX6_end_34 : decode cX6_end 34 = .ok (.putfield 41, 3) := by decide +kernel
theorem dX6_end_37 : decode cX6_end 37 = .ok (.aload_n 0, 1) := by decide +kernel
theorem dX6_end_38 : decode cX6_end 38 = .ok (.aload_n 0, 1) := by decide +kernel
theorem dX6_end_39 : decode cX6_end 39 = .ok (.getfield 44, 3) := by decide +kernel
theorem dX6_end_42 : decode cX6_end 42 = .ok (.lload_n 3, 1) := by decide +kernel
theorem dX6_end_43 : decode cX6_end 43 = .ok (.invokestatic 99, 3) := by decide +kernel
theorem dX6_end_46 : decode cX6_end 46 = .ok (.putfield 44, 3) := by decide +kernel
theorem dX6_end_49 : decode cX6_end 49 = .ok (.return_, 1) := by decide +kernel
def kX6_end (live : am_E) (Ret : am_R) : am_code := [(0, am_aload 0 1), (1, am_dup 2), (2, am_getJ live 6 5 5), (5, am_lload 1 6), (6, am_lload 3 7), (7, am_l2 (fun x y => x * y) 8), (8, am_l2 (fun x y => x + y) 9), (9, am_putJ live 6 5 12), (12, am_aload 0 13), (13, am_dup 14), (14, am_getJ live 6 8 17), (17, am_lload 1 18), (18, am_lload 5 20), (20, am_l2 (fun x y => x * y) 21), (21, am_l2 (fun x y => x + y) 22), (22, am_putJ live 6 8 25), (25, am_aload 0 26), (26, am_aload 0 27), (27, am_getJ live 6 6 30), (30, am_lload 3 31), (31, am_mathl (fun x y => if y < x then y else x) 23 34), (34, am_putJ live 6 6 37), (37, am_aload 0 38), (38, am_aload 0 39), (39, am_getJ live 6 7 42), (42, am_lload 3 43), (43, am_mathl (fun x y => if y < x then x else y) 23 46), (46, am_putJ live 6 7 49), (49, am_retV Ret)]
theorem koX6_end (live : am_E) (Ret : am_R) : ∀ q ∈ kX6_end live Ret, am_ok RX6 cX6_end 7 none 1 23 live Ret q.1 q.2 :=
  am_kc (ak_aload_n dX6_end_0 rfl rfl) <|
  am_kc (ak_dup dX6_end_1 rfl) <|
  am_kc (ak_getJ (C := RX6) (T := TX6) (N := 9) rfl inX6w (by decide) rfl rfl rfl wd_358 dX6_end_2 rfl) <|
  am_kc (ak_lload_n dX6_end_5 rfl rfl) <|
  am_kc (ak_lload_n dX6_end_6 rfl rfl) <|
  am_kc (ak_lmul dX6_end_7 rfl) <|
  am_kc (ak_ladd dX6_end_8 rfl) <|
  am_kc (ak_putJ (C := RX6) (T := TX6) (N := 9) rfl inX6w tyX6_ok nmX6 (by decide) rfl rfl rfl rfl (by decide +kernel) wd_358 dX6_end_9 rfl) <|
  am_kc (ak_aload_n dX6_end_12 rfl rfl) <|
  am_kc (ak_dup dX6_end_13 rfl) <|
  am_kc (ak_getJ (C := RX6) (T := TX6) (N := 9) rfl inX6w (by decide) rfl rfl rfl wd_364 dX6_end_14 rfl) <|
  am_kc (ak_lload_n dX6_end_17 rfl rfl) <|
  am_kc (ak_lload dX6_end_18 rfl) <|
  am_kc (ak_lmul dX6_end_20 rfl) <|
  am_kc (ak_ladd dX6_end_21 rfl) <|
  am_kc (ak_putJ (C := RX6) (T := TX6) (N := 9) rfl inX6w tyX6_ok nmX6 (by decide) rfl rfl rfl rfl (by decide +kernel) wd_364 dX6_end_22 rfl) <|
  am_kc (ak_aload_n dX6_end_25 rfl rfl) <|
  am_kc (ak_aload_n dX6_end_26 rfl rfl) <|
  am_kc (ak_getJ (C := RX6) (T := TX6) (N := 9) rfl inX6w (by decide) rfl rfl rfl wd_360 dX6_end_27 rfl) <|
  am_kc (ak_lload_n dX6_end_30 rfl rfl) <|
  am_kc (ak_lmin (am_w4 wd_795 wd_605 wd_68 wd_606) (by decide) dX6_end_31 rfl) <|
  am_kc (ak_putJ (C := RX6) (T := TX6) (N := 9) rfl inX6w tyX6_ok nmX6 (by decide) rfl rfl rfl rfl (by decide +kernel) wd_360 dX6_end_34 rfl) <|
  am_kc (ak_aload_n dX6_end_37 rfl rfl) <|
  am_kc (ak_aload_n dX6_end_38 rfl rfl) <|
  am_kc (ak_getJ (C := RX6) (T := TX6) (N := 9) rfl inX6w (by decide) rfl rfl rfl wd_362 dX6_end_39 rfl) <|
  am_kc (ak_lload_n dX6_end_42 rfl rfl) <|
  am_kc (ak_lmax (am_w4 wd_796 wd_608 wd_68 wd_609) (by decide) dX6_end_43 rfl) <|
  am_kc (ak_putJ (C := RX6) (T := TX6) (N := 9) rfl inX6w tyX6_ok nmX6 (by decide) rfl rfl rfl rfl (by decide +kernel) wd_362 dX6_end_46 rfl) <|
  am_kc (ak_retV dX6_end_49) <| am_kn
def TX6_end : am_T := fun live as M R => match as with
  | [.ref n, .long c, .long t, .long l] => am_mn live ∧ n = 2 ∧ ∀ M', g_we M M' → R none M'
  | _ => False
theorem g_we.rf {M : am_M} : g_we M M := ⟨(), rfl, fun _ _ _ => rfl⟩
theorem g_we.w {M M' : am_M} {k : Nat} {v : Int64} (h : g_we M M') : g_we M (am_wJ M' 2 k v) := by
  obtain ⟨-, h1, h2⟩ := h
  refine ⟨(), h1, fun a b z => ?_⟩
  rw [am_wJ_1, if_neg (fun q => z q.1)]
  exact h2 a b z
set_option maxRecDepth 100000 in
set_option maxHeartbeats 4000000 in
theorem metX6_end : am_Met yX6_end cX6_end 7 none (1) (23) TX6_end := by
  refine am_met (own := RX6) (by decide +kernel) rfl kX6_end koX6_end 100 (fun _ _ _ _ _ => none) (fun live as M Ret h => ?_) (fun _ _ _ _ _ _ _ _ hI => by cases hI)
  unfold TX6_end at h
  split at h
  · next n c t l =>
    refine ⟨Nat.le_of_ble_eq_true rfl, ?_⟩
    change am_wp _ _ _ _ [(0, Value.ref n), (1, Value.long c), (3, Value.long t), (5, Value.long l)] _ _
    obtain ⟨⟨i1, i2, rfl⟩, rfl, h⟩ := h
    repeat' (first | exact rfl | apply And.intro | intro hx | (refine Exists.intro _ (And.intro rfl ?_)))
    all_goals try first | (with_reducible change am_tI _ _) | (change Ret _ _) | (change Ret _ _ _) | (change Exists _)
    all_goals try dsimp only at *
    all_goals try exact absurd ‹(1000 : Int64) = 0› (by decide)
    exact h _ (g_we.rf.w.w.w.w)
  · exact h.elim
theorem wd_352 : Cond.fieldLink "LearnLoans$Ways" 12 "LearnLoans$Ways" "run" "LLearnLoans$Run;" ∈ am_ws := am_wsi (List.mem_of_getElem? (i := 352) (by decide +kernel)) (by decide +kernel)
theorem wd_354 : Cond.fieldLink "LearnLoans$Ways" 18 "LearnLoans$Ways" "owedAhead" "[J" ∈ am_ws := am_wsi (List.mem_of_getElem? (i := 354) (by decide +kernel)) (by decide +kernel)
theorem wd_297 : Cond.fieldLink "LearnLoans$Ways" 55 "LearnLoans$Run" "sums" "[J" ∈ am_ws := am_wsi (List.mem_of_getElem? (i := 297) (by decide +kernel)) (by decide +kernel)
theorem wd_784 : Cond.methodLink "LearnLoans$Ways" 58 arraycopyName ∈ am_ws := am_wsi (List.mem_of_getElem? (i := 784) (by decide +kernel)) (by decide +kernel)
theorem wd_357 : Cond.fieldLink "LearnLoans$Ways" 29 "LearnLoans$Ways" "pence" "I" ∈ am_ws := am_wsi (List.mem_of_getElem? (i := 357) (by decide +kernel)) (by decide +kernel)
theorem wd_788 : Cond.methodLink "LearnLoans$Ways" 68 yX4_suppose ∈ am_ws := am_wsi (List.mem_of_getElem? (i := 788) (by decide +kernel)) (by decide +kernel)
theorem wd_355 : Cond.fieldLink "LearnLoans$Ways" 22 "LearnLoans$Ways" "yea\x72" "I" ∈ am_ws := am_wsi (List.mem_of_getElem? (i := 355) (by decide +kernel)) (by decide +kernel)
theorem wd_789 : Cond.methodLink "LearnLoans$Ways" 72 yX4_turn ∈ am_ws := am_wsi (List.mem_of_getElem? (i := 789) (by decide +kernel)) (by decide +kernel)
theorem wd_790 : Cond.methodLink "LearnLoans$Ways" 75 yX4_together ∈ am_ws := am_wsi (List.mem_of_getElem? (i := 790) (by decide +kernel)) (by decide +kernel)
theorem wd_647 : Cond.instanceMethod yX4_together ∈ am_ws := am_wsi (List.mem_of_getElem? (i := 647) (by decide +kernel)) (by decide +kernel)
theorem wd_648 : Cond.selects "LearnLoans$Run" yX4_together yX4_together ∈ am_ws := am_wsi (List.mem_of_getElem? (i := 648) (by decide +kernel)) (by decide +kernel)
theorem wd_649 : Cond.code yX4_together cX4_together 5 (some .long) ∈ am_ws := am_wsi (List.mem_of_getElem? (i := 649) (by decide +kernel)) (by decide +kernel)
theorem wd_356 : Cond.fieldLink "LearnLoans$Ways" 26 "LearnLoans$Ways" "years" "I" ∈ am_ws := am_wsi (List.mem_of_getElem? (i := 356) (by decide +kernel)) (by decide +kernel)
theorem wd_791 : Cond.methodLink "LearnLoans$Ways" 79 yX6_end ∈ am_ws := am_wsi (List.mem_of_getElem? (i := 791) (by decide +kernel)) (by decide +kernel)
theorem wd_793 : Cond.instanceMethod yX6_end ∈ am_ws := am_wsi (List.mem_of_getElem? (i := 793) (by decide +kernel)) (by decide +kernel)
theorem wd_25 : Cond.selects "LearnLoans$Ways" yX6_end yX6_end ∈ am_ws := am_wsi (List.mem_of_getElem? (i := 25) (by decide +kernel)) (by decide +kernel)
theorem wd_59 : Cond.initialized "LearnLoans$Ways" ∈ am_ws := am_wsi (List.mem_of_getElem? (i := 59) (by decide +kernel)) (by decide +kernel)
theorem wd_794 : Cond.code yX6_end cX6_end 7 none ∈ am_ws := am_wsi (List.mem_of_getElem? (i := 794) (by decide +kernel)) (by decide +kernel)
theorem wd_293 : Cond.fieldLink "LearnLoans$Ways" 83 "LearnLoans$Run" "house" "LLearnLoans$House;" ∈ am_ws := am_wsi (List.mem_of_getElem? (i := 293) (by decide +kernel)) (by decide +kernel)
theorem wd_222 : Cond.fieldLink "LearnLoans$Ways" 87 "LearnLoans$House" "chances" "[I" ∈ am_ws := am_wsi (List.mem_of_getElem? (i := 222) (by decide +kernel)) (by decide +kernel)
theorem wd_785 : Cond.methodLink "LearnLoans$Ways" 64 yX6_walk ∈ am_ws := am_wsi (List.mem_of_getElem? (i := 785) (by decide +kernel)) (by decide +kernel)
theorem wd_786 : Cond.static yX6_walk ∈ am_ws := am_wsi (List.mem_of_getElem? (i := 786) (by decide +kernel)) (by decide +kernel)
theorem wd_787 : Cond.code yX6_walk cX6_walk 14 none ∈ am_ws := am_wsi (List.mem_of_getElem? (i := 787) (by decide +kernel)) (by decide +kernel)
theorem dX6_walk_0 : decode cX6_walk 0 = .ok (.iload_n 1, 1) := by decide +kernel
theorem dX6_walk_1 : decode cX6_walk 1 = .ok (.iconst 5, 1) := by decide +kernel
theorem dX6_walk_2 : decode cX6_walk 2 = .ok (.if_icmp .lt 4, 3) := by decide +kernel
theorem dX6_walk_5 : decode cX6_walk 5 = .ok (.return_, 1) := by decide +kernel
theorem dX6_walk_6 : decode cX6_walk 6 = .ok (.aload_n 0, 1) := by decide +kernel
theorem dX6_walk_7 : decode cX6_walk 7 = .ok (.getfield 12, 3) := by decide +kernel
theorem dX6_walk_10 : decode cX6_walk 10 = .ok (.astore 9, 2) := by decide +kernel
theorem dX6_walk_12 : decode cX6_walk 12 = .ok (.aload_n 0, 1) := by decide +kernel
theorem dX6_walk_13 : decode cX6_walk 13 = .ok (.getfield 18, 3) := by decide +kernel
theorem dX6_walk_16 : decode cX6_walk 16 = .ok (.iload_n 1, 1) := by decide +kernel
theorem dX6_walk_17 : decode cX6_walk 17 = .ok (.bipush 30, 2) := by decide +kernel
theorem dX6_walk_19 : decode cX6_walk 19 = .ok (.imul, 1) := by decide +kernel
theorem dX6_walk_20 : decode cX6_walk 20 = .ok (.aload 9, 2) := by decide +kernel
theorem dX6_walk_22 : decode cX6_walk 22 = .ok (.getfield 55, 3) := by decide +kernel
theorem dX6_walk_25 : decode cX6_walk 25 = .ok (.iconst 0, 1) := by decide +kernel
theorem dX6_walk_26 : decode cX6_walk 26 = .ok (.bipush 30, 2) := by decide +kernel
theorem dX6_walk_28 : decode cX6_walk 28 = .ok (.invokestatic 58, 3) := by decide +kernel
theorem dX6_walk_31 : decode cX6_walk 31 = .ok (.iload_n 2, 1) := by decide +kernel
theorem dX6_walk_32 : decode cX6_walk 32 = .ok (.ifCond .ne 10, 3) := by decide +kernel
theorem dX6_walk_35 : decode cX6_walk 35 = .ok (.aload_n 0, 1) := by decide +kernel
theorem dX6_walk_36 : decode cX6_walk 36 = .ok (.getfield 29, 3) := by decide +kernel
theorem dX6_walk_39 : decode cX6_walk 39 = .ok (.goto 13, 3) := by decide +kernel
theorem dX6_walk_42 : decode cX6_walk 42 = .ok (.iload_n 2, 1) := by decide +kernel
theorem dX6_walk_43 : decode cX6_walk 43 = .ok (.iconst 1, 1) := by decide +kernel
theorem dX6_walk_44 : decode cX6_walk 44 = .ok (.if_icmp .ne 7, 3) := by decide +kernel
theorem dX6_walk_47 : decode cX6_walk 47 = .ok (.iconst 0, 1) := by decide +kernel
theorem dX6_walk_48 : decode cX6_walk 48 = .ok (.goto 4, 3) := by decide +kernel
theorem dX6_walk_51 : decode cX6_walk 51 = .ok (.iconst (-1), 1) := by decide +kernel
theorem dX6_walk_52 : decode cX6_walk 52 = .ok (.istore 10, 2) := by decide +kernel
theorem dX6_walk_54 : decode cX6_walk 54 = .ok (.aload 9, 2) := by decide +kernel
theorem dX6_walk_56 : decode cX6_walk 56 = .ok (.iload 10, 2) := by decide +kernel
theorem dX6_walk_58 : decode cX6_walk 58 = .ok (.iload_n 2, 1) := by decide +kernel
theorem dX6_walk_59 : decode cX6_walk 59 = .ok (.iconst 2, 1) := by decide +kernel
theorem dX6_walk_60 : decode cX6_walk 60 = .ok (.if_icmp .ne 7, 3) := by decide +kernel
theorem dX6_walk_63 : decode cX6_walk 63 = .ok (.iconst 1, 1) := by decide +kernel
theorem dX6_walk_64 : decode cX6_walk 64 = .ok (.goto 4, 3) := by decide +kernel
theorem dX6_walk_67 : decode cX6_walk 67 = .ok (.iconst 0, 1) := by decide +kernel
theorem dX6_walk_68 : decode cX6_walk 68 = .ok (.iload_n 2, 1) := by decide +kernel
theorem dX6_walk_69 : decode cX6_walk 69 = .ok (.iconst 3, 1) := by decide +kernel
theorem dX6_walk_70 : decode cX6_walk 70 = .ok (.if_icmp .ne 7, 3) := by decide +kernel
theorem dX6_walk_73 : decode cX6_walk 73 = .ok (.iconst 1, 1) := by decide +kernel
theorem dX6_walk_74 : decode cX6_walk 74 = .ok (.goto 4, 3) := by decide +kernel
theorem dX6_walk_77 : decode cX6_walk 77 = .ok (.iconst 0, 1) := by decide +kernel
theorem dX6_walk_78 : decode cX6_walk 78 = .ok (.invokevirtual 68, 3) := by decide +kernel
theorem dX6_walk_81 : decode cX6_walk 81 = .ok (.aload 9, 2) := by decide +kernel
theorem dX6_walk_83 : decode cX6_walk 83 = .ok (.aload_n 0, 1) := by decide +kernel
theorem dX6_walk_84 : decode cX6_walk 84 = .ok (.getfield 22, 3) := by decide +kernel
theorem dX6_walk_87 : decode cX6_walk 87 = .ok (.iload_n 1, 1) := by decide +kernel
theorem dX6_walk_88 : decode cX6_walk 88 = .ok (.iadd, 1) := by decide +kernel
theorem dX6_walk_89 : decode cX6_walk 89 = .ok (.invokevirtual 72, 3) := by decide +kernel
theorem dX6_walk_92 : decode cX6_walk 92 = .ok (.lload 5, 2) := by decide +kernel
theorem dX6_walk_94 : decode cX6_walk 94 = .ok (.aload 9, 2) := by decide +kernel
theorem dX6_walk_96 : decode cX6_walk 96 = .ok (.iconst 1, 1) := by decide +kernel
theorem dX6_walk_97 : decode cX6_walk 97 = .ok (.invokevirtual 75, 3) := by decide +kernel
theorem dX6_walk_100 : decode cX6_walk 100 = .ok (.ladd, 1) := by decide +kernel
theorem dX6_walk_101 : decode cX6_walk 101 = .ok (.lstore 5, 2) := by decide +kernel
theorem dX6_walk_103 : decode cX6_walk 103 = .ok (.lload 7, 2) := by decide +kernel
theorem dX6_walk_105 : decode cX6_walk 105 = .ok (.aload 9, 2) := by decide +kernel
theorem dX6_walk_107 : decode cX6_walk 107 = .ok (.iconst 2, 1) := by decide +kernel
theorem dX6_walk_108 : decode cX6_walk 108 = .ok (.invokevirtual 75, 3) := by decide +kernel
theorem dX6_walk_111 : decode cX6_walk 111 = .ok (.ladd, 1) := by decide +kernel
theorem dX6_walk_112 : decode cX6_walk 112 = .ok (.lstore 7, 2) := by decide +kernel
theorem dX6_walk_114 : decode cX6_walk 114 = .ok (.iload_n 1, 1) := by decide +kernel
theorem dX6_walk_115 : decode cX6_walk 115 = .ok (.iconst 1, 1) := by decide +kernel
theorem dX6_walk_116 : decode cX6_walk 116 = .ok (.iadd, 1) := by decide +kernel
theorem dX6_walk_117 : decode cX6_walk 117 = .ok (.istore 11, 2) := by decide +kernel
theorem dX6_walk_119 : decode cX6_walk 119 = .ok (.iload 11, 2) := by decide +kernel
theorem dX6_walk_121 : decode cX6_walk 121 = .ok (.aload_n 0, 1) := by decide +kernel
theorem dX6_walk_122 : decode cX6_walk 122 = .ok (.getfield 26, 3) := by decide +kernel
theorem dX6_walk_125 : decode cX6_walk 125 = .ok (.if_icmp .ge 9, 3) := by decide +kernel
theorem dX6_walk_128 : decode cX6_walk 128 = .ok (.iload 11, 2) := by decide +kernel
theorem dX6_walk_130 : decode cX6_walk 130 = .ok (.iconst 5, 1) := by decide +kernel
theorem dX6_walk_131 : decode cX6_walk 131 = .ok (.if_icmp .lt 20, 3) := by decide +kernel
theorem dX6_walk_134 : decode cX6_walk 134 = .ok (.aload_n 0, 1) := by decide +kernel
theorem dX6_walk_135 : decode cX6_walk 135 = .ok (.lload_n 3, 1) := by decide +kernel
theorem dX6_walk_136 : decode cX6_walk 136 = .ok (.lload 5, 2) := by decide +kernel
theorem dX6_walk_138 : decode cX6_walk 138 = .ok (.lload 7, 2) := by decide +kernel
theorem dX6_walk_140 : decode cX6_walk 140 = .ok (.aload 9, 2) := by decide +kernel
theorem dX6_walk_142 : decode cX6_walk 142 = .ok (.iconst 0, 1) := by decide +kernel
theorem dX6_walk_143 : decode cX6_walk 143 = .ok (.invokevirtual 75, 3) := by decide +kernel
theorem dX6_walk_146 : decode cX6_walk 146 = .ok (.ladd, 1) := by decide +kernel
theorem dX6_walk_147 : decode cX6_walk 147 = .ok (.invokevirtual 79, 3) := by decide +kernel
theorem dX6_walk_150 : decode cX6_walk 150 = .ok (.return_, 1) := by decide +kernel
theorem dX6_walk_151 : decode cX6_walk 151 = .ok (.aload 9, 2) := by decide +kernel
theorem dX6_walk_153 : decode cX6_walk 153 = .ok (.getfield 55, 3) := by decide +kernel
theorem dX6_walk_156 : decode cX6_walk 156 = .ok (.iconst 0, 1) := by decide +kernel
theorem dX6_walk_157 : decode cX6_walk 157 = .ok (.aload_n 0, 1) := by decide +kernel
theorem dX6_walk_158 : decode cX6_walk 158 = .ok (.getfield 18, 3) := by decide +kernel
theorem dX6_walk_161 : decode cX6_walk 161 = .ok (.iload 11, 2) := by decide +kernel
theorem dX6_walk_163 : decode cX6_walk 163 = .ok (.bipush 30, 2) := by decide +kernel
theorem dX6_walk_165 : decode cX6_walk 165 = .ok (.imul, 1) := by decide +kernel
theorem dX6_walk_166 : decode cX6_walk 166 = .ok (.bipush 30, 2) := by decide +kernel
theorem dX6_walk_168 : decode cX6_walk 168 = .ok (.invokestatic 58, 3) := by decide +kernel
theorem dX6_walk_171 : decode cX6_walk 171 = .ok (.iconst 0, 1) := by decide +kernel
theorem dX6_walk_172 : decode cX6_walk 172 = .ok (.istore 12, 2) := by decide +kernel
theorem dX6_walk_174 : decode cX6_walk 174 = .ok (.iload 12, 2) := by decide +kernel
theorem dX6_walk_176 : decode cX6_walk 176 = .ok (.iconst 4, 1) := by decide +kernel
theorem dX6_walk_177 : decode cX6_walk 177 = .ok (.if_icmp .ge 48, 3) := by decide +kernel
theorem dX6_walk_180 : decode cX6_walk 180 = .ok (.aload 9, 2) := by decide +kernel
theorem dX6_walk_182 : decode cX6_walk 182 = .ok (.getfield 83, 3) := by decide +kernel
theorem dX6_walk_185 : decode cX6_walk 185 = .ok (.getfield 87, 3) := by decide +kernel
theorem dX6_walk_188 : decode cX6_walk 188 = .ok (.iload_n 2, 1) := by decide +kernel
theorem dX6_walk_189 : decode cX6_walk 189 = .ok (.iconst 4, 1) := by decide +kernel
theorem dX6_walk_190 : decode cX6_walk 190 = .ok (.imul, 1) := by decide +kernel
theorem dX6_walk_191 : decode cX6_walk 191 = .ok (.iload 12, 2) := by decide +kernel
theorem dX6_walk_193 : decode cX6_walk 193 = .ok (.iadd, 1) := by decide +kernel
theorem dX6_walk_194 : decode cX6_walk 194 = .ok (.iaload, 1) := by decide +kernel
theorem dX6_walk_195 : decode cX6_walk 195 = .ok (.istore 13, 2) := by decide +kernel
theorem dX6_walk_197 : decode cX6_walk 197 = .ok (.iload 13, 2) := by decide +kernel
theorem dX6_walk_199 : decode cX6_walk 199 = .ok (.ifCond .le 20, 3) := by decide +kernel
theorem dX6_walk_202 : decode cX6_walk 202 = .ok (.aload_n 0, 1) := by decide +kernel
theorem dX6_walk_203 : decode cX6_walk 203 = .ok (.iload 11, 2) := by decide +kernel
theorem dX6_walk_205 : decode cX6_walk 205 = .ok (.iload 12, 2) := by decide +kernel
theorem dX6_walk_207 : decode cX6_walk 207 = .ok (.lload_n 3, 1) := by decide +kernel
theorem dX6_walk_208 : decode cX6_walk 208 = .ok (.iload 13, 2) := by decide +kernel
theorem dX6_walk_210 : decode cX6_walk 210 = .ok (.i2l, 1) := by decide +kernel
theorem dX6_walk_211 : decode cX6_walk 211 = .ok (.lmul, 1) := by decide +kernel
theorem dX6_walk_212 : decode cX6_walk 212 = .ok (.lload 5, 2) := by decide +kernel
theorem dX6_walk_214 : decode cX6_walk 214 = .ok (.lload 7, 2) := by decide +kernel
theorem dX6_walk_216 : decode cX6_walk 216 = .ok (.invokestatic 64, 3) := by decide +kernel
theorem dX6_walk_219 : decode cX6_walk 219 = .ok (.iinc 12 1, 3) := by decide +kernel
theorem dX6_walk_222 : decode cX6_walk 222 = .ok (.goto (-48), 3) := by decide +kernel
theorem dX6_walk_225 : decode cX6_walk 225 = .ok (.return_, 1) := by decide +kernel
def kX6_walk (d rw lw : Nat) (Tw : am_T) (live : am_E) (Ret : am_R) : am_code := [(0, am_iload 1 1), (1, am_const (.int 5) 2), (2, am_if2 (fun x y => x < y) 6 5), (5, am_retV Ret), (6, am_aload 0 7), (7, am_getR live 6 0 10), (10, am_astore 9 14 12), (12, am_aload 0 13), (13, am_getR live 6 1 16), (16, am_iload 1 17), (17, am_const (.int 30) 19), (19, am_i2 (fun x y => x * y) 20), (20, am_aload 9 22), (22, am_getR live 4 2 25), (25, am_const (.int 0) 26), (26, am_const (.int 30) 28), (28, am_copyJ live (40 * d + 110) 31), (31, am_iload 2 32), (32, am_if1 (fun x => x = 0) 35 42), (35, am_aload 0 36), (36, am_getI live 6 4 39), (39, am_goto 52), (42, am_iload 2 43), (43, am_const (.int 1) 44), (44, am_if2 (fun x y => x = y) 47 51), (47, am_const (.int 0) 48), (48, am_goto 52), (51, am_const (.int (-1)) 52), (52, am_istore 10 14 54), (54, am_aload 9 56), (56, am_iload 10 58), (58, am_iload 2 59), (59, am_const (.int 2) 60), (60, am_if2 (fun x y => x = y) 63 67), (63, am_const (.int 1) 64), (64, am_goto 68), (67, am_const (.int 0) 68), (68, am_iload 2 69), (69, am_const (.int 3) 70), (70, am_if2 (fun x y => x = y) 73 77), (73, am_const (.int 1) 74), (74, am_goto 78), (77, am_const (.int 0) 78), (78, am_callV live 4 3 TX4_suppose 81), (81, am_aload 9 83), (83, am_aload 0 84), (84, am_getI live 6 2 87), (87, am_iload 1 88), (88, am_i2 (fun x y => x + y) 89), (89, am_callV live 4 1 TX4_turn 92), (92, am_lload 5 94), (94, am_aload 9 96), (96, am_const (.int 1) 97), (97, am_callV live 4 1 TX4_together 100), (100, am_l2 (fun x y => x + y) 101), (101, am_lstore 5 14 103), (103, am_lload 7 105), (105, am_aload 9 107), (107, am_const (.int 2) 108), (108, am_callV live 4 1 TX4_together 111), (111, am_l2 (fun x y => x + y) 112), (112, am_lstore 7 14 114), (114, am_iload 1 115), (115, am_const (.int 1) 116), (116, am_i2 (fun x y => x + y) 117), (117, am_istore 11 14 119), (119, am_iload 11 121), (121, am_aload 0 122), (122, am_getI live 6 3 125), (125, am_if2 (fun x y => y ≤ x) 134 128), (128, am_iload 11 130), (130, am_const (.int 5) 131), (131, am_if2 (fun x y => x < y) 151 134), (134, am_aload 0 135), (135, am_lload 3 136), (136, am_lload 5 138), (138, am_lload 7 140), (140, am_aload 9 142), (142, am_const (.int 0) 143), (143, am_callV live 4 1 TX4_together 146), (146, am_l2 (fun x y => x + y) 147), (147, am_callV live 6 3 TX6_end 150), (150, am_retV Ret), (151, am_aload 9 153), (153, am_getR live 4 2 156), (156, am_const (.int 0) 157), (157, am_aload 0 158), (158, am_getR live 6 1 161), (161, am_iload 11 163), (163, am_const (.int 30) 165), (165, am_i2 (fun x y => x * y) 166), (166, am_const (.int 30) 168), (168, am_copyJ live (40 * d + 110) 171), (171, am_const (.int 0) 172), (172, am_istore 12 14 174), (174, am_iload 12 176), (176, am_const (.int 4) 177), (177, am_if2 (fun x y => y ≤ x) 225 180), (180, am_aload 9 182), (182, am_getR live 4 0 185), (185, am_getR live 0 10 188), (188, am_iload 2 189), (189, am_const (.int 4) 190), (190, am_i2 (fun x y => x * y) 191), (191, am_iload 12 193), (193, am_i2 (fun x y => x + y) 194), (194, am_ald live 0 195), (195, am_istore 13 14 197), (197, am_iload 13 199), (199, am_if1 (fun x => x ≤ 0) 219 202), (202, am_aload 0 203), (203, am_iload 11 205), (205, am_iload 12 207), (207, am_lload 3 208), (208, am_iload 13 210), (210, am_i2l 211), (211, am_l2 (fun x y => x * y) 212), (212, am_lload 5 214), (214, am_lload 7 216), (216, am_callS live 6 Tw 219), (219, am_iinc 12 14 1 222), (222, am_goto 174), (225, am_retV Ret)]
theorem koX6_walk (d rw lw : Nat) (Tw : am_T) (hW : am_Met yX6_walk cX6_walk 14 none rw lw Tw) (hrc : rw + 1 ≤ d + 4 ∧ lw + 33 ≤ 40 * d + 110) (live : am_E) (Ret : am_R) : ∀ q ∈ kX6_walk d rw lw Tw live Ret, am_ok RX6 cX6_walk 14 none (d + 4) (40 * d + 110) live Ret q.1 q.2 :=
  am_kc (ak_iload_n dX6_walk_0 rfl rfl) <|
  am_kc (ak_iconst dX6_walk_1 (by decide +kernel) rfl) <|
  am_kc (ak_icmp_lt dX6_walk_2 (by decide +kernel) rfl) <|
  am_kc (ak_retV dX6_walk_5) <|
  am_kc (ak_aload_n dX6_walk_6 rfl rfl) <|
  am_kc (ak_getR (C := RX6) (T := TX6) (N := 9) rfl inX6w (by decide) rfl rfl rfl wd_352 dX6_walk_7 rfl) <|
  am_kc (ak_astore dX6_walk_10 rfl) <|
  am_kc (ak_aload_n dX6_walk_12 rfl rfl) <|
  am_kc (ak_getR (C := RX6) (T := TX6) (N := 9) rfl inX6w (by decide) rfl rfl rfl wd_354 dX6_walk_13 rfl) <|
  am_kc (ak_iload_n dX6_walk_16 rfl rfl) <|
  am_kc (ak_bipush dX6_walk_17 (by decide +kernel) rfl) <|
  am_kc (ak_imul dX6_walk_19 rfl) <|
  am_kc (ak_aload dX6_walk_20 rfl) <|
  am_kc (ak_getR (C := RX4) (T := TX4) (N := 18) rfl inX4w (by decide) rfl rfl rfl wd_297 dX6_walk_22 rfl) <|
  am_kc (ak_iconst dX6_walk_25 (by decide +kernel) rfl) <|
  am_kc (ak_bipush dX6_walk_26 (by decide +kernel) rfl) <|
  am_kc (ak_copyJ (am_w4 wd_784 wd_498 wd_497 wd_69) (by omega) dX6_walk_28 rfl) <|
  am_kc (ak_iload_n dX6_walk_31 rfl rfl) <|
  am_kc (ak_if_ne dX6_walk_32 (by decide +kernel) rfl) <|
  am_kc (ak_aload_n dX6_walk_35 rfl rfl) <|
  am_kc (ak_getI (C := RX6) (T := TX6) (N := 9) rfl inX6w (by decide) rfl rfl rfl wd_357 dX6_walk_36 rfl) <|
  am_kc (ak_goto dX6_walk_39 (by decide +kernel)) <|
  am_kc (ak_iload_n dX6_walk_42 rfl rfl) <|
  am_kc (ak_iconst dX6_walk_43 (by decide +kernel) rfl) <|
  am_kc (ak_icmp_ne dX6_walk_44 (by decide +kernel) rfl) <|
  am_kc (ak_iconst dX6_walk_47 (by decide +kernel) rfl) <|
  am_kc (ak_goto dX6_walk_48 (by decide +kernel)) <|
  am_kc (ak_iconst dX6_walk_51 (by decide +kernel) rfl) <|
  am_kc (ak_istore dX6_walk_52 rfl) <|
  am_kc (ak_aload dX6_walk_54 rfl) <|
  am_kc (ak_iload dX6_walk_56 rfl) <|
  am_kc (ak_iload_n dX6_walk_58 rfl rfl) <|
  am_kc (ak_iconst dX6_walk_59 (by decide +kernel) rfl) <|
  am_kc (ak_icmp_ne dX6_walk_60 (by decide +kernel) rfl) <|
  am_kc (ak_iconst dX6_walk_63 (by decide +kernel) rfl) <|
  am_kc (ak_goto dX6_walk_64 (by decide +kernel)) <|
  am_kc (ak_iconst dX6_walk_67 (by decide +kernel) rfl) <|
  am_kc (ak_iload_n dX6_walk_68 rfl rfl) <|
  am_kc (ak_iconst dX6_walk_69 (by decide +kernel) rfl) <|
  am_kc (ak_icmp_ne dX6_walk_70 (by decide +kernel) rfl) <|
  am_kc (ak_iconst dX6_walk_73 (by decide +kernel) rfl) <|
  am_kc (ak_goto dX6_walk_74 (by decide +kernel)) <|
  am_kc (ak_iconst dX6_walk_77 (by decide +kernel) rfl) <|
  am_kc (ak_callV (C := RX4) (F := TX4) (N := 18) metX4_suppose rfl ⟨rfl, by decide +kernel, by decide +kernel, by decide +kernel⟩ (am_w5 wd_788 wd_561 wd_562 wd_60 wd_563) (by omega) dX6_walk_78 rfl) <|
  am_kc (ak_aload dX6_walk_81 rfl) <|
  am_kc (ak_aload_n dX6_walk_83 rfl rfl) <|
  am_kc (ak_getI (C := RX6) (T := TX6) (N := 9) rfl inX6w (by decide) rfl rfl rfl wd_355 dX6_walk_84 rfl) <|
  am_kc (ak_iload_n dX6_walk_87 rfl rfl) <|
  am_kc (ak_iadd dX6_walk_88 rfl) <|
  am_kc (ak_callV (C := RX4) (F := TX4) (N := 18) metX4_turn rfl ⟨rfl, by decide +kernel, by decide +kernel, by decide +kernel⟩ (am_w5 wd_789 wd_570 wd_571 wd_60 wd_572) (by omega) dX6_walk_89 rfl) <|
  am_kc (ak_lload dX6_walk_92 rfl) <|
  am_kc (ak_aload dX6_walk_94 rfl) <|
  am_kc (ak_iconst dX6_walk_96 (by decide +kernel) rfl) <|
  am_kc (ak_callV (C := RX4) (F := TX4) (N := 18) metX4_together rfl ⟨rfl, by decide +kernel, by decide +kernel, by decide +kernel⟩ (am_w5 wd_790 wd_647 wd_648 wd_60 wd_649) (by omega) dX6_walk_97 rfl) <|
  am_kc (ak_ladd dX6_walk_100 rfl) <|
  am_kc (ak_lstore dX6_walk_101 rfl) <|
  am_kc (ak_lload dX6_walk_103 rfl) <|
  am_kc (ak_aload dX6_walk_105 rfl) <|
  am_kc (ak_iconst dX6_walk_107 (by decide +kernel) rfl) <|
  am_kc (ak_callV (C := RX4) (F := TX4) (N := 18) metX4_together rfl ⟨rfl, by decide +kernel, by decide +kernel, by decide +kernel⟩ (am_w5 wd_790 wd_647 wd_648 wd_60 wd_649) (by omega) dX6_walk_108 rfl) <|
  am_kc (ak_ladd dX6_walk_111 rfl) <|
  am_kc (ak_lstore dX6_walk_112 rfl) <|
  am_kc (ak_iload_n dX6_walk_114 rfl rfl) <|
  am_kc (ak_iconst dX6_walk_115 (by decide +kernel) rfl) <|
  am_kc (ak_iadd dX6_walk_116 rfl) <|
  am_kc (ak_istore dX6_walk_117 rfl) <|
  am_kc (ak_iload dX6_walk_119 rfl) <|
  am_kc (ak_aload_n dX6_walk_121 rfl rfl) <|
  am_kc (ak_getI (C := RX6) (T := TX6) (N := 9) rfl inX6w (by decide) rfl rfl rfl wd_356 dX6_walk_122 rfl) <|
  am_kc (ak_icmp_ge dX6_walk_125 (by decide +kernel) rfl) <|
  am_kc (ak_iload dX6_walk_128 rfl) <|
  am_kc (ak_iconst dX6_walk_130 (by decide +kernel) rfl) <|
  am_kc (ak_icmp_lt dX6_walk_131 (by decide +kernel) rfl) <|
  am_kc (ak_aload_n dX6_walk_134 rfl rfl) <|
  am_kc (ak_lload_n dX6_walk_135 rfl rfl) <|
  am_kc (ak_lload dX6_walk_136 rfl) <|
  am_kc (ak_lload dX6_walk_138 rfl) <|
  am_kc (ak_aload dX6_walk_140 rfl) <|
  am_kc (ak_iconst dX6_walk_142 (by decide +kernel) rfl) <|
  am_kc (ak_callV (C := RX4) (F := TX4) (N := 18) metX4_together rfl ⟨rfl, by decide +kernel, by decide +kernel, by decide +kernel⟩ (am_w5 wd_790 wd_647 wd_648 wd_60 wd_649) (by omega) dX6_walk_143 rfl) <|
  am_kc (ak_ladd dX6_walk_146 rfl) <|
  am_kc (ak_callV (C := RX6) (F := TX6) (N := 9) metX6_end rfl ⟨rfl, by decide +kernel, by decide +kernel, by decide +kernel⟩ (am_w5 wd_791 wd_793 wd_25 wd_59 wd_794) (by omega) dX6_walk_147 rfl) <|
  am_kc (ak_retV dX6_walk_150) <|
  am_kc (ak_aload dX6_walk_151 rfl) <|
  am_kc (ak_getR (C := RX4) (T := TX4) (N := 18) rfl inX4w (by decide) rfl rfl rfl wd_297 dX6_walk_153 rfl) <|
  am_kc (ak_iconst dX6_walk_156 (by decide +kernel) rfl) <|
  am_kc (ak_aload_n dX6_walk_157 rfl rfl) <|
  am_kc (ak_getR (C := RX6) (T := TX6) (N := 9) rfl inX6w (by decide) rfl rfl rfl wd_354 dX6_walk_158 rfl) <|
  am_kc (ak_iload dX6_walk_161 rfl) <|
  am_kc (ak_bipush dX6_walk_163 (by decide +kernel) rfl) <|
  am_kc (ak_imul dX6_walk_165 rfl) <|
  am_kc (ak_bipush dX6_walk_166 (by decide +kernel) rfl) <|
  am_kc (ak_copyJ (am_w4 wd_784 wd_498 wd_497 wd_69) (by omega) dX6_walk_168 rfl) <|
  am_kc (ak_iconst dX6_walk_171 (by decide +kernel) rfl) <|
  am_kc (ak_istore dX6_walk_172 rfl) <|
  am_kc (ak_iload dX6_walk_174 rfl) <|
  am_kc (ak_iconst dX6_walk_176 (by decide +kernel) rfl) <|
  am_kc (ak_icmp_ge dX6_walk_177 (by decide +kernel) rfl) <|
  am_kc (ak_aload dX6_walk_180 rfl) <|
  am_kc (ak_getR (C := RX4) (T := TX4) (N := 18) rfl inX4w (by decide) rfl rfl rfl wd_293 dX6_walk_182 rfl) <|
  am_kc (ak_getR (C := RX0) (T := TX0) (N := 13) rfl inX0w (by decide) rfl rfl rfl wd_222 dX6_walk_185 rfl) <|
  am_kc (ak_iload_n dX6_walk_188 rfl rfl) <|
  am_kc (ak_iconst dX6_walk_189 (by decide +kernel) rfl) <|
  am_kc (ak_imul dX6_walk_190 rfl) <|
  am_kc (ak_iload dX6_walk_191 rfl) <|
  am_kc (ak_iadd dX6_walk_193 rfl) <|
  am_kc (ak_iald (t := 0) (fun _ => rfl) rfl dX6_walk_194 rfl) <|
  am_kc (ak_istore dX6_walk_195 rfl) <|
  am_kc (ak_iload dX6_walk_197 rfl) <|
  am_kc (ak_if_le dX6_walk_199 (by decide +kernel) rfl) <|
  am_kc (ak_aload_n dX6_walk_202 rfl rfl) <|
  am_kc (ak_iload dX6_walk_203 rfl) <|
  am_kc (ak_iload dX6_walk_205 rfl) <|
  am_kc (ak_lload_n dX6_walk_207 rfl rfl) <|
  am_kc (ak_iload dX6_walk_208 rfl) <|
  am_kc (ak_i2l dX6_walk_210 rfl) <|
  am_kc (ak_lmul dX6_walk_211 rfl) <|
  am_kc (ak_lload dX6_walk_212 rfl) <|
  am_kc (ak_lload dX6_walk_214 rfl) <|
  am_kc (ak_callS hW ⟨rfl, by decide +kernel, by decide +kernel, by decide +kernel⟩ (am_w4 wd_785 wd_786 wd_59 wd_787) (by omega) dX6_walk_216 rfl) <|
  am_kc (ak_iinc dX6_walk_219 (by decide +kernel) rfl) <|
  am_kc (ak_goto dX6_walk_222 (by decide +kernel)) <|
  am_kc (ak_retV dX6_walk_225) <| am_kn
def TX6_walk (d : Nat) : am_T := fun live as M R => match as with
  | [.ref n, .int p, .int s, .long c, .long t, .long u] => am_mn live ∧ n = 2 ∧ am_in s 4 ∧ g_wI M p ∧ 5 ≤ p.toInt + (d : Int) ∧ g_rI M ∧ ∀ M', g_sw M M' → g_rI M' → R none M'
  | _ => False
def JX6_walk : am_E → List Value → am_M → am_R → am_inv := fun live as M0 _ pc => match as with
  | [.ref n, .int p, .int s, .long c, .long t, .long u] => (match pc with
    | 174 => some ([0, 2, 3, 5, 7, 9, 11, 12], fun k L st M => ∃ (t u : Int64) (o : Int32), L = [(0, .ref 2), (2, .int s), (3, .long c), (5, .long t), (7, .long u), (9, .ref 4), (11, .int (p + 1)), (12, .int o)] ∧ st = [] ∧ k = ((5 - o.toInt).toNat, 0) ∧ 0 ≤ o.toInt ∧ g_wI M (p + 1) ∧ g_sw M0 M ∧ g_rI M)
    | _ => none)
  | _ => none
theorem g_yr {M : am_M} {p : Int32} (h : g_wI M p) : am_in (M.1 2 2 + p) 40 := by
  obtain ⟨-, ⟨h1, h5⟩, h2, h3, h4⟩ := h
  have e := i_add (x := M.1 2 2) (y := p) (by omega) (by omega)
  exact ⟨by omega, by omega⟩
theorem g_wI.p {M : am_M} {p : Int32} (h : g_wI M p) : 0 ≤ p.toInt ∧ p.toInt < 5 := by
  obtain ⟨-, ⟨h1, h5⟩, h2, h3, h4⟩ := h
  exact ⟨h1, by omega⟩
theorem g_wI.nx {M M' : am_M} {p : Int32} (h : g_wI M p) (c : g_sw M M') (hn : ¬ M'.1 2 3 ≤ p + 1) : g_wI M' (p + 1) := by
  have h2 := h.sw c
  obtain ⟨-, ⟨h1, h5⟩, h2, h3, h4⟩ := h2
  have e := i_inc (x := p) (by omega) (by omega)
  simp only [i_le] at hn
  exact ⟨(), ⟨by omega, by omega⟩, h2, h3, h4⟩
set_option maxRecDepth 100000 in
set_option maxHeartbeats 16000000 in
theorem metX6_walkG (d rw lw : Nat) (Tw : am_T) (hW : am_Met yX6_walk cX6_walk 14 none rw lw Tw) (hrc : rw + 1 ≤ d + 4 ∧ lw + 33 ≤ 40 * d + 110)
    (hT : ∀ (live : am_E) (p s : Int32) (c t u : Int64) (M : am_M) (R : am_R), am_mn live → am_in s 4 → g_wI M (p + 1) → 5 ≤ p.toInt + (d : Int) → g_rI M → (∀ M', g_sw M M' → g_rI M' → R none M') → Tw live [.ref 2, .int (p + 1), .int s, .long c, .long t, .long u] M R) :
    am_Met yX6_walk cX6_walk 14 none (d + 4) (40 * d + 110) (TX6_walk d) := by
  refine am_met (own := RX6) (by decide +kernel) rfl (kX6_walk d rw lw Tw) (koX6_walk d rw lw Tw hW hrc) 200 JX6_walk ?_ ?_
  · intro live as M Ret h
    unfold TX6_walk at h
    split at h
    · next n p s c t u =>
      refine ⟨Nat.le_of_ble_eq_true rfl, ?_⟩
      change am_wp _ _ _ _ [(0, Value.ref n), (1, Value.int p), (2, Value.int s), (3, Value.long c), (5, Value.long t), (7, Value.long u)] _ _
      obtain ⟨hmn, rfl, hs, hw, hd, hr, h⟩ := h
      have hmn2 := hmn
      obtain ⟨i1, i2, rfl⟩ := hmn2
      have hy := g_yr hw
      have hp := hw.p
      have hp1 := hp.1
      have hp2 := hp.2
      have hrl : ∀ k, Nat.ble k 110 = true → Nat.ble k (40 * d + 110) = true := fun k hk => Nat.ble_eq.mpr (by have := Nat.le_of_ble_eq_true hk; omega)
      have hrl2 := hrl 23 rfl
      have e30 := i_mul (x := p) (y := 30) (by simp only [Int32.reduceToInt]; omega) (by simp only [Int32.reduceToInt]; omega)
      simp only [Int32.reduceToInt] at e30
      have hi := i_inc (x := p) (by omega) (by omega)
      have e31 := i_mul (x := p + 1) (y := 30) (by simp only [Int32.reduceToInt]; omega) (by simp only [Int32.reduceToInt]; omega)
      simp only [Int32.reduceToInt] at e31
      have l3 : am_len 3 = 150 := rfl
      have l6 : am_len 6 = 180 := rfl
      have w0 : am_in (0 : Int32) 6 := ⟨by decide, by decide⟩
      have w1 : am_in (1 : Int32) 6 := ⟨by decide, by decide⟩
      have w2 : am_in (2 : Int32) 6 := ⟨by decide, by decide⟩
      have hz5 : ¬ (5 : Int32) ≤ p := by simp only [i_le, Int32.reduceToInt]; omega
      have hlt5 : p < 5 := by simp only [i_lt, Int32.reduceToInt]; omega
      have hc4 : s = 0 ∨ s = 1 ∨ s = 2 ∨ s = 3 := by
        have h1 := hs.1
        have h2 := hs.2
        simp only [i_eq, Int32.reduceToInt]
        omega
      rcases hc4 with rfl | rfl | rfl | rfl
      · skip
        repeat' (first | exact rfl | (with_reducible exact hmn) | (with_reducible exact hy) | (with_reducible exact hw) | (with_reducible exact w0) | (with_reducible exact w1) | (with_reducible exact w2) | (with_reducible exact hrl2) | apply And.intro | (intro hx; with_reducible exact absurd hx hz5) | (intro hx; with_reducible exact absurd hlt5 hx) | ((with_reducible change g_rI _); (with_reducible assumption)) | (intro hx; exact absurd hx (by decide)) | (intro hx; exact absurd (by decide) hx) | decide | intro hx | (refine Exists.intro _ (And.intro rfl ?_)) | ((with_reducible change _ = true); simp only [hrl2, Bool.true_and]; rfl))
        all_goals try first | (with_reducible change am_tI _ _) | (change Ret _ _) | (change Ret _ _ _) | (change Exists _)
        all_goals try dsimp only at *
        all_goals try exact absurd ‹(1000 : Int64) = 0› (by decide)
        all_goals first
          | omega
          | (simp only [l3, e30, e31, Int32.reduceToInt]; omega)
          | (have q := hx; simp only [i_lt, hi, Int32.reduceToInt] at q; simp only [l3, e31, hi, Int32.reduceToInt]; omega)
          | exact hy.1
          | exact hy.2
          | (left; rfl)
          | (right; rfl)
          | (change g_rI _; exact g_rI.wF (g_rI.w416 (g_rI.wF (g_rI.cJ hr) rfl) ⟨by decide, by decide⟩) rfl)
          | exact h _ (by (repeat' (first | (with_reducible exact g_sw.rf) | (with_reducible assumption) | ((with_reducible change g_sw _ (am_wI _ _ _ _)); refine g_sw.wI ?_ rfl) | ((with_reducible change g_sw _ (am_wJ _ _ _ _)); refine g_sw.wJ ?_ rfl) | ((with_reducible change g_sw _ (am_cJ _ _ _)); refine g_sw.cJ ?_ rfl) | (refine g_sw.tr ?_ (by with_reducible assumption)) | (refine g_sw.sc ?_ (by with_reducible assumption)) | (refine g_sw.we ?_ (by with_reducible assumption))))) (by (repeat' (first | (with_reducible assumption) | ((with_reducible change g_rI (am_wJ _ _ _ _)); refine g_rI.wJ ?_) | ((with_reducible change g_rI (am_cJ _ _ _)); refine g_rI.cJ ?_) | ((with_reducible change g_rI (am_wI _ 5 _ _)); refine g_rI.w5 ?_) | ((with_reducible change g_rI (am_wI _ _ _ _)); refine g_rI.wF ?_ rfl) | (refine g_rI.st ?_ (by with_reducible assumption)) | (refine g_rI.we ?_ (by with_reducible assumption)))))
          | (have hw2 := hw.nx (M' := ‹am_M›) (by (repeat' (first | (with_reducible exact g_sw.rf) | (with_reducible assumption) | ((with_reducible change g_sw _ (am_wI _ _ _ _)); refine g_sw.wI ?_ rfl) | ((with_reducible change g_sw _ (am_wJ _ _ _ _)); refine g_sw.wJ ?_ rfl) | ((with_reducible change g_sw _ (am_cJ _ _ _)); refine g_sw.cJ ?_ rfl) | (refine g_sw.tr ?_ (by with_reducible assumption)) | (refine g_sw.sc ?_ (by with_reducible assumption)) | (refine g_sw.we ?_ (by with_reducible assumption))))) (by with_reducible assumption)
             exact ⟨_, _, _, _, rfl, rfl, rfl, by decide, hw2.sw (by (repeat' (first | (with_reducible exact g_sw.rf) | (with_reducible assumption) | ((with_reducible change g_sw _ (am_wI _ _ _ _)); refine g_sw.wI ?_ rfl) | ((with_reducible change g_sw _ (am_wJ _ _ _ _)); refine g_sw.wJ ?_ rfl) | ((with_reducible change g_sw _ (am_cJ _ _ _)); refine g_sw.cJ ?_ rfl) | (refine g_sw.tr ?_ (by with_reducible assumption)) | (refine g_sw.sc ?_ (by with_reducible assumption)) | (refine g_sw.we ?_ (by with_reducible assumption))))), by (repeat' (first | (with_reducible exact g_sw.rf) | (with_reducible assumption) | ((with_reducible change g_sw _ (am_wI _ _ _ _)); refine g_sw.wI ?_ rfl) | ((with_reducible change g_sw _ (am_wJ _ _ _ _)); refine g_sw.wJ ?_ rfl) | ((with_reducible change g_sw _ (am_cJ _ _ _)); refine g_sw.cJ ?_ rfl) | (refine g_sw.tr ?_ (by with_reducible assumption)) | (refine g_sw.sc ?_ (by with_reducible assumption)) | (refine g_sw.we ?_ (by with_reducible assumption)))), by (repeat' (first | (with_reducible assumption) | ((with_reducible change g_rI (am_wJ _ _ _ _)); refine g_rI.wJ ?_) | ((with_reducible change g_rI (am_cJ _ _ _)); refine g_rI.cJ ?_) | ((with_reducible change g_rI (am_wI _ 5 _ _)); refine g_rI.w5 ?_) | ((with_reducible change g_rI (am_wI _ _ _ _)); refine g_rI.wF ?_ rfl) | (refine g_rI.st ?_ (by with_reducible assumption)) | (refine g_rI.we ?_ (by with_reducible assumption))))⟩)
          | skip
      · skip
        repeat' (first | exact rfl | (with_reducible exact hmn) | (with_reducible exact hy) | (with_reducible exact hw) | (with_reducible exact w0) | (with_reducible exact w1) | (with_reducible exact w2) | (with_reducible exact hrl2) | apply And.intro | (intro hx; with_reducible exact absurd hx hz5) | (intro hx; with_reducible exact absurd hlt5 hx) | ((with_reducible change g_rI _); (with_reducible assumption)) | (intro hx; exact absurd hx (by decide)) | (intro hx; exact absurd (by decide) hx) | decide | intro hx | (refine Exists.intro _ (And.intro rfl ?_)) | ((with_reducible change _ = true); simp only [hrl2, Bool.true_and]; rfl))
        all_goals try first | (with_reducible change am_tI _ _) | (change Ret _ _) | (change Ret _ _ _) | (change Exists _)
        all_goals try dsimp only at *
        all_goals try exact absurd ‹(1000 : Int64) = 0› (by decide)
        all_goals first
          | omega
          | (simp only [l3, e30, e31, Int32.reduceToInt]; omega)
          | (have q := hx; simp only [i_lt, hi, Int32.reduceToInt] at q; simp only [l3, e31, hi, Int32.reduceToInt]; omega)
          | exact hy.1
          | exact hy.2
          | (left; rfl)
          | (right; rfl)
          | (change g_rI _; exact g_rI.wF (g_rI.w416 (g_rI.wF (g_rI.cJ hr) rfl) ⟨by decide, by decide⟩) rfl)
          | exact h _ (by (repeat' (first | (with_reducible exact g_sw.rf) | (with_reducible assumption) | ((with_reducible change g_sw _ (am_wI _ _ _ _)); refine g_sw.wI ?_ rfl) | ((with_reducible change g_sw _ (am_wJ _ _ _ _)); refine g_sw.wJ ?_ rfl) | ((with_reducible change g_sw _ (am_cJ _ _ _)); refine g_sw.cJ ?_ rfl) | (refine g_sw.tr ?_ (by with_reducible assumption)) | (refine g_sw.sc ?_ (by with_reducible assumption)) | (refine g_sw.we ?_ (by with_reducible assumption))))) (by (repeat' (first | (with_reducible assumption) | ((with_reducible change g_rI (am_wJ _ _ _ _)); refine g_rI.wJ ?_) | ((with_reducible change g_rI (am_cJ _ _ _)); refine g_rI.cJ ?_) | ((with_reducible change g_rI (am_wI _ 5 _ _)); refine g_rI.w5 ?_) | ((with_reducible change g_rI (am_wI _ _ _ _)); refine g_rI.wF ?_ rfl) | (refine g_rI.st ?_ (by with_reducible assumption)) | (refine g_rI.we ?_ (by with_reducible assumption)))))
          | (have hw2 := hw.nx (M' := ‹am_M›) (by (repeat' (first | (with_reducible exact g_sw.rf) | (with_reducible assumption) | ((with_reducible change g_sw _ (am_wI _ _ _ _)); refine g_sw.wI ?_ rfl) | ((with_reducible change g_sw _ (am_wJ _ _ _ _)); refine g_sw.wJ ?_ rfl) | ((with_reducible change g_sw _ (am_cJ _ _ _)); refine g_sw.cJ ?_ rfl) | (refine g_sw.tr ?_ (by with_reducible assumption)) | (refine g_sw.sc ?_ (by with_reducible assumption)) | (refine g_sw.we ?_ (by with_reducible assumption))))) (by with_reducible assumption)
             exact ⟨_, _, _, _, rfl, rfl, rfl, by decide, hw2.sw (by (repeat' (first | (with_reducible exact g_sw.rf) | (with_reducible assumption) | ((with_reducible change g_sw _ (am_wI _ _ _ _)); refine g_sw.wI ?_ rfl) | ((with_reducible change g_sw _ (am_wJ _ _ _ _)); refine g_sw.wJ ?_ rfl) | ((with_reducible change g_sw _ (am_cJ _ _ _)); refine g_sw.cJ ?_ rfl) | (refine g_sw.tr ?_ (by with_reducible assumption)) | (refine g_sw.sc ?_ (by with_reducible assumption)) | (refine g_sw.we ?_ (by with_reducible assumption))))), by (repeat' (first | (with_reducible exact g_sw.rf) | (with_reducible assumption) | ((with_reducible change g_sw _ (am_wI _ _ _ _)); refine g_sw.wI ?_ rfl) | ((with_reducible change g_sw _ (am_wJ _ _ _ _)); refine g_sw.wJ ?_ rfl) | ((with_reducible change g_sw _ (am_cJ _ _ _)); refine g_sw.cJ ?_ rfl) | (refine g_sw.tr ?_ (by with_reducible assumption)) | (refine g_sw.sc ?_ (by with_reducible assumption)) | (refine g_sw.we ?_ (by with_reducible assumption)))), by (repeat' (first | (with_reducible assumption) | ((with_reducible change g_rI (am_wJ _ _ _ _)); refine g_rI.wJ ?_) | ((with_reducible change g_rI (am_cJ _ _ _)); refine g_rI.cJ ?_) | ((with_reducible change g_rI (am_wI _ 5 _ _)); refine g_rI.w5 ?_) | ((with_reducible change g_rI (am_wI _ _ _ _)); refine g_rI.wF ?_ rfl) | (refine g_rI.st ?_ (by with_reducible assumption)) | (refine g_rI.we ?_ (by with_reducible assumption))))⟩)
          | skip
      · skip
        repeat' (first | exact rfl | (with_reducible exact hmn) | (with_reducible exact hy) | (with_reducible exact hw) | (with_reducible exact w0) | (with_reducible exact w1) | (with_reducible exact w2) | (with_reducible exact hrl2) | apply And.intro | (intro hx; with_reducible exact absurd hx hz5) | (intro hx; with_reducible exact absurd hlt5 hx) | ((with_reducible change g_rI _); (with_reducible assumption)) | (intro hx; exact absurd hx (by decide)) | (intro hx; exact absurd (by decide) hx) | decide | intro hx | (refine Exists.intro _ (And.intro rfl ?_)) | ((with_reducible change _ = true); simp only [hrl2, Bool.true_and]; rfl))
        all_goals try first | (with_reducible change am_tI _ _) | (change Ret _ _) | (change Ret _ _ _) | (change Exists _)
        all_goals try dsimp only at *
        all_goals try exact absurd ‹(1000 : Int64) = 0› (by decide)
        all_goals first
          | omega
          | (simp only [l3, e30, e31, Int32.reduceToInt]; omega)
          | (have q := hx; simp only [i_lt, hi, Int32.reduceToInt] at q; simp only [l3, e31, hi, Int32.reduceToInt]; omega)
          | exact hy.1
          | exact hy.2
          | (left; rfl)
          | (right; rfl)
          | (change g_rI _; exact g_rI.wF (g_rI.w416 (g_rI.wF (g_rI.cJ hr) rfl) ⟨by decide, by decide⟩) rfl)
          | exact h _ (by (repeat' (first | (with_reducible exact g_sw.rf) | (with_reducible assumption) | ((with_reducible change g_sw _ (am_wI _ _ _ _)); refine g_sw.wI ?_ rfl) | ((with_reducible change g_sw _ (am_wJ _ _ _ _)); refine g_sw.wJ ?_ rfl) | ((with_reducible change g_sw _ (am_cJ _ _ _)); refine g_sw.cJ ?_ rfl) | (refine g_sw.tr ?_ (by with_reducible assumption)) | (refine g_sw.sc ?_ (by with_reducible assumption)) | (refine g_sw.we ?_ (by with_reducible assumption))))) (by (repeat' (first | (with_reducible assumption) | ((with_reducible change g_rI (am_wJ _ _ _ _)); refine g_rI.wJ ?_) | ((with_reducible change g_rI (am_cJ _ _ _)); refine g_rI.cJ ?_) | ((with_reducible change g_rI (am_wI _ 5 _ _)); refine g_rI.w5 ?_) | ((with_reducible change g_rI (am_wI _ _ _ _)); refine g_rI.wF ?_ rfl) | (refine g_rI.st ?_ (by with_reducible assumption)) | (refine g_rI.we ?_ (by with_reducible assumption)))))
          | (have hw2 := hw.nx (M' := ‹am_M›) (by (repeat' (first | (with_reducible exact g_sw.rf) | (with_reducible assumption) | ((with_reducible change g_sw _ (am_wI _ _ _ _)); refine g_sw.wI ?_ rfl) | ((with_reducible change g_sw _ (am_wJ _ _ _ _)); refine g_sw.wJ ?_ rfl) | ((with_reducible change g_sw _ (am_cJ _ _ _)); refine g_sw.cJ ?_ rfl) | (refine g_sw.tr ?_ (by with_reducible assumption)) | (refine g_sw.sc ?_ (by with_reducible assumption)) | (refine g_sw.we ?_ (by with_reducible assumption))))) (by with_reducible assumption)
             exact ⟨_, _, _, _, rfl, rfl, rfl, by decide, hw2.sw (by (repeat' (first | (with_reducible exact g_sw.rf) | (with_reducible assumption) | ((with_reducible change g_sw _ (am_wI _ _ _ _)); refine g_sw.wI ?_ rfl) | ((with_reducible change g_sw _ (am_wJ _ _ _ _)); refine g_sw.wJ ?_ rfl) | ((with_reducible change g_sw _ (am_cJ _ _ _)); refine g_sw.cJ ?_ rfl) | (refine g_sw.tr ?_ (by with_reducible assumption)) | (refine g_sw.sc ?_ (by with_reducible assumption)) | (refine g_sw.we ?_ (by with_reducible assumption))))), by (repeat' (first | (with_reducible exact g_sw.rf) | (with_reducible assumption) | ((with_reducible change g_sw _ (am_wI _ _ _ _)); refine g_sw.wI ?_ rfl) | ((with_reducible change g_sw _ (am_wJ _ _ _ _)); refine g_sw.wJ ?_ rfl) | ((with_reducible change g_sw _ (am_cJ _ _ _)); refine g_sw.cJ ?_ rfl) | (refine g_sw.tr ?_ (by with_reducible assumption)) | (refine g_sw.sc ?_ (by with_reducible assumption)) | (refine g_sw.we ?_ (by with_reducible assumption)))), by (repeat' (first | (with_reducible assumption) | ((with_reducible change g_rI (am_wJ _ _ _ _)); refine g_rI.wJ ?_) | ((with_reducible change g_rI (am_cJ _ _ _)); refine g_rI.cJ ?_) | ((with_reducible change g_rI (am_wI _ 5 _ _)); refine g_rI.w5 ?_) | ((with_reducible change g_rI (am_wI _ _ _ _)); refine g_rI.wF ?_ rfl) | (refine g_rI.st ?_ (by with_reducible assumption)) | (refine g_rI.we ?_ (by with_reducible assumption))))⟩)
          | skip
      · skip
        repeat' (first | exact rfl | (with_reducible exact hmn) | (with_reducible exact hy) | (with_reducible exact hw) | (with_reducible exact w0) | (with_reducible exact w1) | (with_reducible exact w2) | (with_reducible exact hrl2) | apply And.intro | (intro hx; with_reducible exact absurd hx hz5) | (intro hx; with_reducible exact absurd hlt5 hx) | ((with_reducible change g_rI _); (with_reducible assumption)) | (intro hx; exact absurd hx (by decide)) | (intro hx; exact absurd (by decide) hx) | decide | intro hx | (refine Exists.intro _ (And.intro rfl ?_)) | ((with_reducible change _ = true); simp only [hrl2, Bool.true_and]; rfl))
        all_goals try first | (with_reducible change am_tI _ _) | (change Ret _ _) | (change Ret _ _ _) | (change Exists _)
        all_goals try dsimp only at *
        all_goals try exact absurd ‹(1000 : Int64) = 0› (by decide)
        all_goals first
          | omega
          | (simp only [l3, e30, e31, Int32.reduceToInt]; omega)
          | (have q := hx; simp only [i_lt, hi, Int32.reduceToInt] at q; simp only [l3, e31, hi, Int32.reduceToInt]; omega)
          | exact hy.1
          | exact hy.2
          | (left; rfl)
          | (right; rfl)
          | (change g_rI _; exact g_rI.wF (g_rI.w416 (g_rI.wF (g_rI.cJ hr) rfl) ⟨by decide, by decide⟩) rfl)
          | exact h _ (by (repeat' (first | (with_reducible exact g_sw.rf) | (with_reducible assumption) | ((with_reducible change g_sw _ (am_wI _ _ _ _)); refine g_sw.wI ?_ rfl) | ((with_reducible change g_sw _ (am_wJ _ _ _ _)); refine g_sw.wJ ?_ rfl) | ((with_reducible change g_sw _ (am_cJ _ _ _)); refine g_sw.cJ ?_ rfl) | (refine g_sw.tr ?_ (by with_reducible assumption)) | (refine g_sw.sc ?_ (by with_reducible assumption)) | (refine g_sw.we ?_ (by with_reducible assumption))))) (by (repeat' (first | (with_reducible assumption) | ((with_reducible change g_rI (am_wJ _ _ _ _)); refine g_rI.wJ ?_) | ((with_reducible change g_rI (am_cJ _ _ _)); refine g_rI.cJ ?_) | ((with_reducible change g_rI (am_wI _ 5 _ _)); refine g_rI.w5 ?_) | ((with_reducible change g_rI (am_wI _ _ _ _)); refine g_rI.wF ?_ rfl) | (refine g_rI.st ?_ (by with_reducible assumption)) | (refine g_rI.we ?_ (by with_reducible assumption)))))
          | (have hw2 := hw.nx (M' := ‹am_M›) (by (repeat' (first | (with_reducible exact g_sw.rf) | (with_reducible assumption) | ((with_reducible change g_sw _ (am_wI _ _ _ _)); refine g_sw.wI ?_ rfl) | ((with_reducible change g_sw _ (am_wJ _ _ _ _)); refine g_sw.wJ ?_ rfl) | ((with_reducible change g_sw _ (am_cJ _ _ _)); refine g_sw.cJ ?_ rfl) | (refine g_sw.tr ?_ (by with_reducible assumption)) | (refine g_sw.sc ?_ (by with_reducible assumption)) | (refine g_sw.we ?_ (by with_reducible assumption))))) (by with_reducible assumption)
             exact ⟨_, _, _, _, rfl, rfl, rfl, by decide, hw2.sw (by (repeat' (first | (with_reducible exact g_sw.rf) | (with_reducible assumption) | ((with_reducible change g_sw _ (am_wI _ _ _ _)); refine g_sw.wI ?_ rfl) | ((with_reducible change g_sw _ (am_wJ _ _ _ _)); refine g_sw.wJ ?_ rfl) | ((with_reducible change g_sw _ (am_cJ _ _ _)); refine g_sw.cJ ?_ rfl) | (refine g_sw.tr ?_ (by with_reducible assumption)) | (refine g_sw.sc ?_ (by with_reducible assumption)) | (refine g_sw.we ?_ (by with_reducible assumption))))), by (repeat' (first | (with_reducible exact g_sw.rf) | (with_reducible assumption) | ((with_reducible change g_sw _ (am_wI _ _ _ _)); refine g_sw.wI ?_ rfl) | ((with_reducible change g_sw _ (am_wJ _ _ _ _)); refine g_sw.wJ ?_ rfl) | ((with_reducible change g_sw _ (am_cJ _ _ _)); refine g_sw.cJ ?_ rfl) | (refine g_sw.tr ?_ (by with_reducible assumption)) | (refine g_sw.sc ?_ (by with_reducible assumption)) | (refine g_sw.we ?_ (by with_reducible assumption)))), by (repeat' (first | (with_reducible assumption) | ((with_reducible change g_rI (am_wJ _ _ _ _)); refine g_rI.wJ ?_) | ((with_reducible change g_rI (am_cJ _ _ _)); refine g_rI.cJ ?_) | ((with_reducible change g_rI (am_wI _ 5 _ _)); refine g_rI.w5 ?_) | ((with_reducible change g_rI (am_wI _ _ _ _)); refine g_rI.wF ?_ rfl) | (refine g_rI.st ?_ (by with_reducible assumption)) | (refine g_rI.we ?_ (by with_reducible assumption))))⟩)
          | skip
    · exact h.elim
  · intro live as M0 Ret h k pc I hI L st M hi
    unfold TX6_walk at h
    split at h
    · next n p s c t u =>
      obtain ⟨hmn, rfl, hs, hw, hd, hr, h⟩ := h
      have hmn2 := hmn
      obtain ⟨i1, i2, rfl⟩ := hmn2
      change (match pc with | 174 => _ | _ => none) = _ at hI
      split at hI
      · cases hI
        obtain ⟨t, u, o, rfl, rfl, rfl, e1, e4, e2, e3⟩ := hi
        have hs1 := hs.1
        have hs2 := hs.2
        by_cases hz : (4 : Int32) ≤ o
        · skip
          repeat' (first | exact rfl | apply And.intro | (intro hx; with_reducible exact absurd hz hx) | intro hx | (refine Exists.intro _ (And.intro rfl ?_)))
          all_goals try first | (with_reducible change am_tI _ _) | (change Ret _ _) | (change Ret _ _ _) | (change Exists _)
          all_goals try dsimp only at *
          all_goals try exact absurd ‹(1000 : Int64) = 0› (by decide)
          exact h _ e2 e3
        · have hz2 := hz
          simp only [i_le, Int32.reduceToInt] at hz2
          have ho := i_inc (x := o) (by omega) (by omega)
          have ho4 : am_in o 4 := ⟨e1, by omega⟩
          have e40 := i_mul (x := s) (y := 4) (by simp only [Int32.reduceToInt]; omega) (by simp only [Int32.reduceToInt]; omega)
          simp only [Int32.reduceToInt] at e40
          have e := i_add (x := s * 4) (y := o) (by rw [e40]; omega) (by rw [e40]; omega)
          have l57 : am_len 57 = 16 := rfl
          have hp := hw.p
          repeat' (first | exact rfl | (with_reducible exact hmn) | (with_reducible exact hw) | (with_reducible exact ho4) | (with_reducible exact e4) | (with_reducible exact e3) | apply And.intro | (intro hx; with_reducible exact absurd hx hz) | ((with_reducible change g_rI _); (with_reducible assumption)) | intro hx | (refine Exists.intro _ (And.intro rfl ?_)) | (refine hT _ _ _ _ _ _ _ _ hmn ho4 e4 hd e3 (fun M1 c1 r1 => ?_)))
          all_goals try first | (with_reducible change am_tI _ _) | (change Ret _ _) | (change Ret _ _ _) | (change Exists _)
          all_goals try dsimp only at *
          all_goals try exact absurd ‹(1000 : Int64) = 0› (by decide)
          all_goals first
            | omega
            | (simp only [l57, e, e40]; omega)
            | exact ⟨_, am_lt_l (by omega), _, _, _, rfl, rfl, rfl, by omega, e4, e2, e3⟩
            | exact ⟨_, am_lt_l (by omega), _, _, _, rfl, rfl, rfl, by omega, e4.sw ‹g_sw M _›, e2.tr ‹g_sw M _›, ‹g_rI _›⟩
            | skip
      · cases hI
    · exact h.elim
theorem am_MetF2 (y : MethodName) (cc : ByteArray) (nL : Nat) (rt : Option FieldType) (rf rl : Nat) : am_Met y cc nL rt rf rl (fun _ _ _ _ => False) := fun _ _ _ _ _ _ _ _ _ h => h.elim
theorem metX6_walk : ∀ d : Nat, am_Met yX6_walk cX6_walk 14 none (d + 4) (40 * d + 110) (TX6_walk d)
  | 0 => metX6_walkG 0 0 0 _ (am_MetF2 _ _ _ _ _ _) (by omega) (fun live p s c t u M R h1 h2 h3 h4 h5 h6 => by
      exfalso
      have := h3.p
      by_cases z : p.toInt < 2000000000
      · by_cases z2 : -1 ≤ p.toInt
        · have e := i_inc (x := p) z2 z
          omega
        · omega
      · have h := i_hi p
        by_cases z3 : p.toInt < 2147483647
        · have e := i_add (x := p) (y := 1) (by simp only [Int32.reduceToInt]; omega) (by simp only [Int32.reduceToInt]; omega)
          simp only [Int32.reduceToInt] at e
          omega
        · have e : p = 2147483647 := (i_eq _ _).mpr (by simp only [Int32.reduceToInt]; omega)
          rw [e] at this
          exact absurd this.1 (by decide))
  | d + 1 => metX6_walkG (d + 1) (d + 4) (40 * d + 110) _ (metX6_walk d) (by omega) (fun live p s c t u M R h1 h2 h3 h4 h5 h6 => ⟨h1, rfl, h2, h3, (by
      have := h3.p
      have h := i_hi p
      have h' := i_lo p
      by_cases z3 : p.toInt < 2147483647
      · have e := i_add (x := p) (y := 1) (by simp only [Int32.reduceToInt]; omega) (by simp only [Int32.reduceToInt]; omega)
        simp only [Int32.reduceToInt] at e
        omega
      · have e : p = 2147483647 := (i_eq _ _).mpr (by simp only [Int32.reduceToInt]; omega)
        rw [e] at this
        exact absurd this.1 (by decide)), h5, h6⟩)
theorem wd_781 : Cond.constantLong "LearnLoans$Ways" 39 1000000000000000000 ∈ am_ws := am_wsi (List.mem_of_getElem? (i := 781) (by decide +kernel)) (by decide +kernel)
theorem wd_782 : Cond.methodLink "LearnLoans$Ways" 47 yX4_begin ∈ am_ws := am_wsi (List.mem_of_getElem? (i := 782) (by decide +kernel)) (by decide +kernel)
theorem wd_544 : Cond.instanceMethod yX4_begin ∈ am_ws := am_wsi (List.mem_of_getElem? (i := 544) (by decide +kernel)) (by decide +kernel)
theorem wd_545 : Cond.selects "LearnLoans$Run" yX4_begin yX4_begin ∈ am_ws := am_wsi (List.mem_of_getElem? (i := 545) (by decide +kernel)) (by decide +kernel)
theorem wd_546 : Cond.code yX4_begin cX4_begin 5 none ∈ am_ws := am_wsi (List.mem_of_getElem? (i := 546) (by decide +kernel)) (by decide +kernel)
theorem wd_783 : Cond.methodLink "LearnLoans$Ways" 51 yX4_go ∈ am_ws := am_wsi (List.mem_of_getElem? (i := 783) (by decide +kernel)) (by decide +kernel)
theorem wd_553 : Cond.instanceMethod yX4_go ∈ am_ws := am_wsi (List.mem_of_getElem? (i := 553) (by decide +kernel)) (by decide +kernel)
theorem wd_554 : Cond.selects "LearnLoans$Run" yX4_go yX4_go ∈ am_ws := am_wsi (List.mem_of_getElem? (i := 554) (by decide +kernel)) (by decide +kernel)
theorem wd_555 : Cond.code yX4_go cX4_go 3 none ∈ am_ws := am_wsi (List.mem_of_getElem? (i := 555) (by decide +kernel)) (by decide +kernel)
theorem dX6_follow_0 : decode cX6_follow 0 = .ok (.aload_n 0, 1) := by decide +kernel
theorem dX6_follow_1 : decode cX6_follow 1 = .ok (.iload 4, 2) := by decide +kernel
theorem dX6_follow_3 : decode cX6_follow 3 = .ok (.putfield 22, 3) := by decide +kernel
theorem dX6_follow_6 : decode cX6_follow 6 = .ok (.aload_n 0, 1) := by decide +kernel
theorem dX6_follow_7 : decode cX6_follow 7 = .ok (.iload 5, 2) := by decide +kernel
theorem dX6_follow_9 : decode cX6_follow 9 = .ok (.putfield 26, 3) := by decide +kernel
theorem dX6_follow_12 : decode cX6_follow 12 = .ok (.aload_n 0, 1) := by decide +kernel
theorem dX6_follow_13 : decode cX6_follow 13 = .ok (.iload_n 3, 1) := by decide +kernel
theorem dX6_follow_14 : decode cX6_follow 14 = .ok (.putfield 29, 3) := by decide +kernel
theorem dX6_follow_17 : decode cX6_follow 17 = .ok (.aload_n 0, 1) := by decide +kernel
theorem dX6_follow_18 : decode cX6_follow 18 = .ok (.lconst 0, 1) := by decide +kernel
theorem dX6_follow_19 : decode cX6_follow 19 = .ok (.putfield 32, 3) := by decide +kernel
theorem dX6_follow_22 : decode cX6_follow 22 = .ok (.aload_n 0, 1) := by decide +kernel
theorem dX6_follow_23 : decode cX6_follow 23 = .ok (.lconst 0, 1) := by decide +kernel
theorem dX6_follow_24 : decode cX6_follow 24 = .ok (.putfield 36, 3) := by decide +kernel
theorem dX6_follow_27 : decode cX6_follow 27 = .ok (.aload_n 0, 1) := by decide +kernel
theorem dX6_follow_28 : decode cX6_follow 28 = .ok (.ldc2_w 39, 3) := by decide +kernel
theorem dX6_follow_31 : decode cX6_follow 31 = .ok (.putfield 41, 3) := by decide +kernel
theorem dX6_follow_34 : decode cX6_follow 34 = .ok (.aload_n 0, 1) := by decide +kernel
theorem dX6_follow_35 : decode cX6_follow 35 = .ok (.lconst 0, 1) := by decide +kernel
theorem dX6_follow_36 : decode cX6_follow 36 = .ok (.putfield 44, 3) := by decide +kernel
theorem dX6_follow_39 : decode cX6_follow 39 = .ok (.aload_n 0, 1) := by decide +kernel
theorem dX6_follow_40 : decode cX6_follow 40 = .ok (.getfield 12, 3) := by decide +kernel
theorem dX6_follow_43 : decode cX6_follow 43 = .ok (.iload_n 1, 1) := by decide +kernel
theorem dX6_follow_44 : decode cX6_follow 44 = .ok (.bipush 39, 2) := by decide +kernel
theorem dX6_follow_46 : decode cX6_follow 46 = .ok (.invokevirtual 47, 3) := by decide +kernel
theorem dX6_follow_49 : decode cX6_follow 49 = .ok (.aload_n 0, 1) := by decide +kernel
theorem dX6_follow_50 : decode cX6_follow 50 = .ok (.getfield 12, 3) := by decide +kernel
theorem dX6_follow_53 : decode cX6_follow 53 = .ok (.iload 4, 2) := by decide +kernel
theorem dX6_follow_55 : decode cX6_follow 55 = .ok (.iconst 1, 1) := by decide +kernel
theorem dX6_follow_56 : decode cX6_follow 56 = .ok (.isub, 1) := by decide +kernel
theorem dX6_follow_57 : decode cX6_follow 57 = .ok (.invokevirtual 51, 3) := by decide +kernel
theorem dX6_follow_60 : decode cX6_follow 60 = .ok (.aload_n 0, 1) := by decide +kernel
theorem dX6_follow_61 : decode cX6_follow 61 = .ok (.getfield 12, 3) := by decide +kernel
theorem dX6_follow_64 : decode cX6_follow 64 = .ok (.getfield 55, 3) := by decide +kernel
theorem dX6_follow_67 : decode cX6_follow 67 = .ok (.iconst 0, 1) := by decide +kernel
theorem dX6_follow_68 : decode cX6_follow 68 = .ok (.aload_n 0, 1) := by decide +kernel
theorem dX6_follow_69 : decode cX6_follow 69 = .ok (.getfield 18, 3) := by decide +kernel
theorem dX6_follow_72 : decode cX6_follow 72 = .ok (.iconst 0, 1) := by decide +kernel
theorem dX6_follow_73 : decode cX6_follow 73 = .ok (.bipush 30, 2) := by decide +kernel
theorem dX6_follow_75 : decode cX6_follow 75 = .ok (.invokestatic 58, 3) := by decide +kernel
theorem dX6_follow_78 : decode cX6_follow 78 = .ok (.aload_n 0, 1) := by decide +kernel
theorem dX6_follow_79 : decode cX6_follow 79 = .ok (.iconst 0, 1) := by decide +kernel
theorem dX6_follow_80 : decode cX6_follow 80 = .ok (.iload_n 2, 1) := by decide +kernel
theorem dX6_follow_81 : decode cX6_follow 81 = .ok (.lconst 1, 1) := by decide +kernel
theorem dX6_follow_82 : decode cX6_follow 82 = .ok (.lconst 0, 1) := by decide +kernel
theorem dX6_follow_83 : decode cX6_follow 83 = .ok (.lconst 0, 1) := by decide +kernel
theorem dX6_follow_84 : decode cX6_follow 84 = .ok (.invokestatic 64, 3) := by decide +kernel
theorem dX6_follow_87 : decode cX6_follow 87 = .ok (.return_, 1) := by decide +kernel
def kX6_follow (live : am_E) (Ret : am_R) : am_code := [(0, am_aload 0 1), (1, am_iload 4 3), (3, am_putI live 6 2 6), (6, am_aload 0 7), (7, am_iload 5 9), (9, am_putI live 6 3 12), (12, am_aload 0 13), (13, am_iload 3 14), (14, am_putI live 6 4 17), (17, am_aload 0 18), (18, am_const (.long 0) 19), (19, am_putJ live 6 5 22), (22, am_aload 0 23), (23, am_const (.long 0) 24), (24, am_putJ live 6 8 27), (27, am_aload 0 28), (28, am_const (.long 1000000000000000000) 31), (31, am_putJ live 6 6 34), (34, am_aload 0 35), (35, am_const (.long 0) 36), (36, am_putJ live 6 7 39), (39, am_aload 0 40), (40, am_getR live 6 0 43), (43, am_iload 1 44), (44, am_const (.int 39) 46), (46, am_callV live 4 2 TX4_begin 49), (49, am_aload 0 50), (50, am_getR live 6 0 53), (53, am_iload 4 55), (55, am_const (.int 1) 56), (56, am_i2 (fun x y => x - y) 57), (57, am_callV live 4 1 TX4_go 60), (60, am_aload 0 61), (61, am_getR live 6 0 64), (64, am_getR live 4 2 67), (67, am_const (.int 0) 68), (68, am_aload 0 69), (69, am_getR live 6 1 72), (72, am_const (.int 0) 73), (73, am_const (.int 30) 75), (75, am_copyJ live 343 78), (78, am_aload 0 79), (79, am_const (.int 0) 80), (80, am_iload 2 81), (81, am_const (.long 1) 82), (82, am_const (.long 0) 83), (83, am_const (.long 0) 84), (84, am_callS live 6 (TX6_walk 5) 87), (87, am_retV Ret)]
theorem koX6_follow (live : am_E) (Ret : am_R) : ∀ q ∈ kX6_follow live Ret, am_ok RX6 cX6_follow 6 none 10 343 live Ret q.1 q.2 :=
  am_kc (ak_aload_n dX6_follow_0 rfl rfl) <|
  am_kc (ak_iload dX6_follow_1 rfl) <|
  am_kc (ak_putI (C := RX6) (T := TX6) (N := 9) rfl inX6w tyX6_ok nmX6 (by decide) rfl rfl rfl rfl (by decide +kernel) wd_355 dX6_follow_3 rfl) <|
  am_kc (ak_aload_n dX6_follow_6 rfl rfl) <|
  am_kc (ak_iload dX6_follow_7 rfl) <|
  am_kc (ak_putI (C := RX6) (T := TX6) (N := 9) rfl inX6w tyX6_ok nmX6 (by decide) rfl rfl rfl rfl (by decide +kernel) wd_356 dX6_follow_9 rfl) <|
  am_kc (ak_aload_n dX6_follow_12 rfl rfl) <|
  am_kc (ak_iload_n dX6_follow_13 rfl rfl) <|
  am_kc (ak_putI (C := RX6) (T := TX6) (N := 9) rfl inX6w tyX6_ok nmX6 (by decide) rfl rfl rfl rfl (by decide +kernel) wd_357 dX6_follow_14 rfl) <|
  am_kc (ak_aload_n dX6_follow_17 rfl rfl) <|
  am_kc (ak_lconst dX6_follow_18 (by decide +kernel) rfl) <|
  am_kc (ak_putJ (C := RX6) (T := TX6) (N := 9) rfl inX6w tyX6_ok nmX6 (by decide) rfl rfl rfl rfl (by decide +kernel) wd_358 dX6_follow_19 rfl) <|
  am_kc (ak_aload_n dX6_follow_22 rfl rfl) <|
  am_kc (ak_lconst dX6_follow_23 (by decide +kernel) rfl) <|
  am_kc (ak_putJ (C := RX6) (T := TX6) (N := 9) rfl inX6w tyX6_ok nmX6 (by decide) rfl rfl rfl rfl (by decide +kernel) wd_364 dX6_follow_24 rfl) <|
  am_kc (ak_aload_n dX6_follow_27 rfl rfl) <|
  am_kc (ak_ldc2 wd_781 dX6_follow_28 rfl) <|
  am_kc (ak_putJ (C := RX6) (T := TX6) (N := 9) rfl inX6w tyX6_ok nmX6 (by decide) rfl rfl rfl rfl (by decide +kernel) wd_360 dX6_follow_31 rfl) <|
  am_kc (ak_aload_n dX6_follow_34 rfl rfl) <|
  am_kc (ak_lconst dX6_follow_35 (by decide +kernel) rfl) <|
  am_kc (ak_putJ (C := RX6) (T := TX6) (N := 9) rfl inX6w tyX6_ok nmX6 (by decide) rfl rfl rfl rfl (by decide +kernel) wd_362 dX6_follow_36 rfl) <|
  am_kc (ak_aload_n dX6_follow_39 rfl rfl) <|
  am_kc (ak_getR (C := RX6) (T := TX6) (N := 9) rfl inX6w (by decide) rfl rfl rfl wd_352 dX6_follow_40 rfl) <|
  am_kc (ak_iload_n dX6_follow_43 rfl rfl) <|
  am_kc (ak_bipush dX6_follow_44 (by decide +kernel) rfl) <|
  am_kc (ak_callV (C := RX4) (F := TX4) (N := 18) metX4_begin rfl ⟨rfl, by decide +kernel, by decide +kernel, by decide +kernel⟩ (am_w5 wd_782 wd_544 wd_545 wd_60 wd_546) (by decide) dX6_follow_46 rfl) <|
  am_kc (ak_aload_n dX6_follow_49 rfl rfl) <|
  am_kc (ak_getR (C := RX6) (T := TX6) (N := 9) rfl inX6w (by decide) rfl rfl rfl wd_352 dX6_follow_50 rfl) <|
  am_kc (ak_iload dX6_follow_53 rfl) <|
  am_kc (ak_iconst dX6_follow_55 (by decide +kernel) rfl) <|
  am_kc (ak_isub dX6_follow_56 rfl) <|
  am_kc (ak_callV (C := RX4) (F := TX4) (N := 18) metX4_go rfl ⟨rfl, by decide +kernel, by decide +kernel, by decide +kernel⟩ (am_w5 wd_783 wd_553 wd_554 wd_60 wd_555) (by decide) dX6_follow_57 rfl) <|
  am_kc (ak_aload_n dX6_follow_60 rfl rfl) <|
  am_kc (ak_getR (C := RX6) (T := TX6) (N := 9) rfl inX6w (by decide) rfl rfl rfl wd_352 dX6_follow_61 rfl) <|
  am_kc (ak_getR (C := RX4) (T := TX4) (N := 18) rfl inX4w (by decide) rfl rfl rfl wd_297 dX6_follow_64 rfl) <|
  am_kc (ak_iconst dX6_follow_67 (by decide +kernel) rfl) <|
  am_kc (ak_aload_n dX6_follow_68 rfl rfl) <|
  am_kc (ak_getR (C := RX6) (T := TX6) (N := 9) rfl inX6w (by decide) rfl rfl rfl wd_354 dX6_follow_69 rfl) <|
  am_kc (ak_iconst dX6_follow_72 (by decide +kernel) rfl) <|
  am_kc (ak_bipush dX6_follow_73 (by decide +kernel) rfl) <|
  am_kc (ak_copyJ (am_w4 wd_784 wd_498 wd_497 wd_69) (by decide) dX6_follow_75 rfl) <|
  am_kc (ak_aload_n dX6_follow_78 rfl rfl) <|
  am_kc (ak_iconst dX6_follow_79 (by decide +kernel) rfl) <|
  am_kc (ak_iload_n dX6_follow_80 rfl rfl) <|
  am_kc (ak_lconst dX6_follow_81 (by decide +kernel) rfl) <|
  am_kc (ak_lconst dX6_follow_82 (by decide +kernel) rfl) <|
  am_kc (ak_lconst dX6_follow_83 (by decide +kernel) rfl) <|
  am_kc (ak_callS (metX6_walk 5) ⟨rfl, by decide +kernel, by decide +kernel, by decide +kernel⟩ (am_w4 wd_785 wd_786 wd_59 wd_787) (by decide) dX6_follow_84 rfl) <|
  am_kc (ak_retV dX6_follow_87) <| am_kn
def TX6_follow : am_T := fun live as M R => match as with
  | [.ref n, .int p, .int s, .int c, .int y, .int w] => am_mn live ∧ n = 2 ∧ am_in p 12 ∧ am_in s 4 ∧ (0 ≤ y.toInt ∧ 1 ≤ w.toInt ∧ w.toInt ≤ 5 ∧ y.toInt + w.toInt ≤ 40) ∧ g_rI M ∧ ∀ M', g_sv M M' → g_rI M' → R none M'
  | _ => False
set_option maxRecDepth 100000 in
set_option maxHeartbeats 4000000 in
theorem metX6_follow : am_Met yX6_follow cX6_follow 6 none (10) (343) TX6_follow := by
  refine am_met (own := RX6) (by decide +kernel) rfl kX6_follow koX6_follow 150 (fun _ _ _ _ _ => none) (fun live as M Ret h => ?_) (fun _ _ _ _ _ _ _ _ hI => by cases hI)
  unfold TX6_follow at h
  split at h
  · next n p s c y w =>
    refine ⟨Nat.le_of_ble_eq_true rfl, ?_⟩
    change am_wp _ _ _ _ [(0, Value.ref n), (1, Value.int p), (2, Value.int s), (3, Value.int c), (4, Value.int y), (5, Value.int w)] _ _
    obtain ⟨hmn, rfl, hp, hs, ⟨y1, w1, w2, w3⟩, hr, h⟩ := h
    have hmn2 := hmn
    obtain ⟨i1, i2, rfl⟩ := hmn2
    have hv : g_sv M (am_wJ (am_wJ (am_wJ (am_wJ (am_wI (am_wI (am_wI M 2 2 y) 2 3 w) 2 4 c) 2 5 0) 2 8 0) 2 6 1000000000000000000) 2 7 0) := g_sv.rf.w2.w2.w2.w2J.w2J.w2J.w2J
    have hr2 : g_rI (am_wJ (am_wJ (am_wJ (am_wJ (am_wI (am_wI (am_wI M 2 2 y) 2 3 w) 2 4 c) 2 5 0) 2 8 0) 2 6 1000000000000000000) 2 7 0) := hr.w2.w2.w2.wJ.wJ.wJ.wJ
    have hw2 : g_wI (am_wJ (am_wJ (am_wJ (am_wJ (am_wI (am_wI (am_wI M 2 2 y) 2 3 w) 2 4 c) 2 5 0) 2 8 0) 2 6 1000000000000000000) 2 7 0) 0 := ⟨(), ⟨by decide, w1⟩, w2, y1, w3⟩
    have l3 : am_len 3 = 150 := rfl
    have l6 : am_len 6 = 180 := rfl
    repeat' (first | exact rfl | (with_reducible exact hmn) | (with_reducible exact hp) | (with_reducible exact hs) | (with_reducible exact hr2) | apply And.intro | ((with_reducible change g_rI _); (with_reducible assumption)) | intro hx | (refine Exists.intro _ (And.intro rfl ?_)))
    all_goals try first | (with_reducible change am_tI _ _) | (change Ret _ _) | (change Ret _ _ _) | (change Exists _)
    all_goals try dsimp only at *
    all_goals try exact absurd ‹(1000 : Int64) = 0› (by decide)
    all_goals first
      | decide
      | (simp only [l3, l6, Int32.reduceToInt]; omega)
      | exact g_wI.sw hw2 (by (repeat' (first | (with_reducible exact g_sw.rf) | (with_reducible assumption) | ((with_reducible change g_sw _ (am_wI _ _ _ _)); refine g_sw.wI ?_ rfl) | ((with_reducible change g_sw _ (am_wJ _ _ _ _)); refine g_sw.wJ ?_ rfl) | ((with_reducible change g_sw _ (am_cJ _ _ _)); refine g_sw.cJ ?_ rfl) | (refine g_sw.tr ?_ (by with_reducible assumption)) | (refine g_sw.sc ?_ (by with_reducible assumption)) | (refine g_sw.we ?_ (by with_reducible assumption)))))
      | (change g_rI _; (repeat' (first | (with_reducible assumption) | ((with_reducible change g_rI (am_wJ _ _ _ _)); refine g_rI.wJ ?_) | ((with_reducible change g_rI (am_cJ _ _ _)); refine g_rI.cJ ?_) | ((with_reducible change g_rI (am_wI _ 5 _ _)); refine g_rI.w5 ?_) | ((with_reducible change g_rI (am_wI _ _ _ _)); refine g_rI.wF ?_ rfl) | (refine g_rI.st ?_ (by with_reducible assumption)) | (refine g_rI.we ?_ (by with_reducible assumption)))))
      | (exact h _ (hv.tr (g_sw.v (by (repeat' (first | (with_reducible exact g_sw.rf) | (with_reducible assumption) | ((with_reducible change g_sw _ (am_wI _ _ _ _)); refine g_sw.wI ?_ rfl) | ((with_reducible change g_sw _ (am_wJ _ _ _ _)); refine g_sw.wJ ?_ rfl) | ((with_reducible change g_sw _ (am_cJ _ _ _)); refine g_sw.cJ ?_ rfl) | (refine g_sw.tr ?_ (by with_reducible assumption)) | (refine g_sw.sc ?_ (by with_reducible assumption)) | (refine g_sw.we ?_ (by with_reducible assumption))))))) (by with_reducible assumption))
  · exact h.elim
end
section
/-! general: what is told, for calls; helpers -/
def g_nm (a : Nat) : Bool := [4, 7, 8, 24, 37, 39, 42, 45, 48, 51].contains a
theorem g_rI.on {M M' : am_M} (h : g_rI M) (e : ∀ a b, g_nm a = true → M'.1 a b = M.1 a b) : g_rI M' := by
  obtain ⟨-, h1, h2⟩ := h
  obtain ⟨-, a1, a2, a3, a4, a5, a6, a7⟩ := h1
  obtain ⟨-, b1, b2, b3, b4, b5, b6, b7, b8⟩ := h2
  have ht : ∀ t, g_nm t = true → am_t0 M t → am_t0 M' t := fun t ht z => by
    obtain ⟨-, z1, z2⟩ := z
    refine ⟨(), ?_, ?_⟩
    · rw [e t 2 ht]; exact z1
    · rw [e t 5 ht]; exact z2
  refine ⟨(), ⟨(), fun k hk => ?_, fun k hk => ?_, ht _ rfl a3, ht _ rfl a4, ht _ rfl a5, ht _ rfl a6, ht _ rfl a7⟩, ⟨(), ?_, fun k hk => ?_, fun k hk => ?_, ?_, ?_, ?_, ?_, ?_⟩⟩
  all_goals rw [e _ _ rfl]
  · exact a1 k hk
  · exact a2 k hk
  · exact b1
  · exact b2 k hk
  · exact b3 k hk
  · exact b4
  · exact b5
  · exact b6
  · exact b7
  · exact b8
/-- told, for calls: how many, how wide, whose loans -/
def g_hI (M : am_M) : Prop := ∃ _ : Unit, am_rg (M.1 21 7) 12 ∧ (M.1 31 1 = 6 ∧ am_rg (M.1 31 2) 60) ∧ (M.1 33 1 = 8 ∧ am_rg (M.1 33 2) 30) ∧ (M.1 35 1 = 3 ∧ am_rg (M.1 35 2) 60) ∧ (M.1 54 1 = 3 ∧ am_rg (M.1 54 2) 20) ∧ am_rg (M.1 20 12) 9 ∧ ∀ l, l < 30 → am_in (M.1 34 (8 * l)) 12
theorem g_hI.pe {M : am_M} (h : g_hI M) : 0 ≤ (M.1 21 7).toInt ∧ (M.1 21 7).toInt ≤ 12 := by obtain ⟨-, h, -⟩ := h; exact h.i
theorem g_hI.ac {M : am_M} (h : g_hI M) : M.1 31 1 = 6 ∧ 0 ≤ (M.1 31 2).toInt ∧ (M.1 31 2).toInt ≤ 60 := by obtain ⟨-, -, h, -⟩ := h; exact ⟨h.1, h.2.i⟩
theorem g_hI.lo {M : am_M} (h : g_hI M) : M.1 33 1 = 8 ∧ 0 ≤ (M.1 33 2).toInt ∧ (M.1 33 2).toInt ≤ 30 := by obtain ⟨-, -, -, h, -⟩ := h; exact ⟨h.1, h.2.i⟩
theorem g_hI.mo {M : am_M} (h : g_hI M) : M.1 35 1 = 3 ∧ 0 ≤ (M.1 35 2).toInt ∧ (M.1 35 2).toInt ≤ 60 := by obtain ⟨-, -, -, -, h, -⟩ := h; exact ⟨h.1, h.2.i⟩
theorem g_hI.pr {M : am_M} (h : g_hI M) : M.1 54 1 = 3 ∧ 0 ≤ (M.1 54 2).toInt ∧ (M.1 54 2).toInt ≤ 20 := by obtain ⟨-, -, -, -, -, h, -⟩ := h; exact ⟨h.1, h.2.i⟩
theorem g_hI.to {M : am_M} (h : g_hI M) : 0 ≤ (M.1 20 12).toInt ∧ (M.1 20 12).toInt ≤ 9 := by obtain ⟨-, -, -, -, -, -, h, -⟩ := h; exact h.i
theorem g_hI.lp {M : am_M} (h : g_hI M) {l : Nat} (hl : l < 30) : am_in (M.1 34 (8 * l)) 12 := by obtain ⟨-, -, -, -, -, -, -, h⟩ := h; exact h l hl
/-- a store of Rows.put, at rows of six, eight, three -/
theorem g_rput6 {M : am_M} {r c : Nat} {a k v : Int32} (hw : M.1 r 1 = 6) (ha : 0 ≤ a.toInt) (hk : 0 ≤ k.toInt ∧ k.toInt < 6) (hl : a.toInt * 6 + k.toInt < (am_len c : Int)) (hc : am_len c < 100000) : am_rput M r c a k v = am_wI M c (6 * a.toNatClampNeg + k.toNatClampNeg) v := by
  have e := i_mul (x := a) (y := 6) (by simp only [Int32.reduceToInt]; omega) (by simp only [Int32.reduceToInt]; omega)
  simp only [Int32.reduceToInt] at e
  have e2 := i_add (x := a * 6) (y := k) (by rw [e]; omega) (by rw [e]; omega)
  have e3 := i_clamp (x := a * 6 + k) (by rw [e2, e]; omega)
  have e4 := i_clamp (x := a) ha
  have e5 := i_clamp (x := k) hk.1
  rw [am_rput_t (by rw [hw, i_lt]; simp only [Int32.reduceToInt]; exact hk.2) (by rw [hw]; exact ⟨by rw [e2, e]; omega, by rw [e2, e]; omega⟩), hw]
  exact congrArg (fun z => am_wI M c z v) (by omega)
theorem g_rput8 {M : am_M} {r c : Nat} {a k v : Int32} (hw : M.1 r 1 = 8) (ha : 0 ≤ a.toInt) (hk : 0 ≤ k.toInt ∧ k.toInt < 8) (hl : a.toInt * 8 + k.toInt < (am_len c : Int)) (hc : am_len c < 100000) : am_rput M r c a k v = am_wI M c (8 * a.toNatClampNeg + k.toNatClampNeg) v := by
  have e := i_mul (x := a) (y := 8) (by simp only [Int32.reduceToInt]; omega) (by simp only [Int32.reduceToInt]; omega)
  simp only [Int32.reduceToInt] at e
  have e2 := i_add (x := a * 8) (y := k) (by rw [e]; omega) (by rw [e]; omega)
  have e3 := i_clamp (x := a * 8 + k) (by rw [e2, e]; omega)
  have e4 := i_clamp (x := a) ha
  have e5 := i_clamp (x := k) hk.1
  rw [am_rput_t (by rw [hw, i_lt]; simp only [Int32.reduceToInt]; exact hk.2) (by rw [hw]; exact ⟨by rw [e2, e]; omega, by rw [e2, e]; omega⟩), hw]
  exact congrArg (fun z => am_wI M c z v) (by omega)
theorem g_rput3 {M : am_M} {r c : Nat} {a k v : Int32} (hw : M.1 r 1 = 3) (ha : 0 ≤ a.toInt) (hk : 0 ≤ k.toInt ∧ k.toInt < 3) (hl : a.toInt * 3 + k.toInt < (am_len c : Int)) (hc : am_len c < 100000) : am_rput M r c a k v = am_wI M c (3 * a.toNatClampNeg + k.toNatClampNeg) v := by
  have e := i_mul (x := a) (y := 3) (by simp only [Int32.reduceToInt]; omega) (by simp only [Int32.reduceToInt]; omega)
  simp only [Int32.reduceToInt] at e
  have e2 := i_add (x := a * 3) (y := k) (by rw [e]; omega) (by rw [e]; omega)
  have e3 := i_clamp (x := a * 3 + k) (by rw [e2, e]; omega)
  have e4 := i_clamp (x := a) ha
  have e5 := i_clamp (x := k) hk.1
  rw [am_rput_t (by rw [hw, i_lt]; simp only [Int32.reduceToInt]; exact hk.2) (by rw [hw]; exact ⟨by rw [e2, e]; omega, by rw [e2, e]; omega⟩), hw]
  exact congrArg (fun z => am_wI M c z v) (by omega)
/-- an act more, written out -/
theorem g_addAct {M : am_M} {p w v f b e : Int32} (hw : M.1 31 1 = 6) (h1 : 0 ≤ (M.1 31 2).toInt) (h2 : (M.1 31 2).toInt ≤ 60) : am_addAct M p w v f b e = am_wI (am_wI (am_wI (am_wI (am_wI (am_wI (am_wI M 32 (6 * (M.1 31 2).toNatClampNeg + 0) p) 32 (6 * (M.1 31 2).toNatClampNeg + 1) w) 32 (6 * (M.1 31 2).toNatClampNeg + 2) v) 31 2 (M.1 31 2 + 1)) 32 (6 * (M.1 31 2).toNatClampNeg + 3) f) 32 (6 * (M.1 31 2).toNatClampNeg + 4) b) 32 (6 * (M.1 31 2).toNatClampNeg + 5) e := by
  have l32 : am_len 32 = 366 := rfl
  have wd : ∀ (N : am_M) k z, (am_wI N 32 k z).1 31 1 = N.1 31 1 := fun N k z => by rw [am_wI_1, if_neg (fun q => absurd q.1 (by decide))]
  have wd2 : ∀ (N : am_M) z, (am_wI N 31 2 z).1 31 1 = N.1 31 1 := fun N z => by rw [am_wI_1, if_neg (fun q => absurd q.2 (by decide))]
  unfold am_addAct am_radd
  rw [g_rput6 (k := 0) (v := p) hw h1 ⟨by decide, by decide⟩ (by rw [l32]; simp only [Int32.reduceToInt]; omega) (by decide)]
  rw [g_rput6 (k := 1) (v := w) ((wd _ _ _).trans hw) h1 ⟨by decide, by decide⟩ (by rw [l32]; simp only [Int32.reduceToInt]; omega) (by decide)]
  rw [g_rput6 (k := 2) (v := v) ((wd _ _ _).trans ((wd _ _ _).trans hw)) h1 ⟨by decide, by decide⟩ (by rw [l32]; simp only [Int32.reduceToInt]; omega) (by decide)]
  have w3 := (wd2 (am_wI (am_wI (am_wI M 32 (6 * (M.1 31 2).toNatClampNeg + Int32.toNatClampNeg 0) p) 32 (6 * (M.1 31 2).toNatClampNeg + Int32.toNatClampNeg 1) w) 32 (6 * (M.1 31 2).toNatClampNeg + Int32.toNatClampNeg 2) v) (M.1 31 2 + 1)).trans ((wd _ _ _).trans ((wd _ _ _).trans ((wd _ _ _).trans hw)))
  rw [g_rput6 (k := 3) (v := f) w3 h1 ⟨by decide, by decide⟩ (by rw [l32]; simp only [Int32.reduceToInt]; omega) (by decide)]
  rw [g_rput6 (k := 4) (v := b) ((wd _ _ _).trans w3) h1 ⟨by decide, by decide⟩ (by rw [l32]; simp only [Int32.reduceToInt]; omega) (by decide)]
  rw [g_rput6 (k := 5) (v := e) ((wd _ _ _).trans ((wd _ _ _).trans w3)) h1 ⟨by decide, by decide⟩ (by rw [l32]; simp only [Int32.reduceToInt]; omega) (by decide)]
  rfl
/-- what trying another number leaves: the row behind the last act may hold anything -/
def g_sa (M M' : am_M) : Prop := ∃ _ : Unit, ∀ a b, 11 ≤ a → (a = 32 → b < 6 * (M.1 31 2).toNatClampNeg) → M'.1 a b = M.1 a b ∧ M'.2 a b = M.2 a b
theorem g_sv.a {M M' : am_M} (h : g_sv M M') : g_sa M M' := by
  obtain ⟨-, h⟩ := h
  exact ⟨(), fun a b z _ => h a b z⟩
theorem g_sa.tr {M M' M'' : am_M} (h : g_sa M M') (h2 : g_sa M' M'') : g_sa M M'' := by
  obtain ⟨-, h⟩ := h
  obtain ⟨-, h2⟩ := h2
  have e := (h 31 2 (by decide) (fun q => absurd q (by decide))).1
  refine ⟨(), fun a b z y => ?_⟩
  have y2 := h2 a b z (fun q => by rw [e]; exact y q)
  have y1 := h a b z y
  exact ⟨y2.1.trans y1.1, y2.2.trans y1.2⟩
theorem wd_389 : Cond.fieldLink "LearnLoans" 20 "LearnLoans" "run" "LLearnLoans$Run;" ∈ am_ws := am_wsi (List.mem_of_getElem? (i := 389) (by decide +kernel)) (by decide +kernel)
theorem wd_543 : Cond.methodLink "LearnLoans" 151 yX4_begin ∈ am_ws := am_wsi (List.mem_of_getElem? (i := 543) (by decide +kernel)) (by decide +kernel)
theorem wd_552 : Cond.methodLink "LearnLoans" 155 yX4_go ∈ am_ws := am_wsi (List.mem_of_getElem? (i := 552) (by decide +kernel)) (by decide +kernel)
theorem wd_646 : Cond.methodLink "LearnLoans" 284 yX4_together ∈ am_ws := am_wsi (List.mem_of_getElem? (i := 646) (by decide +kernel)) (by decide +kernel)
theorem dX7_together_0 : decode cX7_together 0 = .ok (.aload_n 0, 1) := by decide +kernel
theorem dX7_together_1 : decode cX7_together 1 = .ok (.getfield 20, 3) := by decide +kernel
theorem dX7_together_4 : decode cX7_together 4 = .ok (.iload_n 1, 1) := by decide +kernel
theorem dX7_together_5 : decode cX7_together 5 = .ok (.iload_n 3, 1) := by decide +kernel
theorem dX7_together_6 : decode cX7_together 6 = .ok (.invokevirtual 151, 3) := by decide +kernel
theorem dX7_together_9 : decode cX7_together 9 = .ok (.aload_n 0, 1) := by decide +kernel
theorem dX7_together_10 : decode cX7_together 10 = .ok (.getfield 20, 3) := by decide +kernel
theorem dX7_together_13 : decode cX7_together 13 = .ok (.iload_n 2, 1) := by decide +kernel
theorem dX7_together_14 : decode cX7_together 14 = .ok (.invokevirtual 155, 3) := by decide +kernel
theorem dX7_together_17 : decode cX7_together 17 = .ok (.aload_n 0, 1) := by decide +kernel
theorem dX7_together_18 : decode cX7_together 18 = .ok (.getfield 20, 3) := by decide +kernel
theorem dX7_together_21 : decode cX7_together 21 = .ok (.iload 4, 2) := by decide +kernel
theorem dX7_together_23 : decode cX7_together 23 = .ok (.invokevirtual 284, 3) := by decide +kernel
theorem dX7_together_26 : decode cX7_together 26 = .ok (.lreturn, 1) := by decide +kernel
def kX7_together (live : am_E) (Ret : am_R) : am_code := [(0, am_aload 0 1), (1, am_getR live 7 2 4), (4, am_iload 1 5), (5, am_iload 3 6), (6, am_callV live 4 2 TX4_begin 9), (9, am_aload 0 10), (10, am_getR live 7 2 13), (13, am_iload 2 14), (14, am_callV live 4 1 TX4_go 17), (17, am_aload 0 18), (18, am_getR live 7 2 21), (21, am_iload 4 23), (23, am_callV live 4 1 TX4_together 26), (26, am_retL Ret)]
theorem koX7_together (live : am_E) (Ret : am_R) : ∀ q ∈ kX7_together live Ret, am_ok RX7 cX7_together 5 (some .long) 5 124 live Ret q.1 q.2 :=
  am_kc (ak_aload_n dX7_together_0 rfl rfl) <|
  am_kc (ak_getR (C := RX7) (T := TX7) (N := 4) rfl inX7w (by decide) rfl rfl rfl wd_389 dX7_together_1 rfl) <|
  am_kc (ak_iload_n dX7_together_4 rfl rfl) <|
  am_kc (ak_iload_n dX7_together_5 rfl rfl) <|
  am_kc (ak_callV (C := RX4) (F := TX4) (N := 18) metX4_begin rfl ⟨rfl, by decide +kernel, by decide +kernel, by decide +kernel⟩ (am_w5 wd_543 wd_544 wd_545 wd_60 wd_546) (by decide) dX7_together_6 rfl) <|
  am_kc (ak_aload_n dX7_together_9 rfl rfl) <|
  am_kc (ak_getR (C := RX7) (T := TX7) (N := 4) rfl inX7w (by decide) rfl rfl rfl wd_389 dX7_together_10 rfl) <|
  am_kc (ak_iload_n dX7_together_13 rfl rfl) <|
  am_kc (ak_callV (C := RX4) (F := TX4) (N := 18) metX4_go rfl ⟨rfl, by decide +kernel, by decide +kernel, by decide +kernel⟩ (am_w5 wd_552 wd_553 wd_554 wd_60 wd_555) (by decide) dX7_together_14 rfl) <|
  am_kc (ak_aload_n dX7_together_17 rfl rfl) <|
  am_kc (ak_getR (C := RX7) (T := TX7) (N := 4) rfl inX7w (by decide) rfl rfl rfl wd_389 dX7_together_18 rfl) <|
  am_kc (ak_iload dX7_together_21 rfl) <|
  am_kc (ak_callV (C := RX4) (F := TX4) (N := 18) metX4_together rfl ⟨rfl, by decide +kernel, by decide +kernel, by decide +kernel⟩ (am_w5 wd_646 wd_647 wd_648 wd_60 wd_649) (by decide) dX7_together_23 rfl) <|
  am_kc (ak_retL dX7_together_26) <| am_kn
def TX7_together : am_T := fun live as M R => match as with
  | [.ref n, .int p, .int y, .int k, .int w] => am_mn live ∧ n = 0 ∧ am_in p 12 ∧ am_in w 6 ∧ g_rI M ∧ ∀ v M', g_sc M M' → g_rI M' → R (some (.long v)) M'
  | _ => False
set_option maxRecDepth 100000 in
set_option maxHeartbeats 4000000 in
theorem metX7_together : am_Met yX7_together cX7_together 5 (some .long) (5) (124) TX7_together := by
  refine am_met (own := RX7) (by decide +kernel) rfl kX7_together koX7_together 100 (fun _ _ _ _ _ => none) (fun live as M Ret h => ?_) (fun _ _ _ _ _ _ _ _ hI => by cases hI)
  unfold TX7_together at h
  split at h
  · next n p y k w =>
    refine ⟨Nat.le_of_ble_eq_true rfl, ?_⟩
    change am_wp _ _ _ _ [(0, Value.ref n), (1, Value.int p), (2, Value.int y), (3, Value.int k), (4, Value.int w)] _ _
    obtain ⟨hmn, rfl, hp, hw, hr, h⟩ := h
    have hmn2 := hmn
    obtain ⟨i1, i2, rfl⟩ := hmn2
    repeat' (first | exact rfl | (with_reducible exact hmn) | (with_reducible exact hp) | (with_reducible exact hw) | (with_reducible exact hr) | apply And.intro | ((with_reducible change g_rI _); (with_reducible assumption)) | intro hx | (refine Exists.intro _ (And.intro rfl ?_)))
    all_goals try first | (with_reducible change am_tI _ _) | (change Ret _ _) | (change Ret _ _ _) | (change Exists _)
    all_goals try dsimp only at *
    all_goals try exact absurd ‹(1000 : Int64) = 0› (by decide)
    exact h _ _ (by (repeat' (first | (with_reducible exact g_sc.rf) | (with_reducible assumption) | ((with_reducible change g_sc _ (am_wI _ _ _ _)); refine g_sc.wI ?_ rfl) | ((with_reducible change g_sc _ (am_wJ _ _ _ _)); refine g_sc.wJ ?_ rfl) | ((with_reducible change g_sc _ (am_cI _ _ _)); refine g_sc.cI ?_ rfl) | ((with_reducible change g_sc _ (am_cJ _ _ _)); refine g_sc.cJ ?_ rfl) | (refine g_sc.tr ?_ (by with_reducible assumption)) | (refine g_sc.st ?_ (by with_reducible assumption))))) (by (repeat' (first | (with_reducible assumption) | ((with_reducible change g_rI (am_wJ _ _ _ _)); refine g_rI.wJ ?_) | ((with_reducible change g_rI (am_cJ _ _ _)); refine g_rI.cJ ?_) | ((with_reducible change g_rI (am_wI _ 5 _ _)); refine g_rI.w5 ?_) | ((with_reducible change g_rI (am_wI _ _ _ _)); refine g_rI.wF ?_ rfl) | (refine g_rI.st ?_ (by with_reducible assumption)) | (refine g_rI.we ?_ (by with_reducible assumption)))))
  · exact h.elim
theorem wd_761 : Cond.methodLink "LearnLoans" 286 yX4_turnTo ∈ am_ws := am_wsi (List.mem_of_getElem? (i := 761) (by decide +kernel)) (by decide +kernel)
theorem dX7_takenByLife_0 : decode cX7_takenByLife 0 = .ok (.aload_n 0, 1) := by decide +kernel
theorem dX7_takenByLife_1 : decode cX7_takenByLife 1 = .ok (.getfield 20, 3) := by decide +kernel
theorem dX7_takenByLife_4 : decode cX7_takenByLife 4 = .ok (.iload_n 1, 1) := by decide +kernel
theorem dX7_takenByLife_5 : decode cX7_takenByLife 5 = .ok (.iload 5, 2) := by decide +kernel
theorem dX7_takenByLife_7 : decode cX7_takenByLife 7 = .ok (.invokevirtual 151, 3) := by decide +kernel
theorem dX7_takenByLife_10 : decode cX7_takenByLife 10 = .ok (.aload_n 0, 1) := by decide +kernel
theorem dX7_takenByLife_11 : decode cX7_takenByLife 11 = .ok (.getfield 20, 3) := by decide +kernel
theorem dX7_takenByLife_14 : decode cX7_takenByLife 14 = .ok (.iload 4, 2) := by decide +kernel
theorem dX7_takenByLife_16 : decode cX7_takenByLife 16 = .ok (.iconst 1, 1) := by decide +kernel
theorem dX7_takenByLife_17 : decode cX7_takenByLife 17 = .ok (.isub, 1) := by decide +kernel
theorem dX7_takenByLife_18 : decode cX7_takenByLife 18 = .ok (.invokevirtual 155, 3) := by decide +kernel
theorem dX7_takenByLife_21 : decode cX7_takenByLife 21 = .ok (.aload_n 0, 1) := by decide +kernel
theorem dX7_takenByLife_22 : decode cX7_takenByLife 22 = .ok (.getfield 20, 3) := by decide +kernel
theorem dX7_takenByLife_25 : decode cX7_takenByLife 25 = .ok (.iconst 3, 1) := by decide +kernel
theorem dX7_takenByLife_26 : decode cX7_takenByLife 26 = .ok (.invokevirtual 284, 3) := by decide +kernel
theorem dX7_takenByLife_29 : decode cX7_takenByLife 29 = .ok (.lstore 7, 2) := by decide +kernel
theorem dX7_takenByLife_31 : decode cX7_takenByLife 31 = .ok (.aload_n 0, 1) := by decide +kernel
theorem dX7_takenByLife_32 : decode cX7_takenByLife 32 = .ok (.getfield 20, 3) := by decide +kernel
theorem dX7_takenByLife_35 : decode cX7_takenByLife 35 = .ok (.iload_n 3, 1) := by decide +kernel
theorem dX7_takenByLife_36 : decode cX7_takenByLife 36 = .ok (.iload_n 2, 1) := by decide +kernel
theorem dX7_takenByLife_37 : decode cX7_takenByLife 37 = .ok (.iload 6, 2) := by decide +kernel
theorem dX7_takenByLife_39 : decode cX7_takenByLife 39 = .ok (.i2l, 1) := by decide +kernel
theorem dX7_takenByLife_40 : decode cX7_takenByLife 40 = .ok (.invokevirtual 286, 3) := by decide +kernel
theorem dX7_takenByLife_43 : decode cX7_takenByLife 43 = .ok (.aload_n 0, 1) := by decide +kernel
theorem dX7_takenByLife_44 : decode cX7_takenByLife 44 = .ok (.getfield 20, 3) := by decide +kernel
theorem dX7_takenByLife_47 : decode cX7_takenByLife 47 = .ok (.bipush 39, 2) := by decide +kernel
theorem dX7_takenByLife_49 : decode cX7_takenByLife 49 = .ok (.invokevirtual 155, 3) := by decide +kernel
theorem dX7_takenByLife_52 : decode cX7_takenByLife 52 = .ok (.aload_n 0, 1) := by decide +kernel
theorem dX7_takenByLife_53 : decode cX7_takenByLife 53 = .ok (.getfield 20, 3) := by decide +kernel
theorem dX7_takenByLife_56 : decode cX7_takenByLife 56 = .ok (.iconst 3, 1) := by decide +kernel
theorem dX7_takenByLife_57 : decode cX7_takenByLife 57 = .ok (.invokevirtual 284, 3) := by decide +kernel
theorem dX7_takenByLife_60 : decode cX7_takenByLife 60 = .ok (.lload 7, 2) := by decide +kernel
theorem dX7_takenByLife_62 : decode cX7_takenByLife 62 = .ok (.lsub, 1) := by decide +kernel
theorem dX7_takenByLife_63 : decode cX7_takenByLife 63 = .ok (.lreturn, 1) := by decide +kernel
def kX7_takenByLife (live : am_E) (Ret : am_R) : am_code := [(0, am_aload 0 1), (1, am_getR live 7 2 4), (4, am_iload 1 5), (5, am_iload 5 7), (7, am_callV live 4 2 TX4_begin 10), (10, am_aload 0 11), (11, am_getR live 7 2 14), (14, am_iload 4 16), (16, am_const (.int 1) 17), (17, am_i2 (fun x y => x - y) 18), (18, am_callV live 4 1 TX4_go 21), (21, am_aload 0 22), (22, am_getR live 7 2 25), (25, am_const (.int 3) 26), (26, am_callV live 4 1 TX4_together 29), (29, am_lstore 7 9 31), (31, am_aload 0 32), (32, am_getR live 7 2 35), (35, am_iload 3 36), (36, am_iload 2 37), (37, am_iload 6 39), (39, am_i2l 40), (40, am_callV live 4 3 TX4_turnTo 43), (43, am_aload 0 44), (44, am_getR live 7 2 47), (47, am_const (.int 39) 49), (49, am_callV live 4 1 TX4_go 52), (52, am_aload 0 53), (53, am_getR live 7 2 56), (56, am_const (.int 3) 57), (57, am_callV live 4 1 TX4_together 60), (60, am_lload 7 62), (62, am_l2 (fun x y => x - y) 63), (63, am_retL Ret)]
theorem koX7_takenByLife (live : am_E) (Ret : am_R) : ∀ q ∈ kX7_takenByLife live Ret, am_ok RX7 cX7_takenByLife 9 (some .long) 5 124 live Ret q.1 q.2 :=
  am_kc (ak_aload_n dX7_takenByLife_0 rfl rfl) <|
  am_kc (ak_getR (C := RX7) (T := TX7) (N := 4) rfl inX7w (by decide) rfl rfl rfl wd_389 dX7_takenByLife_1 rfl) <|
  am_kc (ak_iload_n dX7_takenByLife_4 rfl rfl) <|
  am_kc (ak_iload dX7_takenByLife_5 rfl) <|
  am_kc (ak_callV (C := RX4) (F := TX4) (N := 18) metX4_begin rfl ⟨rfl, by decide +kernel, by decide +kernel, by decide +kernel⟩ (am_w5 wd_543 wd_544 wd_545 wd_60 wd_546) (by decide) dX7_takenByLife_7 rfl) <|
  am_kc (ak_aload_n dX7_takenByLife_10 rfl rfl) <|
  am_kc (ak_getR (C := RX7) (T := TX7) (N := 4) rfl inX7w (by decide) rfl rfl rfl wd_389 dX7_takenByLife_11 rfl) <|
  am_kc (ak_iload dX7_takenByLife_14 rfl) <|
  am_kc (ak_iconst dX7_takenByLife_16 (by decide +kernel) rfl) <|
  am_kc (ak_isub dX7_takenByLife_17 rfl) <|
  am_kc (ak_callV (C := RX4) (F := TX4) (N := 18) metX4_go rfl ⟨rfl, by decide +kernel, by decide +kernel, by decide +kernel⟩ (am_w5 wd_552 wd_553 wd_554 wd_60 wd_555) (by decide) dX7_takenByLife_18 rfl) <|
  am_kc (ak_aload_n dX7_takenByLife_21 rfl rfl) <|
  am_kc (ak_getR (C := RX7) (T := TX7) (N := 4) rfl inX7w (by decide) rfl rfl rfl wd_389 dX7_takenByLife_22 rfl) <|
  am_kc (ak_iconst dX7_takenByLife_25 (by decide +kernel) rfl) <|
  am_kc (ak_callV (C := RX4) (F := TX4) (N := 18) metX4_together rfl ⟨rfl, by decide +kernel, by decide +kernel, by decide +kernel⟩ (am_w5 wd_646 wd_647 wd_648 wd_60 wd_649) (by decide) dX7_takenByLife_26 rfl) <|
  am_kc (ak_lstore dX7_takenByLife_29 rfl) <|
  am_kc (ak_aload_n dX7_takenByLife_31 rfl rfl) <|
  am_kc (ak_getR (C := RX7) (T := TX7) (N := 4) rfl inX7w (by decide) rfl rfl rfl wd_389 dX7_takenByLife_32 rfl) <|
  am_kc (ak_iload_n dX7_takenByLife_35 rfl rfl) <|
  am_kc (ak_iload_n dX7_takenByLife_36 rfl rfl) <|
  am_kc (ak_iload dX7_takenByLife_37 rfl) <|
  am_kc (ak_i2l dX7_takenByLife_39 rfl) <|
  am_kc (ak_callV (C := RX4) (F := TX4) (N := 18) metX4_turnTo rfl ⟨rfl, by decide +kernel, by decide +kernel, by decide +kernel⟩ (am_w5 wd_761 wd_548 wd_549 wd_60 wd_550) (by decide) dX7_takenByLife_40 rfl) <|
  am_kc (ak_aload_n dX7_takenByLife_43 rfl rfl) <|
  am_kc (ak_getR (C := RX7) (T := TX7) (N := 4) rfl inX7w (by decide) rfl rfl rfl wd_389 dX7_takenByLife_44 rfl) <|
  am_kc (ak_bipush dX7_takenByLife_47 (by decide +kernel) rfl) <|
  am_kc (ak_callV (C := RX4) (F := TX4) (N := 18) metX4_go rfl ⟨rfl, by decide +kernel, by decide +kernel, by decide +kernel⟩ (am_w5 wd_552 wd_553 wd_554 wd_60 wd_555) (by decide) dX7_takenByLife_49 rfl) <|
  am_kc (ak_aload_n dX7_takenByLife_52 rfl rfl) <|
  am_kc (ak_getR (C := RX7) (T := TX7) (N := 4) rfl inX7w (by decide) rfl rfl rfl wd_389 dX7_takenByLife_53 rfl) <|
  am_kc (ak_iconst dX7_takenByLife_56 (by decide +kernel) rfl) <|
  am_kc (ak_callV (C := RX4) (F := TX4) (N := 18) metX4_together rfl ⟨rfl, by decide +kernel, by decide +kernel, by decide +kernel⟩ (am_w5 wd_646 wd_647 wd_648 wd_60 wd_649) (by decide) dX7_takenByLife_57 rfl) <|
  am_kc (ak_lload dX7_takenByLife_60 rfl) <|
  am_kc (ak_lsub dX7_takenByLife_62 rfl) <|
  am_kc (ak_retL dX7_takenByLife_63) <| am_kn
def TX7_takenByLife : am_T := fun live as M R => match as with
  | [.ref n, .int p, .int q, .int l, .int y, .int k, .int s] => am_mn live ∧ n = 0 ∧ am_in p 12 ∧ (q = -1 ∨ am_in q 5) ∧ am_in l 4 ∧ g_rI M ∧ ∀ v M', g_sc M M' → g_rI M' → R (some (.long v)) M'
  | _ => False
set_option maxRecDepth 100000 in
set_option maxHeartbeats 4000000 in
theorem metX7_takenByLife : am_Met yX7_takenByLife cX7_takenByLife 9 (some .long) (5) (124) TX7_takenByLife := by
  refine am_met (own := RX7) (by decide +kernel) rfl kX7_takenByLife koX7_takenByLife 100 (fun _ _ _ _ _ => none) (fun live as M Ret h => ?_) (fun _ _ _ _ _ _ _ _ hI => by cases hI)
  unfold TX7_takenByLife at h
  split at h
  · next n p q l y k s =>
    refine ⟨Nat.le_of_ble_eq_true rfl, ?_⟩
    change am_wp _ _ _ _ [(0, Value.ref n), (1, Value.int p), (2, Value.int q), (3, Value.int l), (4, Value.int y), (5, Value.int k), (6, Value.int s)] _ _
    obtain ⟨hmn, rfl, hp, hq, hl, hr, h⟩ := h
    have hmn2 := hmn
    obtain ⟨i1, i2, rfl⟩ := hmn2
    have w3 : am_in (3 : Int32) 6 := ⟨by decide, by decide⟩
    repeat' (first | exact rfl | (with_reducible exact hmn) | (with_reducible exact hp) | (with_reducible exact w3) | (with_reducible exact hr) | apply And.intro | ((with_reducible change g_rI _); (with_reducible assumption)) | intro hx | (refine Exists.intro _ (And.intro rfl ?_)))
    all_goals try first | (with_reducible change am_tI _ _) | (change Ret _ _) | (change Ret _ _ _) | (change Exists _)
    all_goals try dsimp only at *
    all_goals try exact absurd ‹(1000 : Int64) = 0› (by decide)
    · exact g_rI.wJ (g_rI.wJ (g_rI.w412 (g_rI.w411 (by with_reducible assumption) (Or.inr hl)) hq))
    · exact h _ _ (by (repeat' (first | (with_reducible exact g_sc.rf) | (with_reducible assumption) | ((with_reducible change g_sc _ (am_wI _ _ _ _)); refine g_sc.wI ?_ rfl) | ((with_reducible change g_sc _ (am_wJ _ _ _ _)); refine g_sc.wJ ?_ rfl) | ((with_reducible change g_sc _ (am_cI _ _ _)); refine g_sc.cI ?_ rfl) | ((with_reducible change g_sc _ (am_cJ _ _ _)); refine g_sc.cJ ?_ rfl) | (refine g_sc.tr ?_ (by with_reducible assumption)) | (refine g_sc.st ?_ (by with_reducible assumption))))) (by (repeat' (first | (with_reducible assumption) | ((with_reducible change g_rI (am_wJ _ _ _ _)); refine g_rI.wJ ?_) | ((with_reducible change g_rI (am_cJ _ _ _)); refine g_rI.cJ ?_) | ((with_reducible change g_rI (am_wI _ 5 _ _)); refine g_rI.w5 ?_) | ((with_reducible change g_rI (am_wI _ _ _ _)); refine g_rI.wF ?_ rfl) | (refine g_rI.st ?_ (by with_reducible assumption)) | (refine g_rI.we ?_ (by with_reducible assumption)))))
  · exact h.elim
theorem dX7_runEverybody_0 : decode cX7_runEverybody 0 = .ok (.iconst 0, 1) := by decide +kernel
theorem dX7_runEverybody_1 : decode cX7_runEverybody 1 = .ok (.istore_n 3, 1) := by decide +kernel
theorem dX7_runEverybody_2 : decode cX7_runEverybody 2 = .ok (.iload_n 3, 1) := by decide +kernel
theorem dX7_runEverybody_3 : decode cX7_runEverybody 3 = .ok (.aload_n 0, 1) := by decide +kernel
theorem dX7_runEverybody_4 : decode cX7_runEverybody 4 = .ok (.getfield 27, 3) := by decide +kernel
theorem dX7_runEverybody_7 : decode cX7_runEverybody 7 = .ok (.getfield 38, 3) := by decide +kernel
theorem dX7_runEverybody_10 : decode cX7_runEverybody 10 = .ok (.getfield 42, 3) := by decide +kernel
theorem dX7_runEverybody_13 : decode cX7_runEverybody 13 = .ok (.if_icmp .ge 26, 3) := by decide +kernel
theorem dX7_runEverybody_16 : decode cX7_runEverybody 16 = .ok (.aload_n 0, 1) := by decide +kernel
theorem dX7_runEverybody_17 : decode cX7_runEverybody 17 = .ok (.getfield 20, 3) := by decide +kernel
theorem dX7_runEverybody_20 : decode cX7_runEverybody 20 = .ok (.iload_n 3, 1) := by decide +kernel
theorem dX7_runEverybody_21 : decode cX7_runEverybody 21 = .ok (.iload_n 2, 1) := by decide +kernel
theorem dX7_runEverybody_22 : decode cX7_runEverybody 22 = .ok (.invokevirtual 151, 3) := by decide +kernel
theorem dX7_runEverybody_25 : decode cX7_runEverybody 25 = .ok (.aload_n 0, 1) := by decide +kernel
theorem dX7_runEverybody_26 : decode cX7_runEverybody 26 = .ok (.getfield 20, 3) := by decide +kernel
theorem dX7_runEverybody_29 : decode cX7_runEverybody 29 = .ok (.iload_n 1, 1) := by decide +kernel
theorem dX7_runEverybody_30 : decode cX7_runEverybody 30 = .ok (.invokevirtual 155, 3) := by decide +kernel
theorem dX7_runEverybody_33 : decode cX7_runEverybody 33 = .ok (.iinc 3 1, 3) := by decide +kernel
theorem dX7_runEverybody_36 : decode cX7_runEverybody 36 = .ok (.goto (-34), 3) := by decide +kernel
theorem dX7_runEverybody_39 : decode cX7_runEverybody 39 = .ok (.return_, 1) := by decide +kernel
def kX7_runEverybody (live : am_E) (Ret : am_R) : am_code := [(0, am_const (.int 0) 1), (1, am_istore 3 4 2), (2, am_iload 3 3), (3, am_aload 0 4), (4, am_getR live 7 0 7), (7, am_getR live 0 0 10), (10, am_getI live 2 7 13), (13, am_if2 (fun x y => y ≤ x) 39 16), (16, am_aload 0 17), (17, am_getR live 7 2 20), (20, am_iload 3 21), (21, am_iload 2 22), (22, am_callV live 4 2 TX4_begin 25), (25, am_aload 0 26), (26, am_getR live 7 2 29), (29, am_iload 1 30), (30, am_callV live 4 1 TX4_go 33), (33, am_iinc 3 4 1 36), (36, am_goto 2), (39, am_retV Ret)]
theorem koX7_runEverybody (live : am_E) (Ret : am_R) : ∀ q ∈ kX7_runEverybody live Ret, am_ok RX7 cX7_runEverybody 4 none 5 124 live Ret q.1 q.2 :=
  am_kc (ak_iconst dX7_runEverybody_0 (by decide +kernel) rfl) <|
  am_kc (ak_istore_n dX7_runEverybody_1 rfl rfl) <|
  am_kc (ak_iload_n dX7_runEverybody_2 rfl rfl) <|
  am_kc (ak_aload_n dX7_runEverybody_3 rfl rfl) <|
  am_kc (ak_getR (C := RX7) (T := TX7) (N := 4) rfl inX7w (by decide) rfl rfl rfl wd_387 dX7_runEverybody_4 rfl) <|
  am_kc (ak_getR (C := RX0) (T := TX0) (N := 13) rfl inX0w (by decide) rfl rfl rfl wd_194 dX7_runEverybody_7 rfl) <|
  am_kc (ak_getI (C := RX2) (T := TX2) (N := 8) rfl inX2w (by decide) rfl rfl rfl wd_121 dX7_runEverybody_10 rfl) <|
  am_kc (ak_icmp_ge dX7_runEverybody_13 (by decide +kernel) rfl) <|
  am_kc (ak_aload_n dX7_runEverybody_16 rfl rfl) <|
  am_kc (ak_getR (C := RX7) (T := TX7) (N := 4) rfl inX7w (by decide) rfl rfl rfl wd_389 dX7_runEverybody_17 rfl) <|
  am_kc (ak_iload_n dX7_runEverybody_20 rfl rfl) <|
  am_kc (ak_iload_n dX7_runEverybody_21 rfl rfl) <|
  am_kc (ak_callV (C := RX4) (F := TX4) (N := 18) metX4_begin rfl ⟨rfl, by decide +kernel, by decide +kernel, by decide +kernel⟩ (am_w5 wd_543 wd_544 wd_545 wd_60 wd_546) (by decide) dX7_runEverybody_22 rfl) <|
  am_kc (ak_aload_n dX7_runEverybody_25 rfl rfl) <|
  am_kc (ak_getR (C := RX7) (T := TX7) (N := 4) rfl inX7w (by decide) rfl rfl rfl wd_389 dX7_runEverybody_26 rfl) <|
  am_kc (ak_iload_n dX7_runEverybody_29 rfl rfl) <|
  am_kc (ak_callV (C := RX4) (F := TX4) (N := 18) metX4_go rfl ⟨rfl, by decide +kernel, by decide +kernel, by decide +kernel⟩ (am_w5 wd_552 wd_553 wd_554 wd_60 wd_555) (by decide) dX7_runEverybody_30 rfl) <|
  am_kc (ak_iinc dX7_runEverybody_33 (by decide +kernel) rfl) <|
  am_kc (ak_goto dX7_runEverybody_36 (by decide +kernel)) <|
  am_kc (ak_retV dX7_runEverybody_39) <| am_kn
def TX7_runEverybody : am_T := fun live as M R => match as with
  | [.ref n, .int y, .int k] => am_mn live ∧ n = 0 ∧ g_hI M ∧ g_rI M ∧ ∀ M', g_sc M M' → g_rI M' → R none M'
  | _ => False
def JX7_runEverybody : am_E → List Value → am_M → am_R → am_inv := fun live as M0 _ pc => match as with
  | [.ref n, .int y, .int w] => (match pc with
    | 2 => some ([0, 1, 2, 3], fun k L st M => ∃ i : Int32, L = [(0, .ref 0), (1, .int y), (2, .int w), (3, .int i)] ∧ st = [] ∧ k = ((13 - i.toInt).toNat, 0) ∧ 0 ≤ i.toInt ∧ g_sc M0 M ∧ g_rI M)
    | _ => none)
  | _ => none
set_option maxRecDepth 100000 in
set_option maxHeartbeats 4000000 in
theorem metX7_runEverybody : am_Met yX7_runEverybody cX7_runEverybody 4 none (5) (124) TX7_runEverybody := by
  refine am_met (own := RX7) (by decide +kernel) rfl kX7_runEverybody koX7_runEverybody 100 JX7_runEverybody ?_ ?_
  · intro live as M Ret h
    unfold TX7_runEverybody at h
    split at h
    · next n y w =>
      refine ⟨Nat.le_of_ble_eq_true rfl, ?_⟩
      change am_wp _ _ _ _ [(0, Value.ref n), (1, Value.int y), (2, Value.int w)] _ _
      obtain ⟨hmn, rfl, hh, hr, h⟩ := h
      repeat' (first | exact rfl | apply And.intro | intro hx | (refine Exists.intro _ (And.intro rfl ?_)))
      all_goals try first | (with_reducible change am_tI _ _) | (change Ret _ _) | (change Ret _ _ _) | (change Exists _)
      all_goals try dsimp only at *
      all_goals try exact absurd ‹(1000 : Int64) = 0› (by decide)
      exact ⟨_, _, rfl, rfl, rfl, by decide, g_sc.rf, hr⟩
    · exact h.elim
  · intro live as M0 Ret h k pc I hI L st M hi
    unfold TX7_runEverybody at h
    split at h
    · next n y w =>
      obtain ⟨hmn, rfl, hh, hr, h⟩ := h
      have hmn2 := hmn
      obtain ⟨i1, i2, rfl⟩ := hmn2
      change (match pc with | 2 => _ | _ => none) = _ at hI
      split at hI
      · cases hI
        obtain ⟨i, rfl, rfl, rfl, e1, e2, e3⟩ := hi
        by_cases hz : M.1 21 7 ≤ i
        · skip
          repeat' (first | exact rfl | apply And.intro | (intro hx; with_reducible exact absurd hz hx) | intro hx | (refine Exists.intro _ (And.intro rfl ?_)))
          all_goals try first | (with_reducible change am_tI _ _) | (change Ret _ _) | (change Ret _ _ _) | (change Exists _)
          all_goals try dsimp only at *
          all_goals try exact absurd ‹(1000 : Int64) = 0› (by decide)
          exact h _ e2 e3
        · have hz2 := hz
          have hs := hh.pe
          rw [e2.i 7 (by decide)] at hz2
          simp only [i_le] at hz2
          have hp : am_in i 12 := ⟨e1, by omega⟩
          have hi := i_inc (x := i) (by omega) (by omega)
          repeat' (first | exact rfl | (with_reducible exact hmn) | (with_reducible exact hp) | (with_reducible exact e3) | apply And.intro | (intro hx; with_reducible exact absurd hx hz) | ((with_reducible change g_rI _); (with_reducible assumption)) | intro hx | (refine Exists.intro _ (And.intro rfl ?_)))
          all_goals try first | (with_reducible change am_tI _ _) | (change Ret _ _) | (change Ret _ _ _) | (change Exists _)
          all_goals try dsimp only at *
          all_goals try exact absurd ‹(1000 : Int64) = 0› (by decide)
          exact ⟨_, am_lt_l (by omega), _, rfl, rfl, rfl, by omega, by (repeat' (first | (with_reducible exact g_sc.rf) | (with_reducible assumption) | ((with_reducible change g_sc _ (am_wI _ _ _ _)); refine g_sc.wI ?_ rfl) | ((with_reducible change g_sc _ (am_wJ _ _ _ _)); refine g_sc.wJ ?_ rfl) | ((with_reducible change g_sc _ (am_cI _ _ _)); refine g_sc.cI ?_ rfl) | ((with_reducible change g_sc _ (am_cJ _ _ _)); refine g_sc.cJ ?_ rfl) | (refine g_sc.tr ?_ (by with_reducible assumption)) | (refine g_sc.st ?_ (by with_reducible assumption)))), by (repeat' (first | (with_reducible assumption) | ((with_reducible change g_rI (am_wJ _ _ _ _)); refine g_rI.wJ ?_) | ((with_reducible change g_rI (am_cJ _ _ _)); refine g_rI.cJ ?_) | ((with_reducible change g_rI (am_wI _ 5 _ _)); refine g_rI.w5 ?_) | ((with_reducible change g_rI (am_wI _ _ _ _)); refine g_rI.wF ?_ rfl) | (refine g_rI.st ?_ (by with_reducible assumption)) | (refine g_rI.we ?_ (by with_reducible assumption))))⟩
      · cases hI
    · exact h.elim
theorem wd_825 : Cond.methodLink "LearnLoans" 293 Lib.Math.abs.name ∈ am_ws := am_wsi (List.mem_of_getElem? (i := 825) (by decide +kernel)) (by decide +kernel)
theorem wd_826 : Cond.static Lib.Math.abs.name ∈ am_ws := am_wsi (List.mem_of_getElem? (i := 826) (by decide +kernel)) (by decide +kernel)
theorem wd_827 : Cond.code Lib.Math.abs.name Lib.Math.abs.code 1 (some .int) ∈ am_ws := am_wsi (List.mem_of_getElem? (i := 827) (by decide +kernel)) (by decide +kernel)
theorem dX7_isNearer_0 : decode cX7_isNearer 0 = .ok (.iload_n 1, 1) := by decide +kernel
theorem dX7_isNearer_1 : decode cX7_isNearer 1 = .ok (.iconst (-1), 1) := by decide +kernel
theorem dX7_isNearer_2 : decode cX7_isNearer 2 = .ok (.if_icmp .ne 5, 3) := by decide +kernel
theorem dX7_isNearer_5 : decode cX7_isNearer 5 = .ok (.iconst 1, 1) := by decide +kernel
theorem dX7_isNearer_6 : decode cX7_isNearer 6 = .ok (.ireturn, 1) := by decide +kernel
theorem dX7_isNearer_7 : decode cX7_isNearer 7 = .ok (.iload_n 0, 1) := by decide +kernel
theorem dX7_isNearer_8 : decode cX7_isNearer 8 = .ok (.iload_n 2, 1) := by decide +kernel
theorem dX7_isNearer_9 : decode cX7_isNearer 9 = .ok (.isub, 1) := by decide +kernel
theorem dX7_isNearer_10 : decode cX7_isNearer 10 = .ok (.invokestatic 293, 3) := by decide +kernel
theorem dX7_isNearer_13 : decode cX7_isNearer 13 = .ok (.istore_n 3, 1) := by decide +kernel
theorem dX7_isNearer_14 : decode cX7_isNearer 14 = .ok (.iload_n 1, 1) := by decide +kernel
theorem dX7_isNearer_15 : decode cX7_isNearer 15 = .ok (.iload_n 2, 1) := by decide +kernel
theorem dX7_isNearer_16 : decode cX7_isNearer 16 = .ok (.isub, 1) := by decide +kernel
theorem dX7_isNearer_17 : decode cX7_isNearer 17 = .ok (.invokestatic 293, 3) := by decide +kernel
theorem dX7_isNearer_20 : decode cX7_isNearer 20 = .ok (.istore 4, 2) := by decide +kernel
theorem dX7_isNearer_22 : decode cX7_isNearer 22 = .ok (.iload_n 3, 1) := by decide +kernel
theorem dX7_isNearer_23 : decode cX7_isNearer 23 = .ok (.iload 4, 2) := by decide +kernel
theorem dX7_isNearer_25 : decode cX7_isNearer 25 = .ok (.if_icmp .lt 14, 3) := by decide +kernel
theorem dX7_isNearer_28 : decode cX7_isNearer 28 = .ok (.iload_n 3, 1) := by decide +kernel
theorem dX7_isNearer_29 : decode cX7_isNearer 29 = .ok (.iload 4, 2) := by decide +kernel
theorem dX7_isNearer_31 : decode cX7_isNearer 31 = .ok (.if_icmp .ne 12, 3) := by decide +kernel
theorem dX7_isNearer_34 : decode cX7_isNearer 34 = .ok (.iload_n 0, 1) := by decide +kernel
theorem dX7_isNearer_35 : decode cX7_isNearer 35 = .ok (.iload_n 1, 1) := by decide +kernel
theorem dX7_isNearer_36 : decode cX7_isNearer 36 = .ok (.if_icmp .ge 7, 3) := by decide +kernel
theorem dX7_isNearer_39 : decode cX7_isNearer 39 = .ok (.iconst 1, 1) := by decide +kernel
theorem dX7_isNearer_40 : decode cX7_isNearer 40 = .ok (.goto 4, 3) := by decide +kernel
theorem dX7_isNearer_43 : decode cX7_isNearer 43 = .ok (.iconst 0, 1) := by decide +kernel
theorem dX7_isNearer_44 : decode cX7_isNearer 44 = .ok (.ireturn, 1) := by decide +kernel
def kX7_isNearer (live : am_E) (Ret : am_R) : am_code := [(0, am_iload 1 1), (1, am_const (.int (-1)) 2), (2, am_if2 (fun x y => x = y) 5 7), (5, am_const (.int 1) 6), (6, am_retZ Ret), (7, am_iload 0 8), (8, am_iload 2 9), (9, am_i2 (fun x y => x - y) 10), (10, am_math1 (fun x => if 0 ≤ x then x else 0 - x) 23 13), (13, am_istore 3 5 14), (14, am_iload 1 15), (15, am_iload 2 16), (16, am_i2 (fun x y => x - y) 17), (17, am_math1 (fun x => if 0 ≤ x then x else 0 - x) 23 20), (20, am_istore 4 5 22), (22, am_iload 3 23), (23, am_iload 4 25), (25, am_if2 (fun x y => x < y) 39 28), (28, am_iload 3 29), (29, am_iload 4 31), (31, am_if2 (fun x y => x = y) 34 43), (34, am_iload 0 35), (35, am_iload 1 36), (36, am_if2 (fun x y => y ≤ x) 43 39), (39, am_const (.int 1) 40), (40, am_goto 44), (43, am_const (.int 0) 44), (44, am_retZ Ret)]
theorem koX7_isNearer (live : am_E) (Ret : am_R) : ∀ q ∈ kX7_isNearer live Ret, am_ok RX7 cX7_isNearer 5 (some .boolean) 1 23 live Ret q.1 q.2 :=
  am_kc (ak_iload_n dX7_isNearer_0 rfl rfl) <|
  am_kc (ak_iconst dX7_isNearer_1 (by decide +kernel) rfl) <|
  am_kc (ak_icmp_ne dX7_isNearer_2 (by decide +kernel) rfl) <|
  am_kc (ak_iconst dX7_isNearer_5 (by decide +kernel) rfl) <|
  am_kc (ak_retZ dX7_isNearer_6) <|
  am_kc (ak_iload_n dX7_isNearer_7 rfl rfl) <|
  am_kc (ak_iload_n dX7_isNearer_8 rfl rfl) <|
  am_kc (ak_isub dX7_isNearer_9 rfl) <|
  am_kc (ak_iabs (am_w4 wd_825 wd_826 wd_68 wd_827) (by decide) dX7_isNearer_10 rfl) <|
  am_kc (ak_istore_n dX7_isNearer_13 rfl rfl) <|
  am_kc (ak_iload_n dX7_isNearer_14 rfl rfl) <|
  am_kc (ak_iload_n dX7_isNearer_15 rfl rfl) <|
  am_kc (ak_isub dX7_isNearer_16 rfl) <|
  am_kc (ak_iabs (am_w4 wd_825 wd_826 wd_68 wd_827) (by decide) dX7_isNearer_17 rfl) <|
  am_kc (ak_istore dX7_isNearer_20 rfl) <|
  am_kc (ak_iload_n dX7_isNearer_22 rfl rfl) <|
  am_kc (ak_iload dX7_isNearer_23 rfl) <|
  am_kc (ak_icmp_lt dX7_isNearer_25 (by decide +kernel) rfl) <|
  am_kc (ak_iload_n dX7_isNearer_28 rfl rfl) <|
  am_kc (ak_iload dX7_isNearer_29 rfl) <|
  am_kc (ak_icmp_ne dX7_isNearer_31 (by decide +kernel) rfl) <|
  am_kc (ak_iload_n dX7_isNearer_34 rfl rfl) <|
  am_kc (ak_iload_n dX7_isNearer_35 rfl rfl) <|
  am_kc (ak_icmp_ge dX7_isNearer_36 (by decide +kernel) rfl) <|
  am_kc (ak_iconst dX7_isNearer_39 (by decide +kernel) rfl) <|
  am_kc (ak_goto dX7_isNearer_40 (by decide +kernel)) <|
  am_kc (ak_iconst dX7_isNearer_43 (by decide +kernel) rfl) <|
  am_kc (ak_retZ dX7_isNearer_44) <| am_kn
def TX7_isNearer : am_T := fun live as M R => match as with
  | [.int a, .int b, .int c] => R (some (.int 0)) M ∧ R (some (.int 1)) M
  | _ => False
set_option maxRecDepth 100000 in
set_option maxHeartbeats 4000000 in
theorem metX7_isNearer : am_Met yX7_isNearer cX7_isNearer 5 (some .boolean) (1) (23) TX7_isNearer := by
  refine am_met (own := RX7) (by decide +kernel) rfl kX7_isNearer koX7_isNearer 100 (fun _ _ _ _ _ => none) (fun live as M Ret h => ?_) (fun _ _ _ _ _ _ _ _ hI => by cases hI)
  unfold TX7_isNearer at h
  split at h
  · next a b c =>
    refine ⟨Nat.le_of_ble_eq_true rfl, ?_⟩
    change am_wp _ _ _ _ [(0, Value.int a), (1, Value.int b), (2, Value.int c)] _ _
    obtain ⟨h0, h1⟩ := h
    repeat' (first | exact rfl | (with_reducible exact h0) | (with_reducible exact h1) | apply And.intro | intro hx | (refine Exists.intro _ (And.intro rfl ?_)) | ((with_reducible change _ = true); simp only [h0, h1, Bool.true_and]; rfl))
    all_goals try first | (with_reducible change am_tI _ _) | (change Ret _ _) | (change Ret _ _ _) | (change Exists _)
    all_goals try dsimp only at *
    all_goals try exact absurd ‹(1000 : Int64) = 0› (by decide)
    all_goals first | (left; rfl) | (right; rfl) | exact h0 | exact h1
  · exact h.elim
theorem wd_473 : Cond.methodLink "LearnLoans" 111 yX0_addAct ∈ am_ws := am_wsi (List.mem_of_getElem? (i := 473) (by decide +kernel)) (by decide +kernel)
theorem wd_474 : Cond.instanceMethod yX0_addAct ∈ am_ws := am_wsi (List.mem_of_getElem? (i := 474) (by decide +kernel)) (by decide +kernel)
theorem wd_475 : Cond.selects "LearnLoans$House" yX0_addAct yX0_addAct ∈ am_ws := am_wsi (List.mem_of_getElem? (i := 475) (by decide +kernel)) (by decide +kernel)
theorem wd_476 : Cond.code yX0_addAct cX0_addAct 8 (some .int) ∈ am_ws := am_wsi (List.mem_of_getElem? (i := 476) (by decide +kernel)) (by decide +kernel)
theorem wd_204 : Cond.fieldLink "LearnLoans" 104 "LearnLoans$House" "acts" "LLearnLoans$Rows;" ∈ am_ws := am_wsi (List.mem_of_getElem? (i := 204) (by decide +kernel)) (by decide +kernel)
theorem wd_805 : Cond.methodLink "LearnLoans" 290 yX3_dropLast ∈ am_ws := am_wsi (List.mem_of_getElem? (i := 805) (by decide +kernel)) (by decide +kernel)
theorem wd_806 : Cond.instanceMethod yX3_dropLast ∈ am_ws := am_wsi (List.mem_of_getElem? (i := 806) (by decide +kernel)) (by decide +kernel)
theorem wd_807 : Cond.selects "LearnLoans$Rows" yX3_dropLast yX3_dropLast ∈ am_ws := am_wsi (List.mem_of_getElem? (i := 807) (by decide +kernel)) (by decide +kernel)
theorem wd_808 : Cond.code yX3_dropLast cX3_dropLast 1 none ∈ am_ws := am_wsi (List.mem_of_getElem? (i := 808) (by decide +kernel)) (by decide +kernel)
theorem dX7_takenIf_0 : decode cX7_takenIf 0 = .ok (.aload_n 0, 1) := by decide +kernel
theorem dX7_takenIf_1 : decode cX7_takenIf 1 = .ok (.getfield 27, 3) := by decide +kernel
theorem dX7_takenIf_4 : decode cX7_takenIf 4 = .ok (.iload_n 1, 1) := by decide +kernel
theorem dX7_takenIf_5 : decode cX7_takenIf 5 = .ok (.iload_n 2, 1) := by decide +kernel
theorem dX7_takenIf_6 : decode cX7_takenIf 6 = .ok (.iload_n 3, 1) := by decide +kernel
theorem dX7_takenIf_7 : decode cX7_takenIf 7 = .ok (.iload 4, 2) := by decide +kernel
theorem dX7_takenIf_9 : decode cX7_takenIf 9 = .ok (.iconst 0, 1) := by decide +kernel
theorem dX7_takenIf_10 : decode cX7_takenIf 10 = .ok (.bipush 39, 2) := by decide +kernel
theorem dX7_takenIf_12 : decode cX7_takenIf 12 = .ok (.invokevirtual 111, 3) := by decide +kernel
theorem dX7_takenIf_15 : decode cX7_takenIf 15 = .ok (.pop, 1) := by decide +kernel
theorem dX7_takenIf_16 : decode cX7_takenIf 16 = .ok (.lconst 0, 1) := by decide +kernel
theorem dX7_takenIf_17 : decode cX7_takenIf 17 = .ok (.lstore 6, 2) := by decide +kernel
theorem dX7_takenIf_19 : decode cX7_takenIf 19 = .ok (.iconst 0, 1) := by decide +kernel
theorem dX7_takenIf_20 : decode cX7_takenIf 20 = .ok (.istore 8, 2) := by decide +kernel
theorem dX7_takenIf_22 : decode cX7_takenIf 22 = .ok (.iload 8, 2) := by decide +kernel
theorem dX7_takenIf_24 : decode cX7_takenIf 24 = .ok (.aload_n 0, 1) := by decide +kernel
theorem dX7_takenIf_25 : decode cX7_takenIf 25 = .ok (.getfield 27, 3) := by decide +kernel
theorem dX7_takenIf_28 : decode cX7_takenIf 28 = .ok (.getfield 38, 3) := by decide +kernel
theorem dX7_takenIf_31 : decode cX7_takenIf 31 = .ok (.getfield 42, 3) := by decide +kernel
theorem dX7_takenIf_34 : decode cX7_takenIf 34 = .ok (.if_icmp .ge 42, 3) := by decide +kernel
theorem dX7_takenIf_37 : decode cX7_takenIf 37 = .ok (.aload_n 0, 1) := by decide +kernel
theorem dX7_takenIf_38 : decode cX7_takenIf 38 = .ok (.getfield 20, 3) := by decide +kernel
theorem dX7_takenIf_41 : decode cX7_takenIf 41 = .ok (.iload 8, 2) := by decide +kernel
theorem dX7_takenIf_43 : decode cX7_takenIf 43 = .ok (.bipush 39, 2) := by decide +kernel
theorem dX7_takenIf_45 : decode cX7_takenIf 45 = .ok (.invokevirtual 151, 3) := by decide +kernel
theorem dX7_takenIf_48 : decode cX7_takenIf 48 = .ok (.aload_n 0, 1) := by decide +kernel
theorem dX7_takenIf_49 : decode cX7_takenIf 49 = .ok (.getfield 20, 3) := by decide +kernel
theorem dX7_takenIf_52 : decode cX7_takenIf 52 = .ok (.iload 5, 2) := by decide +kernel
theorem dX7_takenIf_54 : decode cX7_takenIf 54 = .ok (.invokevirtual 155, 3) := by decide +kernel
theorem dX7_takenIf_57 : decode cX7_takenIf 57 = .ok (.lload 6, 2) := by decide +kernel
theorem dX7_takenIf_59 : decode cX7_takenIf 59 = .ok (.aload_n 0, 1) := by decide +kernel
theorem dX7_takenIf_60 : decode cX7_takenIf 60 = .ok (.getfield 20, 3) := by decide +kernel
theorem dX7_takenIf_63 : decode cX7_takenIf 63 = .ok (.iconst 1, 1) := by decide +kernel
theorem dX7_takenIf_64 : decode cX7_takenIf 64 = .ok (.invokevirtual 284, 3) := by decide +kernel
theorem dX7_takenIf_67 : decode cX7_takenIf 67 = .ok (.ladd, 1) := by decide +kernel
theorem dX7_takenIf_68 : decode cX7_takenIf 68 = .ok (.lstore 6, 2) := by decide +kernel
theorem dX7_takenIf_70 : decode cX7_takenIf 70 = .ok (.iinc 8 1, 3) := by decide +kernel
theorem dX7_takenIf_73 : decode cX7_takenIf 73 = .ok (.goto (-51), 3) := by decide +kernel
theorem dX7_takenIf_76 : decode cX7_takenIf 76 = .ok (.aload_n 0, 1) := by decide +kernel
theorem dX7_takenIf_77 : decode cX7_takenIf 77 = .ok (.getfield 27, 3) := by decide +kernel
theorem dX7_takenIf_80 : decode cX7_takenIf 80 = .ok (.getfield 104, 3) := by decide +kernel
theorem dX7_takenIf_83 : decode cX7_takenIf 83 = .ok (.invokevirtual 290, 3) := by decide +kernel
theorem dX7_takenIf_86 : decode cX7_takenIf 86 = .ok (.lload 6, 2) := by decide +kernel
theorem dX7_takenIf_88 : decode cX7_takenIf 88 = .ok (.lreturn, 1) := by decide +kernel
def kX7_takenIf (live : am_E) (Ret : am_R) : am_code := [(0, am_aload 0 1), (1, am_getR live 7 0 4), (4, am_iload 1 5), (5, am_iload 2 6), (6, am_iload 3 7), (7, am_iload 4 9), (9, am_const (.int 0) 10), (10, am_const (.int 39) 12), (12, am_callV live 0 6 TX0_addAct 15), (15, am_pop 16), (16, am_const (.long 0) 17), (17, am_lstore 6 9 19), (19, am_const (.int 0) 20), (20, am_istore 8 9 22), (22, am_iload 8 24), (24, am_aload 0 25), (25, am_getR live 7 0 28), (28, am_getR live 0 0 31), (31, am_getI live 2 7 34), (34, am_if2 (fun x y => y ≤ x) 76 37), (37, am_aload 0 38), (38, am_getR live 7 2 41), (41, am_iload 8 43), (43, am_const (.int 39) 45), (45, am_callV live 4 2 TX4_begin 48), (48, am_aload 0 49), (49, am_getR live 7 2 52), (52, am_iload 5 54), (54, am_callV live 4 1 TX4_go 57), (57, am_lload 6 59), (59, am_aload 0 60), (60, am_getR live 7 2 63), (63, am_const (.int 1) 64), (64, am_callV live 4 1 TX4_together 67), (67, am_l2 (fun x y => x + y) 68), (68, am_lstore 6 9 70), (70, am_iinc 8 9 1 73), (73, am_goto 22), (76, am_aload 0 77), (77, am_getR live 7 0 80), (80, am_getR live 0 3 83), (83, am_callV live 3 0 TX3_dropLast 86), (86, am_lload 6 88), (88, am_retL Ret)]
theorem koX7_takenIf (live : am_E) (Ret : am_R) : ∀ q ∈ kX7_takenIf live Ret, am_ok RX7 cX7_takenIf 9 (some .long) 5 124 live Ret q.1 q.2 :=
  am_kc (ak_aload_n dX7_takenIf_0 rfl rfl) <|
  am_kc (ak_getR (C := RX7) (T := TX7) (N := 4) rfl inX7w (by decide) rfl rfl rfl wd_387 dX7_takenIf_1 rfl) <|
  am_kc (ak_iload_n dX7_takenIf_4 rfl rfl) <|
  am_kc (ak_iload_n dX7_takenIf_5 rfl rfl) <|
  am_kc (ak_iload_n dX7_takenIf_6 rfl rfl) <|
  am_kc (ak_iload dX7_takenIf_7 rfl) <|
  am_kc (ak_iconst dX7_takenIf_9 (by decide +kernel) rfl) <|
  am_kc (ak_bipush dX7_takenIf_10 (by decide +kernel) rfl) <|
  am_kc (ak_callV (C := RX0) (F := TX0) (N := 13) metX0_addAct rfl ⟨rfl, by decide +kernel, by decide +kernel, by decide +kernel⟩ (am_w5 wd_473 wd_474 wd_475 wd_61 wd_476) (by decide) dX7_takenIf_12 rfl) <|
  am_kc (ak_pop dX7_takenIf_15 rfl) <|
  am_kc (ak_lconst dX7_takenIf_16 (by decide +kernel) rfl) <|
  am_kc (ak_lstore dX7_takenIf_17 rfl) <|
  am_kc (ak_iconst dX7_takenIf_19 (by decide +kernel) rfl) <|
  am_kc (ak_istore dX7_takenIf_20 rfl) <|
  am_kc (ak_iload dX7_takenIf_22 rfl) <|
  am_kc (ak_aload_n dX7_takenIf_24 rfl rfl) <|
  am_kc (ak_getR (C := RX7) (T := TX7) (N := 4) rfl inX7w (by decide) rfl rfl rfl wd_387 dX7_takenIf_25 rfl) <|
  am_kc (ak_getR (C := RX0) (T := TX0) (N := 13) rfl inX0w (by decide) rfl rfl rfl wd_194 dX7_takenIf_28 rfl) <|
  am_kc (ak_getI (C := RX2) (T := TX2) (N := 8) rfl inX2w (by decide) rfl rfl rfl wd_121 dX7_takenIf_31 rfl) <|
  am_kc (ak_icmp_ge dX7_takenIf_34 (by decide +kernel) rfl) <|
  am_kc (ak_aload_n dX7_takenIf_37 rfl rfl) <|
  am_kc (ak_getR (C := RX7) (T := TX7) (N := 4) rfl inX7w (by decide) rfl rfl rfl wd_389 dX7_takenIf_38 rfl) <|
  am_kc (ak_iload dX7_takenIf_41 rfl) <|
  am_kc (ak_bipush dX7_takenIf_43 (by decide +kernel) rfl) <|
  am_kc (ak_callV (C := RX4) (F := TX4) (N := 18) metX4_begin rfl ⟨rfl, by decide +kernel, by decide +kernel, by decide +kernel⟩ (am_w5 wd_543 wd_544 wd_545 wd_60 wd_546) (by decide) dX7_takenIf_45 rfl) <|
  am_kc (ak_aload_n dX7_takenIf_48 rfl rfl) <|
  am_kc (ak_getR (C := RX7) (T := TX7) (N := 4) rfl inX7w (by decide) rfl rfl rfl wd_389 dX7_takenIf_49 rfl) <|
  am_kc (ak_iload dX7_takenIf_52 rfl) <|
  am_kc (ak_callV (C := RX4) (F := TX4) (N := 18) metX4_go rfl ⟨rfl, by decide +kernel, by decide +kernel, by decide +kernel⟩ (am_w5 wd_552 wd_553 wd_554 wd_60 wd_555) (by decide) dX7_takenIf_54 rfl) <|
  am_kc (ak_lload dX7_takenIf_57 rfl) <|
  am_kc (ak_aload_n dX7_takenIf_59 rfl rfl) <|
  am_kc (ak_getR (C := RX7) (T := TX7) (N := 4) rfl inX7w (by decide) rfl rfl rfl wd_389 dX7_takenIf_60 rfl) <|
  am_kc (ak_iconst dX7_takenIf_63 (by decide +kernel) rfl) <|
  am_kc (ak_callV (C := RX4) (F := TX4) (N := 18) metX4_together rfl ⟨rfl, by decide +kernel, by decide +kernel, by decide +kernel⟩ (am_w5 wd_646 wd_647 wd_648 wd_60 wd_649) (by decide) dX7_takenIf_64 rfl) <|
  am_kc (ak_ladd dX7_takenIf_67 rfl) <|
  am_kc (ak_lstore dX7_takenIf_68 rfl) <|
  am_kc (ak_iinc dX7_takenIf_70 (by decide +kernel) rfl) <|
  am_kc (ak_goto dX7_takenIf_73 (by decide +kernel)) <|
  am_kc (ak_aload_n dX7_takenIf_76 rfl rfl) <|
  am_kc (ak_getR (C := RX7) (T := TX7) (N := 4) rfl inX7w (by decide) rfl rfl rfl wd_387 dX7_takenIf_77 rfl) <|
  am_kc (ak_getR (C := RX0) (T := TX0) (N := 13) rfl inX0w (by decide) rfl rfl rfl wd_204 dX7_takenIf_80 rfl) <|
  am_kc (ak_callV (C := RX3) (F := TX3) (N := 3) metX3_dropLast rfl ⟨rfl, by decide +kernel, by decide +kernel, by decide +kernel⟩ (am_w5 wd_805 wd_806 wd_807 wd_64 wd_808) (by decide) dX7_takenIf_83 rfl) <|
  am_kc (ak_lload dX7_takenIf_86 rfl) <|
  am_kc (ak_retL dX7_takenIf_88) <| am_kn
def TX7_takenIf : am_T := fun live as M R => match as with
  | [.ref n, .int p, .int w, .int v, .int f, .int y] => am_mn live ∧ n = 0 ∧ g_hI M ∧ g_rI M ∧ ∀ v M', g_sa M M' → g_rI M' → R (some (.long v)) M'
  | _ => False
def JX7_takenIf : am_E → List Value → am_M → am_R → am_inv := fun live as M0 _ pc => match as with
  | [.ref n, .int p, .int w, .int v, .int f, .int y] => (match pc with
    | 22 => some ([0, 5, 6, 8], fun k L st M => ∃ (t : Int64) (i : Int32), L = [(0, .ref 0), (5, .int y), (6, .long t), (8, .int i)] ∧ st = [] ∧ k = ((13 - i.toInt).toNat, 0) ∧ 0 ≤ i.toInt ∧ g_sc (am_addAct M0 p w v f 0 39) M ∧ g_rI M)
    | _ => none)
  | _ => none
theorem g_addAct_o {M : am_M} {p w v f b e : Int32} (h : g_hI M) {n k : Nat} (hn : n ≠ 31 ∨ k ≠ 2) (hk : n = 32 → k < 6 * (M.1 31 2).toNatClampNeg) : (am_addAct M p w v f b e).1 n k = M.1 n k := by
  rw [g_addAct h.ac.1 h.ac.2.1 h.ac.2.2]
  simp only [am_wI_1]
  repeat rw [if_neg (by intro q; have q1 := q.1; have q2 := q.2; first | (have := hk q1; omega) | omega)]
theorem g_addAct_J {M : am_M} {p w v f b e : Int32} (h : g_hI M) : (am_addAct M p w v f b e).2 = M.2 := by
  rw [g_addAct h.ac.1 h.ac.2.1 h.ac.2.2]
  rfl
theorem g_addAct_s {M : am_M} {p w v f b e : Int32} (h : g_hI M) : (am_addAct M p w v f b e).1 31 2 = M.1 31 2 + 1 := by
  rw [g_addAct h.ac.1 h.ac.2.1 h.ac.2.2]
  simp [am_wI_1]
set_option maxRecDepth 100000 in
set_option maxHeartbeats 4000000 in
theorem metX7_takenIf : am_Met yX7_takenIf cX7_takenIf 9 (some .long) (5) (124) TX7_takenIf := by
  refine am_met (own := RX7) (by decide +kernel) rfl kX7_takenIf koX7_takenIf 100 JX7_takenIf ?_ ?_
  · intro live as M Ret h
    unfold TX7_takenIf at h
    split at h
    · next n p w v f y =>
      refine ⟨Nat.le_of_ble_eq_true rfl, ?_⟩
      change am_wp _ _ _ _ [(0, Value.ref n), (1, Value.int p), (2, Value.int w), (3, Value.int v), (4, Value.int f), (5, Value.int y)] _ _
      obtain ⟨hmn, rfl, hh, hr, h⟩ := h
      have hmn2 := hmn
      obtain ⟨i1, i2, rfl⟩ := hmn2
      repeat' (first | exact rfl | (with_reducible exact hmn) | apply And.intro | intro hx | (refine Exists.intro _ (And.intro rfl ?_)))
      all_goals try first | (with_reducible change am_tI _ _) | (change Ret _ _) | (change Ret _ _ _) | (change Exists _)
      all_goals try dsimp only at *
      all_goals try exact absurd ‹(1000 : Int64) = 0› (by decide)
      exact ⟨_, _, _, rfl, rfl, rfl, by decide, g_sc.rf, hr.on (fun a b z => g_addAct_o hh (Or.inl (fun q => by rw [q] at z; exact absurd z (by decide))) (fun q => by rw [q] at z; exact absurd z (by decide)))⟩
    · exact h.elim
  · intro live as M0 Ret h k pc I hI L st M hi
    unfold TX7_takenIf at h
    split at h
    · next n p w v f y =>
      obtain ⟨hmn, rfl, hh, hr, h⟩ := h
      have hmn2 := hmn
      obtain ⟨i1, i2, rfl⟩ := hmn2
      change (match pc with | 22 => _ | _ => none) = _ at hI
      split at hI
      · cases hI
        obtain ⟨t, i, rfl, rfl, rfl, e1, e2, e3⟩ := hi
        have w1 : am_in (1 : Int32) 6 := ⟨by decide, by decide⟩
        have hs := hh.pe
        have ha := hh.ac
        have e21 : M.1 21 7 = M0.1 21 7 := (e2.i 7 (by decide)).trans (g_addAct_o hh (Or.inl (by decide)) (fun q => absurd q (by decide)))
        have e31 : M.1 31 2 = M0.1 31 2 + 1 := (e2.i 2 (by decide)).trans (g_addAct_s hh)
        have h31 := i_inc (x := M0.1 31 2) (by omega) (by omega)
        by_cases hz : M.1 21 7 ≤ i
        · skip
          repeat' (first | exact rfl | (with_reducible exact hmn) | apply And.intro | (intro hx; with_reducible exact absurd hz hx) | intro hx | (refine Exists.intro _ (And.intro rfl ?_)))
          all_goals try first | (with_reducible change am_tI _ _) | (change Ret _ _) | (change Ret _ _ _) | (change Exists _)
          all_goals try dsimp only at *
          all_goals try exact absurd ‹(1000 : Int64) = 0› (by decide)
          refine h _ _ ?_ ?_
          · rw [am_wIc_t (by rw [e31, i_lt, h31]; simp only [Int32.reduceToInt]; omega), e31, Int32.add_sub_cancel]
            have e2b := e2.v
            obtain ⟨-, e2b⟩ := e2b
            refine ⟨(), fun a b z y => ⟨?_, ?_⟩⟩
            · rw [am_wI_1]
              by_cases q : a = 31 ∧ b = 2
              · rw [if_pos q, q.1, q.2]
              · rw [if_neg q, (e2b a b z).1]
                exact g_addAct_o hh (by omega) y
            · show M.2 a b = _
              rw [(e2b a b z).2, g_addAct_J hh]
          · refine e3.on (fun a b z => ?_)
            unfold am_wIc
            show (if _ then _ else _) = _
            rw [if_neg (fun q => by rw [q.2.1] at z; exact absurd z (by decide))]
        · have hz2 := hz
          rw [e21] at hz2
          simp only [i_le] at hz2
          have hp : am_in i 12 := ⟨e1, by omega⟩
          have hi := i_inc (x := i) (by omega) (by omega)
          repeat' (first | exact rfl | (with_reducible exact hmn) | (with_reducible exact hp) | (with_reducible exact w1) | (with_reducible exact e3) | apply And.intro | (intro hx; with_reducible exact absurd hx hz) | ((with_reducible change g_rI _); (with_reducible assumption)) | intro hx | (refine Exists.intro _ (And.intro rfl ?_)))
          all_goals try first | (with_reducible change am_tI _ _) | (change Ret _ _) | (change Ret _ _ _) | (change Exists _)
          all_goals try dsimp only at *
          all_goals try exact absurd ‹(1000 : Int64) = 0› (by decide)
          exact ⟨_, am_lt_l (by omega), _, _, rfl, rfl, rfl, by omega, by (repeat' (first | (with_reducible exact g_sc.rf) | (with_reducible assumption) | ((with_reducible change g_sc _ (am_wI _ _ _ _)); refine g_sc.wI ?_ rfl) | ((with_reducible change g_sc _ (am_wJ _ _ _ _)); refine g_sc.wJ ?_ rfl) | ((with_reducible change g_sc _ (am_cI _ _ _)); refine g_sc.cI ?_ rfl) | ((with_reducible change g_sc _ (am_cJ _ _ _)); refine g_sc.cJ ?_ rfl) | (refine g_sc.tr ?_ (by with_reducible assumption)) | (refine g_sc.st ?_ (by with_reducible assumption)))), by (repeat' (first | (with_reducible assumption) | ((with_reducible change g_rI (am_wJ _ _ _ _)); refine g_rI.wJ ?_) | ((with_reducible change g_rI (am_cJ _ _ _)); refine g_rI.cJ ?_) | ((with_reducible change g_rI (am_wI _ 5 _ _)); refine g_rI.w5 ?_) | ((with_reducible change g_rI (am_wI _ _ _ _)); refine g_rI.wF ?_ rfl) | (refine g_rI.st ?_ (by with_reducible assumption)) | (refine g_rI.we ?_ (by with_reducible assumption))))⟩
      · cases hI
    · exact h.elim
end
section
/-! general: a house taken over from another -/
def g_hit (D : List (Nat × Nat × Nat)) (o k : Nat) : Bool := D.any (fun q => Nat.beq o q.1 && Nat.ble q.2.1 k && Nat.blt k (q.2.1 + q.2.2))
def g_cs (b m : Nat) (D : List (Nat × Nat × Nat)) (M M' : am_M) : Prop := ∃ _ : Unit, M'.2 = M.2 ∧ ∀ a k, M'.1 a k = if b ≤ a ∧ g_hit D (a - b) k = true then M.1 (m + (a - b)) k else M.1 a k
def g_small (D : List (Nat × Nat × Nat)) : Bool := D.all (fun q => Nat.blt q.1 40)
theorem g_hit_lt {D : List (Nat × Nat × Nat)} {o k : Nat} (hD : g_small D = true) (h : g_hit D o k = true) : o < 40 := by
  unfold g_hit at h
  obtain ⟨q, hq, h2⟩ := List.any_eq_true.mp h
  rw [Bool.and_eq_true, Bool.and_eq_true] at h2
  have e := Nat.eq_of_beq_eq_true h2.1.1
  have := List.all_eq_true.mp hD q hq
  have := Nat.le_of_ble_eq_true this
  omega
theorem g_cs.tr {b m : Nat} {D D' : List (Nat × Nat × Nat)} {M M1 M2 : am_M} (hbm : b + 40 ≤ m ∨ m + 40 ≤ b) (hD : g_small D = true) (hD' : g_small D' = true) (h : g_cs b m D M M1) (h2 : g_cs b m D' M1 M2) : g_cs b m (D ++ D') M M2 := by
  obtain ⟨-, hj, h⟩ := h
  obtain ⟨-, hj2, h2⟩ := h2
  refine ⟨(), hj2.trans hj, fun a k => ?_⟩
  have ha : g_hit (D ++ D') (a - b) k = (g_hit D (a - b) k || g_hit D' (a - b) k) := List.any_append
  rw [h2 a k, ha]
  by_cases z2 : b ≤ a ∧ g_hit D' (a - b) k = true
  · rw [if_pos z2, if_pos ⟨z2.1, by rw [z2.2, Bool.or_true]⟩]
    have hl := g_hit_lt hD' z2.2
    rw [h _ k, if_neg (fun q => ?_)]
    have hl2 := g_hit_lt hD q.2
    omega
  · rw [if_neg z2, h a k]
    by_cases z1 : b ≤ a ∧ g_hit D (a - b) k = true
    · rw [if_pos z1, if_pos ⟨z1.1, by rw [z1.2, Bool.true_or]⟩]
    · rw [if_neg z1, if_neg (fun q => ?_)]
      rcases Bool.or_eq_true _ _ |>.mp q.2 with y | y
      · exact z1 ⟨q.1, y⟩
      · exact z2 ⟨q.1, y⟩
theorem g_cs_c {b m : Nat} {M : am_M} (o n : Nat) : g_cs b m [(o, 0, n)] M (am_cI M (b + o) (va_cpy (M.1 (m + o)) (M.1 (b + o)) 0 0 n)) := by
  refine ⟨(), rfl, fun a k => ?_⟩
  rw [am_cI_1]
  by_cases e : a = b + o
  · subst e
    rw [if_pos rfl, Nat.add_sub_cancel_left]
    by_cases z : k < n
    · rw [if_pos ⟨by omega, by simp [g_hit, z]⟩]
      simp [va_cpy, z]
    · rw [if_neg (fun q => by have := q.2; simp [g_hit] at this; omega)]
      simp [va_cpy, z]
  · rw [if_neg e, if_neg (fun q => ?_)]
    have := q.2
    simp [g_hit] at this
    omega
theorem g_cs_w {b m : Nat} {M : am_M} (o f : Nat) : g_cs b m [(o, f, 1)] M (am_wI M (b + o) f (M.1 (m + o) f)) := by
  refine ⟨(), rfl, fun a k => ?_⟩
  rw [am_wI_1]
  by_cases e : a = b + o ∧ k = f
  · obtain ⟨rfl, rfl⟩ := e
    rw [if_pos ⟨rfl, rfl⟩, Nat.add_sub_cancel_left, if_pos ⟨by omega, by simp [g_hit]⟩]
  · rw [if_neg e, if_neg (fun q => ?_)]
    have := q.2
    simp [g_hit] at this
    omega
def g_sh2 : List (Nat × Nat × Nat) := [(2, 0, 12), (3, 0, 12), (4, 0, 480), (5, 0, 480), (6, 0, 480), (7, 0, 480), (8, 0, 480), (1, 7, 1)]
def g_sh0 : List (Nat × Nat × Nat) := [(2, 0, 12), (3, 0, 12), (4, 0, 480), (5, 0, 480), (6, 0, 480), (7, 0, 480), (8, 0, 480), (1, 7, 1), (9, 0, 4), (10, 0, 40), (12, 0, 366), (11, 2, 1), (14, 0, 240), (13, 2, 1), (16, 0, 180), (15, 2, 1), (17, 0, 1200), (20, 0, 50), (21, 0, 50), (19, 5, 1), (19, 2, 1), (19, 6, 1), (23, 0, 50), (24, 0, 50), (22, 5, 1), (22, 2, 1), (22, 6, 1), (26, 0, 50), (27, 0, 50), (25, 5, 1), (25, 2, 1), (25, 6, 1), (29, 0, 50), (30, 0, 50), (28, 5, 1), (28, 2, 1), (28, 6, 1), (32, 0, 50), (33, 0, 50), (31, 5, 1), (31, 2, 1), (31, 6, 1), (35, 0, 60), (34, 2, 1), (36, 0, 160), (37, 0, 16), (38, 0, 9), (0, 12, 1)]
def g_pair (n m : Nat) : Prop := (n = 60 ∧ m = 20) ∨ (n = 100 ∧ m = 20) ∨ (n = 20 ∧ m = 60) ∨ (n = 20 ∧ m = 100)
theorem wd_105 : Cond.fieldLink "LearnLoans$People" 9 "LearnLoans$People" "began" "[I" ∈ am_ws := am_wsi (List.mem_of_getElem? (i := 105) (by decide +kernel)) (by decide +kernel)
theorem wd_841 : Cond.methodLink "LearnLoans$People" 39 arraycopyName ∈ am_ws := am_wsi (List.mem_of_getElem? (i := 841) (by decide +kernel)) (by decide +kernel)
theorem wd_110 : Cond.fieldLink "LearnLoans$People" 18 "LearnLoans$People" "lands" "[I" ∈ am_ws := am_wsi (List.mem_of_getElem? (i := 110) (by decide +kernel)) (by decide +kernel)
theorem wd_122 : Cond.fieldLink "LearnLoans$People" 45 "LearnLoans$People" "size" "I" ∈ am_ws := am_wsi (List.mem_of_getElem? (i := 122) (by decide +kernel)) (by decide +kernel)
theorem dX2_takeOver_0 : decode cX2_takeOver 0 = .ok (.aload_n 1, 1) := by decide +kernel
theorem dX2_takeOver_1 : decode cX2_takeOver 1 = .ok (.getfield 9, 3) := by decide +kernel
theorem dX2_takeOver_4 : decode cX2_takeOver 4 = .ok (.iconst 0, 1) := by decide +kernel
theorem dX2_takeOver_5 : decode cX2_takeOver 5 = .ok (.aload_n 0, 1) := by decide +kernel
theorem dX2_takeOver_6 : decode cX2_takeOver 6 = .ok (.getfield 9, 3) := by decide +kernel
theorem dX2_takeOver_9 : decode cX2_takeOver 9 = .ok (.iconst 0, 1) := by decide +kernel
theorem dX2_takeOver_10 : decode cX2_takeOver 10 = .ok (.bipush 12, 2) := by decide +kernel
theorem dX2_takeOver_12 : decode cX2_takeOver 12 = .ok (.invokestatic 39, 3) := by decide +kernel
theorem dX2_takeOver_15 : decode cX2_takeOver 15 = .ok (.aload_n 1, 1) := by decide +kernel
theorem dX2_takeOver_16 : decode cX2_takeOver 16 = .ok (.getfield 15, 3) := by decide +kernel
theorem dX2_takeOver_19 : decode cX2_takeOver 19 = .ok (.iconst 0, 1) := by decide +kernel
theorem dX2_takeOver_20 : decode cX2_takeOver 20 = .ok (.aload_n 0, 1) := by decide +kernel
theorem dX2_takeOver_21 : decode cX2_takeOver 21 = .ok (.getfield 15, 3) := by decide +kernel
theorem dX2_takeOver_24 : decode cX2_takeOver 24 = .ok (.iconst 0, 1) := by decide +kernel
theorem dX2_takeOver_25 : decode cX2_takeOver 25 = .ok (.bipush 12, 2) := by decide +kernel
theorem dX2_takeOver_27 : decode cX2_takeOver 27 = .ok (.invokestatic 39, 3) := by decide +kernel
theorem dX2_takeOver_30 : decode cX2_takeOver 30 = .ok (.aload_n 1, 1) := by decide +kernel
theorem dX2_takeOver_31 : decode cX2_takeOver 31 = .ok (.getfield 18, 3) := by decide +kernel
theorem dX2_takeOver_34 : decode cX2_takeOver 34 = .ok (.iconst 0, 1) := by decide +kernel
theorem dX2_takeOver_35 : decode cX2_takeOver 35 = .ok (.aload_n 0, 1) := by decide +kernel
theorem dX2_takeOver_36 : decode cX2_takeOver 36 = .ok (.getfield 18, 3) := by decide +kernel
theorem dX2_takeOver_39 : decode cX2_takeOver 39 = .ok (.iconst 0, 1) := by decide +kernel
theorem dX2_takeOver_40 : decode cX2_takeOver 40 = .ok (.sipush 480, 3) := by decide +kernel
theorem dX2_takeOver_43 : decode cX2_takeOver 43 = .ok (.invokestatic 39, 3) := by decide +kernel
theorem dX2_takeOver_46 : decode cX2_takeOver 46 = .ok (.aload_n 1, 1) := by decide +kernel
theorem dX2_takeOver_47 : decode cX2_takeOver 47 = .ok (.getfield 21, 3) := by decide +kernel
theorem dX2_takeOver_50 : decode cX2_takeOver 50 = .ok (.iconst 0, 1) := by decide +kernel
theorem dX2_takeOver_51 : decode cX2_takeOver 51 = .ok (.aload_n 0, 1) := by decide +kernel
theorem dX2_takeOver_52 : decode cX2_takeOver 52 = .ok (.getfield 21, 3) := by decide +kernel
theorem dX2_takeOver_55 : decode cX2_takeOver 55 = .ok (.iconst 0, 1) := by decide +kernel
theorem dX2_takeOver_56 : decode cX2_takeOver 56 = .ok (.sipush 480, 3) := by decide +kernel
theorem dX2_takeOver_59 : decode cX2_takeOver 59 = .ok (.invokestatic 39, 3) := by decide +kernel
theorem dX2_takeOver_62 : decode cX2_takeOver 62 = .ok (.aload_n 1, 1) := by decide +kernel
theorem dX2_takeOver_63 : decode cX2_takeOver 63 = .ok (.getfield 24, 3) := by decide +kernel
theorem dX2_takeOver_66 : decode cX2_takeOver 66 = .ok (.iconst 0, 1) := by decide +kernel
theorem dX2_takeOver_67 : decode cX2_takeOver 67 = .ok (.aload_n 0, 1) := by decide +kernel
theorem dX2_takeOver_68 : decode cX2_takeOver 68 = .ok (.getfield 24, 3) := by decide +kernel
theorem dX2_takeOver_71 : decode cX2_takeOver 71 = .ok (.iconst 0, 1) := by decide +kernel
theorem dX2_takeOver_72 : decode cX2_takeOver 72 = .ok (.sipush 480, 3) := by decide +kernel
theorem dX2_takeOver_75 : decode cX2_takeOver 75 = .ok (.invokestatic 39, 3) := by decide +kernel
theorem dX2_takeOver_78 : decode cX2_takeOver 78 = .ok (.aload_n 1, 1) := by decide +kernel
theorem dX2_takeOver_79 : decode cX2_takeOver 79 = .ok (.getfield 27, 3) := by decide +kernel
theorem dX2_takeOver_82 : decode cX2_takeOver 82 = .ok (.iconst 0, 1) := by decide +kernel
theorem dX2_takeOver_83 : decode cX2_takeOver 83 = .ok (.aload_n 0, 1) := by decide +kernel
theorem dX2_takeOver_84 : decode cX2_takeOver 84 = .ok (.getfield 27, 3) := by decide +kernel
theorem dX2_takeOver_87 : decode cX2_takeOver 87 = .ok (.iconst 0, 1) := by decide +kernel
theorem dX2_takeOver_88 : decode cX2_takeOver 88 = .ok (.sipush 480, 3) := by decide +kernel
theorem dX2_takeOver_91 : decode cX2_takeOver 91 = .ok (.invokestatic 39, 3) := by decide +kernel
theorem dX2_takeOver_94 : decode cX2_takeOver 94 = .ok (.aload_n 1, 1) := by decide +kernel
theorem dX2_takeOver_95 : decode cX2_takeOver 95 = .ok (.getfield 30, 3) := by decide +kernel
theorem dX2_takeOver_98 : decode cX2_takeOver 98 = .ok (.iconst 0, 1) := by decide +kernel
theorem dX2_takeOver_99 : decode cX2_takeOver 99 = .ok (.aload_n 0, 1) := by decide +kernel
theorem dX2_takeOver_100 : decode cX2_takeOver 100 = .ok (.getfield 30, 3) := by decide +kernel
theorem dX2_takeOver_103 : decode cX2_takeOver 103 = .ok (.iconst 0, 1) := by decide +kernel
theorem dX2_takeOver_104 : decode cX2_takeOver 104 = .ok (.sipush 480, 3) := by decide +kernel
theorem dX2_takeOver_107 : decode cX2_takeOver 107 = .ok (.invokestatic 39, 3) := by decide +kernel
theorem dX2_takeOver_110 : decode cX2_takeOver 110 = .ok (.aload_n 0, 1) := by decide +kernel
theorem dX2_takeOver_111 : decode cX2_takeOver 111 = .ok (.aload_n 1, 1) := by decide +kernel
theorem dX2_takeOver_112 : decode cX2_takeOver 112 = .ok (.getfield 45, 3) := by decide +kernel
theorem dX2_takeOver_115 : decode cX2_takeOver 115 = .ok (.putfield 45, 3) := by decide +kernel
theorem dX2_takeOver_118 : decode cX2_takeOver 118 = .ok (.return_, 1) := by decide +kernel
def kX2_takeOver (live : am_E) (Ret : am_R) : am_code := [(0, am_aload 1 1), (1, am_getR live 2 0 4), (4, am_const (.int 0) 5), (5, am_aload 0 6), (6, am_getR live 2 0 9), (9, am_const (.int 0) 10), (10, am_const (.int 12) 12), (12, am_copyI live 31 15), (15, am_aload 1 16), (16, am_getR live 2 1 19), (19, am_const (.int 0) 20), (20, am_aload 0 21), (21, am_getR live 2 1 24), (24, am_const (.int 0) 25), (25, am_const (.int 12) 27), (27, am_copyI live 31 30), (30, am_aload 1 31), (31, am_getR live 2 2 34), (34, am_const (.int 0) 35), (35, am_aload 0 36), (36, am_getR live 2 2 39), (39, am_const (.int 0) 40), (40, am_const (.int 480) 43), (43, am_copyI live 31 46), (46, am_aload 1 47), (47, am_getR live 2 3 50), (50, am_const (.int 0) 51), (51, am_aload 0 52), (52, am_getR live 2 3 55), (55, am_const (.int 0) 56), (56, am_const (.int 480) 59), (59, am_copyI live 31 62), (62, am_aload 1 63), (63, am_getR live 2 4 66), (66, am_const (.int 0) 67), (67, am_aload 0 68), (68, am_getR live 2 4 71), (71, am_const (.int 0) 72), (72, am_const (.int 480) 75), (75, am_copyI live 31 78), (78, am_aload 1 79), (79, am_getR live 2 5 82), (82, am_const (.int 0) 83), (83, am_aload 0 84), (84, am_getR live 2 5 87), (87, am_const (.int 0) 88), (88, am_const (.int 480) 91), (91, am_copyI live 31 94), (94, am_aload 1 95), (95, am_getR live 2 6 98), (98, am_const (.int 0) 99), (99, am_aload 0 100), (100, am_getR live 2 6 103), (103, am_const (.int 0) 104), (104, am_const (.int 480) 107), (107, am_copyI live 31 110), (110, am_aload 0 111), (111, am_aload 1 112), (112, am_getI live 2 7 115), (115, am_putI live 2 7 118), (118, am_retV Ret)]
theorem koX2_takeOver (live : am_E) (Ret : am_R) : ∀ q ∈ kX2_takeOver live Ret, am_ok RX2 cX2_takeOver 2 none 1 31 live Ret q.1 q.2 :=
  am_kc (ak_aload_n dX2_takeOver_0 rfl rfl) <|
  am_kc (ak_getR (C := RX2) (T := TX2) (N := 8) rfl inX2w (by decide) rfl rfl rfl wd_105 dX2_takeOver_1 rfl) <|
  am_kc (ak_iconst dX2_takeOver_4 (by decide +kernel) rfl) <|
  am_kc (ak_aload_n dX2_takeOver_5 rfl rfl) <|
  am_kc (ak_getR (C := RX2) (T := TX2) (N := 8) rfl inX2w (by decide) rfl rfl rfl wd_105 dX2_takeOver_6 rfl) <|
  am_kc (ak_iconst dX2_takeOver_9 (by decide +kernel) rfl) <|
  am_kc (ak_bipush dX2_takeOver_10 (by decide +kernel) rfl) <|
  am_kc (ak_copyI (am_w4 wd_841 wd_498 wd_497 wd_69) (by decide) dX2_takeOver_12 rfl) <|
  am_kc (ak_aload_n dX2_takeOver_15 rfl rfl) <|
  am_kc (ak_getR (C := RX2) (T := TX2) (N := 8) rfl inX2w (by decide) rfl rfl rfl wd_108 dX2_takeOver_16 rfl) <|
  am_kc (ak_iconst dX2_takeOver_19 (by decide +kernel) rfl) <|
  am_kc (ak_aload_n dX2_takeOver_20 rfl rfl) <|
  am_kc (ak_getR (C := RX2) (T := TX2) (N := 8) rfl inX2w (by decide) rfl rfl rfl wd_108 dX2_takeOver_21 rfl) <|
  am_kc (ak_iconst dX2_takeOver_24 (by decide +kernel) rfl) <|
  am_kc (ak_bipush dX2_takeOver_25 (by decide +kernel) rfl) <|
  am_kc (ak_copyI (am_w4 wd_841 wd_498 wd_497 wd_69) (by decide) dX2_takeOver_27 rfl) <|
  am_kc (ak_aload_n dX2_takeOver_30 rfl rfl) <|
  am_kc (ak_getR (C := RX2) (T := TX2) (N := 8) rfl inX2w (by decide) rfl rfl rfl wd_110 dX2_takeOver_31 rfl) <|
  am_kc (ak_iconst dX2_takeOver_34 (by decide +kernel) rfl) <|
  am_kc (ak_aload_n dX2_takeOver_35 rfl rfl) <|
  am_kc (ak_getR (C := RX2) (T := TX2) (N := 8) rfl inX2w (by decide) rfl rfl rfl wd_110 dX2_takeOver_36 rfl) <|
  am_kc (ak_iconst dX2_takeOver_39 (by decide +kernel) rfl) <|
  am_kc (ak_sipush dX2_takeOver_40 (by decide +kernel) rfl) <|
  am_kc (ak_copyI (am_w4 wd_841 wd_498 wd_497 wd_69) (by decide) dX2_takeOver_43 rfl) <|
  am_kc (ak_aload_n dX2_takeOver_46 rfl rfl) <|
  am_kc (ak_getR (C := RX2) (T := TX2) (N := 8) rfl inX2w (by decide) rfl rfl rfl wd_113 dX2_takeOver_47 rfl) <|
  am_kc (ak_iconst dX2_takeOver_50 (by decide +kernel) rfl) <|
  am_kc (ak_aload_n dX2_takeOver_51 rfl rfl) <|
  am_kc (ak_getR (C := RX2) (T := TX2) (N := 8) rfl inX2w (by decide) rfl rfl rfl wd_113 dX2_takeOver_52 rfl) <|
  am_kc (ak_iconst dX2_takeOver_55 (by decide +kernel) rfl) <|
  am_kc (ak_sipush dX2_takeOver_56 (by decide +kernel) rfl) <|
  am_kc (ak_copyI (am_w4 wd_841 wd_498 wd_497 wd_69) (by decide) dX2_takeOver_59 rfl) <|
  am_kc (ak_aload_n dX2_takeOver_62 rfl rfl) <|
  am_kc (ak_getR (C := RX2) (T := TX2) (N := 8) rfl inX2w (by decide) rfl rfl rfl wd_115 dX2_takeOver_63 rfl) <|
  am_kc (ak_iconst dX2_takeOver_66 (by decide +kernel) rfl) <|
  am_kc (ak_aload_n dX2_takeOver_67 rfl rfl) <|
  am_kc (ak_getR (C := RX2) (T := TX2) (N := 8) rfl inX2w (by decide) rfl rfl rfl wd_115 dX2_takeOver_68 rfl) <|
  am_kc (ak_iconst dX2_takeOver_71 (by decide +kernel) rfl) <|
  am_kc (ak_sipush dX2_takeOver_72 (by decide +kernel) rfl) <|
  am_kc (ak_copyI (am_w4 wd_841 wd_498 wd_497 wd_69) (by decide) dX2_takeOver_75 rfl) <|
  am_kc (ak_aload_n dX2_takeOver_78 rfl rfl) <|
  am_kc (ak_getR (C := RX2) (T := TX2) (N := 8) rfl inX2w (by decide) rfl rfl rfl wd_117 dX2_takeOver_79 rfl) <|
  am_kc (ak_iconst dX2_takeOver_82 (by decide +kernel) rfl) <|
  am_kc (ak_aload_n dX2_takeOver_83 rfl rfl) <|
  am_kc (ak_getR (C := RX2) (T := TX2) (N := 8) rfl inX2w (by decide) rfl rfl rfl wd_117 dX2_takeOver_84 rfl) <|
  am_kc (ak_iconst dX2_takeOver_87 (by decide +kernel) rfl) <|
  am_kc (ak_sipush dX2_takeOver_88 (by decide +kernel) rfl) <|
  am_kc (ak_copyI (am_w4 wd_841 wd_498 wd_497 wd_69) (by decide) dX2_takeOver_91 rfl) <|
  am_kc (ak_aload_n dX2_takeOver_94 rfl rfl) <|
  am_kc (ak_getR (C := RX2) (T := TX2) (N := 8) rfl inX2w (by decide) rfl rfl rfl wd_119 dX2_takeOver_95 rfl) <|
  am_kc (ak_iconst dX2_takeOver_98 (by decide +kernel) rfl) <|
  am_kc (ak_aload_n dX2_takeOver_99 rfl rfl) <|
  am_kc (ak_getR (C := RX2) (T := TX2) (N := 8) rfl inX2w (by decide) rfl rfl rfl wd_119 dX2_takeOver_100 rfl) <|
  am_kc (ak_iconst dX2_takeOver_103 (by decide +kernel) rfl) <|
  am_kc (ak_sipush dX2_takeOver_104 (by decide +kernel) rfl) <|
  am_kc (ak_copyI (am_w4 wd_841 wd_498 wd_497 wd_69) (by decide) dX2_takeOver_107 rfl) <|
  am_kc (ak_aload_n dX2_takeOver_110 rfl rfl) <|
  am_kc (ak_aload_n dX2_takeOver_111 rfl rfl) <|
  am_kc (ak_getI (C := RX2) (T := TX2) (N := 8) rfl inX2w (by decide) rfl rfl rfl wd_122 dX2_takeOver_112 rfl) <|
  am_kc (ak_putI (C := RX2) (T := TX2) (N := 8) rfl inX2w tyX2_ok nmX2 (by decide) rfl rfl rfl rfl (by decide +kernel) wd_122 dX2_takeOver_115 rfl) <|
  am_kc (ak_retV dX2_takeOver_118) <| am_kn
def TX2_takeOver : am_T := fun live as M R => match as with
  | [.ref n, .ref m] => am_mn live ∧ live.1 n = true ∧ live.1 m = true ∧ g_pair (n - 1) (m - 1) ∧ ∀ M', g_cs (n - 1) (m - 1) g_sh2 M M' → R none M'
  | _ => False
theorem g_pred {n k : Nat} (h : n - 1 = k + 1) : n = k + 2 := by omega
/-- a weaker start -/
theorem am_Met.mono {y : MethodName} {cc : ByteArray} {nL : Nat} {rt : Option FieldType} {rf rl : Nat} {T T' : am_T} (h : am_Met y cc nL rt rf rl T) (hT : ∀ live as M R, T' live as M R → T live as M R) : am_Met y cc nL rt rf rl T' := fun l D cA al B live as M Ret q => h l D cA al B live as M Ret (hT live as M Ret q)
set_option maxRecDepth 100000 in
set_option maxHeartbeats 4000000 in
theorem metX2_takeOver : am_Met yX2_takeOver cX2_takeOver 2 none (1) (31) TX2_takeOver := by
  refine am_met (own := RX2) (by decide +kernel) rfl kX2_takeOver koX2_takeOver 200 (fun _ _ _ _ _ => none) (fun live as M Ret h => ?_) (fun _ _ _ _ _ _ _ _ hI => by cases hI)
  unfold TX2_takeOver at h
  split at h
  · next n m =>
    refine ⟨Nat.le_of_ble_eq_true rfl, ?_⟩
    change am_wp _ _ _ _ [(0, Value.ref n), (1, Value.ref m)] _ _
    obtain ⟨⟨i1, i2, rfl⟩, hl, hm, hn, h⟩ := h
    have hn2 : (n = 61 ∧ m = 21) ∨ (n = 101 ∧ m = 21) ∨ (n = 21 ∧ m = 61) ∨ (n = 21 ∧ m = 101) := by
      unfold g_pair at hn
      rcases hn with ⟨a1, a2⟩ | ⟨a1, a2⟩ | ⟨a1, a2⟩ | ⟨a1, a2⟩
      · exact Or.inl ⟨g_pred a1, g_pred a2⟩
      · exact Or.inr (Or.inl ⟨g_pred a1, g_pred a2⟩)
      · exact Or.inr (Or.inr (Or.inl ⟨g_pred a1, g_pred a2⟩))
      · exact Or.inr (Or.inr (Or.inr ⟨g_pred a1, g_pred a2⟩))
    rcases hn2 with ⟨rfl, rfl⟩ | ⟨rfl, rfl⟩ | ⟨rfl, rfl⟩ | ⟨rfl, rfl⟩
    · have e1 : i1 = true := by
        cases i1 with
        | true => rfl
        | false => cases hl
      subst e1
      have hbm : 60 + 40 ≤ 20 ∨ 20 + 40 ≤ 60 := by decide
      repeat' (first | exact rfl | apply And.intro | (intro hx; exact absurd hx (by decide)) | (intro hx; exact absurd (by decide) hx) | decide | intro hx | (refine Exists.intro _ (And.intro rfl ?_)))
      all_goals try first | (with_reducible change am_tI _ _) | (change Ret _ _) | (change Ret _ _ _) | (change Exists _)
      all_goals try dsimp only at *
      all_goals try exact absurd ‹(1000 : Int64) = 0› (by decide)
      all_goals exact h _ (show g_cs 60 20 _ M _ from (g_cs.tr hbm rfl rfl (g_cs.tr hbm rfl rfl (g_cs.tr hbm rfl rfl (g_cs.tr hbm rfl rfl (g_cs.tr hbm rfl rfl (g_cs.tr hbm rfl rfl (g_cs.tr hbm rfl rfl (g_cs_c 2 12) (g_cs_c 3 12)) (g_cs_c 4 480)) (g_cs_c 5 480)) (g_cs_c 6 480)) (g_cs_c 7 480)) (g_cs_c 8 480)) (g_cs_w 1 7)))
    · have e1 : i2 = true := by
        cases i2 with
        | true => rfl
        | false => cases hl
      subst e1
      have hbm : 100 + 40 ≤ 20 ∨ 20 + 40 ≤ 100 := by decide
      repeat' (first | exact rfl | apply And.intro | (intro hx; exact absurd hx (by decide)) | (intro hx; exact absurd (by decide) hx) | decide | intro hx | (refine Exists.intro _ (And.intro rfl ?_)))
      all_goals try first | (with_reducible change am_tI _ _) | (change Ret _ _) | (change Ret _ _ _) | (change Exists _)
      all_goals try dsimp only at *
      all_goals try exact absurd ‹(1000 : Int64) = 0› (by decide)
      all_goals exact h _ (show g_cs 100 20 _ M _ from (g_cs.tr hbm rfl rfl (g_cs.tr hbm rfl rfl (g_cs.tr hbm rfl rfl (g_cs.tr hbm rfl rfl (g_cs.tr hbm rfl rfl (g_cs.tr hbm rfl rfl (g_cs.tr hbm rfl rfl (g_cs_c 2 12) (g_cs_c 3 12)) (g_cs_c 4 480)) (g_cs_c 5 480)) (g_cs_c 6 480)) (g_cs_c 7 480)) (g_cs_c 8 480)) (g_cs_w 1 7)))
    · have e1 : i1 = true := by
        cases i1 with
        | true => rfl
        | false => cases hm
      subst e1
      have hbm : 20 + 40 ≤ 60 ∨ 60 + 40 ≤ 20 := by decide
      repeat' (first | exact rfl | apply And.intro | (intro hx; exact absurd hx (by decide)) | (intro hx; exact absurd (by decide) hx) | decide | intro hx | (refine Exists.intro _ (And.intro rfl ?_)))
      all_goals try first | (with_reducible change am_tI _ _) | (change Ret _ _) | (change Ret _ _ _) | (change Exists _)
      all_goals try dsimp only at *
      all_goals try exact absurd ‹(1000 : Int64) = 0› (by decide)
      all_goals exact h _ (show g_cs 20 60 _ M _ from (g_cs.tr hbm rfl rfl (g_cs.tr hbm rfl rfl (g_cs.tr hbm rfl rfl (g_cs.tr hbm rfl rfl (g_cs.tr hbm rfl rfl (g_cs.tr hbm rfl rfl (g_cs.tr hbm rfl rfl (g_cs_c 2 12) (g_cs_c 3 12)) (g_cs_c 4 480)) (g_cs_c 5 480)) (g_cs_c 6 480)) (g_cs_c 7 480)) (g_cs_c 8 480)) (g_cs_w 1 7)))
    · have e1 : i2 = true := by
        cases i2 with
        | true => rfl
        | false => cases hm
      subst e1
      have hbm : 20 + 40 ≤ 100 ∨ 100 + 40 ≤ 20 := by decide
      repeat' (first | exact rfl | apply And.intro | (intro hx; exact absurd hx (by decide)) | (intro hx; exact absurd (by decide) hx) | decide | intro hx | (refine Exists.intro _ (And.intro rfl ?_)))
      all_goals try first | (with_reducible change am_tI _ _) | (change Ret _ _) | (change Ret _ _ _) | (change Exists _)
      all_goals try dsimp only at *
      all_goals try exact absurd ‹(1000 : Int64) = 0› (by decide)
      all_goals exact h _ (show g_cs 20 100 _ M _ from (g_cs.tr hbm rfl rfl (g_cs.tr hbm rfl rfl (g_cs.tr hbm rfl rfl (g_cs.tr hbm rfl rfl (g_cs.tr hbm rfl rfl (g_cs.tr hbm rfl rfl (g_cs.tr hbm rfl rfl (g_cs_c 2 12) (g_cs_c 3 12)) (g_cs_c 4 480)) (g_cs_c 5 480)) (g_cs_c 6 480)) (g_cs_c 7 480)) (g_cs_c 8 480)) (g_cs_w 1 7)))
  · exact h.elim
theorem wd_855 : Cond.methodLink "LearnLoans$Text" 46 arraycopyName ∈ am_ws := am_wsi (List.mem_of_getElem? (i := 855) (by decide +kernel)) (by decide +kernel)
theorem dX5_takeOver_0 : decode cX5_takeOver 0 = .ok (.aload_n 1, 1) := by decide +kernel
theorem dX5_takeOver_1 : decode cX5_takeOver 1 = .ok (.getfield 9, 3) := by decide +kernel
theorem dX5_takeOver_4 : decode cX5_takeOver 4 = .ok (.iconst 0, 1) := by decide +kernel
theorem dX5_takeOver_5 : decode cX5_takeOver 5 = .ok (.aload_n 0, 1) := by decide +kernel
theorem dX5_takeOver_6 : decode cX5_takeOver 6 = .ok (.getfield 9, 3) := by decide +kernel
theorem dX5_takeOver_9 : decode cX5_takeOver 9 = .ok (.iconst 0, 1) := by decide +kernel
theorem dX5_takeOver_10 : decode cX5_takeOver 10 = .ok (.bipush 50, 2) := by decide +kernel
theorem dX5_takeOver_12 : decode cX5_takeOver 12 = .ok (.invokestatic 46, 3) := by decide +kernel
theorem dX5_takeOver_15 : decode cX5_takeOver 15 = .ok (.aload_n 1, 1) := by decide +kernel
theorem dX5_takeOver_16 : decode cX5_takeOver 16 = .ok (.getfield 15, 3) := by decide +kernel
theorem dX5_takeOver_19 : decode cX5_takeOver 19 = .ok (.iconst 0, 1) := by decide +kernel
theorem dX5_takeOver_20 : decode cX5_takeOver 20 = .ok (.aload_n 0, 1) := by decide +kernel
theorem dX5_takeOver_21 : decode cX5_takeOver 21 = .ok (.getfield 15, 3) := by decide +kernel
theorem dX5_takeOver_24 : decode cX5_takeOver 24 = .ok (.iconst 0, 1) := by decide +kernel
theorem dX5_takeOver_25 : decode cX5_takeOver 25 = .ok (.bipush 50, 2) := by decide +kernel
theorem dX5_takeOver_27 : decode cX5_takeOver 27 = .ok (.invokestatic 46, 3) := by decide +kernel
theorem dX5_takeOver_30 : decode cX5_takeOver 30 = .ok (.aload_n 0, 1) := by decide +kernel
theorem dX5_takeOver_31 : decode cX5_takeOver 31 = .ok (.aload_n 1, 1) := by decide +kernel
theorem dX5_takeOver_32 : decode cX5_takeOver 32 = .ok (.getfield 22, 3) := by decide +kernel
theorem dX5_takeOver_35 : decode cX5_takeOver 35 = .ok (.putfield 22, 3) := by decide +kernel
theorem dX5_takeOver_38 : decode cX5_takeOver 38 = .ok (.aload_n 0, 1) := by decide +kernel
theorem dX5_takeOver_39 : decode cX5_takeOver 39 = .ok (.aload_n 1, 1) := by decide +kernel
theorem dX5_takeOver_40 : decode cX5_takeOver 40 = .ok (.getfield 25, 3) := by decide +kernel
theorem dX5_takeOver_43 : decode cX5_takeOver 43 = .ok (.putfield 25, 3) := by decide +kernel
theorem dX5_takeOver_46 : decode cX5_takeOver 46 = .ok (.aload_n 0, 1) := by decide +kernel
theorem dX5_takeOver_47 : decode cX5_takeOver 47 = .ok (.aload_n 1, 1) := by decide +kernel
theorem dX5_takeOver_48 : decode cX5_takeOver 48 = .ok (.getfield 18, 3) := by decide +kernel
theorem dX5_takeOver_51 : decode cX5_takeOver 51 = .ok (.putfield 18, 3) := by decide +kernel
theorem dX5_takeOver_54 : decode cX5_takeOver 54 = .ok (.return_, 1) := by decide +kernel
def kX5_takeOver (live : am_E) (Ret : am_R) : am_code := [(0, am_aload 1 1), (1, am_getR live 5 0 4), (4, am_const (.int 0) 5), (5, am_aload 0 6), (6, am_getR live 5 0 9), (9, am_const (.int 0) 10), (10, am_const (.int 50) 12), (12, am_copyI live 31 15), (15, am_aload 1 16), (16, am_getR live 5 1 19), (19, am_const (.int 0) 20), (20, am_aload 0 21), (21, am_getR live 5 1 24), (24, am_const (.int 0) 25), (25, am_const (.int 50) 27), (27, am_copyI live 31 30), (30, am_aload 0 31), (31, am_aload 1 32), (32, am_getI live 5 5 35), (35, am_putI live 5 5 38), (38, am_aload 0 39), (39, am_aload 1 40), (40, am_getI live 5 2 43), (43, am_putI live 5 2 46), (46, am_aload 0 47), (47, am_aload 1 48), (48, am_getI live 5 6 51), (51, am_putI live 5 6 54), (54, am_retV Ret)]
theorem koX5_takeOver (live : am_E) (Ret : am_R) : ∀ q ∈ kX5_takeOver live Ret, am_ok RX5 cX5_takeOver 2 none 1 31 live Ret q.1 q.2 :=
  am_kc (ak_aload_n dX5_takeOver_0 rfl rfl) <|
  am_kc (ak_getR (C := RX5) (T := TX5) (N := 7) rfl inX5w (by decide) rfl rfl rfl wd_168 dX5_takeOver_1 rfl) <|
  am_kc (ak_iconst dX5_takeOver_4 (by decide +kernel) rfl) <|
  am_kc (ak_aload_n dX5_takeOver_5 rfl rfl) <|
  am_kc (ak_getR (C := RX5) (T := TX5) (N := 7) rfl inX5w (by decide) rfl rfl rfl wd_168 dX5_takeOver_6 rfl) <|
  am_kc (ak_iconst dX5_takeOver_9 (by decide +kernel) rfl) <|
  am_kc (ak_bipush dX5_takeOver_10 (by decide +kernel) rfl) <|
  am_kc (ak_copyI (am_w4 wd_855 wd_498 wd_497 wd_69) (by decide) dX5_takeOver_12 rfl) <|
  am_kc (ak_aload_n dX5_takeOver_15 rfl rfl) <|
  am_kc (ak_getR (C := RX5) (T := TX5) (N := 7) rfl inX5w (by decide) rfl rfl rfl wd_169 dX5_takeOver_16 rfl) <|
  am_kc (ak_iconst dX5_takeOver_19 (by decide +kernel) rfl) <|
  am_kc (ak_aload_n dX5_takeOver_20 rfl rfl) <|
  am_kc (ak_getR (C := RX5) (T := TX5) (N := 7) rfl inX5w (by decide) rfl rfl rfl wd_169 dX5_takeOver_21 rfl) <|
  am_kc (ak_iconst dX5_takeOver_24 (by decide +kernel) rfl) <|
  am_kc (ak_bipush dX5_takeOver_25 (by decide +kernel) rfl) <|
  am_kc (ak_copyI (am_w4 wd_855 wd_498 wd_497 wd_69) (by decide) dX5_takeOver_27 rfl) <|
  am_kc (ak_aload_n dX5_takeOver_30 rfl rfl) <|
  am_kc (ak_aload_n dX5_takeOver_31 rfl rfl) <|
  am_kc (ak_getI (C := RX5) (T := TX5) (N := 7) rfl inX5w (by decide) rfl rfl rfl wd_173 dX5_takeOver_32 rfl) <|
  am_kc (ak_putI (C := RX5) (T := TX5) (N := 7) rfl inX5w tyX5_ok nmX5 (by decide) rfl rfl rfl rfl (by decide +kernel) wd_173 dX5_takeOver_35 rfl) <|
  am_kc (ak_aload_n dX5_takeOver_38 rfl rfl) <|
  am_kc (ak_aload_n dX5_takeOver_39 rfl rfl) <|
  am_kc (ak_getI (C := RX5) (T := TX5) (N := 7) rfl inX5w (by decide) rfl rfl rfl wd_170 dX5_takeOver_40 rfl) <|
  am_kc (ak_putI (C := RX5) (T := TX5) (N := 7) rfl inX5w tyX5_ok nmX5 (by decide) rfl rfl rfl rfl (by decide +kernel) wd_170 dX5_takeOver_43 rfl) <|
  am_kc (ak_aload_n dX5_takeOver_46 rfl rfl) <|
  am_kc (ak_aload_n dX5_takeOver_47 rfl rfl) <|
  am_kc (ak_getI (C := RX5) (T := TX5) (N := 7) rfl inX5w (by decide) rfl rfl rfl wd_175 dX5_takeOver_48 rfl) <|
  am_kc (ak_putI (C := RX5) (T := TX5) (N := 7) rfl inX5w tyX5_ok nmX5 (by decide) rfl rfl rfl rfl (by decide +kernel) wd_175 dX5_takeOver_51 rfl) <|
  am_kc (ak_retV dX5_takeOver_54) <| am_kn
def g_txcp (M : am_M) (t s c u s' c' : Nat) : am_M := (fun M1 : am_M => (fun M2 : am_M => (fun M3 : am_M => (fun M4 : am_M => am_wI M4 t 6 (M4.1 u 6)) (am_wI M3 t 2 (M3.1 u 2))) (am_wI M2 t 5 (M2.1 u 5))) (am_cI M1 c (va_cpy (M1.1 c') (M1.1 c) 0 0 50))) (am_cI M s (va_cpy (M.1 s') (M.1 s) 0 0 50))
def TX5_takeOver : am_T := fun live as M R => match as with
  | [.ref t, .ref u] => am_tP live t (fun s c => am_tP live u (fun s' c' => R none (g_txcp M t s c u s' c')))
  | _ => False
set_option maxRecDepth 100000 in
set_option maxHeartbeats 4000000 in
theorem metX5_takeOver : am_Met yX5_takeOver cX5_takeOver 2 none (1) (31) TX5_takeOver := by
  refine am_met (own := RX5) (by decide +kernel) rfl kX5_takeOver koX5_takeOver 120 (fun _ _ _ _ _ => none) (fun live as M Ret h => ?_) (fun _ _ _ _ _ _ _ _ hI => by cases hI)
  unfold TX5_takeOver at h
  split at h
  · next t u =>
    refine ⟨Nat.le_of_ble_eq_true rfl, ?_⟩
    change am_wp _ _ _ _ [(0, Value.ref t), (1, Value.ref u)] _ _
    have hh := am_tP_mp h
    clear h
    obtain ⟨s, c, h2, h6, hb, h1, g1, g2, l1, l2, n1, n2, n3, h⟩ := hh
    have hh := am_tP_mp h
    clear h
    obtain ⟨s', c', h3, h7, hb', u1, u2, u3, l1', l2', n1', n2', n3', h⟩ := hh
    repeat' (first | exact rfl | (with_reducible exact h1) | (with_reducible exact h2) | (with_reducible exact h6) | (with_reducible exact g1) | (with_reducible exact g2) | (with_reducible exact u1) | (with_reducible exact h3) | (with_reducible exact h7) | (with_reducible exact u2) | (with_reducible exact u3) | (refine Exists.intro _ (Exists.intro _ (And.intro h2 (And.intro h6 ?_)))) | (refine Exists.intro _ (And.intro h2 ?_)) | (refine Exists.intro _ (And.intro h6 ?_)) | apply And.intro | (intro hx; exact absurd hx (by decide)) | (intro hx; exact absurd (by decide) hx) | decide | intro hx | (refine Exists.intro _ (And.intro rfl ?_)) | (refine Exists.intro _ (And.intro h3 ?_)) | (refine Exists.intro _ (And.intro h7 ?_)) | ((with_reducible change _ = true); simp only [h1, h2, h6, g1, g2, u1, h3, h7, u2, u3, Bool.true_and]; rfl))
    all_goals try first | (with_reducible change am_tI _ _) | (change Ret _ _) | (change Ret _ _ _) | (change Exists _)
    all_goals try dsimp only at *
    all_goals try exact absurd ‹(1000 : Int64) = 0› (by decide)
    all_goals first
      | exact h
      | (clear h; decide)
      | (clear h; simp only [l1, l2, l1', l2']; decide)
  · exact h.elim
theorem g_cs_row {b m : Nat} {M : am_M} (hbm : b + 40 ≤ m ∨ m + 40 ≤ b) (o n : Nat) (ho : o < 38) : g_cs b m [(o + 1, 0, n), (o, 2, 1)] M (am_wI (am_cI M (b + (o + 1)) (va_cpy (M.1 (m + (o + 1))) (M.1 (b + (o + 1))) 0 0 n)) (b + o) 2 (M.1 (m + o) 2)) := by
  have h1 : g_cs b m [(o + 1, 0, n)] M _ := g_cs_c (o + 1) n
  have h2 : g_cs b m [(o, 2, 1)] (am_cI M (b + (o + 1)) (va_cpy (M.1 (m + (o + 1))) (M.1 (b + (o + 1))) 0 0 n)) _ := g_cs_w o 2
  have e : (am_cI M (b + (o + 1)) (va_cpy (M.1 (m + (o + 1))) (M.1 (b + (o + 1))) 0 0 n)).1 (m + o) 2 = M.1 (m + o) 2 := by rw [am_cI_1, if_neg (by omega)]
  rw [e] at h2
  exact g_cs.tr hbm (by simp [g_small]; omega) (by simp [g_small]; omega) h1 h2
theorem g_cs_tx {b m : Nat} {M : am_M} (hbm : b + 40 ≤ m ∨ m + 40 ≤ b) (o : Nat) (ho : o < 37) : g_cs b m [(o + 1, 0, 50), (o + 2, 0, 50), (o, 5, 1), (o, 2, 1), (o, 6, 1)] M (g_txcp M (b + o) (b + (o + 1)) (b + (o + 2)) (m + o) (m + (o + 1)) (m + (o + 2))) := by
  unfold g_txcp
  have z : ∀ x y, x < 40 → g_small [(x, y)] = true := fun x y h => by simp [g_small]; omega
  exact g_cs.tr (D := [(o + 1, 0, 50), (o + 2, 0, 50), (o, 5, 1), (o, 2, 1)]) (D' := [(o, 6, 1)]) hbm (by simp [g_small]; omega) (by simp [g_small]; omega) (g_cs.tr (D := [(o + 1, 0, 50), (o + 2, 0, 50), (o, 5, 1)]) (D' := [(o, 2, 1)]) hbm (by simp [g_small]; omega) (by simp [g_small]; omega) (g_cs.tr (D := [(o + 1, 0, 50), (o + 2, 0, 50)]) (D' := [(o, 5, 1)]) hbm (by simp [g_small]; omega) (by simp [g_small]; omega) (g_cs.tr (D := [(o + 1, 0, 50)]) (D' := [(o + 2, 0, 50)]) hbm (by simp [g_small]; omega) (by simp [g_small]; omega) (g_cs_c (o + 1) 50) (g_cs_c (o + 2) 50)) (g_cs_w o 5)) (g_cs_w o 2)) (g_cs_w o 6)
/-- the same, as a house calls them -/
def TX3_takeOverG : am_T := fun live as M R => match as with
  | [.ref r, .ref r2] => ∃ b m o n, r = b + o ∧ r2 = m + o ∧ (b + 40 ≤ m ∨ m + 40 ≤ b) ∧ o < 38 ∧ live.2 r 0 = some (b + (o + 1)) ∧ live.2 r2 0 = some (m + (o + 1)) ∧ am_rc live r (b + (o + 1)) = true ∧ am_rc live r2 (m + (o + 1)) = true ∧ am_len (b + (o + 1)) = n ∧ am_len (m + (o + 1)) = n ∧ ∀ M', g_cs b m [(o + 1, 0, n), (o, 2, 1)] M M' → R none M'
  | _ => False
theorem metX3_takeOverG : am_Met yX3_takeOver cX3_takeOver 2 none 1 31 TX3_takeOverG := by
  refine metX3_takeOver.mono (fun live as M R h => ?_)
  unfold TX3_takeOverG at h
  split at h
  · next r r2 =>
    obtain ⟨b, m, o, n, rfl, rfl, hbm, ho, h1, h2, h3, h4, h5, h6, h⟩ := h
    refine ⟨_, h1, _, h2, ?_, ?_⟩
    · rw [h3, h4, h5, h6]; simp
    · rw [h5]
      exact h _ (g_cs_row hbm o n ho)
  · exact h.elim
def TX5_takeOverG : am_T := fun live as M R => match as with
  | [.ref t, .ref u] => ∃ b m o, t = b + o ∧ u = m + o ∧ (b + 40 ≤ m ∨ m + 40 ≤ b) ∧ o < 37 ∧ live.2 t 0 = some (b + (o + 1)) ∧ live.2 t 1 = some (b + (o + 2)) ∧ live.2 u 0 = some (m + (o + 1)) ∧ live.2 u 1 = some (m + (o + 2)) ∧ am_tc live t (b + (o + 1)) (b + (o + 2)) = true ∧ am_tc live u (m + (o + 1)) (m + (o + 2)) = true ∧ ∀ M', g_cs b m [(o + 1, 0, 50), (o + 2, 0, 50), (o, 5, 1), (o, 2, 1), (o, 6, 1)] M M' → R none M'
  | _ => False
theorem metX5_takeOverG : am_Met yX5_takeOver cX5_takeOver 2 none 1 31 TX5_takeOverG := by
  refine metX5_takeOver.mono (fun live as M R h => ?_)
  unfold TX5_takeOverG at h
  split at h
  · next t u =>
    obtain ⟨b, m, o, rfl, rfl, hbm, ho, h1, h2, h3, h4, h5, h6, h⟩ := h
    exact am_tP_in h1 h2 h5 (am_tP_in h3 h4 h6 (h _ (g_cs_tx hbm o ho)))
  · exact h.elim
theorem wd_193 : Cond.fieldLink "LearnLoans$House" 12 "LearnLoans$House" "people" "LLearnLoans$People;" ∈ am_ws := am_wsi (List.mem_of_getElem? (i := 193) (by decide +kernel)) (by decide +kernel)
theorem wd_837 : Cond.methodLink "LearnLoans$House" 89 yX2_takeOver ∈ am_ws := am_wsi (List.mem_of_getElem? (i := 837) (by decide +kernel)) (by decide +kernel)
theorem wd_838 : Cond.instanceMethod yX2_takeOver ∈ am_ws := am_wsi (List.mem_of_getElem? (i := 838) (by decide +kernel)) (by decide +kernel)
theorem wd_839 : Cond.selects "LearnLoans$People" yX2_takeOver yX2_takeOver ∈ am_ws := am_wsi (List.mem_of_getElem? (i := 839) (by decide +kernel)) (by decide +kernel)
theorem wd_840 : Cond.code yX2_takeOver cX2_takeOver 2 none ∈ am_ws := am_wsi (List.mem_of_getElem? (i := 840) (by decide +kernel)) (by decide +kernel)
theorem wd_196 : Cond.fieldLink "LearnLoans$House" 18 "LearnLoans$House" "scales" "[I" ∈ am_ws := am_wsi (List.mem_of_getElem? (i := 196) (by decide +kernel)) (by decide +kernel)
theorem wd_842 : Cond.methodLink "LearnLoans$House" 93 arraycopyName ∈ am_ws := am_wsi (List.mem_of_getElem? (i := 842) (by decide +kernel)) (by decide +kernel)
theorem wd_199 : Cond.fieldLink "LearnLoans$House" 22 "LearnLoans$House" "prices" "[I" ∈ am_ws := am_wsi (List.mem_of_getElem? (i := 199) (by decide +kernel)) (by decide +kernel)
theorem wd_843 : Cond.methodLink "LearnLoans$House" 99 yX3_takeOver ∈ am_ws := am_wsi (List.mem_of_getElem? (i := 843) (by decide +kernel)) (by decide +kernel)
theorem wd_844 : Cond.instanceMethod yX3_takeOver ∈ am_ws := am_wsi (List.mem_of_getElem? (i := 844) (by decide +kernel)) (by decide +kernel)
theorem wd_845 : Cond.selects "LearnLoans$Rows" yX3_takeOver yX3_takeOver ∈ am_ws := am_wsi (List.mem_of_getElem? (i := 845) (by decide +kernel)) (by decide +kernel)
theorem wd_846 : Cond.code yX3_takeOver cX3_takeOver 2 none ∈ am_ws := am_wsi (List.mem_of_getElem? (i := 846) (by decide +kernel)) (by decide +kernel)
theorem wd_208 : Cond.fieldLink "LearnLoans$House" 37 "LearnLoans$House" "moves" "LLearnLoans$Rows;" ∈ am_ws := am_wsi (List.mem_of_getElem? (i := 208) (by decide +kernel)) (by decide +kernel)
theorem wd_210 : Cond.fieldLink "LearnLoans$House" 40 "LearnLoans$House" "planAt" "[I" ∈ am_ws := am_wsi (List.mem_of_getElem? (i := 210) (by decide +kernel)) (by decide +kernel)
theorem wd_213 : Cond.fieldLink "LearnLoans$House" 45 "LearnLoans$House" "texts" "[LLearnLoans$Text;" ∈ am_ws := am_wsi (List.mem_of_getElem? (i := 213) (by decide +kernel)) (by decide +kernel)
theorem wd_851 : Cond.methodLink "LearnLoans$House" 102 yX5_takeOver ∈ am_ws := am_wsi (List.mem_of_getElem? (i := 851) (by decide +kernel)) (by decide +kernel)
theorem wd_852 : Cond.instanceMethod yX5_takeOver ∈ am_ws := am_wsi (List.mem_of_getElem? (i := 852) (by decide +kernel)) (by decide +kernel)
theorem wd_853 : Cond.selects "LearnLoans$Text" yX5_takeOver yX5_takeOver ∈ am_ws := am_wsi (List.mem_of_getElem? (i := 853) (by decide +kernel)) (by decide +kernel)
theorem wd_854 : Cond.code yX5_takeOver cX5_takeOver 2 none ∈ am_ws := am_wsi (List.mem_of_getElem? (i := 854) (by decide +kernel)) (by decide +kernel)
theorem wd_218 : Cond.fieldLink "LearnLoans$House" 52 "LearnLoans$House" "lives" "[I" ∈ am_ws := am_wsi (List.mem_of_getElem? (i := 218) (by decide +kernel)) (by decide +kernel)
theorem wd_221 : Cond.fieldLink "LearnLoans$House" 55 "LearnLoans$House" "chances" "[I" ∈ am_ws := am_wsi (List.mem_of_getElem? (i := 221) (by decide +kernel)) (by decide +kernel)
theorem wd_224 : Cond.fieldLink "LearnLoans$House" 58 "LearnLoans$House" "told" "[I" ∈ am_ws := am_wsi (List.mem_of_getElem? (i := 224) (by decide +kernel)) (by decide +kernel)
theorem wd_226 : Cond.fieldLink "LearnLoans$House" 105 "LearnLoans$House" "toldSize" "I" ∈ am_ws := am_wsi (List.mem_of_getElem? (i := 226) (by decide +kernel)) (by decide +kernel)
theorem dX0_takeOver_0 : decode cX0_takeOver 0 = .ok (.aload_n 0, 1) := by decide +kernel
theorem dX0_takeOver_1 : decode cX0_takeOver 1 = .ok (.getfield 12, 3) := by decide +kernel
theorem dX0_takeOver_4 : decode cX0_takeOver 4 = .ok (.aload_n 1, 1) := by decide +kernel
theorem dX0_takeOver_5 : decode cX0_takeOver 5 = .ok (.getfield 12, 3) := by decide +kernel
theorem dX0_takeOver_8 : decode cX0_takeOver 8 = .ok (.invokevirtual 89, 3) := by decide +kernel
theorem dX0_takeOver_11 : decode cX0_takeOver 11 = .ok (.aload_n 1, 1) := by decide +kernel
theorem dX0_takeOver_12 : decode cX0_takeOver 12 = .ok (.getfield 18, 3) := by decide +kernel
theorem dX0_takeOver_15 : decode cX0_takeOver 15 = .ok (.iconst 0, 1) := by decide +kernel
theorem dX0_takeOver_16 : decode cX0_takeOver 16 = .ok (.aload_n 0, 1) := by decide +kernel
theorem dX0_takeOver_17 : decode cX0_takeOver 17 = .ok (.getfield 18, 3) := by decide +kernel
theorem dX0_takeOver_20 : decode cX0_takeOver 20 = .ok (.iconst 0, 1) := by decide +kernel
theorem dX0_takeOver_21 : decode cX0_takeOver 21 = .ok (.iconst 4, 1) := by decide +kernel
theorem dX0_takeOver_22 : decode cX0_takeOver 22 = .ok (.invokestatic 93, 3) := by decide +kernel
theorem dX0_takeOver_25 : decode cX0_takeOver 25 = .ok (.aload_n 1, 1) := by decide +kernel
theorem dX0_takeOver_26 : decode cX0_takeOver 26 = .ok (.getfield 22, 3) := by decide +kernel
theorem dX0_takeOver_29 : decode cX0_takeOver 29 = .ok (.iconst 0, 1) := by decide +kernel
theorem dX0_takeOver_30 : decode cX0_takeOver 30 = .ok (.aload_n 0, 1) := by decide +kernel
theorem dX0_takeOver_31 : decode cX0_takeOver 31 = .ok (.getfield 22, 3) := by decide +kernel
theorem dX0_takeOver_34 : decode cX0_takeOver 34 = .ok (.iconst 0, 1) := by decide +kernel
theorem dX0_takeOver_35 : decode cX0_takeOver 35 = .ok (.bipush 40, 2) := by decide +kernel
theorem dX0_takeOver_37 : decode cX0_takeOver 37 = .ok (.invokestatic 93, 3) := by decide +kernel
theorem dX0_takeOver_40 : decode cX0_takeOver 40 = .ok (.aload_n 0, 1) := by decide +kernel
theorem dX0_takeOver_41 : decode cX0_takeOver 41 = .ok (.getfield 30, 3) := by decide +kernel
theorem dX0_takeOver_44 : decode cX0_takeOver 44 = .ok (.aload_n 1, 1) := by decide +kernel
theorem dX0_takeOver_45 : decode cX0_takeOver 45 = .ok (.getfield 30, 3) := by decide +kernel
theorem dX0_takeOver_48 : decode cX0_takeOver 48 = .ok (.invokevirtual 99, 3) := by decide +kernel
theorem dX0_takeOver_51 : decode cX0_takeOver 51 = .ok (.aload_n 0, 1) := by decide +kernel
theorem dX0_takeOver_52 : decode cX0_takeOver 52 = .ok (.getfield 34, 3) := by decide +kernel
theorem dX0_takeOver_55 : decode cX0_takeOver 55 = .ok (.aload_n 1, 1) := by decide +kernel
theorem dX0_takeOver_56 : decode cX0_takeOver 56 = .ok (.getfield 34, 3) := by decide +kernel
theorem dX0_takeOver_59 : decode cX0_takeOver 59 = .ok (.invokevirtual 99, 3) := by decide +kernel
theorem dX0_takeOver_62 : decode cX0_takeOver 62 = .ok (.aload_n 0, 1) := by decide +kernel
theorem dX0_takeOver_63 : decode cX0_takeOver 63 = .ok (.getfield 37, 3) := by decide +kernel
theorem dX0_takeOver_66 : decode cX0_takeOver 66 = .ok (.aload_n 1, 1) := by decide +kernel
theorem dX0_takeOver_67 : decode cX0_takeOver 67 = .ok (.getfield 37, 3) := by decide +kernel
theorem dX0_takeOver_70 : decode cX0_takeOver 70 = .ok (.invokevirtual 99, 3) := by decide +kernel
theorem dX0_takeOver_73 : decode cX0_takeOver 73 = .ok (.aload_n 1, 1) := by decide +kernel
theorem dX0_takeOver_74 : decode cX0_takeOver 74 = .ok (.getfield 40, 3) := by decide +kernel
theorem dX0_takeOver_77 : decode cX0_takeOver 77 = .ok (.iconst 0, 1) := by decide +kernel
theorem dX0_takeOver_78 : decode cX0_takeOver 78 = .ok (.aload_n 0, 1) := by decide +kernel
theorem dX0_takeOver_79 : decode cX0_takeOver 79 = .ok (.getfield 40, 3) := by decide +kernel
theorem dX0_takeOver_82 : decode cX0_takeOver 82 = .ok (.iconst 0, 1) := by decide +kernel
theorem dX0_takeOver_83 : decode cX0_takeOver 83 = .ok (.sipush 1200, 3) := by decide +kernel
theorem dX0_takeOver_86 : decode cX0_takeOver 86 = .ok (.invokestatic 93, 3) := by decide +kernel
theorem dX0_takeOver_89 : decode cX0_takeOver 89 = .ok (.iconst 0, 1) := by decide +kernel
theorem dX0_takeOver_90 : decode cX0_takeOver 90 = .ok (.istore_n 2, 1) := by decide +kernel
theorem dX0_takeOver_91 : decode cX0_takeOver 91 = .ok (.iload_n 2, 1) := by decide +kernel
theorem dX0_takeOver_92 : decode cX0_takeOver 92 = .ok (.iconst 5, 1) := by decide +kernel
theorem dX0_takeOver_93 : decode cX0_takeOver 93 = .ok (.if_icmp .ge 24, 3) := by decide +kernel
theorem dX0_takeOver_96 : decode cX0_takeOver 96 = .ok (.aload_n 0, 1) := by decide +kernel
theorem dX0_takeOver_97 : decode cX0_takeOver 97 = .ok (.getfield 45, 3) := by decide +kernel
theorem dX0_takeOver_100 : decode cX0_takeOver 100 = .ok (.iload_n 2, 1) := by decide +kernel
theorem dX0_takeOver_101 : decode cX0_takeOver 101 = .ok (.aaload, 1) := by decide +kernel
theorem dX0_takeOver_102 : decode cX0_takeOver 102 = .ok (.aload_n 1, 1) := by decide +kernel
theorem dX0_takeOver_103 : decode cX0_takeOver 103 = .ok (.getfield 45, 3) := by decide +kernel
theorem dX0_takeOver_106 : decode cX0_takeOver 106 = .ok (.iload_n 2, 1) := by decide +kernel
theorem dX0_takeOver_107 : decode cX0_takeOver 107 = .ok (.aaload, 1) := by decide +kernel
theorem dX0_takeOver_108 : decode cX0_takeOver 108 = .ok (.invokevirtual 102, 3) := by decide +kernel
theorem dX0_takeOver_111 : decode cX0_takeOver 111 = .ok (.iinc 2 1, 3) := by decide +kernel
theorem dX0_takeOver_114 : decode cX0_takeOver 114 = .ok (.goto (-23), 3) := by decide +kernel
theorem dX0_takeOver_117 : decode cX0_takeOver 117 = .ok (.aload_n 0, 1) := by decide +kernel
theorem dX0_takeOver_118 : decode cX0_takeOver 118 = .ok (.getfield 49, 3) := by decide +kernel
theorem dX0_takeOver_121 : decode cX0_takeOver 121 = .ok (.aload_n 1, 1) := by decide +kernel
theorem dX0_takeOver_122 : decode cX0_takeOver 122 = .ok (.getfield 49, 3) := by decide +kernel
theorem dX0_takeOver_125 : decode cX0_takeOver 125 = .ok (.invokevirtual 99, 3) := by decide +kernel
theorem dX0_takeOver_128 : decode cX0_takeOver 128 = .ok (.aload_n 1, 1) := by decide +kernel
theorem dX0_takeOver_129 : decode cX0_takeOver 129 = .ok (.getfield 52, 3) := by decide +kernel
theorem dX0_takeOver_132 : decode cX0_takeOver 132 = .ok (.iconst 0, 1) := by decide +kernel
theorem dX0_takeOver_133 : decode cX0_takeOver 133 = .ok (.aload_n 0, 1) := by decide +kernel
theorem dX0_takeOver_134 : decode cX0_takeOver 134 = .ok (.getfield 52, 3) := by decide +kernel
theorem dX0_takeOver_137 : decode cX0_takeOver 137 = .ok (.iconst 0, 1) := by decide +kernel
theorem dX0_takeOver_138 : decode cX0_takeOver 138 = .ok (.sipush 160, 3) := by decide +kernel
theorem dX0_takeOver_141 : decode cX0_takeOver 141 = .ok (.invokestatic 93, 3) := by decide +kernel
theorem dX0_takeOver_144 : decode cX0_takeOver 144 = .ok (.aload_n 1, 1) := by decide +kernel
theorem dX0_takeOver_145 : decode cX0_takeOver 145 = .ok (.getfield 55, 3) := by decide +kernel
theorem dX0_takeOver_148 : decode cX0_takeOver 148 = .ok (.iconst 0, 1) := by decide +kernel
theorem dX0_takeOver_149 : decode cX0_takeOver 149 = .ok (.aload_n 0, 1) := by decide +kernel
theorem dX0_takeOver_150 : decode cX0_takeOver 150 = .ok (.getfield 55, 3) := by decide +kernel
theorem dX0_takeOver_153 : decode cX0_takeOver 153 = .ok (.iconst 0, 1) := by decide +kernel
theorem dX0_takeOver_154 : decode cX0_takeOver 154 = .ok (.bipush 16, 2) := by decide +kernel
theorem dX0_takeOver_156 : decode cX0_takeOver 156 = .ok (.invokestatic 93, 3) := by decide +kernel
theorem dX0_takeOver_159 : decode cX0_takeOver 159 = .ok (.aload_n 1, 1) := by decide +kernel
theorem dX0_takeOver_160 : decode cX0_takeOver 160 = .ok (.getfield 58, 3) := by decide +kernel
theorem dX0_takeOver_163 : decode cX0_takeOver 163 = .ok (.iconst 0, 1) := by decide +kernel
theorem dX0_takeOver_164 : decode cX0_takeOver 164 = .ok (.aload_n 0, 1) := by decide +kernel
theorem dX0_takeOver_165 : decode cX0_takeOver 165 = .ok (.getfield 58, 3) := by decide +kernel
theorem dX0_takeOver_168 : decode cX0_takeOver 168 = .ok (.iconst 0, 1) := by decide +kernel
theorem dX0_takeOver_169 : decode cX0_takeOver 169 = .ok (.bipush 9, 2) := by decide +kernel
theorem dX0_takeOver_171 : decode cX0_takeOver 171 = .ok (.invokestatic 93, 3) := by decide +kernel
theorem dX0_takeOver_174 : decode cX0_takeOver 174 = .ok (.aload_n 0, 1) := by decide +kernel
theorem dX0_takeOver_175 : decode cX0_takeOver 175 = .ok (.aload_n 1, 1) := by decide +kernel
theorem dX0_takeOver_176 : decode cX0_takeOver 176 = .ok (.getfield 105, 3) := by decide +kernel
theorem dX0_takeOver_179 : decode cX0_takeOver 179 = .ok (.putfield 105, 3) := by decide +kernel
theorem dX0_takeOver_182 : decode cX0_takeOver 182 = .ok (.return_, 1) := by decide +kernel
def kX0_takeOver (live : am_E) (Ret : am_R) : am_code := [(0, am_aload 0 1), (1, am_getR live 0 0 4), (4, am_aload 1 5), (5, am_getR live 0 0 8), (8, am_callV live 2 1 TX2_takeOver 11), (11, am_aload 1 12), (12, am_getR live 0 1 15), (15, am_const (.int 0) 16), (16, am_aload 0 17), (17, am_getR live 0 1 20), (20, am_const (.int 0) 21), (21, am_const (.int 4) 22), (22, am_copyI live 52 25), (25, am_aload 1 26), (26, am_getR live 0 2 29), (29, am_const (.int 0) 30), (30, am_aload 0 31), (31, am_getR live 0 2 34), (34, am_const (.int 0) 35), (35, am_const (.int 40) 37), (37, am_copyI live 52 40), (40, am_aload 0 41), (41, am_getR live 0 3 44), (44, am_aload 1 45), (45, am_getR live 0 3 48), (48, am_callV live 3 1 TX3_takeOverG 51), (51, am_aload 0 52), (52, am_getR live 0 4 55), (55, am_aload 1 56), (56, am_getR live 0 4 59), (59, am_callV live 3 1 TX3_takeOverG 62), (62, am_aload 0 63), (63, am_getR live 0 5 66), (66, am_aload 1 67), (67, am_getR live 0 5 70), (70, am_callV live 3 1 TX3_takeOverG 73), (73, am_aload 1 74), (74, am_getR live 0 6 77), (77, am_const (.int 0) 78), (78, am_aload 0 79), (79, am_getR live 0 6 82), (82, am_const (.int 0) 83), (83, am_const (.int 1200) 86), (86, am_copyI live 52 89), (89, am_const (.int 0) 90), (90, am_istore 2 3 91), (91, am_iload 2 92), (92, am_const (.int 5) 93), (93, am_if2 (fun x y => y ≤ x) 117 96), (96, am_aload 0 97), (97, am_getR live 0 7 100), (100, am_iload 2 101), (101, am_aald live 3 102), (102, am_aload 1 103), (103, am_getR live 0 7 106), (106, am_iload 2 107), (107, am_aald live 3 108), (108, am_callV live 5 1 TX5_takeOverG 111), (111, am_iinc 2 3 1 114), (114, am_goto 91), (117, am_aload 0 118), (118, am_getR live 0 8 121), (121, am_aload 1 122), (122, am_getR live 0 8 125), (125, am_callV live 3 1 TX3_takeOverG 128), (128, am_aload 1 129), (129, am_getR live 0 9 132), (132, am_const (.int 0) 133), (133, am_aload 0 134), (134, am_getR live 0 9 137), (137, am_const (.int 0) 138), (138, am_const (.int 160) 141), (141, am_copyI live 52 144), (144, am_aload 1 145), (145, am_getR live 0 10 148), (148, am_const (.int 0) 149), (149, am_aload 0 150), (150, am_getR live 0 10 153), (153, am_const (.int 0) 154), (154, am_const (.int 16) 156), (156, am_copyI live 52 159), (159, am_aload 1 160), (160, am_getR live 0 11 163), (163, am_const (.int 0) 164), (164, am_aload 0 165), (165, am_getR live 0 11 168), (168, am_const (.int 0) 169), (169, am_const (.int 9) 171), (171, am_copyI live 52 174), (174, am_aload 0 175), (175, am_aload 1 176), (176, am_getI live 0 12 179), (179, am_putI live 0 12 182), (182, am_retV Ret)]
theorem koX0_takeOver (live : am_E) (Ret : am_R) : ∀ q ∈ kX0_takeOver live Ret, am_ok RX0 cX0_takeOver 3 none 2 52 live Ret q.1 q.2 :=
  am_kc (ak_aload_n dX0_takeOver_0 rfl rfl) <|
  am_kc (ak_getR (C := RX0) (T := TX0) (N := 13) rfl inX0w (by decide) rfl rfl rfl wd_193 dX0_takeOver_1 rfl) <|
  am_kc (ak_aload_n dX0_takeOver_4 rfl rfl) <|
  am_kc (ak_getR (C := RX0) (T := TX0) (N := 13) rfl inX0w (by decide) rfl rfl rfl wd_193 dX0_takeOver_5 rfl) <|
  am_kc (ak_callV (C := RX2) (F := TX2) (N := 8) metX2_takeOver rfl ⟨rfl, by decide +kernel, by decide +kernel, by decide +kernel⟩ (am_w5 wd_837 wd_838 wd_839 wd_62 wd_840) (by decide) dX0_takeOver_8 rfl) <|
  am_kc (ak_aload_n dX0_takeOver_11 rfl rfl) <|
  am_kc (ak_getR (C := RX0) (T := TX0) (N := 13) rfl inX0w (by decide) rfl rfl rfl wd_196 dX0_takeOver_12 rfl) <|
  am_kc (ak_iconst dX0_takeOver_15 (by decide +kernel) rfl) <|
  am_kc (ak_aload_n dX0_takeOver_16 rfl rfl) <|
  am_kc (ak_getR (C := RX0) (T := TX0) (N := 13) rfl inX0w (by decide) rfl rfl rfl wd_196 dX0_takeOver_17 rfl) <|
  am_kc (ak_iconst dX0_takeOver_20 (by decide +kernel) rfl) <|
  am_kc (ak_iconst dX0_takeOver_21 (by decide +kernel) rfl) <|
  am_kc (ak_copyI (am_w4 wd_842 wd_498 wd_497 wd_69) (by decide) dX0_takeOver_22 rfl) <|
  am_kc (ak_aload_n dX0_takeOver_25 rfl rfl) <|
  am_kc (ak_getR (C := RX0) (T := TX0) (N := 13) rfl inX0w (by decide) rfl rfl rfl wd_199 dX0_takeOver_26 rfl) <|
  am_kc (ak_iconst dX0_takeOver_29 (by decide +kernel) rfl) <|
  am_kc (ak_aload_n dX0_takeOver_30 rfl rfl) <|
  am_kc (ak_getR (C := RX0) (T := TX0) (N := 13) rfl inX0w (by decide) rfl rfl rfl wd_199 dX0_takeOver_31 rfl) <|
  am_kc (ak_iconst dX0_takeOver_34 (by decide +kernel) rfl) <|
  am_kc (ak_bipush dX0_takeOver_35 (by decide +kernel) rfl) <|
  am_kc (ak_copyI (am_w4 wd_842 wd_498 wd_497 wd_69) (by decide) dX0_takeOver_37 rfl) <|
  am_kc (ak_aload_n dX0_takeOver_40 rfl rfl) <|
  am_kc (ak_getR (C := RX0) (T := TX0) (N := 13) rfl inX0w (by decide) rfl rfl rfl wd_202 dX0_takeOver_41 rfl) <|
  am_kc (ak_aload_n dX0_takeOver_44 rfl rfl) <|
  am_kc (ak_getR (C := RX0) (T := TX0) (N := 13) rfl inX0w (by decide) rfl rfl rfl wd_202 dX0_takeOver_45 rfl) <|
  am_kc (ak_callV (C := RX3) (F := TX3) (N := 3) metX3_takeOverG rfl ⟨rfl, by decide +kernel, by decide +kernel, by decide +kernel⟩ (am_w5 wd_843 wd_844 wd_845 wd_64 wd_846) (by decide) dX0_takeOver_48 rfl) <|
  am_kc (ak_aload_n dX0_takeOver_51 rfl rfl) <|
  am_kc (ak_getR (C := RX0) (T := TX0) (N := 13) rfl inX0w (by decide) rfl rfl rfl wd_205 dX0_takeOver_52 rfl) <|
  am_kc (ak_aload_n dX0_takeOver_55 rfl rfl) <|
  am_kc (ak_getR (C := RX0) (T := TX0) (N := 13) rfl inX0w (by decide) rfl rfl rfl wd_205 dX0_takeOver_56 rfl) <|
  am_kc (ak_callV (C := RX3) (F := TX3) (N := 3) metX3_takeOverG rfl ⟨rfl, by decide +kernel, by decide +kernel, by decide +kernel⟩ (am_w5 wd_843 wd_844 wd_845 wd_64 wd_846) (by decide) dX0_takeOver_59 rfl) <|
  am_kc (ak_aload_n dX0_takeOver_62 rfl rfl) <|
  am_kc (ak_getR (C := RX0) (T := TX0) (N := 13) rfl inX0w (by decide) rfl rfl rfl wd_208 dX0_takeOver_63 rfl) <|
  am_kc (ak_aload_n dX0_takeOver_66 rfl rfl) <|
  am_kc (ak_getR (C := RX0) (T := TX0) (N := 13) rfl inX0w (by decide) rfl rfl rfl wd_208 dX0_takeOver_67 rfl) <|
  am_kc (ak_callV (C := RX3) (F := TX3) (N := 3) metX3_takeOverG rfl ⟨rfl, by decide +kernel, by decide +kernel, by decide +kernel⟩ (am_w5 wd_843 wd_844 wd_845 wd_64 wd_846) (by decide) dX0_takeOver_70 rfl) <|
  am_kc (ak_aload_n dX0_takeOver_73 rfl rfl) <|
  am_kc (ak_getR (C := RX0) (T := TX0) (N := 13) rfl inX0w (by decide) rfl rfl rfl wd_210 dX0_takeOver_74 rfl) <|
  am_kc (ak_iconst dX0_takeOver_77 (by decide +kernel) rfl) <|
  am_kc (ak_aload_n dX0_takeOver_78 rfl rfl) <|
  am_kc (ak_getR (C := RX0) (T := TX0) (N := 13) rfl inX0w (by decide) rfl rfl rfl wd_210 dX0_takeOver_79 rfl) <|
  am_kc (ak_iconst dX0_takeOver_82 (by decide +kernel) rfl) <|
  am_kc (ak_sipush dX0_takeOver_83 (by decide +kernel) rfl) <|
  am_kc (ak_copyI (am_w4 wd_842 wd_498 wd_497 wd_69) (by decide) dX0_takeOver_86 rfl) <|
  am_kc (ak_iconst dX0_takeOver_89 (by decide +kernel) rfl) <|
  am_kc (ak_istore_n dX0_takeOver_90 rfl rfl) <|
  am_kc (ak_iload_n dX0_takeOver_91 rfl rfl) <|
  am_kc (ak_iconst dX0_takeOver_92 (by decide +kernel) rfl) <|
  am_kc (ak_icmp_ge dX0_takeOver_93 (by decide +kernel) rfl) <|
  am_kc (ak_aload_n dX0_takeOver_96 rfl rfl) <|
  am_kc (ak_getR (C := RX0) (T := TX0) (N := 13) rfl inX0w (by decide) rfl rfl rfl wd_213 dX0_takeOver_97 rfl) <|
  am_kc (ak_iload_n dX0_takeOver_100 rfl rfl) <|
  am_kc (ak_aald (t := 3) (fun _ => rfl) rfl dX0_takeOver_101 rfl) <|
  am_kc (ak_aload_n dX0_takeOver_102 rfl rfl) <|
  am_kc (ak_getR (C := RX0) (T := TX0) (N := 13) rfl inX0w (by decide) rfl rfl rfl wd_213 dX0_takeOver_103 rfl) <|
  am_kc (ak_iload_n dX0_takeOver_106 rfl rfl) <|
  am_kc (ak_aald (t := 3) (fun _ => rfl) rfl dX0_takeOver_107 rfl) <|
  am_kc (ak_callV (C := RX5) (F := TX5) (N := 7) metX5_takeOverG rfl ⟨rfl, by decide +kernel, by decide +kernel, by decide +kernel⟩ (am_w5 wd_851 wd_852 wd_853 wd_65 wd_854) (by decide) dX0_takeOver_108 rfl) <|
  am_kc (ak_iinc dX0_takeOver_111 (by decide +kernel) rfl) <|
  am_kc (ak_goto dX0_takeOver_114 (by decide +kernel)) <|
  am_kc (ak_aload_n dX0_takeOver_117 rfl rfl) <|
  am_kc (ak_getR (C := RX0) (T := TX0) (N := 13) rfl inX0w (by decide) rfl rfl rfl wd_216 dX0_takeOver_118 rfl) <|
  am_kc (ak_aload_n dX0_takeOver_121 rfl rfl) <|
  am_kc (ak_getR (C := RX0) (T := TX0) (N := 13) rfl inX0w (by decide) rfl rfl rfl wd_216 dX0_takeOver_122 rfl) <|
  am_kc (ak_callV (C := RX3) (F := TX3) (N := 3) metX3_takeOverG rfl ⟨rfl, by decide +kernel, by decide +kernel, by decide +kernel⟩ (am_w5 wd_843 wd_844 wd_845 wd_64 wd_846) (by decide) dX0_takeOver_125 rfl) <|
  am_kc (ak_aload_n dX0_takeOver_128 rfl rfl) <|
  am_kc (ak_getR (C := RX0) (T := TX0) (N := 13) rfl inX0w (by decide) rfl rfl rfl wd_218 dX0_takeOver_129 rfl) <|
  am_kc (ak_iconst dX0_takeOver_132 (by decide +kernel) rfl) <|
  am_kc (ak_aload_n dX0_takeOver_133 rfl rfl) <|
  am_kc (ak_getR (C := RX0) (T := TX0) (N := 13) rfl inX0w (by decide) rfl rfl rfl wd_218 dX0_takeOver_134 rfl) <|
  am_kc (ak_iconst dX0_takeOver_137 (by decide +kernel) rfl) <|
  am_kc (ak_sipush dX0_takeOver_138 (by decide +kernel) rfl) <|
  am_kc (ak_copyI (am_w4 wd_842 wd_498 wd_497 wd_69) (by decide) dX0_takeOver_141 rfl) <|
  am_kc (ak_aload_n dX0_takeOver_144 rfl rfl) <|
  am_kc (ak_getR (C := RX0) (T := TX0) (N := 13) rfl inX0w (by decide) rfl rfl rfl wd_221 dX0_takeOver_145 rfl) <|
  am_kc (ak_iconst dX0_takeOver_148 (by decide +kernel) rfl) <|
  am_kc (ak_aload_n dX0_takeOver_149 rfl rfl) <|
  am_kc (ak_getR (C := RX0) (T := TX0) (N := 13) rfl inX0w (by decide) rfl rfl rfl wd_221 dX0_takeOver_150 rfl) <|
  am_kc (ak_iconst dX0_takeOver_153 (by decide +kernel) rfl) <|
  am_kc (ak_bipush dX0_takeOver_154 (by decide +kernel) rfl) <|
  am_kc (ak_copyI (am_w4 wd_842 wd_498 wd_497 wd_69) (by decide) dX0_takeOver_156 rfl) <|
  am_kc (ak_aload_n dX0_takeOver_159 rfl rfl) <|
  am_kc (ak_getR (C := RX0) (T := TX0) (N := 13) rfl inX0w (by decide) rfl rfl rfl wd_224 dX0_takeOver_160 rfl) <|
  am_kc (ak_iconst dX0_takeOver_163 (by decide +kernel) rfl) <|
  am_kc (ak_aload_n dX0_takeOver_164 rfl rfl) <|
  am_kc (ak_getR (C := RX0) (T := TX0) (N := 13) rfl inX0w (by decide) rfl rfl rfl wd_224 dX0_takeOver_165 rfl) <|
  am_kc (ak_iconst dX0_takeOver_168 (by decide +kernel) rfl) <|
  am_kc (ak_bipush dX0_takeOver_169 (by decide +kernel) rfl) <|
  am_kc (ak_copyI (am_w4 wd_842 wd_498 wd_497 wd_69) (by decide) dX0_takeOver_171 rfl) <|
  am_kc (ak_aload_n dX0_takeOver_174 rfl rfl) <|
  am_kc (ak_aload_n dX0_takeOver_175 rfl rfl) <|
  am_kc (ak_getI (C := RX0) (T := TX0) (N := 13) rfl inX0w (by decide) rfl rfl rfl wd_226 dX0_takeOver_176 rfl) <|
  am_kc (ak_putI (C := RX0) (T := TX0) (N := 13) rfl inX0w tyX0_ok nmX0 (by decide) rfl rfl rfl rfl (by decide +kernel) wd_226 dX0_takeOver_179 rfl) <|
  am_kc (ak_retV dX0_takeOver_182) <| am_kn
def TX0_takeOver : am_T := fun live as M R => match as with
  | [.ref n, .ref m] => am_mn live ∧ live.1 n = true ∧ live.1 m = true ∧ g_pair n m ∧ ∀ M', g_cs n m g_sh0 M M' → R none M'
  | _ => False
set_option maxRecDepth 100000 in
set_option maxHeartbeats 4000000 in
theorem metX0_takeOver : am_Met yX0_takeOver cX0_takeOver 3 none (2) (52) TX0_takeOver := by
  refine am_met (own := RX0) (by decide +kernel) rfl kX0_takeOver koX0_takeOver 400 (fun _ _ _ _ _ => none) (fun live as M Ret h => ?_) (fun _ _ _ _ _ _ _ _ hI => by cases hI)
  unfold TX0_takeOver at h
  split at h
  · next n m =>
    refine ⟨Nat.le_of_ble_eq_true rfl, ?_⟩
    change am_wp _ _ _ _ [(0, Value.ref n), (1, Value.ref m)] _ _
    obtain ⟨⟨i1, i2, rfl⟩, hl, hm, hn, h⟩ := h
    unfold g_pair at hn
    rcases hn with ⟨rfl, rfl⟩ | ⟨rfl, rfl⟩ | ⟨rfl, rfl⟩ | ⟨rfl, rfl⟩
    · have e1 : i1 = true := by
        cases i1 with
        | true => rfl
        | false => cases hl
      subst e1
      have hbm : 60 + 40 ≤ 20 ∨ 20 + 40 ≤ 60 := by decide
      have hmn : am_mn _ := ⟨true, i2, rfl⟩
      have hpr : g_pair (60+1-1) (20+1-1) := by unfold g_pair; decide
      repeat' (first | exact rfl | (with_reducible exact hmn) | (with_reducible exact hpr) | apply And.intro | (intro hx; exact absurd hx (by decide)) | (intro hx; exact absurd (by decide) hx) | decide | intro hx | (refine Exists.intro _ (And.intro rfl ?_)) | (refine Exists.intro _ (Exists.intro _ (And.intro rfl (And.intro rfl ?_)))) | (change Exists _; refine ⟨60, 20, 11, 366, rfl, rfl, by decide, by decide, rfl, rfl, rfl, rfl, rfl, rfl, fun M1 c11 => ?_⟩) | (change Exists _; refine ⟨60, 20, 13, 240, rfl, rfl, by decide, by decide, rfl, rfl, rfl, rfl, rfl, rfl, fun M1 c13 => ?_⟩) | (change Exists _; refine ⟨60, 20, 15, 180, rfl, rfl, by decide, by decide, rfl, rfl, rfl, rfl, rfl, rfl, fun M1 c15 => ?_⟩) | (change Exists _; refine ⟨60, 20, 34, 60, rfl, rfl, by decide, by decide, rfl, rfl, rfl, rfl, rfl, rfl, fun M1 c34 => ?_⟩) | (change Exists _; refine ⟨60, 20, 19, rfl, rfl, by decide, by decide, rfl, rfl, rfl, rfl, rfl, rfl, fun M1 c19 => ?_⟩) | (change Exists _; refine ⟨60, 20, 22, rfl, rfl, by decide, by decide, rfl, rfl, rfl, rfl, rfl, rfl, fun M1 c22 => ?_⟩) | (change Exists _; refine ⟨60, 20, 25, rfl, rfl, by decide, by decide, rfl, rfl, rfl, rfl, rfl, rfl, fun M1 c25 => ?_⟩) | (change Exists _; refine ⟨60, 20, 28, rfl, rfl, by decide, by decide, rfl, rfl, rfl, rfl, rfl, rfl, fun M1 c28 => ?_⟩) | (change Exists _; refine ⟨60, 20, 31, rfl, rfl, by decide, by decide, rfl, rfl, rfl, rfl, rfl, rfl, fun M1 c31 => ?_⟩))
      all_goals try first | (with_reducible change am_tI _ _) | (change Ret _ _) | (change Ret _ _ _) | (change Exists _)
      all_goals try dsimp only at *
      all_goals try exact absurd ‹(1000 : Int64) = 0› (by decide)
      all_goals exact h _ (show g_cs 60 20 _ M _ from (g_cs.tr hbm rfl rfl (g_cs.tr hbm rfl rfl (g_cs.tr hbm rfl rfl (g_cs.tr hbm rfl rfl (g_cs.tr hbm rfl rfl (g_cs.tr hbm rfl rfl (g_cs.tr hbm rfl rfl (g_cs.tr hbm rfl rfl (g_cs.tr hbm rfl rfl (g_cs.tr hbm rfl rfl (g_cs.tr hbm rfl rfl (g_cs.tr hbm rfl rfl (g_cs.tr hbm rfl rfl (g_cs.tr hbm rfl rfl (g_cs.tr hbm rfl rfl (g_cs.tr hbm rfl rfl (show g_cs 60 20 g_sh2 M _ by with_reducible assumption) (g_cs_c 9 4)) (g_cs_c 10 40)) c11) c13) c15) (g_cs_c 17 1200)) c19) c22) c25) c28) c31) c34) (g_cs_c 36 160)) (g_cs_c 37 16)) (g_cs_c 38 9)) (g_cs_w 0 12)))
    · have e1 : i2 = true := by
        cases i2 with
        | true => rfl
        | false => cases hl
      subst e1
      have hbm : 100 + 40 ≤ 20 ∨ 20 + 40 ≤ 100 := by decide
      have hmn : am_mn _ := ⟨i1, true, rfl⟩
      have hpr : g_pair (100+1-1) (20+1-1) := by unfold g_pair; decide
      repeat' (first | exact rfl | (with_reducible exact hmn) | (with_reducible exact hpr) | apply And.intro | (intro hx; exact absurd hx (by decide)) | (intro hx; exact absurd (by decide) hx) | decide | intro hx | (refine Exists.intro _ (And.intro rfl ?_)) | (refine Exists.intro _ (Exists.intro _ (And.intro rfl (And.intro rfl ?_)))) | (change Exists _; refine ⟨100, 20, 11, 366, rfl, rfl, by decide, by decide, rfl, rfl, rfl, rfl, rfl, rfl, fun M1 c11 => ?_⟩) | (change Exists _; refine ⟨100, 20, 13, 240, rfl, rfl, by decide, by decide, rfl, rfl, rfl, rfl, rfl, rfl, fun M1 c13 => ?_⟩) | (change Exists _; refine ⟨100, 20, 15, 180, rfl, rfl, by decide, by decide, rfl, rfl, rfl, rfl, rfl, rfl, fun M1 c15 => ?_⟩) | (change Exists _; refine ⟨100, 20, 34, 60, rfl, rfl, by decide, by decide, rfl, rfl, rfl, rfl, rfl, rfl, fun M1 c34 => ?_⟩) | (change Exists _; refine ⟨100, 20, 19, rfl, rfl, by decide, by decide, rfl, rfl, rfl, rfl, rfl, rfl, fun M1 c19 => ?_⟩) | (change Exists _; refine ⟨100, 20, 22, rfl, rfl, by decide, by decide, rfl, rfl, rfl, rfl, rfl, rfl, fun M1 c22 => ?_⟩) | (change Exists _; refine ⟨100, 20, 25, rfl, rfl, by decide, by decide, rfl, rfl, rfl, rfl, rfl, rfl, fun M1 c25 => ?_⟩) | (change Exists _; refine ⟨100, 20, 28, rfl, rfl, by decide, by decide, rfl, rfl, rfl, rfl, rfl, rfl, fun M1 c28 => ?_⟩) | (change Exists _; refine ⟨100, 20, 31, rfl, rfl, by decide, by decide, rfl, rfl, rfl, rfl, rfl, rfl, fun M1 c31 => ?_⟩))
      all_goals try first | (with_reducible change am_tI _ _) | (change Ret _ _) | (change Ret _ _ _) | (change Exists _)
      all_goals try dsimp only at *
      all_goals try exact absurd ‹(1000 : Int64) = 0› (by decide)
      all_goals exact h _ (show g_cs 100 20 _ M _ from (g_cs.tr hbm rfl rfl (g_cs.tr hbm rfl rfl (g_cs.tr hbm rfl rfl (g_cs.tr hbm rfl rfl (g_cs.tr hbm rfl rfl (g_cs.tr hbm rfl rfl (g_cs.tr hbm rfl rfl (g_cs.tr hbm rfl rfl (g_cs.tr hbm rfl rfl (g_cs.tr hbm rfl rfl (g_cs.tr hbm rfl rfl (g_cs.tr hbm rfl rfl (g_cs.tr hbm rfl rfl (g_cs.tr hbm rfl rfl (g_cs.tr hbm rfl rfl (g_cs.tr hbm rfl rfl (show g_cs 100 20 g_sh2 M _ by with_reducible assumption) (g_cs_c 9 4)) (g_cs_c 10 40)) c11) c13) c15) (g_cs_c 17 1200)) c19) c22) c25) c28) c31) c34) (g_cs_c 36 160)) (g_cs_c 37 16)) (g_cs_c 38 9)) (g_cs_w 0 12)))
    · have e1 : i1 = true := by
        cases i1 with
        | true => rfl
        | false => cases hm
      subst e1
      have hbm : 20 + 40 ≤ 60 ∨ 60 + 40 ≤ 20 := by decide
      have hmn : am_mn _ := ⟨true, i2, rfl⟩
      have hpr : g_pair (20+1-1) (60+1-1) := by unfold g_pair; decide
      repeat' (first | exact rfl | (with_reducible exact hmn) | (with_reducible exact hpr) | apply And.intro | (intro hx; exact absurd hx (by decide)) | (intro hx; exact absurd (by decide) hx) | decide | intro hx | (refine Exists.intro _ (And.intro rfl ?_)) | (refine Exists.intro _ (Exists.intro _ (And.intro rfl (And.intro rfl ?_)))) | (change Exists _; refine ⟨20, 60, 11, 366, rfl, rfl, by decide, by decide, rfl, rfl, rfl, rfl, rfl, rfl, fun M1 c11 => ?_⟩) | (change Exists _; refine ⟨20, 60, 13, 240, rfl, rfl, by decide, by decide, rfl, rfl, rfl, rfl, rfl, rfl, fun M1 c13 => ?_⟩) | (change Exists _; refine ⟨20, 60, 15, 180, rfl, rfl, by decide, by decide, rfl, rfl, rfl, rfl, rfl, rfl, fun M1 c15 => ?_⟩) | (change Exists _; refine ⟨20, 60, 34, 60, rfl, rfl, by decide, by decide, rfl, rfl, rfl, rfl, rfl, rfl, fun M1 c34 => ?_⟩) | (change Exists _; refine ⟨20, 60, 19, rfl, rfl, by decide, by decide, rfl, rfl, rfl, rfl, rfl, rfl, fun M1 c19 => ?_⟩) | (change Exists _; refine ⟨20, 60, 22, rfl, rfl, by decide, by decide, rfl, rfl, rfl, rfl, rfl, rfl, fun M1 c22 => ?_⟩) | (change Exists _; refine ⟨20, 60, 25, rfl, rfl, by decide, by decide, rfl, rfl, rfl, rfl, rfl, rfl, fun M1 c25 => ?_⟩) | (change Exists _; refine ⟨20, 60, 28, rfl, rfl, by decide, by decide, rfl, rfl, rfl, rfl, rfl, rfl, fun M1 c28 => ?_⟩) | (change Exists _; refine ⟨20, 60, 31, rfl, rfl, by decide, by decide, rfl, rfl, rfl, rfl, rfl, rfl, fun M1 c31 => ?_⟩))
      all_goals try first | (with_reducible change am_tI _ _) | (change Ret _ _) | (change Ret _ _ _) | (change Exists _)
      all_goals try dsimp only at *
      all_goals try exact absurd ‹(1000 : Int64) = 0› (by decide)
      all_goals exact h _ (show g_cs 20 60 _ M _ from (g_cs.tr hbm rfl rfl (g_cs.tr hbm rfl rfl (g_cs.tr hbm rfl rfl (g_cs.tr hbm rfl rfl (g_cs.tr hbm rfl rfl (g_cs.tr hbm rfl rfl (g_cs.tr hbm rfl rfl (g_cs.tr hbm rfl rfl (g_cs.tr hbm rfl rfl (g_cs.tr hbm rfl rfl (g_cs.tr hbm rfl rfl (g_cs.tr hbm rfl rfl (g_cs.tr hbm rfl rfl (g_cs.tr hbm rfl rfl (g_cs.tr hbm rfl rfl (g_cs.tr hbm rfl rfl (show g_cs 20 60 g_sh2 M _ by with_reducible assumption) (g_cs_c 9 4)) (g_cs_c 10 40)) c11) c13) c15) (g_cs_c 17 1200)) c19) c22) c25) c28) c31) c34) (g_cs_c 36 160)) (g_cs_c 37 16)) (g_cs_c 38 9)) (g_cs_w 0 12)))
    · have e1 : i2 = true := by
        cases i2 with
        | true => rfl
        | false => cases hm
      subst e1
      have hbm : 20 + 40 ≤ 100 ∨ 100 + 40 ≤ 20 := by decide
      have hmn : am_mn _ := ⟨i1, true, rfl⟩
      have hpr : g_pair (20+1-1) (100+1-1) := by unfold g_pair; decide
      repeat' (first | exact rfl | (with_reducible exact hmn) | (with_reducible exact hpr) | apply And.intro | (intro hx; exact absurd hx (by decide)) | (intro hx; exact absurd (by decide) hx) | decide | intro hx | (refine Exists.intro _ (And.intro rfl ?_)) | (refine Exists.intro _ (Exists.intro _ (And.intro rfl (And.intro rfl ?_)))) | (change Exists _; refine ⟨20, 100, 11, 366, rfl, rfl, by decide, by decide, rfl, rfl, rfl, rfl, rfl, rfl, fun M1 c11 => ?_⟩) | (change Exists _; refine ⟨20, 100, 13, 240, rfl, rfl, by decide, by decide, rfl, rfl, rfl, rfl, rfl, rfl, fun M1 c13 => ?_⟩) | (change Exists _; refine ⟨20, 100, 15, 180, rfl, rfl, by decide, by decide, rfl, rfl, rfl, rfl, rfl, rfl, fun M1 c15 => ?_⟩) | (change Exists _; refine ⟨20, 100, 34, 60, rfl, rfl, by decide, by decide, rfl, rfl, rfl, rfl, rfl, rfl, fun M1 c34 => ?_⟩) | (change Exists _; refine ⟨20, 100, 19, rfl, rfl, by decide, by decide, rfl, rfl, rfl, rfl, rfl, rfl, fun M1 c19 => ?_⟩) | (change Exists _; refine ⟨20, 100, 22, rfl, rfl, by decide, by decide, rfl, rfl, rfl, rfl, rfl, rfl, fun M1 c22 => ?_⟩) | (change Exists _; refine ⟨20, 100, 25, rfl, rfl, by decide, by decide, rfl, rfl, rfl, rfl, rfl, rfl, fun M1 c25 => ?_⟩) | (change Exists _; refine ⟨20, 100, 28, rfl, rfl, by decide, by decide, rfl, rfl, rfl, rfl, rfl, rfl, fun M1 c28 => ?_⟩) | (change Exists _; refine ⟨20, 100, 31, rfl, rfl, by decide, by decide, rfl, rfl, rfl, rfl, rfl, rfl, fun M1 c31 => ?_⟩))
      all_goals try first | (with_reducible change am_tI _ _) | (change Ret _ _) | (change Ret _ _ _) | (change Exists _)
      all_goals try dsimp only at *
      all_goals try exact absurd ‹(1000 : Int64) = 0› (by decide)
      all_goals exact h _ (show g_cs 20 100 _ M _ from (g_cs.tr hbm rfl rfl (g_cs.tr hbm rfl rfl (g_cs.tr hbm rfl rfl (g_cs.tr hbm rfl rfl (g_cs.tr hbm rfl rfl (g_cs.tr hbm rfl rfl (g_cs.tr hbm rfl rfl (g_cs.tr hbm rfl rfl (g_cs.tr hbm rfl rfl (g_cs.tr hbm rfl rfl (g_cs.tr hbm rfl rfl (g_cs.tr hbm rfl rfl (g_cs.tr hbm rfl rfl (g_cs.tr hbm rfl rfl (g_cs.tr hbm rfl rfl (g_cs.tr hbm rfl rfl (show g_cs 20 100 g_sh2 M _ by with_reducible assumption) (g_cs_c 9 4)) (g_cs_c 10 40)) c11) c13) c15) (g_cs_c 17 1200)) c19) c22) c25) c28) c31) c34) (g_cs_c 36 160)) (g_cs_c 37 16)) (g_cs_c 38 9)) (g_cs_w 0 12)))
  · exact h.elim
end
