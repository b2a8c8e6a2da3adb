section
-- ===== PART A: goes FIRST, ahead of the names: the tables' words, and 'selects' of the private methods out of them =====
/-- a private method of a class that the tables say can be made, by its rows of tables_1 -/
def lw_okq (q : MethodName × Nat) : Prop := (q.1.cls ≠ "java/lang/invoke/MethodHandle" ∧ q.1.cls ≠ "java/lang/invoke/VarHandle") ∧ Cond.instantiable q.1.cls q.2 ∈ tables_1 ∧ Cond.privateMethod q.1 ∈ tables_1 ∧ Cond.instanceMethod q.1 ∈ tables_1
theorem lw_p0 : lw_okq (⟨"BusSilences$Bus", "loseChargeAbove", "(I)V"⟩, 8) := ⟨⟨by decide +kernel, by decide +kernel⟩, List.mem_of_getElem? (i := 22) (by decide +kernel), List.mem_of_getElem? (i := 310) (by decide +kernel), List.mem_of_getElem? (i := 311) (by decide +kernel)⟩
theorem lw_p1 : lw_okq (⟨"BusSilences$Bus", "giveUp", "(LBusSilences$Station;)V"⟩, 8) := ⟨⟨by decide +kernel, by decide +kernel⟩, List.mem_of_getElem? (i := 22) (by decide +kernel), List.mem_of_getElem? (i := 399) (by decide +kernel), List.mem_of_getElem? (i := 400) (by decide +kernel)⟩
theorem lw_p2 : lw_okq (⟨"BusSilences$Bus", "beginWords", "(I)V"⟩, 8) := ⟨⟨by decide +kernel, by decide +kernel⟩, List.mem_of_getElem? (i := 22) (by decide +kernel), List.mem_of_getElem? (i := 432) (by decide +kernel), List.mem_of_getElem? (i := 433) (by decide +kernel)⟩
theorem lw_p3 : lw_okq (⟨"BusSilences$Bus", "pulledWires", "()I"⟩, 8) := ⟨⟨by decide +kernel, by decide +kernel⟩, List.mem_of_getElem? (i := 22) (by decide +kernel), List.mem_of_getElem? (i := 449) (by decide +kernel), List.mem_of_getElem? (i := 450) (by decide +kernel)⟩
theorem lw_p4 : lw_okq (⟨"BusSilences$Bus", "goOnSpeaking", "(II)I"⟩, 8) := ⟨⟨by decide +kernel, by decide +kernel⟩, List.mem_of_getElem? (i := 22) (by decide +kernel), List.mem_of_getElem? (i := 457) (by decide +kernel), List.mem_of_getElem? (i := 458) (by decide +kernel)⟩
theorem lw_p5 : lw_okq (⟨"BusSilences$Bus", "beHeard", "(LBusSilences$Station;)V"⟩, 8) := ⟨⟨by decide +kernel, by decide +kernel⟩, List.mem_of_getElem? (i := 22) (by decide +kernel), List.mem_of_getElem? (i := 461) (by decide +kernel), List.mem_of_getElem? (i := 462) (by decide +kernel)⟩
theorem lw_p6 : lw_okq (⟨"BusSilences$Bus", "changeCharges", "(I)V"⟩, 8) := ⟨⟨by decide +kernel, by decide +kernel⟩, List.mem_of_getElem? (i := 22) (by decide +kernel), List.mem_of_getElem? (i := 471) (by decide +kernel), List.mem_of_getElem? (i := 472) (by decide +kernel)⟩
theorem lw_p7 : lw_okq (⟨"BusSilences$Bus", "restWires", "(I)V"⟩, 8) := ⟨⟨by decide +kernel, by decide +kernel⟩, List.mem_of_getElem? (i := 22) (by decide +kernel), List.mem_of_getElem? (i := 484) (by decide +kernel), List.mem_of_getElem? (i := 485) (by decide +kernel)⟩
theorem lw_p8 : lw_okq (⟨"BusSilences", "heardWithRest", "(II)I"⟩, 6) := ⟨⟨by decide +kernel, by decide +kernel⟩, List.mem_of_getElem? (i := 14) (by decide +kernel), List.mem_of_getElem? (i := 578) (by decide +kernel), List.mem_of_getElem? (i := 579) (by decide +kernel)⟩
theorem lw_p9 : lw_okq (⟨"BusSilences$Reader", "readSign", "(C)Z"⟩, 7) := ⟨⟨by decide +kernel, by decide +kernel⟩, List.mem_of_getElem? (i := 214) (by decide +kernel), List.mem_of_getElem? (i := 628) (by decide +kernel), List.mem_of_getElem? (i := 629) (by decide +kernel)⟩
theorem lw_p10 : lw_okq (⟨"BusSilences$Reader", "readWires", "()Z"⟩, 7) := ⟨⟨by decide +kernel, by decide +kernel⟩, List.mem_of_getElem? (i := 214) (by decide +kernel), List.mem_of_getElem? (i := 632) (by decide +kernel), List.mem_of_getElem? (i := 633) (by decide +kernel)⟩
theorem lw_p11 : lw_okq (⟨"BusSilences$Reader", "isNewWire", "(I)Z"⟩, 7) := ⟨⟨by decide +kernel, by decide +kernel⟩, List.mem_of_getElem? (i := 214) (by decide +kernel), List.mem_of_getElem? (i := 636) (by decide +kernel), List.mem_of_getElem? (i := 637) (by decide +kernel)⟩
theorem lw_p12 : lw_okq (⟨"BusSilences$Reader", "readWire", "()Z"⟩, 7) := ⟨⟨by decide +kernel, by decide +kernel⟩, List.mem_of_getElem? (i := 214) (by decide +kernel), List.mem_of_getElem? (i := 641) (by decide +kernel), List.mem_of_getElem? (i := 642) (by decide +kernel)⟩
theorem lw_p13 : lw_okq (⟨"BusSilences$Reader", "readStation", "()Z"⟩, 7) := ⟨⟨by decide +kernel, by decide +kernel⟩, List.mem_of_getElem? (i := 214) (by decide +kernel), List.mem_of_getElem? (i := 645) (by decide +kernel), List.mem_of_getElem? (i := 646) (by decide +kernel)⟩
theorem lw_p14 : lw_okq (⟨"BusSilences$Reader", "digitAt", "()I"⟩, 7) := ⟨⟨by decide +kernel, by decide +kernel⟩, List.mem_of_getElem? (i := 214) (by decide +kernel), List.mem_of_getElem? (i := 649) (by decide +kernel), List.mem_of_getElem? (i := 650) (by decide +kernel)⟩
theorem lw_p15 : lw_okq (⟨"BusSilences$Reader", "readNumber", "()Z"⟩, 7) := ⟨⟨by decide +kernel, by decide +kernel⟩, List.mem_of_getElem? (i := 214) (by decide +kernel), List.mem_of_getElem? (i := 653) (by decide +kernel), List.mem_of_getElem? (i := 654) (by decide +kernel)⟩
def lw_privs_1 : List (MethodName × Nat) := [(⟨"BusSilences$Bus", "loseChargeAbove", "(I)V"⟩, 8), (⟨"BusSilences$Bus", "giveUp", "(LBusSilences$Station;)V"⟩, 8), (⟨"BusSilences$Bus", "beginWords", "(I)V"⟩, 8), (⟨"BusSilences$Bus", "pulledWires", "()I"⟩, 8), (⟨"BusSilences$Bus", "goOnSpeaking", "(II)I"⟩, 8), (⟨"BusSilences$Bus", "beHeard", "(LBusSilences$Station;)V"⟩, 8), (⟨"BusSilences$Bus", "changeCharges", "(I)V"⟩, 8), (⟨"BusSilences$Bus", "restWires", "(I)V"⟩, 8), (⟨"BusSilences", "heardWithRest", "(II)I"⟩, 6), (⟨"BusSilences$Reader", "readSign", "(C)Z"⟩, 7), (⟨"BusSilences$Reader", "readWires", "()Z"⟩, 7), (⟨"BusSilences$Reader", "isNewWire", "(I)Z"⟩, 7), (⟨"BusSilences$Reader", "readWire", "()Z"⟩, 7), (⟨"BusSilences$Reader", "readStation", "()Z"⟩, 7), (⟨"BusSilences$Reader", "digitAt", "()I"⟩, 7), (⟨"BusSilences$Reader", "readNumber", "()Z"⟩, 7)]
theorem lw_r1 : ∀ q ∈ lw_privs_1, lw_okq q := List.forall_mem_cons.mpr ⟨lw_p0, List.forall_mem_cons.mpr ⟨lw_p1, List.forall_mem_cons.mpr ⟨lw_p2, List.forall_mem_cons.mpr ⟨lw_p3, List.forall_mem_cons.mpr ⟨lw_p4, List.forall_mem_cons.mpr ⟨lw_p5, List.forall_mem_cons.mpr ⟨lw_p6, List.forall_mem_cons.mpr ⟨lw_p7, List.forall_mem_cons.mpr ⟨lw_p8, List.forall_mem_cons.mpr ⟨lw_p9, List.forall_mem_cons.mpr ⟨lw_p10, List.forall_mem_cons.mpr ⟨lw_p11, List.forall_mem_cons.mpr ⟨lw_p12, List.forall_mem_cons.mpr ⟨lw_p13, List.forall_mem_cons.mpr ⟨lw_p14, List.forall_mem_cons.mpr ⟨lw_p15, fun _ h => absurd h List.not_mem_nil⟩⟩⟩⟩⟩⟩⟩⟩⟩⟩⟩⟩⟩⟩⟩⟩
theorem lw_p16 : lw_okq (⟨"BusSilences$Reader", "canGrowBy", "(I)Z"⟩, 7) := ⟨⟨by decide +kernel, by decide +kernel⟩, List.mem_of_getElem? (i := 214) (by decide +kernel), List.mem_of_getElem? (i := 657) (by decide +kernel), List.mem_of_getElem? (i := 658) (by decide +kernel)⟩
theorem lw_p17 : lw_okq (⟨"BusSilences", "carryOrder", "()I"⟩, 6) := ⟨⟨by decide +kernel, by decide +kernel⟩, List.mem_of_getElem? (i := 14) (by decide +kernel), List.mem_of_getElem? (i := 666) (by decide +kernel), List.mem_of_getElem? (i := 667) (by decide +kernel)⟩
theorem lw_p18 : lw_okq (⟨"BusSilencesModel", "record", "()V"⟩, 13) := ⟨⟨by decide +kernel, by decide +kernel⟩, List.mem_of_getElem? (i := 689) (by decide +kernel), List.mem_of_getElem? (i := 751) (by decide +kernel), List.mem_of_getElem? (i := 752) (by decide +kernel)⟩
theorem lw_p19 : lw_okq (⟨"BusSilencesModel", "at", "(II)I"⟩, 13) := ⟨⟨by decide +kernel, by decide +kernel⟩, List.mem_of_getElem? (i := 689) (by decide +kernel), List.mem_of_getElem? (i := 762) (by decide +kernel), List.mem_of_getElem? (i := 763) (by decide +kernel)⟩
theorem lw_p20 : lw_okq (⟨"BusSilencesModel", "lay", "(III)V"⟩, 13) := ⟨⟨by decide +kernel, by decide +kernel⟩, List.mem_of_getElem? (i := 689) (by decide +kernel), List.mem_of_getElem? (i := 766) (by decide +kernel), List.mem_of_getElem? (i := 767) (by decide +kernel)⟩
theorem lw_p21 : lw_okq (⟨"BusSilencesModel", "whyNotStation", "(I)I"⟩, 13) := ⟨⟨by decide +kernel, by decide +kernel⟩, List.mem_of_getElem? (i := 689) (by decide +kernel), List.mem_of_getElem? (i := 774) (by decide +kernel), List.mem_of_getElem? (i := 775) (by decide +kernel)⟩
theorem lw_p22 : lw_okq (⟨"BusSilencesModel", "comes", "(I)I"⟩, 13) := ⟨⟨by decide +kernel, by decide +kernel⟩, List.mem_of_getElem? (i := 689) (by decide +kernel), List.mem_of_getElem? (i := 778) (by decide +kernel), List.mem_of_getElem? (i := 779) (by decide +kernel)⟩
theorem lw_p23 : lw_okq (⟨"BusSilencesModel", "whyNotWord", "(III)I"⟩, 13) := ⟨⟨by decide +kernel, by decide +kernel⟩, List.mem_of_getElem? (i := 689) (by decide +kernel), List.mem_of_getElem? (i := 786) (by decide +kernel), List.mem_of_getElem? (i := 787) (by decide +kernel)⟩
theorem lw_p24 : lw_okq (⟨"BusSilencesModel", "isStation", "(I)Z"⟩, 13) := ⟨⟨by decide +kernel, by decide +kernel⟩, List.mem_of_getElem? (i := 689) (by decide +kernel), List.mem_of_getElem? (i := 790) (by decide +kernel), List.mem_of_getElem? (i := 791) (by decide +kernel)⟩
theorem lw_p25 : lw_okq (⟨"BusSilencesModel", "isAt", "(II)Z"⟩, 13) := ⟨⟨by decide +kernel, by decide +kernel⟩, List.mem_of_getElem? (i := 689) (by decide +kernel), List.mem_of_getElem? (i := 797) (by decide +kernel), List.mem_of_getElem? (i := 798) (by decide +kernel)⟩
theorem lw_p26 : lw_okq (⟨"BusSilencesModel", "gets", "(III)I"⟩, 13) := ⟨⟨by decide +kernel, by decide +kernel⟩, List.mem_of_getElem? (i := 689) (by decide +kernel), List.mem_of_getElem? (i := 801) (by decide +kernel), List.mem_of_getElem? (i := 802) (by decide +kernel)⟩
theorem lw_p27 : lw_okq (⟨"BusSilencesModel", "add", "(III)V"⟩, 13) := ⟨⟨by decide +kernel, by decide +kernel⟩, List.mem_of_getElem? (i := 689) (by decide +kernel), List.mem_of_getElem? (i := 805) (by decide +kernel), List.mem_of_getElem? (i := 806) (by decide +kernel)⟩
theorem lw_p28 : lw_okq (⟨"BusSilencesModel", "leaves", "(I)V"⟩, 13) := ⟨⟨by decide +kernel, by decide +kernel⟩, List.mem_of_getElem? (i := 689) (by decide +kernel), List.mem_of_getElem? (i := 813) (by decide +kernel), List.mem_of_getElem? (i := 814) (by decide +kernel)⟩
theorem lw_p29 : lw_okq (⟨"BusSilencesModel", "quiet", "(I)V"⟩, 13) := ⟨⟨by decide +kernel, by decide +kernel⟩, List.mem_of_getElem? (i := 689) (by decide +kernel), List.mem_of_getElem? (i := 817) (by decide +kernel), List.mem_of_getElem? (i := 818) (by decide +kernel)⟩
theorem lw_p30 : lw_okq (⟨"BusSilencesModel", "whyNotWire", "(I)I"⟩, 13) := ⟨⟨by decide +kernel, by decide +kernel⟩, List.mem_of_getElem? (i := 689) (by decide +kernel), List.mem_of_getElem? (i := 825) (by decide +kernel), List.mem_of_getElem? (i := 826) (by decide +kernel)⟩
theorem lw_p31 : lw_okq (⟨"BusSilencesModel", "turnFault", "(I)I"⟩, 13) := ⟨⟨by decide +kernel, by decide +kernel⟩, List.mem_of_getElem? (i := 689) (by decide +kernel), List.mem_of_getElem? (i := 829) (by decide +kernel), List.mem_of_getElem? (i := 830) (by decide +kernel)⟩
def lw_privs_2 : List (MethodName × Nat) := [(⟨"BusSilences$Reader", "canGrowBy", "(I)Z"⟩, 7), (⟨"BusSilences", "carryOrder", "()I"⟩, 6), (⟨"BusSilencesModel", "record", "()V"⟩, 13), (⟨"BusSilencesModel", "at", "(II)I"⟩, 13), (⟨"BusSilencesModel", "lay", "(III)V"⟩, 13), (⟨"BusSilencesModel", "whyNotStation", "(I)I"⟩, 13), (⟨"BusSilencesModel", "comes", "(I)I"⟩, 13), (⟨"BusSilencesModel", "whyNotWord", "(III)I"⟩, 13), (⟨"BusSilencesModel", "isStation", "(I)Z"⟩, 13), (⟨"BusSilencesModel", "isAt", "(II)Z"⟩, 13), (⟨"BusSilencesModel", "gets", "(III)I"⟩, 13), (⟨"BusSilencesModel", "add", "(III)V"⟩, 13), (⟨"BusSilencesModel", "leaves", "(I)V"⟩, 13), (⟨"BusSilencesModel", "quiet", "(I)V"⟩, 13), (⟨"BusSilencesModel", "whyNotWire", "(I)I"⟩, 13), (⟨"BusSilencesModel", "turnFault", "(I)I"⟩, 13)]
theorem lw_r2 : ∀ q ∈ lw_privs_2, lw_okq q := List.forall_mem_cons.mpr ⟨lw_p16, List.forall_mem_cons.mpr ⟨lw_p17, List.forall_mem_cons.mpr ⟨lw_p18, List.forall_mem_cons.mpr ⟨lw_p19, List.forall_mem_cons.mpr ⟨lw_p20, List.forall_mem_cons.mpr ⟨lw_p21, List.forall_mem_cons.mpr ⟨lw_p22, List.forall_mem_cons.mpr ⟨lw_p23, List.forall_mem_cons.mpr ⟨lw_p24, List.forall_mem_cons.mpr ⟨lw_p25, List.forall_mem_cons.mpr ⟨lw_p26, List.forall_mem_cons.mpr ⟨lw_p27, List.forall_mem_cons.mpr ⟨lw_p28, List.forall_mem_cons.mpr ⟨lw_p29, List.forall_mem_cons.mpr ⟨lw_p30, List.forall_mem_cons.mpr ⟨lw_p31, fun _ h => absurd h List.not_mem_nil⟩⟩⟩⟩⟩⟩⟩⟩⟩⟩⟩⟩⟩⟩⟩⟩
theorem lw_p32 : lw_okq (⟨"BusSilencesModel", "wire", "(II)I"⟩, 13) := ⟨⟨by decide +kernel, by decide +kernel⟩, List.mem_of_getElem? (i := 689) (by decide +kernel), List.mem_of_getElem? (i := 833) (by decide +kernel), List.mem_of_getElem? (i := 834) (by decide +kernel)⟩
theorem lw_p33 : lw_okq (⟨"BusSilencesModel", "whyNotDoze", "(I)I"⟩, 13) := ⟨⟨by decide +kernel, by decide +kernel⟩, List.mem_of_getElem? (i := 689) (by decide +kernel), List.mem_of_getElem? (i := 841) (by decide +kernel), List.mem_of_getElem? (i := 842) (by decide +kernel)⟩
theorem lw_p34 : lw_okq (⟨"BusSilencesModel", "turnSleep", "(I)I"⟩, 13) := ⟨⟨by decide +kernel, by decide +kernel⟩, List.mem_of_getElem? (i := 689) (by decide +kernel), List.mem_of_getElem? (i := 845) (by decide +kernel), List.mem_of_getElem? (i := 846) (by decide +kernel)⟩
theorem lw_p35 : lw_okq (⟨"BusSilencesModel", "speaks", "(I)Z"⟩, 13) := ⟨⟨by decide +kernel, by decide +kernel⟩, List.mem_of_getElem? (i := 689) (by decide +kernel), List.mem_of_getElem? (i := 849) (by decide +kernel), List.mem_of_getElem? (i := 850) (by decide +kernel)⟩
theorem lw_p36 : lw_okq (⟨"BusSilencesModel", "giveUp", "(I)V"⟩, 13) := ⟨⟨by decide +kernel, by decide +kernel⟩, List.mem_of_getElem? (i := 689) (by decide +kernel), List.mem_of_getElem? (i := 853) (by decide +kernel), List.mem_of_getElem? (i := 854) (by decide +kernel)⟩
theorem lw_p37 : lw_okq (⟨"BusSilencesModel", "firstWire", "(I)I"⟩, 13) := ⟨⟨by decide +kernel, by decide +kernel⟩, List.mem_of_getElem? (i := 689) (by decide +kernel), List.mem_of_getElem? (i := 857) (by decide +kernel), List.mem_of_getElem? (i := 858) (by decide +kernel)⟩
theorem lw_p38 : lw_okq (⟨"BusSilencesModel", "tally", "(II)V"⟩, 13) := ⟨⟨by decide +kernel, by decide +kernel⟩, List.mem_of_getElem? (i := 689) (by decide +kernel), List.mem_of_getElem? (i := 861) (by decide +kernel), List.mem_of_getElem? (i := 862) (by decide +kernel)⟩
theorem lw_p39 : lw_okq (⟨"BusSilencesModel", "whyNotPass", "(I)I"⟩, 13) := ⟨⟨by decide +kernel, by decide +kernel⟩, List.mem_of_getElem? (i := 689) (by decide +kernel), List.mem_of_getElem? (i := 869) (by decide +kernel), List.mem_of_getElem? (i := 870) (by decide +kernel)⟩
theorem lw_p40 : lw_okq (⟨"BusSilencesModel", "beats", "(I)I"⟩, 13) := ⟨⟨by decide +kernel, by decide +kernel⟩, List.mem_of_getElem? (i := 689) (by decide +kernel), List.mem_of_getElem? (i := 874) (by decide +kernel), List.mem_of_getElem? (i := 875) (by decide +kernel)⟩
theorem lw_p41 : lw_okq (⟨"BusSilencesModel", "beat", "()I"⟩, 13) := ⟨⟨by decide +kernel, by decide +kernel⟩, List.mem_of_getElem? (i := 689) (by decide +kernel), List.mem_of_getElem? (i := 878) (by decide +kernel), List.mem_of_getElem? (i := 879) (by decide +kernel)⟩
theorem lw_p42 : lw_okq (⟨"BusSilencesModel", "begin", "()V"⟩, 13) := ⟨⟨by decide +kernel, by decide +kernel⟩, List.mem_of_getElem? (i := 689) (by decide +kernel), List.mem_of_getElem? (i := 882) (by decide +kernel), List.mem_of_getElem? (i := 883) (by decide +kernel)⟩
theorem lw_p43 : lw_okq (⟨"BusSilencesModel", "begins", "(I)Z"⟩, 13) := ⟨⟨by decide +kernel, by decide +kernel⟩, List.mem_of_getElem? (i := 689) (by decide +kernel), List.mem_of_getElem? (i := 886) (by decide +kernel), List.mem_of_getElem? (i := 887) (by decide +kernel)⟩
theorem lw_p44 : lw_okq (⟨"BusSilencesModel", "isAwake", "(I)Z"⟩, 13) := ⟨⟨by decide +kernel, by decide +kernel⟩, List.mem_of_getElem? (i := 689) (by decide +kernel), List.mem_of_getElem? (i := 890) (by decide +kernel), List.mem_of_getElem? (i := 891) (by decide +kernel)⟩
theorem lw_p45 : lw_okq (⟨"BusSilencesModel", "awakeAt", "(I)I"⟩, 13) := ⟨⟨by decide +kernel, by decide +kernel⟩, List.mem_of_getElem? (i := 689) (by decide +kernel), List.mem_of_getElem? (i := 894) (by decide +kernel), List.mem_of_getElem? (i := 895) (by decide +kernel)⟩
theorem lw_p46 : lw_okq (⟨"BusSilencesModel", "pull", "()V"⟩, 13) := ⟨⟨by decide +kernel, by decide +kernel⟩, List.mem_of_getElem? (i := 689) (by decide +kernel), List.mem_of_getElem? (i := 898) (by decide +kernel), List.mem_of_getElem? (i := 899) (by decide +kernel)⟩
theorem lw_p47 : lw_okq (⟨"BusSilencesModel", "bitOf", "(I)I"⟩, 13) := ⟨⟨by decide +kernel, by decide +kernel⟩, List.mem_of_getElem? (i := 689) (by decide +kernel), List.mem_of_getElem? (i := 902) (by decide +kernel), List.mem_of_getElem? (i := 903) (by decide +kernel)⟩
def lw_privs_3 : List (MethodName × Nat) := [(⟨"BusSilencesModel", "wire", "(II)I"⟩, 13), (⟨"BusSilencesModel", "whyNotDoze", "(I)I"⟩, 13), (⟨"BusSilencesModel", "turnSleep", "(I)I"⟩, 13), (⟨"BusSilencesModel", "speaks", "(I)Z"⟩, 13), (⟨"BusSilencesModel", "giveUp", "(I)V"⟩, 13), (⟨"BusSilencesModel", "firstWire", "(I)I"⟩, 13), (⟨"BusSilencesModel", "tally", "(II)V"⟩, 13), (⟨"BusSilencesModel", "whyNotPass", "(I)I"⟩, 13), (⟨"BusSilencesModel", "beats", "(I)I"⟩, 13), (⟨"BusSilencesModel", "beat", "()I"⟩, 13), (⟨"BusSilencesModel", "begin", "()V"⟩, 13), (⟨"BusSilencesModel", "begins", "(I)Z"⟩, 13), (⟨"BusSilencesModel", "isAwake", "(I)Z"⟩, 13), (⟨"BusSilencesModel", "awakeAt", "(I)I"⟩, 13), (⟨"BusSilencesModel", "pull", "()V"⟩, 13), (⟨"BusSilencesModel", "bitOf", "(I)I"⟩, 13)]
theorem lw_r3 : ∀ q ∈ lw_privs_3, lw_okq q := List.forall_mem_cons.mpr ⟨lw_p32, List.forall_mem_cons.mpr ⟨lw_p33, List.forall_mem_cons.mpr ⟨lw_p34, List.forall_mem_cons.mpr ⟨lw_p35, List.forall_mem_cons.mpr ⟨lw_p36, List.forall_mem_cons.mpr ⟨lw_p37, List.forall_mem_cons.mpr ⟨lw_p38, List.forall_mem_cons.mpr ⟨lw_p39, List.forall_mem_cons.mpr ⟨lw_p40, List.forall_mem_cons.mpr ⟨lw_p41, List.forall_mem_cons.mpr ⟨lw_p42, List.forall_mem_cons.mpr ⟨lw_p43, List.forall_mem_cons.mpr ⟨lw_p44, List.forall_mem_cons.mpr ⟨lw_p45, List.forall_mem_cons.mpr ⟨lw_p46, List.forall_mem_cons.mpr ⟨lw_p47, fun _ h => absurd h List.not_mem_nil⟩⟩⟩⟩⟩⟩⟩⟩⟩⟩⟩⟩⟩⟩⟩⟩
theorem lw_p48 : lw_okq (⟨"BusSilencesModel", "goesOn", "(I)Z"⟩, 13) := ⟨⟨by decide +kernel, by decide +kernel⟩, List.mem_of_getElem? (i := 689) (by decide +kernel), List.mem_of_getElem? (i := 906) (by decide +kernel), List.mem_of_getElem? (i := 907) (by decide +kernel)⟩
theorem lw_p49 : lw_okq (⟨"BusSilencesModel", "allAwake", "(I)Z"⟩, 13) := ⟨⟨by decide +kernel, by decide +kernel⟩, List.mem_of_getElem? (i := 689) (by decide +kernel), List.mem_of_getElem? (i := 910) (by decide +kernel), List.mem_of_getElem? (i := 911) (by decide +kernel)⟩
theorem lw_p50 : lw_okq (⟨"BusSilencesModel", "hears", "(II)V"⟩, 13) := ⟨⟨by decide +kernel, by decide +kernel⟩, List.mem_of_getElem? (i := 689) (by decide +kernel), List.mem_of_getElem? (i := 914) (by decide +kernel), List.mem_of_getElem? (i := 915) (by decide +kernel)⟩
theorem lw_p51 : lw_okq (⟨"BusSilencesModel", "charge", "(I)V"⟩, 13) := ⟨⟨by decide +kernel, by decide +kernel⟩, List.mem_of_getElem? (i := 689) (by decide +kernel), List.mem_of_getElem? (i := 918) (by decide +kernel), List.mem_of_getElem? (i := 919) (by decide +kernel)⟩
theorem lw_p52 : lw_okq (⟨"BusSilencesModel", "stationsAt", "(I)I"⟩, 13) := ⟨⟨by decide +kernel, by decide +kernel⟩, List.mem_of_getElem? (i := 689) (by decide +kernel), List.mem_of_getElem? (i := 926) (by decide +kernel), List.mem_of_getElem? (i := 927) (by decide +kernel)⟩
theorem lw_p53 : lw_okq (⟨"BusSilencesModel", "speakersOn", "(I)I"⟩, 13) := ⟨⟨by decide +kernel, by decide +kernel⟩, List.mem_of_getElem? (i := 689) (by decide +kernel), List.mem_of_getElem? (i := 930) (by decide +kernel), List.mem_of_getElem? (i := 931) (by decide +kernel)⟩
theorem lw_p54 : lw_okq (⟨"BusSilencesModel", "waiting", "(I)I"⟩, 13) := ⟨⟨by decide +kernel, by decide +kernel⟩, List.mem_of_getElem? (i := 689) (by decide +kernel), List.mem_of_getElem? (i := 934) (by decide +kernel), List.mem_of_getElem? (i := 935) (by decide +kernel)⟩
theorem lw_p55 : lw_okq (⟨"BusSilencesModel", "speakers", "()I"⟩, 13) := ⟨⟨by decide +kernel, by decide +kernel⟩, List.mem_of_getElem? (i := 689) (by decide +kernel), List.mem_of_getElem? (i := 954) (by decide +kernel), List.mem_of_getElem? (i := 955) (by decide +kernel)⟩
theorem lw_p56 : lw_okq (⟨"BusSilencesModel", "awake", "()I"⟩, 13) := ⟨⟨by decide +kernel, by decide +kernel⟩, List.mem_of_getElem? (i := 689) (by decide +kernel), List.mem_of_getElem? (i := 958) (by decide +kernel), List.mem_of_getElem? (i := 959) (by decide +kernel)⟩
theorem lw_p57 : lw_okq (⟨"BusSilencesModel", "sum", "(I)I"⟩, 13) := ⟨⟨by decide +kernel, by decide +kernel⟩, List.mem_of_getElem? (i := 689) (by decide +kernel), List.mem_of_getElem? (i := 962) (by decide +kernel), List.mem_of_getElem? (i := 963) (by decide +kernel)⟩
theorem lw_p58 : lw_okq (⟨"BusSilencesModel", "faults", "()I"⟩, 13) := ⟨⟨by decide +kernel, by decide +kernel⟩, List.mem_of_getElem? (i := 689) (by decide +kernel), List.mem_of_getElem? (i := 966) (by decide +kernel), List.mem_of_getElem? (i := 967) (by decide +kernel)⟩
theorem lw_p59 : lw_okq (⟨"BusSilencesModel", "putAside", "()V"⟩, 13) := ⟨⟨by decide +kernel, by decide +kernel⟩, List.mem_of_getElem? (i := 689) (by decide +kernel), List.mem_of_getElem? (i := 978) (by decide +kernel), List.mem_of_getElem? (i := 979) (by decide +kernel)⟩
theorem lw_p60 : lw_okq (⟨"BusSilencesModel", "bringBack", "()V"⟩, 13) := ⟨⟨by decide +kernel, by decide +kernel⟩, List.mem_of_getElem? (i := 689) (by decide +kernel), List.mem_of_getElem? (i := 982) (by decide +kernel), List.mem_of_getElem? (i := 983) (by decide +kernel)⟩
theorem lw_p61 : lw_okq (⟨"BusSilencesModel", "readPad", "()I"⟩, 13) := ⟨⟨by decide +kernel, by decide +kernel⟩, List.mem_of_getElem? (i := 689) (by decide +kernel), List.mem_of_getElem? (i := 1006) (by decide +kernel), List.mem_of_getElem? (i := 1007) (by decide +kernel)⟩
theorem lw_p62 : lw_okq (⟨"BusSilencesModel", "readOrder", "()V"⟩, 13) := ⟨⟨by decide +kernel, by decide +kernel⟩, List.mem_of_getElem? (i := 689) (by decide +kernel), List.mem_of_getElem? (i := 1010) (by decide +kernel), List.mem_of_getElem? (i := 1011) (by decide +kernel)⟩
theorem lw_p63 : lw_okq (⟨"BusSilencesModel", "letter", "()I"⟩, 13) := ⟨⟨by decide +kernel, by decide +kernel⟩, List.mem_of_getElem? (i := 689) (by decide +kernel), List.mem_of_getElem? (i := 1014) (by decide +kernel), List.mem_of_getElem? (i := 1015) (by decide +kernel)⟩
def lw_privs_4 : List (MethodName × Nat) := [(⟨"BusSilencesModel", "goesOn", "(I)Z"⟩, 13), (⟨"BusSilencesModel", "allAwake", "(I)Z"⟩, 13), (⟨"BusSilencesModel", "hears", "(II)V"⟩, 13), (⟨"BusSilencesModel", "charge", "(I)V"⟩, 13), (⟨"BusSilencesModel", "stationsAt", "(I)I"⟩, 13), (⟨"BusSilencesModel", "speakersOn", "(I)I"⟩, 13), (⟨"BusSilencesModel", "waiting", "(I)I"⟩, 13), (⟨"BusSilencesModel", "speakers", "()I"⟩, 13), (⟨"BusSilencesModel", "awake", "()I"⟩, 13), (⟨"BusSilencesModel", "sum", "(I)I"⟩, 13), (⟨"BusSilencesModel", "faults", "()I"⟩, 13), (⟨"BusSilencesModel", "putAside", "()V"⟩, 13), (⟨"BusSilencesModel", "bringBack", "()V"⟩, 13), (⟨"BusSilencesModel", "readPad", "()I"⟩, 13), (⟨"BusSilencesModel", "readOrder", "()V"⟩, 13), (⟨"BusSilencesModel", "letter", "()I"⟩, 13)]
theorem lw_r4 : ∀ q ∈ lw_privs_4, lw_okq q := List.forall_mem_cons.mpr ⟨lw_p48, List.forall_mem_cons.mpr ⟨lw_p49, List.forall_mem_cons.mpr ⟨lw_p50, List.forall_mem_cons.mpr ⟨lw_p51, List.forall_mem_cons.mpr ⟨lw_p52, List.forall_mem_cons.mpr ⟨lw_p53, List.forall_mem_cons.mpr ⟨lw_p54, List.forall_mem_cons.mpr ⟨lw_p55, List.forall_mem_cons.mpr ⟨lw_p56, List.forall_mem_cons.mpr ⟨lw_p57, List.forall_mem_cons.mpr ⟨lw_p58, List.forall_mem_cons.mpr ⟨lw_p59, List.forall_mem_cons.mpr ⟨lw_p60, List.forall_mem_cons.mpr ⟨lw_p61, List.forall_mem_cons.mpr ⟨lw_p62, List.forall_mem_cons.mpr ⟨lw_p63, fun _ h => absurd h List.not_mem_nil⟩⟩⟩⟩⟩⟩⟩⟩⟩⟩⟩⟩⟩⟩⟩⟩
theorem lw_p64 : lw_okq (⟨"BusSilencesModel", "wants", "(Z)V"⟩, 13) := ⟨⟨by decide +kernel, by decide +kernel⟩, List.mem_of_getElem? (i := 689) (by decide +kernel), List.mem_of_getElem? (i := 1018) (by decide +kernel), List.mem_of_getElem? (i := 1019) (by decide +kernel)⟩
theorem lw_p65 : lw_okq (⟨"BusSilencesModel", "wiresRead", "()I"⟩, 13) := ⟨⟨by decide +kernel, by decide +kernel⟩, List.mem_of_getElem? (i := 689) (by decide +kernel), List.mem_of_getElem? (i := 1022) (by decide +kernel), List.mem_of_getElem? (i := 1023) (by decide +kernel)⟩
theorem lw_p66 : lw_okq (⟨"BusSilencesModel", "wireRead", "()I"⟩, 13) := ⟨⟨by decide +kernel, by decide +kernel⟩, List.mem_of_getElem? (i := 689) (by decide +kernel), List.mem_of_getElem? (i := 1026) (by decide +kernel), List.mem_of_getElem? (i := 1027) (by decide +kernel)⟩
theorem lw_p67 : lw_okq (⟨"BusSilencesModel", "digit", "()I"⟩, 13) := ⟨⟨by decide +kernel, by decide +kernel⟩, List.mem_of_getElem? (i := 689) (by decide +kernel), List.mem_of_getElem? (i := 1030) (by decide +kernel), List.mem_of_getElem? (i := 1031) (by decide +kernel)⟩
theorem lw_p68 : lw_okq (⟨"BusSilencesModel", "number", "()I"⟩, 13) := ⟨⟨by decide +kernel, by decide +kernel⟩, List.mem_of_getElem? (i := 689) (by decide +kernel), List.mem_of_getElem? (i := 1034) (by decide +kernel), List.mem_of_getElem? (i := 1035) (by decide +kernel)⟩
theorem lw_p69 : lw_okq (⟨"BusSilencesModel", "whyNot", "(I)I"⟩, 13) := ⟨⟨by decide +kernel, by decide +kernel⟩, List.mem_of_getElem? (i := 689) (by decide +kernel), List.mem_of_getElem? (i := 1042) (by decide +kernel), List.mem_of_getElem? (i := 1043) (by decide +kernel)⟩
theorem lw_p70 : lw_okq (⟨"BusSilencesModel", "does", "(I)V"⟩, 13) := ⟨⟨by decide +kernel, by decide +kernel⟩, List.mem_of_getElem? (i := 689) (by decide +kernel), List.mem_of_getElem? (i := 1046) (by decide +kernel), List.mem_of_getElem? (i := 1047) (by decide +kernel)⟩
def lw_privs_5 : List (MethodName × Nat) := [(⟨"BusSilencesModel", "wants", "(Z)V"⟩, 13), (⟨"BusSilencesModel", "wiresRead", "()I"⟩, 13), (⟨"BusSilencesModel", "wireRead", "()I"⟩, 13), (⟨"BusSilencesModel", "digit", "()I"⟩, 13), (⟨"BusSilencesModel", "number", "()I"⟩, 13), (⟨"BusSilencesModel", "whyNot", "(I)I"⟩, 13), (⟨"BusSilencesModel", "does", "(I)V"⟩, 13)]
theorem lw_r5 : ∀ q ∈ lw_privs_5, lw_okq q := List.forall_mem_cons.mpr ⟨lw_p64, List.forall_mem_cons.mpr ⟨lw_p65, List.forall_mem_cons.mpr ⟨lw_p66, List.forall_mem_cons.mpr ⟨lw_p67, List.forall_mem_cons.mpr ⟨lw_p68, List.forall_mem_cons.mpr ⟨lw_p69, List.forall_mem_cons.mpr ⟨lw_p70, fun _ h => absurd h List.not_mem_nil⟩⟩⟩⟩⟩⟩⟩
def lw_privs : List (MethodName × Nat) := lw_privs_1 ++ (lw_privs_2 ++ (lw_privs_3 ++ (lw_privs_4 ++ (lw_privs_5))))
def lw_tbl : List Cond := k2_sels lw_privs ++ tables_1
theorem lw_privs_ok : ∀ q ∈ lw_privs, lw_okq q := by
  show ∀ q ∈ lw_privs_1 ++ (lw_privs_2 ++ (lw_privs_3 ++ (lw_privs_4 ++ (lw_privs_5)))), lw_okq q
  exact List.forall_mem_append.mpr ⟨lw_r1, List.forall_mem_append.mpr ⟨lw_r2, List.forall_mem_append.mpr ⟨lw_r3, List.forall_mem_append.mpr ⟨lw_r4, lw_r5⟩⟩⟩⟩
end
section
def RX0 : String := "BusSilences$Bus"
def TX0 : u_T := fun k => match k with
  | 0 => ("BusSilences$Bus", "settings", "[I", true)
  | 1 => ("BusSilences$Bus", "highFor", "[I", true)
  | 2 => ("BusSilences$Bus", "heardOn", "[I", true)
  | 3 => ("BusSilences$Bus", "lostOn", "[I", true)
  | 4 => ("BusSilences$Bus", "stations", "[LBusSilences$Station;", true)
  | 5 => ("BusSilences$Bus", "arrived", "I", false)
  | 6 => ("BusSilences$Bus", "faults", "I", false)
  | _ => ("BusSilences$Bus", "beats", "I", false)
def tyX0 : Nat → FieldType := fun k => match k with
  | 0 => .array .int
  | 1 => .array .int
  | 2 => .array .int
  | 3 => .array .int
  | 4 => .array (.object "BusSilences$Station")
  | 5 => .int
  | 6 => .int
  | _ => .int
abbrev wsX00 : List Cond := u_ws RX0 TX0 8
theorem nmX0 : ∀ a, a < 8 → ∀ b, b < 8 → a ≠ b → (TX0 a).2.1 ≠ (TX0 b).2.1 := by decide +kernel
theorem tyX0_ok : ∀ k, k < 8 → parseFieldDescriptor (TX0 k).2.2.1 = some (tyX0 k) := by decide +kernel
abbrev cX0_init : ByteArray := prog_2_method_1_code
def yX0_init : MethodName := ⟨RX0, "<init>", "()V"⟩
abbrev cX0_copyFrom : ByteArray := prog_2_method_2_code
def yX0_copyFrom : MethodName := ⟨RX0, "copyFrom", "(LBusSilences$Bus;)V"⟩
abbrev cX0_find : ByteArray := prog_2_method_3_code
def yX0_find : MethodName := ⟨RX0, "find", "(I)LBusSilences$Station;"⟩
abbrev cX0_changeSetting : ByteArray := prog_2_method_4_code
def yX0_changeSetting : MethodName := ⟨RX0, "changeSetting", "(II)I"⟩
abbrev cX0_loseChargeAbove : ByteArray := prog_2_method_5_code
def yX0_loseChargeAbove : MethodName := ⟨RX0, "loseChargeAbove", "(I)V"⟩
abbrev cX0_addStation : ByteArray := prog_2_method_6_code
def yX0_addStation : MethodName := ⟨RX0, "addStation", "(I)I"⟩
abbrev cX0_addWord : ByteArray := prog_2_method_7_code
def yX0_addWord : MethodName := ⟨RX0, "addWord", "(III)I"⟩
abbrev cX0_forgetWord : ByteArray := prog_2_method_8_code
def yX0_forgetWord : MethodName := ⟨RX0, "forgetWord", "(I)I"⟩
abbrev cX0_toggleFault : ByteArray := prog_2_method_9_code
def yX0_toggleFault : MethodName := ⟨RX0, "toggleFault", "(I)I"⟩
abbrev cX0_toggleDoze : ByteArray := prog_2_method_10_code
def yX0_toggleDoze : MethodName := ⟨RX0, "toggleDoze", "(I)I"⟩
abbrev cX0_passBeats : ByteArray := prog_2_method_11_code
def yX0_passBeats : MethodName := ⟨RX0, "passBeats", "(I)I"⟩
abbrev cX0_passBeat : ByteArray := prog_2_method_12_code
def yX0_passBeat : MethodName := ⟨RX0, "passBeat", "()I"⟩
abbrev cX0_beginWords : ByteArray := prog_2_method_13_code
def yX0_beginWords : MethodName := ⟨RX0, "beginWords", "(I)V"⟩
abbrev cX0_pulledWires : ByteArray := prog_2_method_14_code
def yX0_pulledWires : MethodName := ⟨RX0, "pulledWires", "()I"⟩
abbrev cX0_goOnSpeaking : ByteArray := prog_2_method_15_code
def yX0_goOnSpeaking : MethodName := ⟨RX0, "goOnSpeaking", "(II)I"⟩
abbrev cX0_beHeard : ByteArray := prog_2_method_16_code
def yX0_beHeard : MethodName := ⟨RX0, "beHeard", "(LBusSilences$Station;)V"⟩
abbrev cX0_giveUp : ByteArray := prog_2_method_17_code
def yX0_giveUp : MethodName := ⟨RX0, "giveUp", "(LBusSilences$Station;)V"⟩
abbrev cX0_changeCharges : ByteArray := prog_2_method_18_code
def yX0_changeCharges : MethodName := ⟨RX0, "changeCharges", "(I)V"⟩
abbrev cX0_restWires : ByteArray := prog_2_method_19_code
def yX0_restWires : MethodName := ⟨RX0, "restWires", "(I)V"⟩
abbrev cX0_isRested : ByteArray := prog_2_method_20_code
def yX0_isRested : MethodName := ⟨RX0, "isRested", "(I)Z"⟩
abbrev cX0_hasFault : ByteArray := prog_2_method_21_code
def yX0_hasFault : MethodName := ⟨RX0, "hasFault", "(I)Z"⟩
abbrev cX0_stationsAt : ByteArray := prog_2_method_22_code
def yX0_stationsAt : MethodName := ⟨RX0, "stationsAt", "(I)I"⟩
abbrev cX0_speakersOn : ByteArray := prog_2_method_23_code
def yX0_speakersOn : MethodName := ⟨RX0, "speakersOn", "(I)I"⟩
abbrev cX0_awakeStations : ByteArray := prog_2_method_24_code
def yX0_awakeStations : MethodName := ⟨RX0, "awakeStations", "()I"⟩
abbrev cX0_hasWords : ByteArray := prog_2_method_25_code
def yX0_hasWords : MethodName := ⟨RX0, "hasWords", "()Z"⟩
abbrev cX0_waitingFor : ByteArray := prog_2_method_26_code
def yX0_waitingFor : MethodName := ⟨RX0, "waitingFor", "(I)I"⟩
abbrev cX0_sumOf : ByteArray := prog_2_method_27_code
def yX0_sumOf : MethodName := ⟨RX0, "sumOf", "(I)I"⟩
def RX1 : String := "BusSilences$History"
def TX1 : u_T := fun k => match k with
  | 0 => ("BusSilences$History", "states", "[LBusSilences$Bus;", true)
  | 1 => ("BusSilences$History", "next", "I", false)
  | _ => ("BusSilences$History", "length", "I", false)
def tyX1 : Nat → FieldType := fun k => match k with
  | 0 => .array (.object "BusSilences$Bus")
  | 1 => .int
  | _ => .int
abbrev wsX10 : List Cond := u_ws RX1 TX1 3
theorem nmX1 : ∀ a, a < 3 → ∀ b, b < 3 → a ≠ b → (TX1 a).2.1 ≠ (TX1 b).2.1 := by decide +kernel
theorem tyX1_ok : ∀ k, k < 3 → parseFieldDescriptor (TX1 k).2.2.1 = some (tyX1 k) := by decide +kernel
abbrev cX1_init : ByteArray := prog_3_method_1_code
def yX1_init : MethodName := ⟨RX1, "<init>", "()V"⟩
abbrev cX1_prepare : ByteArray := prog_3_method_2_code
def yX1_prepare : MethodName := ⟨RX1, "prepare", "(LBusSilences$Bus;)V"⟩
abbrev cX1_keep : ByteArray := prog_3_method_3_code
def yX1_keep : MethodName := ⟨RX1, "keep", "(I)I"⟩
abbrev cX1_takeBack : ByteArray := prog_3_method_4_code
def yX1_takeBack : MethodName := ⟨RX1, "takeBack", "(LBusSilences$Bus;)I"⟩
def RX2 : String := "BusSilences$Latest"
def TX2 : u_T := fun k => match k with
  | 0 => ("BusSilences$Latest", "facts", "[I", true)
  | _ => ("BusSilences$Latest", "length", "I", false)
def tyX2 : Nat → FieldType := fun k => match k with
  | 0 => .array .int
  | _ => .int
abbrev wsX20 : List Cond := u_ws RX2 TX2 2
theorem nmX2 : ∀ a, a < 2 → ∀ b, b < 2 → a ≠ b → (TX2 a).2.1 ≠ (TX2 b).2.1 := by decide +kernel
theorem tyX2_ok : ∀ k, k < 2 → parseFieldDescriptor (TX2 k).2.2.1 = some (tyX2 k) := by decide +kernel
abbrev cX2_init : ByteArray := prog_4_method_1_code
def yX2_init : MethodName := ⟨RX2, "<init>", "()V"⟩
abbrev cX2_copyFrom : ByteArray := prog_4_method_2_code
def yX2_copyFrom : MethodName := ⟨RX2, "copyFrom", "(LBusSilences$Latest;)V"⟩
abbrev cX2_has : ByteArray := prog_4_method_3_code
def yX2_has : MethodName := ⟨RX2, "has", "(I)Z"⟩
abbrev cX2_fact : ByteArray := prog_4_method_4_code
def yX2_fact : MethodName := ⟨RX2, "fact", "(II)I"⟩
abbrev cX2_add : ByteArray := prog_4_method_5_code
def yX2_add : MethodName := ⟨RX2, "add", "(IIII)V"⟩
def RX3 : String := "BusSilences$Pad"
def TX3 : u_T := fun k => match k with
  | 0 => ("BusSilences$Pad", "text", "[C", true)
  | _ => ("BusSilences$Pad", "length", "I", false)
def tyX3 : Nat → FieldType := fun k => match k with
  | 0 => .array .char
  | _ => .int
abbrev wsX30 : List Cond := u_ws RX3 TX3 2
theorem nmX3 : ∀ a, a < 2 → ∀ b, b < 2 → a ≠ b → (TX3 a).2.1 ≠ (TX3 b).2.1 := by decide +kernel
theorem tyX3_ok : ∀ k, k < 2 → parseFieldDescriptor (TX3 k).2.2.1 = some (tyX3 k) := by decide +kernel
abbrev cX3_init : ByteArray := prog_5_method_1_code
def yX3_init : MethodName := ⟨RX3, "<init>", "()V"⟩
abbrev cX3_append : ByteArray := prog_5_method_2_code
def yX3_append : MethodName := ⟨RX3, "append", "(J)I"⟩
abbrev cX3_charactersIn : ByteArray := prog_5_method_3_code
def yX3_charactersIn : MethodName := ⟨RX3, "charactersIn", "(J)I"⟩
abbrev cX3_clear : ByteArray := prog_5_method_4_code
def yX3_clear : MethodName := ⟨RX3, "clear", "()I"⟩
abbrev cX3_codeAt : ByteArray := prog_5_method_5_code
def yX3_codeAt : MethodName := ⟨RX3, "codeAt", "(I)I"⟩
def RX4 : String := "BusSilences$Reader"
def TX4 : u_T := fun k => match k with
  | 0 => ("BusSilences$Reader", "pad", "LBusSilences$Pad;", true)
  | 1 => ("BusSilences$Reader", "at", "I", false)
  | 2 => ("BusSilences$Reader", "kind", "I", false)
  | 3 => ("BusSilences$Reader", "station", "I", false)
  | 4 => ("BusSilences$Reader", "wire", "I", false)
  | 5 => ("BusSilences$Reader", "wires", "I", false)
  | _ => ("BusSilences$Reader", "number", "I", false)
def tyX4 : Nat → FieldType := fun k => match k with
  | 0 => .object "BusSilences$Pad"
  | 1 => .int
  | 2 => .int
  | 3 => .int
  | 4 => .int
  | 5 => .int
  | _ => .int
abbrev wsX40 : List Cond := u_ws RX4 TX4 7
theorem nmX4 : ∀ a, a < 7 → ∀ b, b < 7 → a ≠ b → (TX4 a).2.1 ≠ (TX4 b).2.1 := by decide +kernel
theorem tyX4_ok : ∀ k, k < 7 → parseFieldDescriptor (TX4 k).2.2.1 = some (tyX4 k) := by decide +kernel
abbrev cX4_init : ByteArray := prog_6_method_1_code
def yX4_init : MethodName := ⟨RX4, "<init>", "(LBusSilences$Pad;)V"⟩
abbrev cX4_findFault : ByteArray := prog_6_method_2_code
def yX4_findFault : MethodName := ⟨RX4, "findFault", "()I"⟩
abbrev cX4_readOrder : ByteArray := prog_6_method_3_code
def yX4_readOrder : MethodName := ⟨RX4, "readOrder", "()Z"⟩
abbrev cX4_readSign : ByteArray := prog_6_method_4_code
def yX4_readSign : MethodName := ⟨RX4, "readSign", "(C)Z"⟩
abbrev cX4_readWire : ByteArray := prog_6_method_5_code
def yX4_readWire : MethodName := ⟨RX4, "readWire", "()Z"⟩
abbrev cX4_readWires : ByteArray := prog_6_method_6_code
def yX4_readWires : MethodName := ⟨RX4, "readWires", "()Z"⟩
abbrev cX4_isNewWire : ByteArray := prog_6_method_7_code
def yX4_isNewWire : MethodName := ⟨RX4, "isNewWire", "(I)Z"⟩
abbrev cX4_readStation : ByteArray := prog_6_method_8_code
def yX4_readStation : MethodName := ⟨RX4, "readStation", "()Z"⟩
abbrev cX4_readNumber : ByteArray := prog_6_method_9_code
def yX4_readNumber : MethodName := ⟨RX4, "readNumber", "()Z"⟩
abbrev cX4_canGrowBy : ByteArray := prog_6_method_10_code
def yX4_canGrowBy : MethodName := ⟨RX4, "canGrowBy", "(I)Z"⟩
abbrev cX4_digitAt : ByteArray := prog_6_method_11_code
def yX4_digitAt : MethodName := ⟨RX4, "digitAt", "()I"⟩
def RX5 : String := "BusSilences$Row"
def TX5 : u_T := fun k => match k with
  | 0 => ("BusSilences$Row", "numbers", "[I", true)
  | 1 => ("BusSilences$Row", "wires", "[I", true)
  | 2 => ("BusSilences$Row", "tries", "[I", true)
  | _ => ("BusSilences$Row", "length", "I", false)
def tyX5 : Nat → FieldType := fun k => match k with
  | 0 => .array .int
  | 1 => .array .int
  | 2 => .array .int
  | _ => .int
abbrev wsX50 : List Cond := u_ws RX5 TX5 4
theorem nmX5 : ∀ a, a < 4 → ∀ b, b < 4 → a ≠ b → (TX5 a).2.1 ≠ (TX5 b).2.1 := by decide +kernel
theorem tyX5_ok : ∀ k, k < 4 → parseFieldDescriptor (TX5 k).2.2.1 = some (tyX5 k) := by decide +kernel
abbrev cX5_init : ByteArray := prog_7_method_1_code
def yX5_init : MethodName := ⟨RX5, "<init>", "()V"⟩
abbrev cX5_copyFrom : ByteArray := prog_7_method_2_code
def yX5_copyFrom : MethodName := ⟨RX5, "copyFrom", "(LBusSilences$Row;)V"⟩
abbrev cX5_has : ByteArray := prog_7_method_3_code
def yX5_has : MethodName := ⟨RX5, "has", "(I)Z"⟩
abbrev cX5_numberAt : ByteArray := prog_7_method_4_code
def yX5_numberAt : MethodName := ⟨RX5, "numberAt", "(I)I"⟩
abbrev cX5_wireAt : ByteArray := prog_7_method_5_code
def yX5_wireAt : MethodName := ⟨RX5, "wireAt", "(I)I"⟩
abbrev cX5_triesAt : ByteArray := prog_7_method_6_code
def yX5_triesAt : MethodName := ⟨RX5, "triesAt", "(I)I"⟩
abbrev cX5_countFor : ByteArray := prog_7_method_7_code
def yX5_countFor : MethodName := ⟨RX5, "countFor", "(I)I"⟩
abbrev cX5_add : ByteArray := prog_7_method_8_code
def yX5_add : MethodName := ⟨RX5, "add", "(II)V"⟩
abbrev cX5_tryFirst : ByteArray := prog_7_method_9_code
def yX5_tryFirst : MethodName := ⟨RX5, "tryFirst", "()I"⟩
abbrev cX5_dropFirst : ByteArray := prog_7_method_10_code
def yX5_dropFirst : MethodName := ⟨RX5, "dropFirst", "()V"⟩
def RX6 : String := "BusSilences$Station"
def TX6 : u_T := fun k => match k with
  | 0 => ("BusSilences$Station", "name", "I", true)
  | 1 => ("BusSilences$Station", "row", "LBusSilences$Row;", true)
  | 2 => ("BusSilences$Station", "latest", "LBusSilences$Latest;", true)
  | 3 => ("BusSilences$Station", "wires", "I", false)
  | 4 => ("BusSilences$Station", "charge", "I", false)
  | 5 => ("BusSilences$Station", "asleep", "Z", false)
  | 6 => ("BusSilences$Station", "dozing", "Z", false)
  | 7 => ("BusSilences$Station", "nextBeat", "I", false)
  | 8 => ("BusSilences$Station", "wireSpokenOn", "I", false)
  | 9 => ("BusSilences$Station", "spokenBits", "I", false)
  | 10 => ("BusSilences$Station", "listeners", "I", false)
  | 11 => ("BusSilences$Station", "wordsHeard", "I", false)
  | 12 => ("BusSilences$Station", "wordsLost", "I", false)
  | 13 => ("BusSilences$Station", "hearings", "I", false)
  | _ => ("BusSilences$Station", "timesGivenUp", "I", false)
def tyX6 : Nat → FieldType := fun k => match k with
  | 0 => .int
  | 1 => .object "BusSilences$Row"
  | 2 => .object "BusSilences$Latest"
  | 3 => .int
  | 4 => .int
  | 5 => .boolean
  | 6 => .boolean
  | 7 => .int
  | 8 => .int
  | 9 => .int
  | 10 => .int
  | 11 => .int
  | 12 => .int
  | 13 => .int
  | _ => .int
abbrev wsX60 : List Cond := u_ws RX6 TX6 15
theorem nmX6 : ∀ a, a < 15 → ∀ b, b < 15 → a ≠ b → (TX6 a).2.1 ≠ (TX6 b).2.1 := by decide +kernel
theorem tyX6_ok : ∀ k, k < 15 → parseFieldDescriptor (TX6 k).2.2.1 = some (tyX6 k) := by decide +kernel
abbrev cX6_init : ByteArray := prog_8_method_1_code
def yX6_init : MethodName := ⟨RX6, "<init>", "(I)V"⟩
abbrev cX6_copyFrom : ByteArray := prog_8_method_2_code
def yX6_copyFrom : MethodName := ⟨RX6, "copyFrom", "(LBusSilences$Station;)V"⟩
abbrev cX6_isAt : ByteArray := prog_8_method_3_code
def yX6_isAt : MethodName := ⟨RX6, "isAt", "(I)Z"⟩
abbrev cX6_isAwake : ByteArray := prog_8_method_4_code
def yX6_isAwake : MethodName := ⟨RX6, "isAwake", "()Z"⟩
abbrev cX6_isSpeaking : ByteArray := prog_8_method_5_code
def yX6_isSpeaking : MethodName := ⟨RX6, "isSpeaking", "()Z"⟩
abbrev cX6_letsGo : ByteArray := prog_8_method_6_code
def yX6_letsGo : MethodName := ⟨RX6, "letsGo", "()Z"⟩
abbrev cX6_begin : ByteArray := prog_8_method_7_code
def yX6_begin : MethodName := ⟨RX6, "begin", "(II)V"⟩
abbrev cX6_fallSilent : ByteArray := prog_8_method_8_code
def yX6_fallSilent : MethodName := ⟨RX6, "fallSilent", "()V"⟩
abbrev cX6_fact : ByteArray := prog_8_method_9_code
def yX6_fact : MethodName := ⟨RX6, "fact", "(I)I"⟩
def RX7 : String := "BusSilences"
def TX7 : u_T := fun k => match k with
  | 0 => ("BusSilences", "now", "LBusSilences$Bus;", true)
  | 1 => ("BusSilences", "trial", "LBusSilences$Bus;", true)
  | 2 => ("BusSilences", "history", "LBusSilences$History;", true)
  | 3 => ("BusSilences", "slots", "[LBusSilences$Bus;", true)
  | 4 => ("BusSilences", "pad", "LBusSilences$Pad;", true)
  | _ => ("BusSilences", "reader", "LBusSilences$Reader;", true)
def tyX7 : Nat → FieldType := fun k => match k with
  | 0 => .object "BusSilences$Bus"
  | 1 => .object "BusSilences$Bus"
  | 2 => .object "BusSilences$History"
  | 3 => .array (.object "BusSilences$Bus")
  | 4 => .object "BusSilences$Pad"
  | _ => .object "BusSilences$Reader"
abbrev wsX70 : List Cond := u_ws RX7 TX7 6
theorem nmX7 : ∀ a, a < 6 → ∀ b, b < 6 → a ≠ b → (TX7 a).2.1 ≠ (TX7 b).2.1 := by decide +kernel
theorem tyX7_ok : ∀ k, k < 6 → parseFieldDescriptor (TX7 k).2.2.1 = some (tyX7 k) := by decide +kernel
abbrev cX7_init : ByteArray := prog_1_method_1_code
def yX7_init : MethodName := ⟨RX7, "<init>", "()V"⟩
abbrev cX7_set : ByteArray := prog_1_method_2_code
def yX7_set : MethodName := ⟨RX7, "set", "(II)I"⟩
abbrev cX7_station : ByteArray := prog_1_method_3_code
def yX7_station : MethodName := ⟨RX7, "station", "(I)I"⟩
abbrev cX7_word : ByteArray := prog_1_method_4_code
def yX7_word : MethodName := ⟨RX7, "word", "(III)I"⟩
abbrev cX7_forget : ByteArray := prog_1_method_5_code
def yX7_forget : MethodName := ⟨RX7, "forget", "(I)I"⟩
abbrev cX7_stick : ByteArray := prog_1_method_6_code
def yX7_stick : MethodName := ⟨RX7, "stick", "(I)I"⟩
abbrev cX7_doze : ByteArray := prog_1_method_7_code
def yX7_doze : MethodName := ⟨RX7, "doze", "(I)I"⟩
abbrev cX7_pass : ByteArray := prog_1_method_8_code
def yX7_pass : MethodName := ⟨RX7, "pass", "(I)I"⟩
abbrev cX7_ofWire : ByteArray := prog_1_method_9_code
def yX7_ofWire : MethodName := ⟨RX7, "ofWire", "(II)I"⟩
abbrev cX7_of : ByteArray := prog_1_method_10_code
def yX7_of : MethodName := ⟨RX7, "of", "(II)I"⟩
abbrev cX7_row : ByteArray := prog_1_method_11_code
def yX7_row : MethodName := ⟨RX7, "row", "(III)I"⟩
abbrev cX7_heard : ByteArray := prog_1_method_12_code
def yX7_heard : MethodName := ⟨RX7, "heard", "(III)I"⟩
abbrev cX7_count : ByteArray := prog_1_method_13_code
def yX7_count : MethodName := ⟨RX7, "count", "(I)I"⟩
abbrev cX7_why : ByteArray := prog_1_method_14_code
def yX7_why : MethodName := ⟨RX7, "why", "(I)I"⟩
abbrev cX7_endsIn : ByteArray := prog_1_method_15_code
def yX7_endsIn : MethodName := ⟨RX7, "endsIn", "(II)I"⟩
abbrev cX7_quietIn : ByteArray := prog_1_method_16_code
def yX7_quietIn : MethodName := ⟨RX7, "quietIn", "()I"⟩
abbrev cX7_bestRest : ByteArray := prog_1_method_17_code
def yX7_bestRest : MethodName := ⟨RX7, "bestRest", "(II)I"⟩
abbrev cX7_heardWithRest : ByteArray := prog_1_method_18_code
def yX7_heardWithRest : MethodName := ⟨RX7, "heardWithRest", "(II)I"⟩
abbrev cX7_busiest : ByteArray := prog_1_method_19_code
def yX7_busiest : MethodName := ⟨RX7, "busiest", "()I"⟩
abbrev cX7_sleepsIn : ByteArray := prog_1_method_20_code
def yX7_sleepsIn : MethodName := ⟨RX7, "sleepsIn", "(I)I"⟩
abbrev cX7_put : ByteArray := prog_1_method_21_code
def yX7_put : MethodName := ⟨RX7, "put", "(J)I"⟩
abbrev cX7_wipe : ByteArray := prog_1_method_22_code
def yX7_wipe : MethodName := ⟨RX7, "wipe", "()I"⟩
abbrev cX7_fault : ByteArray := prog_1_method_23_code
def yX7_fault : MethodName := ⟨RX7, "fault", "()I"⟩
abbrev cX7_carryOut : ByteArray := prog_1_method_24_code
def yX7_carryOut : MethodName := ⟨RX7, "carryOut", "()I"⟩
abbrev cX7_carryOrder : ByteArray := prog_1_method_25_code
def yX7_carryOrder : MethodName := ⟨RX7, "carryOrder", "()I"⟩
abbrev cX7_undo : ByteArray := prog_1_method_26_code
def yX7_undo : MethodName := ⟨RX7, "undo", "()I"⟩
abbrev cX7_save : ByteArray := prog_1_method_27_code
def yX7_save : MethodName := ⟨RX7, "save", "(I)I"⟩
abbrev cX7_restore : ByteArray := prog_1_method_28_code
def yX7_restore : MethodName := ⟨RX7, "restore", "(I)I"⟩
abbrev cX7_isSlot : ByteArray := prog_1_method_29_code
def yX7_isSlot : MethodName := ⟨RX7, "isSlot", "(I)Z"⟩
abbrev cX7_isWire : ByteArray := prog_1_method_30_code
def yX7_isWire : MethodName := ⟨RX7, "isWire", "(I)Z"⟩
abbrev cX7_copyNumbers : ByteArray := prog_1_method_31_code
def yX7_copyNumbers : MethodName := ⟨RX7, "copyNumbers", "([I[I)V"⟩
def RX8 : String := "BusSilencesModel"
def TX8 : u_T := fun k => match k with
  | 0 => ("BusSilencesModel", "z", "[I", true)
  | 1 => ("BusSilencesModel", "past", "[I", true)
  | 2 => ("BusSilencesModel", "pastMany", "I", false)
  | 3 => ("BusSilencesModel", "slots", "[I", true)
  | 4 => ("BusSilencesModel", "isSaved", "[Z", true)
  | 5 => ("BusSilencesModel", "spare", "[I", true)
  | 6 => ("BusSilencesModel", "pad", "[C", true)
  | 7 => ("BusSilencesModel", "typed", "I", false)
  | 8 => ("BusSilencesModel", "isLow", "[Z", true)
  | 9 => ("BusSilencesModel", "orders", "[I", true)
  | 10 => ("BusSilencesModel", "orderMany", "I", false)
  | 11 => ("BusSilencesModel", "spot", "I", false)
  | _ => ("BusSilencesModel", "wrong", "I", false)
def tyX8 : Nat → FieldType := fun k => match k with
  | 0 => .array .int
  | 1 => .array .int
  | 2 => .int
  | 3 => .array .int
  | 4 => .array .boolean
  | 5 => .array .int
  | 6 => .array .char
  | 7 => .int
  | 8 => .array .boolean
  | 9 => .array .int
  | 10 => .int
  | 11 => .int
  | _ => .int
abbrev wsX80 : List Cond := u_ws RX8 TX8 13
theorem nmX8 : ∀ a, a < 13 → ∀ b, b < 13 → a ≠ b → (TX8 a).2.1 ≠ (TX8 b).2.1 := by decide +kernel
theorem tyX8_ok : ∀ k, k < 13 → parseFieldDescriptor (TX8 k).2.2.1 = some (tyX8 k) := by decide +kernel
abbrev cX8_init : ByteArray := prog_10_method_1_code
def yX8_init : MethodName := ⟨RX8, "<init>", "()V"⟩
abbrev cX8_in : ByteArray := prog_10_method_2_code
def yX8_in : MethodName := ⟨RX8, "in", "(III)Z"⟩
abbrev cX8_isStation : ByteArray := prog_10_method_3_code
def yX8_isStation : MethodName := ⟨RX8, "isStation", "(I)Z"⟩
abbrev cX8_isWire : ByteArray := prog_10_method_4_code
def yX8_isWire : MethodName := ⟨RX8, "isWire", "(I)Z"⟩
abbrev cX8_at : ByteArray := prog_10_method_5_code
def yX8_at : MethodName := ⟨RX8, "at", "(II)I"⟩
abbrev cX8_lay : ByteArray := prog_10_method_6_code
def yX8_lay : MethodName := ⟨RX8, "lay", "(III)V"⟩
abbrev cX8_add : ByteArray := prog_10_method_7_code
def yX8_add : MethodName := ⟨RX8, "add", "(III)V"⟩
abbrev cX8_wire : ByteArray := prog_10_method_8_code
def yX8_wire : MethodName := ⟨RX8, "wire", "(II)I"⟩
abbrev cX8_tally : ByteArray := prog_10_method_9_code
def yX8_tally : MethodName := ⟨RX8, "tally", "(II)V"⟩
abbrev cX8_isAwake : ByteArray := prog_10_method_10_code
def yX8_isAwake : MethodName := ⟨RX8, "isAwake", "(I)Z"⟩
abbrev cX8_speaks : ByteArray := prog_10_method_11_code
def yX8_speaks : MethodName := ⟨RX8, "speaks", "(I)Z"⟩
abbrev cX8_firstWire : ByteArray := prog_10_method_12_code
def yX8_firstWire : MethodName := ⟨RX8, "firstWire", "(I)I"⟩
abbrev cX8_record : ByteArray := prog_10_method_13_code
def yX8_record : MethodName := ⟨RX8, "record", "()V"⟩
abbrev cX8_undo : ByteArray := prog_10_method_14_code
def yX8_undo : MethodName := ⟨RX8, "undo", "()I"⟩
abbrev cX8_save : ByteArray := prog_10_method_15_code
def yX8_save : MethodName := ⟨RX8, "save", "(I)I"⟩
abbrev cX8_restore : ByteArray := prog_10_method_16_code
def yX8_restore : MethodName := ⟨RX8, "restore", "(I)I"⟩
abbrev cX8_putAside : ByteArray := prog_10_method_17_code
def yX8_putAside : MethodName := ⟨RX8, "putAside", "()V"⟩
abbrev cX8_bringBack : ByteArray := prog_10_method_18_code
def yX8_bringBack : MethodName := ⟨RX8, "bringBack", "()V"⟩
abbrev cX8_isValue : ByteArray := prog_10_method_19_code
def yX8_isValue : MethodName := ⟨RX8, "isValue", "(II)Z"⟩
abbrev cX8_set : ByteArray := prog_10_method_20_code
def yX8_set : MethodName := ⟨RX8, "set", "(II)I"⟩
abbrev cX8_whyNotStation : ByteArray := prog_10_method_21_code
def yX8_whyNotStation : MethodName := ⟨RX8, "whyNotStation", "(I)I"⟩
abbrev cX8_comes : ByteArray := prog_10_method_22_code
def yX8_comes : MethodName := ⟨RX8, "comes", "(I)I"⟩
abbrev cX8_station : ByteArray := prog_10_method_23_code
def yX8_station : MethodName := ⟨RX8, "station", "(I)I"⟩
abbrev cX8_isAt : ByteArray := prog_10_method_24_code
def yX8_isAt : MethodName := ⟨RX8, "isAt", "(II)Z"⟩
abbrev cX8_whyNotWord : ByteArray := prog_10_method_25_code
def yX8_whyNotWord : MethodName := ⟨RX8, "whyNotWord", "(III)I"⟩
abbrev cX8_gets : ByteArray := prog_10_method_26_code
def yX8_gets : MethodName := ⟨RX8, "gets", "(III)I"⟩
abbrev cX8_word : ByteArray := prog_10_method_27_code
def yX8_word : MethodName := ⟨RX8, "word", "(III)I"⟩
abbrev cX8_quiet : ByteArray := prog_10_method_28_code
def yX8_quiet : MethodName := ⟨RX8, "quiet", "(I)V"⟩
abbrev cX8_leaves : ByteArray := prog_10_method_29_code
def yX8_leaves : MethodName := ⟨RX8, "leaves", "(I)V"⟩
abbrev cX8_giveUp : ByteArray := prog_10_method_30_code
def yX8_giveUp : MethodName := ⟨RX8, "giveUp", "(I)V"⟩
abbrev cX8_forget : ByteArray := prog_10_method_31_code
def yX8_forget : MethodName := ⟨RX8, "forget", "(I)I"⟩
abbrev cX8_whyNotWire : ByteArray := prog_10_method_32_code
def yX8_whyNotWire : MethodName := ⟨RX8, "whyNotWire", "(I)I"⟩
abbrev cX8_turnFault : ByteArray := prog_10_method_33_code
def yX8_turnFault : MethodName := ⟨RX8, "turnFault", "(I)I"⟩
abbrev cX8_stick : ByteArray := prog_10_method_34_code
def yX8_stick : MethodName := ⟨RX8, "stick", "(I)I"⟩
abbrev cX8_whyNotDoze : ByteArray := prog_10_method_35_code
def yX8_whyNotDoze : MethodName := ⟨RX8, "whyNotDoze", "(I)I"⟩
abbrev cX8_turnSleep : ByteArray := prog_10_method_36_code
def yX8_turnSleep : MethodName := ⟨RX8, "turnSleep", "(I)I"⟩
abbrev cX8_doze : ByteArray := prog_10_method_37_code
def yX8_doze : MethodName := ⟨RX8, "doze", "(I)I"⟩
abbrev cX8_begins : ByteArray := prog_10_method_38_code
def yX8_begins : MethodName := ⟨RX8, "begins", "(I)Z"⟩
abbrev cX8_awakeAt : ByteArray := prog_10_method_39_code
def yX8_awakeAt : MethodName := ⟨RX8, "awakeAt", "(I)I"⟩
abbrev cX8_bitOf : ByteArray := prog_10_method_40_code
def yX8_bitOf : MethodName := ⟨RX8, "bitOf", "(I)I"⟩
abbrev cX8_begin : ByteArray := prog_10_method_41_code
def yX8_begin : MethodName := ⟨RX8, "begin", "()V"⟩
abbrev cX8_pull : ByteArray := prog_10_method_42_code
def yX8_pull : MethodName := ⟨RX8, "pull", "()V"⟩
abbrev cX8_allAwake : ByteArray := prog_10_method_43_code
def yX8_allAwake : MethodName := ⟨RX8, "allAwake", "(I)Z"⟩
abbrev cX8_hears : ByteArray := prog_10_method_44_code
def yX8_hears : MethodName := ⟨RX8, "hears", "(II)V"⟩
abbrev cX8_goesOn : ByteArray := prog_10_method_45_code
def yX8_goesOn : MethodName := ⟨RX8, "goesOn", "(I)Z"⟩
abbrev cX8_charge : ByteArray := prog_10_method_46_code
def yX8_charge : MethodName := ⟨RX8, "charge", "(I)V"⟩
abbrev cX8_beat : ByteArray := prog_10_method_47_code
def yX8_beat : MethodName := ⟨RX8, "beat", "()I"⟩
abbrev cX8_whyNotPass : ByteArray := prog_10_method_48_code
def yX8_whyNotPass : MethodName := ⟨RX8, "whyNotPass", "(I)I"⟩
abbrev cX8_beats : ByteArray := prog_10_method_49_code
def yX8_beats : MethodName := ⟨RX8, "beats", "(I)I"⟩
abbrev cX8_pass : ByteArray := prog_10_method_50_code
def yX8_pass : MethodName := ⟨RX8, "pass", "(I)I"⟩
abbrev cX8_waiting : ByteArray := prog_10_method_51_code
def yX8_waiting : MethodName := ⟨RX8, "waiting", "(I)I"⟩
abbrev cX8_stationsAt : ByteArray := prog_10_method_52_code
def yX8_stationsAt : MethodName := ⟨RX8, "stationsAt", "(I)I"⟩
abbrev cX8_speakersOn : ByteArray := prog_10_method_53_code
def yX8_speakersOn : MethodName := ⟨RX8, "speakersOn", "(I)I"⟩
abbrev cX8_ofWire : ByteArray := prog_10_method_54_code
def yX8_ofWire : MethodName := ⟨RX8, "ofWire", "(II)I"⟩
abbrev cX8_of : ByteArray := prog_10_method_55_code
def yX8_of : MethodName := ⟨RX8, "of", "(II)I"⟩
abbrev cX8_row : ByteArray := prog_10_method_56_code
def yX8_row : MethodName := ⟨RX8, "row", "(III)I"⟩
abbrev cX8_heard : ByteArray := prog_10_method_57_code
def yX8_heard : MethodName := ⟨RX8, "heard", "(III)I"⟩
abbrev cX8_sum : ByteArray := prog_10_method_58_code
def yX8_sum : MethodName := ⟨RX8, "sum", "(I)I"⟩
abbrev cX8_speakers : ByteArray := prog_10_method_59_code
def yX8_speakers : MethodName := ⟨RX8, "speakers", "()I"⟩
abbrev cX8_awake : ByteArray := prog_10_method_60_code
def yX8_awake : MethodName := ⟨RX8, "awake", "()I"⟩
abbrev cX8_faults : ByteArray := prog_10_method_61_code
def yX8_faults : MethodName := ⟨RX8, "faults", "()I"⟩
abbrev cX8_count : ByteArray := prog_10_method_62_code
def yX8_count : MethodName := ⟨RX8, "count", "(I)I"⟩
abbrev cX8_why : ByteArray := prog_10_method_63_code
def yX8_why : MethodName := ⟨RX8, "why", "(I)I"⟩
abbrev cX8_endsIn : ByteArray := prog_10_method_64_code
def yX8_endsIn : MethodName := ⟨RX8, "endsIn", "(II)I"⟩
abbrev cX8_quietIn : ByteArray := prog_10_method_65_code
def yX8_quietIn : MethodName := ⟨RX8, "quietIn", "()I"⟩
abbrev cX8_bestRest : ByteArray := prog_10_method_66_code
def yX8_bestRest : MethodName := ⟨RX8, "bestRest", "(II)I"⟩
abbrev cX8_busiest : ByteArray := prog_10_method_67_code
def yX8_busiest : MethodName := ⟨RX8, "busiest", "()I"⟩
abbrev cX8_sleepsIn : ByteArray := prog_10_method_68_code
def yX8_sleepsIn : MethodName := ⟨RX8, "sleepsIn", "(I)I"⟩
abbrev cX8_letter : ByteArray := prog_10_method_69_code
def yX8_letter : MethodName := ⟨RX8, "letter", "()I"⟩
abbrev cX8_wants : ByteArray := prog_10_method_70_code
def yX8_wants : MethodName := ⟨RX8, "wants", "(Z)V"⟩
abbrev cX8_digit : ByteArray := prog_10_method_71_code
def yX8_digit : MethodName := ⟨RX8, "digit", "()I"⟩
abbrev cX8_wireRead : ByteArray := prog_10_method_72_code
def yX8_wireRead : MethodName := ⟨RX8, "wireRead", "()I"⟩
abbrev cX8_number : ByteArray := prog_10_method_73_code
def yX8_number : MethodName := ⟨RX8, "number", "()I"⟩
abbrev cX8_wiresRead : ByteArray := prog_10_method_74_code
def yX8_wiresRead : MethodName := ⟨RX8, "wiresRead", "()I"⟩
abbrev cX8_readOrder : ByteArray := prog_10_method_75_code
def yX8_readOrder : MethodName := ⟨RX8, "readOrder", "()V"⟩
abbrev cX8_readPad : ByteArray := prog_10_method_76_code
def yX8_readPad : MethodName := ⟨RX8, "readPad", "()I"⟩
abbrev cX8_fault : ByteArray := prog_10_method_77_code
def yX8_fault : MethodName := ⟨RX8, "fault", "()I"⟩
abbrev cX8_whyNot : ByteArray := prog_10_method_78_code
def yX8_whyNot : MethodName := ⟨RX8, "whyNot", "(I)I"⟩
abbrev cX8_does : ByteArray := prog_10_method_79_code
def yX8_does : MethodName := ⟨RX8, "does", "(I)V"⟩
abbrev cX8_carryOut : ByteArray := prog_10_method_80_code
def yX8_carryOut : MethodName := ⟨RX8, "carryOut", "()I"⟩
abbrev cX8_put : ByteArray := prog_10_method_81_code
def yX8_put : MethodName := ⟨RX8, "put", "(J)I"⟩
abbrev cX8_wipe : ByteArray := prog_10_method_82_code
def yX8_wipe : MethodName := ⟨RX8, "wipe", "()I"⟩
def RJx8e188 : String := "java/lang/Cloneable"
def RJ6 : String := "java/lang/Integer"
abbrev cJ6_bitCount_0f7a4 : ByteArray := prog_12_method_49_code
def yJ6_bitCount_0f7a4 : MethodName := ⟨RJ6, "bitCount", "(I)I"⟩
def RJ9 : String := "java/lang/Math"
abbrev cJ9_max_7cf53 : ByteArray := prog_13_method_65_code
def yJ9_max_7cf53 : MethodName := ⟨RJ9, "max", "(II)I"⟩
abbrev cJ9_min_7cf53 : ByteArray := prog_13_method_69_code
def yJ9_min_7cf53 : MethodName := ⟨RJ9, "min", "(II)I"⟩
def RJ10 : String := "java/lang/System"
def RL : String := "BusSilencesLaw"
abbrev cL_law : ByteArray := code
def yL_law : MethodName := ⟨RL, "law", "([I)Z"⟩
abbrev vwCl : List vw_C := [(RX0, TX0, 8), (RX1, TX1, 3), (RX2, TX2, 2), (RX3, TX3, 2), (RX4, TX4, 7), (RX5, TX5, 4), (RX6, TX6, 15), (RX7, TX7, 6), (RX8, TX8, 13)]
end
section
theorem dX0_init_0 : decode cX0_init 0 = .ok (.aload_n 0, 1) := by decide +kernel
theorem dX0_init_1 : decode cX0_init 1 = .ok (.invokespecial 3, 3) := by decide +kernel
theorem dX0_init_4 : decode cX0_init 4 = .ok (.aload_n 0, 1) := by decide +kernel
theorem dX0_init_5 : decode cX0_init 5 = .ok (.getstatic 9, 3) := by decide +kernel
theorem dX0_init_8 : decode cX0_init 8 = .ok (.invokevirtual 13, 3) := by decide +kernel
theorem dX0_init_11 : decode cX0_init 11 = .ok (.checkcast 14, 3) := by decide +kernel
theorem dX0_init_14 : decode cX0_init 14 = .ok (.putfield 18, 3) := by decide +kernel
theorem dX0_init_17 : decode cX0_init 17 = .ok (.aload_n 0, 1) := by decide +kernel
theorem dX0_init_18 : decode cX0_init 18 = .ok (.bipush 6, 2) := by decide +kernel
theorem dX0_init_20 : decode cX0_init 20 = .ok (.newarray .int, 2) := by decide +kernel
theorem dX0_init_22 : decode cX0_init 22 = .ok (.putfield 23, 3) := by decide +kernel
theorem dX0_init_25 : decode cX0_init 25 = .ok (.aload_n 0, 1) := by decide +kernel
theorem dX0_init_26 : decode cX0_init 26 = .ok (.bipush 6, 2) := by decide +kernel
theorem dX0_init_28 : decode cX0_init 28 = .ok (.newarray .int, 2) := by decide +kernel
theorem dX0_init_30 : decode cX0_init 30 = .ok (.putfield 26, 3) := by decide +kernel
theorem dX0_init_33 : decode cX0_init 33 = .ok (.aload_n 0, 1) := by decide +kernel
theorem dX0_init_34 : decode cX0_init 34 = .ok (.bipush 6, 2) := by decide +kernel
theorem dX0_init_36 : decode cX0_init 36 = .ok (.newarray .int, 2) := by decide +kernel
theorem dX0_init_38 : decode cX0_init 38 = .ok (.putfield 29, 3) := by decide +kernel
theorem dX0_init_41 : decode cX0_init 41 = .ok (.aload_n 0, 1) := by decide +kernel
theorem dX0_init_42 : decode cX0_init 42 = .ok (.bipush 8, 2) := by decide +kernel
theorem dX0_init_44 : decode cX0_init 44 = .ok (.anewarray 32, 3) := by decide +kernel
theorem dX0_init_47 : decode cX0_init 47 = .ok (.putfield 34, 3) := by decide +kernel
theorem dX0_init_50 : decode cX0_init 50 = .ok (.iconst 0, 1) := by decide +kernel
theorem dX0_init_51 : decode cX0_init 51 = .ok (.istore_n 1, 1) := by decide +kernel
theorem dX0_init_52 : decode cX0_init 52 = .ok (.iload_n 1, 1) := by decide +kernel
theorem dX0_init_53 : decode cX0_init 53 = .ok (.bipush 8, 2) := by decide +kernel
theorem dX0_init_55 : decode cX0_init 55 = .ok (.if_icmp .ge 23, 3) := by decide +kernel
theorem dX0_init_58 : decode cX0_init 58 = .ok (.aload_n 0, 1) := by decide +kernel
theorem dX0_init_59 : decode cX0_init 59 = .ok (.getfield 34, 3) := by decide +kernel
theorem dX0_init_62 : decode cX0_init 62 = .ok (.iload_n 1, 1) := by decide +kernel
theorem dX0_init_63 : decode cX0_init 63 = .ok (.new 32, 3) := by decide +kernel
theorem dX0_init_66 : decode cX0_init 66 = .ok (.dup, 1) := by decide +kernel
theorem dX0_init_67 : decode cX0_init 67 = .ok (.iload_n 1, 1) := by decide +kernel
theorem dX0_init_68 : decode cX0_init 68 = .ok (.invokespecial 38, 3) := by decide +kernel
theorem dX0_init_71 : decode cX0_init 71 = .ok (.aastore, 1) := by decide +kernel
theorem dX0_init_72 : decode cX0_init 72 = .ok (.iinc 1 1, 3) := by decide +kernel
theorem dX0_init_75 : decode cX0_init 75 = .ok (.goto (-23), 3) := by decide +kernel
theorem dX0_init_78 : decode cX0_init 78 = .ok (.return_, 1) := by decide +kernel
theorem dX0_copyFrom_0 : decode cX0_copyFrom 0 = .ok (.aload_n 1, 1) := by decide +kernel
theorem dX0_copyFrom_1 : decode cX0_copyFrom 1 = .ok (.getfield 18, 3) := by decide +kernel
theorem dX0_copyFrom_4 : decode cX0_copyFrom 4 = .ok (.aload_n 0, 1) := by decide +kernel
theorem dX0_copyFrom_5 : decode cX0_copyFrom 5 = .ok (.getfield 18, 3) := by decide +kernel
theorem dX0_copyFrom_8 : decode cX0_copyFrom 8 = .ok (.invokestatic 41, 3) := by decide +kernel
theorem dX0_copyFrom_11 : decode cX0_copyFrom 11 = .ok (.aload_n 1, 1) := by decide +kernel
theorem dX0_copyFrom_12 : decode cX0_copyFrom 12 = .ok (.getfield 23, 3) := by decide +kernel
theorem dX0_copyFrom_15 : decode cX0_copyFrom 15 = .ok (.aload_n 0, 1) := by decide +kernel
theorem dX0_copyFrom_16 : decode cX0_copyFrom 16 = .ok (.getfield 23, 3) := by decide +kernel
theorem dX0_copyFrom_19 : decode cX0_copyFrom 19 = .ok (.invokestatic 41, 3) := by decide +kernel
theorem dX0_copyFrom_22 : decode cX0_copyFrom 22 = .ok (.aload_n 1, 1) := by decide +kernel
theorem dX0_copyFrom_23 : decode cX0_copyFrom 23 = .ok (.getfield 26, 3) := by decide +kernel
theorem dX0_copyFrom_26 : decode cX0_copyFrom 26 = .ok (.aload_n 0, 1) := by decide +kernel
theorem dX0_copyFrom_27 : decode cX0_copyFrom 27 = .ok (.getfield 26, 3) := by decide +kernel
theorem dX0_copyFrom_30 : decode cX0_copyFrom 30 = .ok (.invokestatic 41, 3) := by decide +kernel
theorem dX0_copyFrom_33 : decode cX0_copyFrom 33 = .ok (.aload_n 1, 1) := by decide +kernel
theorem dX0_copyFrom_34 : decode cX0_copyFrom 34 = .ok (.getfield 29, 3) := by decide +kernel
theorem dX0_copyFrom_37 : decode cX0_copyFrom 37 = .ok (.aload_n 0, 1) := by decide +kernel
theorem dX0_copyFrom_38 : decode cX0_copyFrom 38 = .ok (.getfield 29, 3) := by decide +kernel
theorem dX0_copyFrom_41 : decode cX0_copyFrom 41 = .ok (.invokestatic 41, 3) := by decide +kernel
theorem dX0_copyFrom_44 : decode cX0_copyFrom 44 = .ok (.iconst 0, 1) := by decide +kernel
theorem dX0_copyFrom_45 : decode cX0_copyFrom 45 = .ok (.istore_n 2, 1) := by decide +kernel
theorem dX0_copyFrom_46 : decode cX0_copyFrom 46 = .ok (.iload_n 2, 1) := by decide +kernel
theorem dX0_copyFrom_47 : decode cX0_copyFrom 47 = .ok (.bipush 8, 2) := by decide +kernel
theorem dX0_copyFrom_49 : decode cX0_copyFrom 49 = .ok (.if_icmp .ge 24, 3) := by decide +kernel
theorem dX0_copyFrom_52 : decode cX0_copyFrom 52 = .ok (.aload_n 0, 1) := by decide +kernel
theorem dX0_copyFrom_53 : decode cX0_copyFrom 53 = .ok (.getfield 34, 3) := by decide +kernel
theorem dX0_copyFrom_56 : decode cX0_copyFrom 56 = .ok (.iload_n 2, 1) := by decide +kernel
theorem dX0_copyFrom_57 : decode cX0_copyFrom 57 = .ok (.aaload, 1) := by decide +kernel
theorem dX0_copyFrom_58 : decode cX0_copyFrom 58 = .ok (.aload_n 1, 1) := by decide +kernel
theorem dX0_copyFrom_59 : decode cX0_copyFrom 59 = .ok (.getfield 34, 3) := by decide +kernel
theorem dX0_copyFrom_62 : decode cX0_copyFrom 62 = .ok (.iload_n 2, 1) := by decide +kernel
theorem dX0_copyFrom_63 : decode cX0_copyFrom 63 = .ok (.aaload, 1) := by decide +kernel
theorem dX0_copyFrom_64 : decode cX0_copyFrom 64 = .ok (.invokevirtual 45, 3) := by decide +kernel
theorem dX0_copyFrom_67 : decode cX0_copyFrom 67 = .ok (.iinc 2 1, 3) := by decide +kernel
theorem dX0_copyFrom_70 : decode cX0_copyFrom 70 = .ok (.goto (-24), 3) := by decide +kernel
theorem dX0_copyFrom_73 : decode cX0_copyFrom 73 = .ok (.aload_n 0, 1) := by decide +kernel
theorem dX0_copyFrom_74 : decode cX0_copyFrom 74 = .ok (.aload_n 1, 1) := by decide +kernel
theorem dX0_copyFrom_75 : decode cX0_copyFrom 75 = .ok (.getfield 49, 3) := by decide +kernel
theorem dX0_copyFrom_78 : decode cX0_copyFrom 78 = .ok (.putfield 49, 3) := by decide +kernel
theorem dX0_copyFrom_81 : decode cX0_copyFrom 81 = .ok (.aload_n 0, 1) := by decide +kernel
theorem dX0_copyFrom_82 : decode cX0_copyFrom 82 = .ok (.aload_n 1, 1) := by decide +kernel
theorem dX0_copyFrom_83 : decode cX0_copyFrom 83 = .ok (.getfield 53, 3) := by decide +kernel
theorem dX0_copyFrom_86 : decode cX0_copyFrom 86 = .ok (.putfield 53, 3) := by decide +kernel
theorem dX0_copyFrom_89 : decode cX0_copyFrom 89 = .ok (.aload_n 0, 1) := by decide +kernel
theorem dX0_copyFrom_90 : decode cX0_copyFrom 90 = .ok (.aload_n 1, 1) := by decide +kernel
theorem dX0_copyFrom_91 : decode cX0_copyFrom 91 = .ok (.getfield 56, 3) := by decide +kernel
theorem dX0_copyFrom_94 : decode cX0_copyFrom 94 = .ok (.putfield 56, 3) := by decide +kernel
theorem dX0_copyFrom_97 : decode cX0_copyFrom 97 = .ok (.return_, 1) := by decide +kernel
theorem dX0_find_0 : decode cX0_find 0 = .ok (.iload_n 1, 1) := by decide +kernel
theorem dX0_find_1 : decode cX0_find 1 = .ok (.ifCond .lt 26, 3) := by decide +kernel
theorem dX0_find_4 : decode cX0_find 4 = .ok (.iload_n 1, 1) := by decide +kernel
theorem dX0_find_5 : decode cX0_find 5 = .ok (.aload_n 0, 1) := by decide +kernel
theorem dX0_find_6 : decode cX0_find 6 = .ok (.getfield 49, 3) := by decide +kernel
theorem dX0_find_9 : decode cX0_find 9 = .ok (.if_icmp .ge 18, 3) := by decide +kernel
theorem dX0_find_12 : decode cX0_find 12 = .ok (.iload_n 1, 1) := by decide +kernel
theorem dX0_find_13 : decode cX0_find 13 = .ok (.bipush 8, 2) := by decide +kernel
theorem dX0_find_15 : decode cX0_find 15 = .ok (.if_icmp .ge 12, 3) := by decide +kernel
theorem dX0_find_18 : decode cX0_find 18 = .ok (.aload_n 0, 1) := by decide +kernel
theorem dX0_find_19 : decode cX0_find 19 = .ok (.getfield 34, 3) := by decide +kernel
theorem dX0_find_22 : decode cX0_find 22 = .ok (.iload_n 1, 1) := by decide +kernel
theorem dX0_find_23 : decode cX0_find 23 = .ok (.aaload, 1) := by decide +kernel
theorem dX0_find_24 : decode cX0_find 24 = .ok (.goto 4, 3) := by decide +kernel
theorem dX0_find_27 : decode cX0_find 27 = .ok (.aconst_null, 1) := by decide +kernel
theorem dX0_find_28 : decode cX0_find 28 = .ok (.areturn, 1) := by decide +kernel
theorem dX0_changeSetting_0 : decode cX0_changeSetting 0 = .ok (.iload_n 1, 1) := by decide +kernel
theorem dX0_changeSetting_1 : decode cX0_changeSetting 1 = .ok (.ifCond .lt 8, 3) := by decide +kernel
theorem dX0_changeSetting_4 : decode cX0_changeSetting 4 = .ok (.iload_n 1, 1) := by decide +kernel
theorem dX0_changeSetting_5 : decode cX0_changeSetting 5 = .ok (.iconst 5, 1) := by decide +kernel
theorem dX0_changeSetting_6 : decode cX0_changeSetting 6 = .ok (.if_icmp .lt 6, 3) := by decide +kernel
theorem dX0_changeSetting_9 : decode cX0_changeSetting 9 = .ok (.bipush (-2), 2) := by decide +kernel
theorem dX0_changeSetting_11 : decode cX0_changeSetting 11 = .ok (.ireturn, 1) := by decide +kernel
theorem dX0_changeSetting_12 : decode cX0_changeSetting 12 = .ok (.iload_n 2, 1) := by decide +kernel
theorem dX0_changeSetting_13 : decode cX0_changeSetting 13 = .ok (.getstatic 59, 3) := by decide +kernel
theorem dX0_changeSetting_16 : decode cX0_changeSetting 16 = .ok (.iload_n 1, 1) := by decide +kernel
theorem dX0_changeSetting_17 : decode cX0_changeSetting 17 = .ok (.iaload, 1) := by decide +kernel
theorem dX0_changeSetting_18 : decode cX0_changeSetting 18 = .ok (.if_icmp .lt 12, 3) := by decide +kernel
theorem dX0_changeSetting_21 : decode cX0_changeSetting 21 = .ok (.iload_n 2, 1) := by decide +kernel
theorem dX0_changeSetting_22 : decode cX0_changeSetting 22 = .ok (.getstatic 62, 3) := by decide +kernel
theorem dX0_changeSetting_25 : decode cX0_changeSetting 25 = .ok (.iload_n 1, 1) := by decide +kernel
theorem dX0_changeSetting_26 : decode cX0_changeSetting 26 = .ok (.iaload, 1) := by decide +kernel
theorem dX0_changeSetting_27 : decode cX0_changeSetting 27 = .ok (.if_icmp .le 6, 3) := by decide +kernel
theorem dX0_changeSetting_30 : decode cX0_changeSetting 30 = .ok (.bipush (-2), 2) := by decide +kernel
theorem dX0_changeSetting_32 : decode cX0_changeSetting 32 = .ok (.ireturn, 1) := by decide +kernel
theorem dX0_changeSetting_33 : decode cX0_changeSetting 33 = .ok (.aload_n 0, 1) := by decide +kernel
theorem dX0_changeSetting_34 : decode cX0_changeSetting 34 = .ok (.getfield 18, 3) := by decide +kernel
theorem dX0_changeSetting_37 : decode cX0_changeSetting 37 = .ok (.iload_n 1, 1) := by decide +kernel
theorem dX0_changeSetting_38 : decode cX0_changeSetting 38 = .ok (.iaload, 1) := by decide +kernel
theorem dX0_changeSetting_39 : decode cX0_changeSetting 39 = .ok (.istore_n 3, 1) := by decide +kernel
theorem dX0_changeSetting_40 : decode cX0_changeSetting 40 = .ok (.aload_n 0, 1) := by decide +kernel
theorem dX0_changeSetting_41 : decode cX0_changeSetting 41 = .ok (.getfield 18, 3) := by decide +kernel
theorem dX0_changeSetting_44 : decode cX0_changeSetting 44 = .ok (.iload_n 1, 1) := by decide +kernel
theorem dX0_changeSetting_45 : decode cX0_changeSetting 45 = .ok (.iload_n 2, 1) := by decide +kernel
theorem dX0_changeSetting_46 : decode cX0_changeSetting 46 = .ok (.iastore, 1) := by decide +kernel
theorem dX0_changeSetting_47 : decode cX0_changeSetting 47 = .ok (.iload_n 1, 1) := by decide +kernel
theorem dX0_changeSetting_48 : decode cX0_changeSetting 48 = .ok (.iconst 1, 1) := by decide +kernel
theorem dX0_changeSetting_49 : decode cX0_changeSetting 49 = .ok (.if_icmp .ne 8, 3) := by decide +kernel
theorem dX0_changeSetting_52 : decode cX0_changeSetting 52 = .ok (.aload_n 0, 1) := by decide +kernel
theorem dX0_changeSetting_53 : decode cX0_changeSetting 53 = .ok (.iload_n 2, 1) := by decide +kernel
theorem dX0_changeSetting_54 : decode cX0_changeSetting 54 = .ok (.invokevirtual 65, 3) := by decide +kernel
theorem dX0_changeSetting_57 : decode cX0_changeSetting 57 = .ok (.iload_n 3, 1) := by decide +kernel
theorem dX0_changeSetting_58 : decode cX0_changeSetting 58 = .ok (.ireturn, 1) := by decide +kernel
theorem dX0_loseChargeAbove_0 : decode cX0_loseChargeAbove 0 = .ok (.iconst 0, 1) := by decide +kernel
theorem dX0_loseChargeAbove_1 : decode cX0_loseChargeAbove 1 = .ok (.istore_n 2, 1) := by decide +kernel
theorem dX0_loseChargeAbove_2 : decode cX0_loseChargeAbove 2 = .ok (.iload_n 2, 1) := by decide +kernel
theorem dX0_loseChargeAbove_3 : decode cX0_loseChargeAbove 3 = .ok (.aload_n 0, 1) := by decide +kernel
theorem dX0_loseChargeAbove_4 : decode cX0_loseChargeAbove 4 = .ok (.getfield 49, 3) := by decide +kernel
theorem dX0_loseChargeAbove_7 : decode cX0_loseChargeAbove 7 = .ok (.if_icmp .ge 31, 3) := by decide +kernel
theorem dX0_loseChargeAbove_10 : decode cX0_loseChargeAbove 10 = .ok (.aload_n 0, 1) := by decide +kernel
theorem dX0_loseChargeAbove_11 : decode cX0_loseChargeAbove 11 = .ok (.getfield 34, 3) := by decide +kernel
theorem dX0_loseChargeAbove_14 : decode cX0_loseChargeAbove 14 = .ok (.iload_n 2, 1) := by decide +kernel
theorem dX0_loseChargeAbove_15 : decode cX0_loseChargeAbove 15 = .ok (.aaload, 1) := by decide +kernel
theorem dX0_loseChargeAbove_16 : decode cX0_loseChargeAbove 16 = .ok (.aload_n 0, 1) := by decide +kernel
theorem dX0_loseChargeAbove_17 : decode cX0_loseChargeAbove 17 = .ok (.getfield 34, 3) := by decide +kernel
theorem dX0_loseChargeAbove_20 : decode cX0_loseChargeAbove 20 = .ok (.iload_n 2, 1) := by decide +kernel
theorem dX0_loseChargeAbove_21 : decode cX0_loseChargeAbove 21 = .ok (.aaload, 1) := by decide +kernel
theorem dX0_loseChargeAbove_22 : decode cX0_loseChargeAbove 22 = .ok (.getfield 68, 3) := by decide +kernel
theorem dX0_loseChargeAbove_25 : decode cX0_loseChargeAbove 25 = .ok (.iload_n 1, 1) := by decide +kernel
theorem dX0_loseChargeAbove_26 : decode cX0_loseChargeAbove 26 = .ok (.invokestatic 71, 3) := by decide +kernel
theorem dX0_loseChargeAbove_29 : decode cX0_loseChargeAbove 29 = .ok (.putfield 68, 3) := by decide +kernel
theorem dX0_loseChargeAbove_32 : decode cX0_loseChargeAbove 32 = .ok (.iinc 2 1, 3) := by decide +kernel
theorem dX0_loseChargeAbove_35 : decode cX0_loseChargeAbove 35 = .ok (.goto (-33), 3) := by decide +kernel
theorem dX0_loseChargeAbove_38 : decode cX0_loseChargeAbove 38 = .ok (.return_, 1) := by decide +kernel
theorem dX0_addStation_0 : decode cX0_addStation 0 = .ok (.iload_n 1, 1) := by decide +kernel
theorem dX0_addStation_1 : decode cX0_addStation 1 = .ok (.iconst 1, 1) := by decide +kernel
theorem dX0_addStation_2 : decode cX0_addStation 2 = .ok (.if_icmp .lt 9, 3) := by decide +kernel
theorem dX0_addStation_5 : decode cX0_addStation 5 = .ok (.iload_n 1, 1) := by decide +kernel
theorem dX0_addStation_6 : decode cX0_addStation 6 = .ok (.bipush 63, 2) := by decide +kernel
theorem dX0_addStation_8 : decode cX0_addStation 8 = .ok (.if_icmp .le 6, 3) := by decide +kernel
theorem dX0_addStation_11 : decode cX0_addStation 11 = .ok (.bipush (-2), 2) := by decide +kernel
theorem dX0_addStation_13 : decode cX0_addStation 13 = .ok (.ireturn, 1) := by decide +kernel
theorem dX0_addStation_14 : decode cX0_addStation 14 = .ok (.aload_n 0, 1) := by decide +kernel
theorem dX0_addStation_15 : decode cX0_addStation 15 = .ok (.getfield 49, 3) := by decide +kernel
theorem dX0_addStation_18 : decode cX0_addStation 18 = .ok (.bipush 8, 2) := by decide +kernel
theorem dX0_addStation_20 : decode cX0_addStation 20 = .ok (.if_icmp .lt 6, 3) := by decide +kernel
theorem dX0_addStation_23 : decode cX0_addStation 23 = .ok (.bipush (-4), 2) := by decide +kernel
theorem dX0_addStation_25 : decode cX0_addStation 25 = .ok (.ireturn, 1) := by decide +kernel
theorem dX0_addStation_26 : decode cX0_addStation 26 = .ok (.aload_n 0, 1) := by decide +kernel
theorem dX0_addStation_27 : decode cX0_addStation 27 = .ok (.getfield 34, 3) := by decide +kernel
theorem dX0_addStation_30 : decode cX0_addStation 30 = .ok (.aload_n 0, 1) := by decide +kernel
theorem dX0_addStation_31 : decode cX0_addStation 31 = .ok (.getfield 49, 3) := by decide +kernel
theorem dX0_addStation_34 : decode cX0_addStation 34 = .ok (.aaload, 1) := by decide +kernel
theorem dX0_addStation_35 : decode cX0_addStation 35 = .ok (.iload_n 1, 1) := by decide +kernel
theorem dX0_addStation_36 : decode cX0_addStation 36 = .ok (.putfield 77, 3) := by decide +kernel
theorem dX0_addStation_39 : decode cX0_addStation 39 = .ok (.aload_n 0, 1) := by decide +kernel
theorem dX0_addStation_40 : decode cX0_addStation 40 = .ok (.getfield 34, 3) := by decide +kernel
theorem dX0_addStation_43 : decode cX0_addStation 43 = .ok (.aload_n 0, 1) := by decide +kernel
theorem dX0_addStation_44 : decode cX0_addStation 44 = .ok (.getfield 49, 3) := by decide +kernel
theorem dX0_addStation_47 : decode cX0_addStation 47 = .ok (.aaload, 1) := by decide +kernel
theorem dX0_addStation_48 : decode cX0_addStation 48 = .ok (.aload_n 0, 1) := by decide +kernel
theorem dX0_addStation_49 : decode cX0_addStation 49 = .ok (.getfield 18, 3) := by decide +kernel
theorem dX0_addStation_52 : decode cX0_addStation 52 = .ok (.iconst 1, 1) := by decide +kernel
theorem dX0_addStation_53 : decode cX0_addStation 53 = .ok (.iaload, 1) := by decide +kernel
theorem dX0_addStation_54 : decode cX0_addStation 54 = .ok (.putfield 68, 3) := by decide +kernel
theorem dX0_addStation_57 : decode cX0_addStation 57 = .ok (.aload_n 0, 1) := by decide +kernel
theorem dX0_addStation_58 : decode cX0_addStation 58 = .ok (.dup, 1) := by decide +kernel
theorem dX0_addStation_59 : decode cX0_addStation 59 = .ok (.getfield 49, 3) := by decide +kernel
theorem dX0_addStation_62 : decode cX0_addStation 62 = .ok (.iconst 1, 1) := by decide +kernel
theorem dX0_addStation_63 : decode cX0_addStation 63 = .ok (.iadd, 1) := by decide +kernel
theorem dX0_addStation_64 : decode cX0_addStation 64 = .ok (.putfield 49, 3) := by decide +kernel
theorem dX0_addStation_67 : decode cX0_addStation 67 = .ok (.aload_n 0, 1) := by decide +kernel
theorem dX0_addStation_68 : decode cX0_addStation 68 = .ok (.getfield 49, 3) := by decide +kernel
theorem dX0_addStation_71 : decode cX0_addStation 71 = .ok (.iconst 1, 1) := by decide +kernel
theorem dX0_addStation_72 : decode cX0_addStation 72 = .ok (.isub, 1) := by decide +kernel
theorem dX0_addStation_73 : decode cX0_addStation 73 = .ok (.ireturn, 1) := by decide +kernel
theorem dX0_addWord_0 : decode cX0_addWord 0 = .ok (.aload_n 0, 1) := by decide +kernel
theorem dX0_addWord_1 : decode cX0_addWord 1 = .ok (.iload_n 1, 1) := by decide +kernel
theorem dX0_addWord_2 : decode cX0_addWord 2 = .ok (.invokevirtual 80, 3) := by decide +kernel
theorem dX0_addWord_5 : decode cX0_addWord 5 = .ok (.astore 4, 2) := by decide +kernel
theorem dX0_addWord_7 : decode cX0_addWord 7 = .ok (.aload 4, 2) := by decide +kernel
theorem dX0_addWord_9 : decode cX0_addWord 9 = .ok (.ifnull 10, 3) := by decide +kernel
theorem dX0_addWord_12 : decode cX0_addWord 12 = .ok (.iload_n 2, 1) := by decide +kernel
theorem dX0_addWord_13 : decode cX0_addWord 13 = .ok (.invokestatic 84, 3) := by decide +kernel
theorem dX0_addWord_16 : decode cX0_addWord 16 = .ok (.ifCond .ne 5, 3) := by decide +kernel
theorem dX0_addWord_19 : decode cX0_addWord 19 = .ok (.iconst (-1), 1) := by decide +kernel
theorem dX0_addWord_20 : decode cX0_addWord 20 = .ok (.ireturn, 1) := by decide +kernel
theorem dX0_addWord_21 : decode cX0_addWord 21 = .ok (.iload_n 3, 1) := by decide +kernel
theorem dX0_addWord_22 : decode cX0_addWord 22 = .ok (.ifCond .lt 10, 3) := by decide +kernel
theorem dX0_addWord_25 : decode cX0_addWord 25 = .ok (.iload_n 3, 1) := by decide +kernel
theorem dX0_addWord_26 : decode cX0_addWord 26 = .ok (.sipush 255, 3) := by decide +kernel
theorem dX0_addWord_29 : decode cX0_addWord 29 = .ok (.if_icmp .le 6, 3) := by decide +kernel
theorem dX0_addWord_32 : decode cX0_addWord 32 = .ok (.bipush (-2), 2) := by decide +kernel
theorem dX0_addWord_34 : decode cX0_addWord 34 = .ok (.ireturn, 1) := by decide +kernel
theorem dX0_addWord_35 : decode cX0_addWord 35 = .ok (.aload 4, 2) := by decide +kernel
theorem dX0_addWord_37 : decode cX0_addWord 37 = .ok (.iload_n 2, 1) := by decide +kernel
theorem dX0_addWord_38 : decode cX0_addWord 38 = .ok (.invokevirtual 88, 3) := by decide +kernel
theorem dX0_addWord_41 : decode cX0_addWord 41 = .ok (.ifCond .ne 6, 3) := by decide +kernel
theorem dX0_addWord_44 : decode cX0_addWord 44 = .ok (.bipush (-5), 2) := by decide +kernel
theorem dX0_addWord_46 : decode cX0_addWord 46 = .ok (.ireturn, 1) := by decide +kernel
theorem dX0_addWord_47 : decode cX0_addWord 47 = .ok (.aload 4, 2) := by decide +kernel
theorem dX0_addWord_49 : decode cX0_addWord 49 = .ok (.getfield 91, 3) := by decide +kernel
theorem dX0_addWord_52 : decode cX0_addWord 52 = .ok (.getfield 95, 3) := by decide +kernel
theorem dX0_addWord_55 : decode cX0_addWord 55 = .ok (.iconst 4, 1) := by decide +kernel
theorem dX0_addWord_56 : decode cX0_addWord 56 = .ok (.if_icmp .lt 6, 3) := by decide +kernel
theorem dX0_addWord_59 : decode cX0_addWord 59 = .ok (.bipush (-4), 2) := by decide +kernel
theorem dX0_addWord_61 : decode cX0_addWord 61 = .ok (.ireturn, 1) := by decide +kernel
theorem dX0_addWord_62 : decode cX0_addWord 62 = .ok (.aload 4, 2) := by decide +kernel
theorem dX0_addWord_64 : decode cX0_addWord 64 = .ok (.getfield 91, 3) := by decide +kernel
theorem dX0_addWord_67 : decode cX0_addWord 67 = .ok (.iload_n 3, 1) := by decide +kernel
theorem dX0_addWord_68 : decode cX0_addWord 68 = .ok (.iload_n 2, 1) := by decide +kernel
theorem dX0_addWord_69 : decode cX0_addWord 69 = .ok (.invokevirtual 100, 3) := by decide +kernel
theorem dX0_addWord_72 : decode cX0_addWord 72 = .ok (.aload 4, 2) := by decide +kernel
theorem dX0_addWord_74 : decode cX0_addWord 74 = .ok (.getfield 91, 3) := by decide +kernel
theorem dX0_addWord_77 : decode cX0_addWord 77 = .ok (.getfield 95, 3) := by decide +kernel
theorem dX0_addWord_80 : decode cX0_addWord 80 = .ok (.ireturn, 1) := by decide +kernel
theorem dX0_forgetWord_0 : decode cX0_forgetWord 0 = .ok (.aload_n 0, 1) := by decide +kernel
theorem dX0_forgetWord_1 : decode cX0_forgetWord 1 = .ok (.iload_n 1, 1) := by decide +kernel
theorem dX0_forgetWord_2 : decode cX0_forgetWord 2 = .ok (.invokevirtual 80, 3) := by decide +kernel
theorem dX0_forgetWord_5 : decode cX0_forgetWord 5 = .ok (.astore_n 2, 1) := by decide +kernel
theorem dX0_forgetWord_6 : decode cX0_forgetWord 6 = .ok (.aload_n 2, 1) := by decide +kernel
theorem dX0_forgetWord_7 : decode cX0_forgetWord 7 = .ok (.ifnonnull 5, 3) := by decide +kernel
theorem dX0_forgetWord_10 : decode cX0_forgetWord 10 = .ok (.iconst (-1), 1) := by decide +kernel
theorem dX0_forgetWord_11 : decode cX0_forgetWord 11 = .ok (.ireturn, 1) := by decide +kernel
theorem dX0_forgetWord_12 : decode cX0_forgetWord 12 = .ok (.aload_n 2, 1) := by decide +kernel
theorem dX0_forgetWord_13 : decode cX0_forgetWord 13 = .ok (.getfield 91, 3) := by decide +kernel
theorem dX0_forgetWord_16 : decode cX0_forgetWord 16 = .ok (.getfield 95, 3) := by decide +kernel
theorem dX0_forgetWord_19 : decode cX0_forgetWord 19 = .ok (.ifCond .ne 6, 3) := by decide +kernel
theorem dX0_forgetWord_22 : decode cX0_forgetWord 22 = .ok (.bipush (-5), 2) := by decide +kernel
theorem dX0_forgetWord_24 : decode cX0_forgetWord 24 = .ok (.ireturn, 1) := by decide +kernel
theorem dX0_forgetWord_25 : decode cX0_forgetWord 25 = .ok (.aload_n 2, 1) := by decide +kernel
theorem dX0_forgetWord_26 : decode cX0_forgetWord 26 = .ok (.getfield 91, 3) := by decide +kernel
theorem dX0_forgetWord_29 : decode cX0_forgetWord 29 = .ok (.iconst 0, 1) := by decide +kernel
theorem dX0_forgetWord_30 : decode cX0_forgetWord 30 = .ok (.invokevirtual 104, 3) := by decide +kernel
theorem dX0_forgetWord_33 : decode cX0_forgetWord 33 = .ok (.istore_n 3, 1) := by decide +kernel
theorem dX0_forgetWord_34 : decode cX0_forgetWord 34 = .ok (.aload_n 2, 1) := by decide +kernel
theorem dX0_forgetWord_35 : decode cX0_forgetWord 35 = .ok (.getfield 91, 3) := by decide +kernel
theorem dX0_forgetWord_38 : decode cX0_forgetWord 38 = .ok (.invokevirtual 108, 3) := by decide +kernel
theorem dX0_forgetWord_41 : decode cX0_forgetWord 41 = .ok (.aload_n 2, 1) := by decide +kernel
theorem dX0_forgetWord_42 : decode cX0_forgetWord 42 = .ok (.invokevirtual 111, 3) := by decide +kernel
theorem dX0_forgetWord_45 : decode cX0_forgetWord 45 = .ok (.iload_n 3, 1) := by decide +kernel
theorem dX0_forgetWord_46 : decode cX0_forgetWord 46 = .ok (.ireturn, 1) := by decide +kernel
theorem dX0_toggleFault_0 : decode cX0_toggleFault 0 = .ok (.iload_n 1, 1) := by decide +kernel
theorem dX0_toggleFault_1 : decode cX0_toggleFault 1 = .ok (.invokestatic 84, 3) := by decide +kernel
theorem dX0_toggleFault_4 : decode cX0_toggleFault 4 = .ok (.ifCond .ne 5, 3) := by decide +kernel
theorem dX0_toggleFault_7 : decode cX0_toggleFault 7 = .ok (.iconst (-1), 1) := by decide +kernel
theorem dX0_toggleFault_8 : decode cX0_toggleFault 8 = .ok (.ireturn, 1) := by decide +kernel
theorem dX0_toggleFault_9 : decode cX0_toggleFault 9 = .ok (.aload_n 0, 1) := by decide +kernel
theorem dX0_toggleFault_10 : decode cX0_toggleFault 10 = .ok (.dup, 1) := by decide +kernel
theorem dX0_toggleFault_11 : decode cX0_toggleFault 11 = .ok (.getfield 53, 3) := by decide +kernel
theorem dX0_toggleFault_14 : decode cX0_toggleFault 14 = .ok (.iconst 1, 1) := by decide +kernel
theorem dX0_toggleFault_15 : decode cX0_toggleFault 15 = .ok (.iload_n 1, 1) := by decide +kernel
theorem dX0_toggleFault_16 : decode cX0_toggleFault 16 = .ok (.ishl, 1) := by decide +kernel
theorem dX0_toggleFault_17 : decode cX0_toggleFault 17 = .ok (.ixor, 1) := by decide +kernel
theorem dX0_toggleFault_18 : decode cX0_toggleFault 18 = .ok (.putfield 53, 3) := by decide +kernel
theorem dX0_toggleFault_21 : decode cX0_toggleFault 21 = .ok (.aload_n 0, 1) := by decide +kernel
theorem dX0_toggleFault_22 : decode cX0_toggleFault 22 = .ok (.iload_n 1, 1) := by decide +kernel
theorem dX0_toggleFault_23 : decode cX0_toggleFault 23 = .ok (.invokevirtual 114, 3) := by decide +kernel
theorem dX0_toggleFault_26 : decode cX0_toggleFault 26 = .ok (.ifCond .eq 7, 3) := by decide +kernel
theorem dX0_toggleFault_29 : decode cX0_toggleFault 29 = .ok (.iconst 1, 1) := by decide +kernel
theorem dX0_toggleFault_30 : decode cX0_toggleFault 30 = .ok (.goto 4, 3) := by decide +kernel
theorem dX0_toggleFault_33 : decode cX0_toggleFault 33 = .ok (.iconst 0, 1) := by decide +kernel
theorem dX0_toggleFault_34 : decode cX0_toggleFault 34 = .ok (.ireturn, 1) := by decide +kernel
theorem dX0_toggleDoze_0 : decode cX0_toggleDoze 0 = .ok (.aload_n 0, 1) := by decide +kernel
theorem dX0_toggleDoze_1 : decode cX0_toggleDoze 1 = .ok (.iload_n 1, 1) := by decide +kernel
theorem dX0_toggleDoze_2 : decode cX0_toggleDoze 2 = .ok (.invokevirtual 80, 3) := by decide +kernel
theorem dX0_toggleDoze_5 : decode cX0_toggleDoze 5 = .ok (.astore_n 2, 1) := by decide +kernel
theorem dX0_toggleDoze_6 : decode cX0_toggleDoze 6 = .ok (.aload_n 2, 1) := by decide +kernel
theorem dX0_toggleDoze_7 : decode cX0_toggleDoze 7 = .ok (.ifnonnull 5, 3) := by decide +kernel
theorem dX0_toggleDoze_10 : decode cX0_toggleDoze 10 = .ok (.iconst (-1), 1) := by decide +kernel
theorem dX0_toggleDoze_11 : decode cX0_toggleDoze 11 = .ok (.ireturn, 1) := by decide +kernel
theorem dX0_toggleDoze_12 : decode cX0_toggleDoze 12 = .ok (.aload_n 2, 1) := by decide +kernel
theorem dX0_toggleDoze_13 : decode cX0_toggleDoze 13 = .ok (.aload_n 2, 1) := by decide +kernel
theorem dX0_toggleDoze_14 : decode cX0_toggleDoze 14 = .ok (.getfield 117, 3) := by decide +kernel
theorem dX0_toggleDoze_17 : decode cX0_toggleDoze 17 = .ok (.ifCond .ne 7, 3) := by decide +kernel
theorem dX0_toggleDoze_20 : decode cX0_toggleDoze 20 = .ok (.iconst 1, 1) := by decide +kernel
theorem dX0_toggleDoze_21 : decode cX0_toggleDoze 21 = .ok (.goto 4, 3) := by decide +kernel
theorem dX0_toggleDoze_24 : decode cX0_toggleDoze 24 = .ok (.iconst 0, 1) := by decide +kernel
theorem dX0_toggleDoze_25 : decode cX0_toggleDoze 25 = .ok (.putfield 117, 3) := by decide +kernel
theorem dX0_toggleDoze_28 : decode cX0_toggleDoze 28 = .ok (.aload_n 2, 1) := by decide +kernel
theorem dX0_toggleDoze_29 : decode cX0_toggleDoze 29 = .ok (.getfield 117, 3) := by decide +kernel
theorem dX0_toggleDoze_32 : decode cX0_toggleDoze 32 = .ok (.ifCond .eq 15, 3) := by decide +kernel
theorem dX0_toggleDoze_35 : decode cX0_toggleDoze 35 = .ok (.aload_n 2, 1) := by decide +kernel
theorem dX0_toggleDoze_36 : decode cX0_toggleDoze 36 = .ok (.invokevirtual 121, 3) := by decide +kernel
theorem dX0_toggleDoze_39 : decode cX0_toggleDoze 39 = .ok (.ifCond .eq 8, 3) := by decide +kernel
theorem dX0_toggleDoze_42 : decode cX0_toggleDoze 42 = .ok (.aload_n 0, 1) := by decide +kernel
theorem dX0_toggleDoze_43 : decode cX0_toggleDoze 43 = .ok (.aload_n 2, 1) := by decide +kernel
theorem dX0_toggleDoze_44 : decode cX0_toggleDoze 44 = .ok (.invokevirtual 125, 3) := by decide +kernel
theorem dX0_toggleDoze_47 : decode cX0_toggleDoze 47 = .ok (.aload_n 2, 1) := by decide +kernel
theorem dX0_toggleDoze_48 : decode cX0_toggleDoze 48 = .ok (.getfield 117, 3) := by decide +kernel
theorem dX0_toggleDoze_51 : decode cX0_toggleDoze 51 = .ok (.ifCond .eq 7, 3) := by decide +kernel
theorem dX0_toggleDoze_54 : decode cX0_toggleDoze 54 = .ok (.iconst 1, 1) := by decide +kernel
theorem dX0_toggleDoze_55 : decode cX0_toggleDoze 55 = .ok (.goto 4, 3) := by decide +kernel
theorem dX0_toggleDoze_58 : decode cX0_toggleDoze 58 = .ok (.iconst 0, 1) := by decide +kernel
theorem dX0_toggleDoze_59 : decode cX0_toggleDoze 59 = .ok (.ireturn, 1) := by decide +kernel
theorem dX0_passBeats_0 : decode cX0_passBeats 0 = .ok (.iload_n 1, 1) := by decide +kernel
theorem dX0_passBeats_1 : decode cX0_passBeats 1 = .ok (.iconst 1, 1) := by decide +kernel
theorem dX0_passBeats_2 : decode cX0_passBeats 2 = .ok (.if_icmp .lt 10, 3) := by decide +kernel
theorem dX0_passBeats_5 : decode cX0_passBeats 5 = .ok (.iload_n 1, 1) := by decide +kernel
theorem dX0_passBeats_6 : decode cX0_passBeats 6 = .ok (.sipush 999, 3) := by decide +kernel
theorem dX0_passBeats_9 : decode cX0_passBeats 9 = .ok (.if_icmp .le 6, 3) := by decide +kernel
theorem dX0_passBeats_12 : decode cX0_passBeats 12 = .ok (.bipush (-2), 2) := by decide +kernel
theorem dX0_passBeats_14 : decode cX0_passBeats 14 = .ok (.ireturn, 1) := by decide +kernel
theorem dX0_passBeats_15 : decode cX0_passBeats 15 = .ok (.aload_n 0, 1) := by decide +kernel
theorem dX0_passBeats_16 : decode cX0_passBeats 16 = .ok (.getfield 56, 3) := by decide +kernel
theorem dX0_passBeats_19 : decode cX0_passBeats 19 = .ok (.iload_n 1, 1) := by decide +kernel
theorem dX0_passBeats_20 : decode cX0_passBeats 20 = .ok (.iadd, 1) := by decide +kernel
theorem dX0_passBeats_21 : decode cX0_passBeats 21 = .ok (.ldc 128, 2) := by decide +kernel
theorem dX0_passBeats_23 : decode cX0_passBeats 23 = .ok (.if_icmp .le 6, 3) := by decide +kernel
theorem dX0_passBeats_26 : decode cX0_passBeats 26 = .ok (.bipush (-5), 2) := by decide +kernel
theorem dX0_passBeats_28 : decode cX0_passBeats 28 = .ok (.ireturn, 1) := by decide +kernel
theorem dX0_passBeats_29 : decode cX0_passBeats 29 = .ok (.iconst 0, 1) := by decide +kernel
theorem dX0_passBeats_30 : decode cX0_passBeats 30 = .ok (.istore_n 2, 1) := by decide +kernel
theorem dX0_passBeats_31 : decode cX0_passBeats 31 = .ok (.iconst 0, 1) := by decide +kernel
theorem dX0_passBeats_32 : decode cX0_passBeats 32 = .ok (.istore_n 3, 1) := by decide +kernel
theorem dX0_passBeats_33 : decode cX0_passBeats 33 = .ok (.iload_n 3, 1) := by decide +kernel
theorem dX0_passBeats_34 : decode cX0_passBeats 34 = .ok (.iload_n 1, 1) := by decide +kernel
theorem dX0_passBeats_35 : decode cX0_passBeats 35 = .ok (.if_icmp .ge 16, 3) := by decide +kernel
theorem dX0_passBeats_38 : decode cX0_passBeats 38 = .ok (.iload_n 2, 1) := by decide +kernel
theorem dX0_passBeats_39 : decode cX0_passBeats 39 = .ok (.aload_n 0, 1) := by decide +kernel
theorem dX0_passBeats_40 : decode cX0_passBeats 40 = .ok (.invokevirtual 129, 3) := by decide +kernel
theorem dX0_passBeats_43 : decode cX0_passBeats 43 = .ok (.iadd, 1) := by decide +kernel
theorem dX0_passBeats_44 : decode cX0_passBeats 44 = .ok (.istore_n 2, 1) := by decide +kernel
theorem dX0_passBeats_45 : decode cX0_passBeats 45 = .ok (.iinc 3 1, 3) := by decide +kernel
theorem dX0_passBeats_48 : decode cX0_passBeats 48 = .ok (.goto (-15), 3) := by decide +kernel
theorem dX0_passBeats_51 : decode cX0_passBeats 51 = .ok (.iload_n 2, 1) := by decide +kernel
theorem dX0_passBeats_52 : decode cX0_passBeats 52 = .ok (.ireturn, 1) := by decide +kernel
theorem dX0_passBeat_0 : decode cX0_passBeat 0 = .ok (.aload_n 0, 1) := by decide +kernel
theorem dX0_passBeat_1 : decode cX0_passBeat 1 = .ok (.invokevirtual 133, 3) := by decide +kernel
theorem dX0_passBeat_4 : decode cX0_passBeat 4 = .ok (.istore_n 1, 1) := by decide +kernel
theorem dX0_passBeat_5 : decode cX0_passBeat 5 = .ok (.aload_n 0, 1) := by decide +kernel
theorem dX0_passBeat_6 : decode cX0_passBeat 6 = .ok (.iload_n 1, 1) := by decide +kernel
theorem dX0_passBeat_7 : decode cX0_passBeat 7 = .ok (.invokevirtual 136, 3) := by decide +kernel
theorem dX0_passBeat_10 : decode cX0_passBeat 10 = .ok (.bipush 63, 2) := by decide +kernel
theorem dX0_passBeat_12 : decode cX0_passBeat 12 = .ok (.aload_n 0, 1) := by decide +kernel
theorem dX0_passBeat_13 : decode cX0_passBeat 13 = .ok (.getfield 53, 3) := by decide +kernel
theorem dX0_passBeat_16 : decode cX0_passBeat 16 = .ok (.aload_n 0, 1) := by decide +kernel
theorem dX0_passBeat_17 : decode cX0_passBeat 17 = .ok (.invokevirtual 139, 3) := by decide +kernel
theorem dX0_passBeat_20 : decode cX0_passBeat 20 = .ok (.ior, 1) := by decide +kernel
theorem dX0_passBeat_21 : decode cX0_passBeat 21 = .ok (.iconst (-1), 1) := by decide +kernel
theorem dX0_passBeat_22 : decode cX0_passBeat 22 = .ok (.ixor, 1) := by decide +kernel
theorem dX0_passBeat_23 : decode cX0_passBeat 23 = .ok (.iand, 1) := by decide +kernel
theorem dX0_passBeat_24 : decode cX0_passBeat 24 = .ok (.istore_n 2, 1) := by decide +kernel
theorem dX0_passBeat_25 : decode cX0_passBeat 25 = .ok (.aload_n 0, 1) := by decide +kernel
theorem dX0_passBeat_26 : decode cX0_passBeat 26 = .ok (.iload_n 2, 1) := by decide +kernel
theorem dX0_passBeat_27 : decode cX0_passBeat 27 = .ok (.iload_n 1, 1) := by decide +kernel
theorem dX0_passBeat_28 : decode cX0_passBeat 28 = .ok (.invokevirtual 142, 3) := by decide +kernel
theorem dX0_passBeat_31 : decode cX0_passBeat 31 = .ok (.istore_n 3, 1) := by decide +kernel
theorem dX0_passBeat_32 : decode cX0_passBeat 32 = .ok (.aload_n 0, 1) := by decide +kernel
theorem dX0_passBeat_33 : decode cX0_passBeat 33 = .ok (.iload_n 2, 1) := by decide +kernel
theorem dX0_passBeat_34 : decode cX0_passBeat 34 = .ok (.invokevirtual 145, 3) := by decide +kernel
theorem dX0_passBeat_37 : decode cX0_passBeat 37 = .ok (.aload_n 0, 1) := by decide +kernel
theorem dX0_passBeat_38 : decode cX0_passBeat 38 = .ok (.iload_n 2, 1) := by decide +kernel
theorem dX0_passBeat_39 : decode cX0_passBeat 39 = .ok (.invokevirtual 148, 3) := by decide +kernel
theorem dX0_passBeat_42 : decode cX0_passBeat 42 = .ok (.aload_n 0, 1) := by decide +kernel
theorem dX0_passBeat_43 : decode cX0_passBeat 43 = .ok (.dup, 1) := by decide +kernel
theorem dX0_passBeat_44 : decode cX0_passBeat 44 = .ok (.getfield 56, 3) := by decide +kernel
theorem dX0_passBeat_47 : decode cX0_passBeat 47 = .ok (.iconst 1, 1) := by decide +kernel
theorem dX0_passBeat_48 : decode cX0_passBeat 48 = .ok (.iadd, 1) := by decide +kernel
theorem dX0_passBeat_49 : decode cX0_passBeat 49 = .ok (.putfield 56, 3) := by decide +kernel
theorem dX0_passBeat_52 : decode cX0_passBeat 52 = .ok (.iload_n 3, 1) := by decide +kernel
theorem dX0_passBeat_53 : decode cX0_passBeat 53 = .ok (.ireturn, 1) := by decide +kernel
theorem dX0_beginWords_0 : decode cX0_beginWords 0 = .ok (.iconst 0, 1) := by decide +kernel
theorem dX0_beginWords_1 : decode cX0_beginWords 1 = .ok (.istore_n 2, 1) := by decide +kernel
theorem dX0_beginWords_2 : decode cX0_beginWords 2 = .ok (.iload_n 2, 1) := by decide +kernel
theorem dX0_beginWords_3 : decode cX0_beginWords 3 = .ok (.aload_n 0, 1) := by decide +kernel
theorem dX0_beginWords_4 : decode cX0_beginWords 4 = .ok (.getfield 49, 3) := by decide +kernel
theorem dX0_beginWords_7 : decode cX0_beginWords 7 = .ok (.if_icmp .ge 66, 3) := by decide +kernel
theorem dX0_beginWords_10 : decode cX0_beginWords 10 = .ok (.aload_n 0, 1) := by decide +kernel
theorem dX0_beginWords_11 : decode cX0_beginWords 11 = .ok (.getfield 34, 3) := by decide +kernel
theorem dX0_beginWords_14 : decode cX0_beginWords 14 = .ok (.iload_n 2, 1) := by decide +kernel
theorem dX0_beginWords_15 : decode cX0_beginWords 15 = .ok (.aaload, 1) := by decide +kernel
theorem dX0_beginWords_16 : decode cX0_beginWords 16 = .ok (.astore_n 3, 1) := by decide +kernel
theorem dX0_beginWords_17 : decode cX0_beginWords 17 = .ok (.aload_n 3, 1) := by decide +kernel
theorem dX0_beginWords_18 : decode cX0_beginWords 18 = .ok (.invokevirtual 151, 3) := by decide +kernel
theorem dX0_beginWords_21 : decode cX0_beginWords 21 = .ok (.ifCond .eq 46, 3) := by decide +kernel
theorem dX0_beginWords_24 : decode cX0_beginWords 24 = .ok (.aload_n 3, 1) := by decide +kernel
theorem dX0_beginWords_25 : decode cX0_beginWords 25 = .ok (.invokevirtual 121, 3) := by decide +kernel
theorem dX0_beginWords_28 : decode cX0_beginWords 28 = .ok (.ifCond .eq 6, 3) := by decide +kernel
theorem dX0_beginWords_31 : decode cX0_beginWords 31 = .ok (.goto 36, 3) := by decide +kernel
theorem dX0_beginWords_34 : decode cX0_beginWords 34 = .ok (.aload_n 3, 1) := by decide +kernel
theorem dX0_beginWords_35 : decode cX0_beginWords 35 = .ok (.getfield 91, 3) := by decide +kernel
theorem dX0_beginWords_38 : decode cX0_beginWords 38 = .ok (.iconst 0, 1) := by decide +kernel
theorem dX0_beginWords_39 : decode cX0_beginWords 39 = .ok (.invokevirtual 154, 3) := by decide +kernel
theorem dX0_beginWords_42 : decode cX0_beginWords 42 = .ok (.istore 4, 2) := by decide +kernel
theorem dX0_beginWords_44 : decode cX0_beginWords 44 = .ok (.aload_n 0, 1) := by decide +kernel
theorem dX0_beginWords_45 : decode cX0_beginWords 45 = .ok (.iload 4, 2) := by decide +kernel
theorem dX0_beginWords_47 : decode cX0_beginWords 47 = .ok (.invokevirtual 157, 3) := by decide +kernel
theorem dX0_beginWords_50 : decode cX0_beginWords 50 = .ok (.ifCond .eq 17, 3) := by decide +kernel
theorem dX0_beginWords_53 : decode cX0_beginWords 53 = .ok (.aload_n 3, 1) := by decide +kernel
theorem dX0_beginWords_54 : decode cX0_beginWords 54 = .ok (.iload 4, 2) := by decide +kernel
theorem dX0_beginWords_56 : decode cX0_beginWords 56 = .ok (.iload_n 1, 1) := by decide +kernel
theorem dX0_beginWords_57 : decode cX0_beginWords 57 = .ok (.aload_n 0, 1) := by decide +kernel
theorem dX0_beginWords_58 : decode cX0_beginWords 58 = .ok (.iload 4, 2) := by decide +kernel
theorem dX0_beginWords_60 : decode cX0_beginWords 60 = .ok (.invokevirtual 160, 3) := by decide +kernel
theorem dX0_beginWords_63 : decode cX0_beginWords 63 = .ok (.iand, 1) := by decide +kernel
theorem dX0_beginWords_64 : decode cX0_beginWords 64 = .ok (.invokevirtual 163, 3) := by decide +kernel
theorem dX0_beginWords_67 : decode cX0_beginWords 67 = .ok (.iinc 2 1, 3) := by decide +kernel
theorem dX0_beginWords_70 : decode cX0_beginWords 70 = .ok (.goto (-68), 3) := by decide +kernel
theorem dX0_beginWords_73 : decode cX0_beginWords 73 = .ok (.return_, 1) := by decide +kernel
theorem dX0_pulledWires_0 : decode cX0_pulledWires 0 = .ok (.iconst 0, 1) := by decide +kernel
theorem dX0_pulledWires_1 : decode cX0_pulledWires 1 = .ok (.istore_n 1, 1) := by decide +kernel
theorem dX0_pulledWires_2 : decode cX0_pulledWires 2 = .ok (.iconst 0, 1) := by decide +kernel
theorem dX0_pulledWires_3 : decode cX0_pulledWires 3 = .ok (.istore_n 2, 1) := by decide +kernel
theorem dX0_pulledWires_4 : decode cX0_pulledWires 4 = .ok (.iload_n 2, 1) := by decide +kernel
theorem dX0_pulledWires_5 : decode cX0_pulledWires 5 = .ok (.aload_n 0, 1) := by decide +kernel
theorem dX0_pulledWires_6 : decode cX0_pulledWires 6 = .ok (.getfield 49, 3) := by decide +kernel
theorem dX0_pulledWires_9 : decode cX0_pulledWires 9 = .ok (.if_icmp .ge 45, 3) := by decide +kernel
theorem dX0_pulledWires_12 : decode cX0_pulledWires 12 = .ok (.aload_n 0, 1) := by decide +kernel
theorem dX0_pulledWires_13 : decode cX0_pulledWires 13 = .ok (.getfield 34, 3) := by decide +kernel
theorem dX0_pulledWires_16 : decode cX0_pulledWires 16 = .ok (.iload_n 2, 1) := by decide +kernel
theorem dX0_pulledWires_17 : decode cX0_pulledWires 17 = .ok (.aaload, 1) := by decide +kernel
theorem dX0_pulledWires_18 : decode cX0_pulledWires 18 = .ok (.invokevirtual 121, 3) := by decide +kernel
theorem dX0_pulledWires_21 : decode cX0_pulledWires 21 = .ok (.ifCond .eq 27, 3) := by decide +kernel
theorem dX0_pulledWires_24 : decode cX0_pulledWires 24 = .ok (.aload_n 0, 1) := by decide +kernel
theorem dX0_pulledWires_25 : decode cX0_pulledWires 25 = .ok (.getfield 34, 3) := by decide +kernel
theorem dX0_pulledWires_28 : decode cX0_pulledWires 28 = .ok (.iload_n 2, 1) := by decide +kernel
theorem dX0_pulledWires_29 : decode cX0_pulledWires 29 = .ok (.aaload, 1) := by decide +kernel
theorem dX0_pulledWires_30 : decode cX0_pulledWires 30 = .ok (.invokevirtual 166, 3) := by decide +kernel
theorem dX0_pulledWires_33 : decode cX0_pulledWires 33 = .ok (.ifCond .ne 15, 3) := by decide +kernel
theorem dX0_pulledWires_36 : decode cX0_pulledWires 36 = .ok (.iload_n 1, 1) := by decide +kernel
theorem dX0_pulledWires_37 : decode cX0_pulledWires 37 = .ok (.aload_n 0, 1) := by decide +kernel
theorem dX0_pulledWires_38 : decode cX0_pulledWires 38 = .ok (.getfield 34, 3) := by decide +kernel
theorem dX0_pulledWires_41 : decode cX0_pulledWires 41 = .ok (.iload_n 2, 1) := by decide +kernel
theorem dX0_pulledWires_42 : decode cX0_pulledWires 42 = .ok (.aaload, 1) := by decide +kernel
theorem dX0_pulledWires_43 : decode cX0_pulledWires 43 = .ok (.getfield 169, 3) := by decide +kernel
theorem dX0_pulledWires_46 : decode cX0_pulledWires 46 = .ok (.ior, 1) := by decide +kernel
theorem dX0_pulledWires_47 : decode cX0_pulledWires 47 = .ok (.istore_n 1, 1) := by decide +kernel
theorem dX0_pulledWires_48 : decode cX0_pulledWires 48 = .ok (.iinc 2 1, 3) := by decide +kernel
theorem dX0_pulledWires_51 : decode cX0_pulledWires 51 = .ok (.goto (-47), 3) := by decide +kernel
theorem dX0_pulledWires_54 : decode cX0_pulledWires 54 = .ok (.iload_n 1, 1) := by decide +kernel
theorem dX0_pulledWires_55 : decode cX0_pulledWires 55 = .ok (.ireturn, 1) := by decide +kernel
theorem dX0_goOnSpeaking_0 : decode cX0_goOnSpeaking 0 = .ok (.iconst 0, 1) := by decide +kernel
theorem dX0_goOnSpeaking_1 : decode cX0_goOnSpeaking 1 = .ok (.istore_n 3, 1) := by decide +kernel
theorem dX0_goOnSpeaking_2 : decode cX0_goOnSpeaking 2 = .ok (.iconst 0, 1) := by decide +kernel
theorem dX0_goOnSpeaking_3 : decode cX0_goOnSpeaking 3 = .ok (.istore 4, 2) := by decide +kernel
theorem dX0_goOnSpeaking_5 : decode cX0_goOnSpeaking 5 = .ok (.iload 4, 2) := by decide +kernel
theorem dX0_goOnSpeaking_7 : decode cX0_goOnSpeaking 7 = .ok (.aload_n 0, 1) := by decide +kernel
theorem dX0_goOnSpeaking_8 : decode cX0_goOnSpeaking 8 = .ok (.getfield 49, 3) := by decide +kernel
theorem dX0_goOnSpeaking_11 : decode cX0_goOnSpeaking 11 = .ok (.if_icmp .ge 110, 3) := by decide +kernel
theorem dX0_goOnSpeaking_14 : decode cX0_goOnSpeaking 14 = .ok (.aload_n 0, 1) := by decide +kernel
theorem dX0_goOnSpeaking_15 : decode cX0_goOnSpeaking 15 = .ok (.getfield 34, 3) := by decide +kernel
theorem dX0_goOnSpeaking_18 : decode cX0_goOnSpeaking 18 = .ok (.iload 4, 2) := by decide +kernel
theorem dX0_goOnSpeaking_20 : decode cX0_goOnSpeaking 20 = .ok (.aaload, 1) := by decide +kernel
theorem dX0_goOnSpeaking_21 : decode cX0_goOnSpeaking 21 = .ok (.astore 5, 2) := by decide +kernel
theorem dX0_goOnSpeaking_23 : decode cX0_goOnSpeaking 23 = .ok (.aload 5, 2) := by decide +kernel
theorem dX0_goOnSpeaking_25 : decode cX0_goOnSpeaking 25 = .ok (.invokevirtual 121, 3) := by decide +kernel
theorem dX0_goOnSpeaking_28 : decode cX0_goOnSpeaking 28 = .ok (.ifCond .ne 6, 3) := by decide +kernel
theorem dX0_goOnSpeaking_31 : decode cX0_goOnSpeaking 31 = .ok (.goto 84, 3) := by decide +kernel
theorem dX0_goOnSpeaking_34 : decode cX0_goOnSpeaking 34 = .ok (.aload 5, 2) := by decide +kernel
theorem dX0_goOnSpeaking_36 : decode cX0_goOnSpeaking 36 = .ok (.invokevirtual 166, 3) := by decide +kernel
theorem dX0_goOnSpeaking_39 : decode cX0_goOnSpeaking 39 = .ok (.ifCond .eq 22, 3) := by decide +kernel
theorem dX0_goOnSpeaking_42 : decode cX0_goOnSpeaking 42 = .ok (.aload 5, 2) := by decide +kernel
theorem dX0_goOnSpeaking_44 : decode cX0_goOnSpeaking 44 = .ok (.getfield 169, 3) := by decide +kernel
theorem dX0_goOnSpeaking_47 : decode cX0_goOnSpeaking 47 = .ok (.iload_n 1, 1) := by decide +kernel
theorem dX0_goOnSpeaking_48 : decode cX0_goOnSpeaking 48 = .ok (.iand, 1) := by decide +kernel
theorem dX0_goOnSpeaking_49 : decode cX0_goOnSpeaking 49 = .ok (.ifCond .ne 12, 3) := by decide +kernel
theorem dX0_goOnSpeaking_52 : decode cX0_goOnSpeaking 52 = .ok (.aload_n 0, 1) := by decide +kernel
theorem dX0_goOnSpeaking_53 : decode cX0_goOnSpeaking 53 = .ok (.aload 5, 2) := by decide +kernel
theorem dX0_goOnSpeaking_55 : decode cX0_goOnSpeaking 55 = .ok (.invokevirtual 125, 3) := by decide +kernel
theorem dX0_goOnSpeaking_58 : decode cX0_goOnSpeaking 58 = .ok (.goto 57, 3) := by decide +kernel
theorem dX0_goOnSpeaking_61 : decode cX0_goOnSpeaking 61 = .ok (.aload 5, 2) := by decide +kernel
theorem dX0_goOnSpeaking_63 : decode cX0_goOnSpeaking 63 = .ok (.getfield 172, 3) := by decide +kernel
theorem dX0_goOnSpeaking_66 : decode cX0_goOnSpeaking 66 = .ok (.bipush 10, 2) := by decide +kernel
theorem dX0_goOnSpeaking_68 : decode cX0_goOnSpeaking 68 = .ok (.if_icmp .ge 17, 3) := by decide +kernel
theorem dX0_goOnSpeaking_71 : decode cX0_goOnSpeaking 71 = .ok (.aload 5, 2) := by decide +kernel
theorem dX0_goOnSpeaking_73 : decode cX0_goOnSpeaking 73 = .ok (.dup, 1) := by decide +kernel
theorem dX0_goOnSpeaking_74 : decode cX0_goOnSpeaking 74 = .ok (.getfield 172, 3) := by decide +kernel
theorem dX0_goOnSpeaking_77 : decode cX0_goOnSpeaking 77 = .ok (.iconst 1, 1) := by decide +kernel
theorem dX0_goOnSpeaking_78 : decode cX0_goOnSpeaking 78 = .ok (.iadd, 1) := by decide +kernel
theorem dX0_goOnSpeaking_79 : decode cX0_goOnSpeaking 79 = .ok (.putfield 172, 3) := by decide +kernel
theorem dX0_goOnSpeaking_82 : decode cX0_goOnSpeaking 82 = .ok (.goto 33, 3) := by decide +kernel
theorem dX0_goOnSpeaking_85 : decode cX0_goOnSpeaking 85 = .ok (.aload 5, 2) := by decide +kernel
theorem dX0_goOnSpeaking_87 : decode cX0_goOnSpeaking 87 = .ok (.getfield 175, 3) := by decide +kernel
theorem dX0_goOnSpeaking_90 : decode cX0_goOnSpeaking 90 = .ok (.iload_n 2, 1) := by decide +kernel
theorem dX0_goOnSpeaking_91 : decode cX0_goOnSpeaking 91 = .ok (.iconst (-1), 1) := by decide +kernel
theorem dX0_goOnSpeaking_92 : decode cX0_goOnSpeaking 92 = .ok (.ixor, 1) := by decide +kernel
theorem dX0_goOnSpeaking_93 : decode cX0_goOnSpeaking 93 = .ok (.iand, 1) := by decide +kernel
theorem dX0_goOnSpeaking_94 : decode cX0_goOnSpeaking 94 = .ok (.ifCond .ne 15, 3) := by decide +kernel
theorem dX0_goOnSpeaking_97 : decode cX0_goOnSpeaking 97 = .ok (.aload_n 0, 1) := by decide +kernel
theorem dX0_goOnSpeaking_98 : decode cX0_goOnSpeaking 98 = .ok (.aload 5, 2) := by decide +kernel
theorem dX0_goOnSpeaking_100 : decode cX0_goOnSpeaking 100 = .ok (.invokevirtual 178, 3) := by decide +kernel
theorem dX0_goOnSpeaking_103 : decode cX0_goOnSpeaking 103 = .ok (.iinc 3 1, 3) := by decide +kernel
theorem dX0_goOnSpeaking_106 : decode cX0_goOnSpeaking 106 = .ok (.goto 9, 3) := by decide +kernel
theorem dX0_goOnSpeaking_109 : decode cX0_goOnSpeaking 109 = .ok (.aload_n 0, 1) := by decide +kernel
theorem dX0_goOnSpeaking_110 : decode cX0_goOnSpeaking 110 = .ok (.aload 5, 2) := by decide +kernel
theorem dX0_goOnSpeaking_112 : decode cX0_goOnSpeaking 112 = .ok (.invokevirtual 125, 3) := by decide +kernel
theorem dX0_goOnSpeaking_115 : decode cX0_goOnSpeaking 115 = .ok (.iinc 4 1, 3) := by decide +kernel
theorem dX0_goOnSpeaking_118 : decode cX0_goOnSpeaking 118 = .ok (.goto (-113), 3) := by decide +kernel
theorem dX0_goOnSpeaking_121 : decode cX0_goOnSpeaking 121 = .ok (.iload_n 3, 1) := by decide +kernel
theorem dX0_goOnSpeaking_122 : decode cX0_goOnSpeaking 122 = .ok (.ireturn, 1) := by decide +kernel
theorem dX0_beHeard_0 : decode cX0_beHeard 0 = .ok (.aload_n 1, 1) := by decide +kernel
theorem dX0_beHeard_1 : decode cX0_beHeard 1 = .ok (.getfield 91, 3) := by decide +kernel
theorem dX0_beHeard_4 : decode cX0_beHeard 4 = .ok (.iconst 0, 1) := by decide +kernel
theorem dX0_beHeard_5 : decode cX0_beHeard 5 = .ok (.invokevirtual 104, 3) := by decide +kernel
theorem dX0_beHeard_8 : decode cX0_beHeard 8 = .ok (.istore_n 2, 1) := by decide +kernel
theorem dX0_beHeard_9 : decode cX0_beHeard 9 = .ok (.aload_n 1, 1) := by decide +kernel
theorem dX0_beHeard_10 : decode cX0_beHeard 10 = .ok (.getfield 91, 3) := by decide +kernel
theorem dX0_beHeard_13 : decode cX0_beHeard 13 = .ok (.iconst 0, 1) := by decide +kernel
theorem dX0_beHeard_14 : decode cX0_beHeard 14 = .ok (.invokevirtual 154, 3) := by decide +kernel
theorem dX0_beHeard_17 : decode cX0_beHeard 17 = .ok (.istore_n 3, 1) := by decide +kernel
theorem dX0_beHeard_18 : decode cX0_beHeard 18 = .ok (.aload_n 1, 1) := by decide +kernel
theorem dX0_beHeard_19 : decode cX0_beHeard 19 = .ok (.getfield 175, 3) := by decide +kernel
theorem dX0_beHeard_22 : decode cX0_beHeard 22 = .ok (.iconst 1, 1) := by decide +kernel
theorem dX0_beHeard_23 : decode cX0_beHeard 23 = .ok (.aload_n 1, 1) := by decide +kernel
theorem dX0_beHeard_24 : decode cX0_beHeard 24 = .ok (.getfield 181, 3) := by decide +kernel
theorem dX0_beHeard_27 : decode cX0_beHeard 27 = .ok (.ishl, 1) := by decide +kernel
theorem dX0_beHeard_28 : decode cX0_beHeard 28 = .ok (.iconst (-1), 1) := by decide +kernel
theorem dX0_beHeard_29 : decode cX0_beHeard 29 = .ok (.ixor, 1) := by decide +kernel
theorem dX0_beHeard_30 : decode cX0_beHeard 30 = .ok (.iand, 1) := by decide +kernel
theorem dX0_beHeard_31 : decode cX0_beHeard 31 = .ok (.istore 4, 2) := by decide +kernel
theorem dX0_beHeard_33 : decode cX0_beHeard 33 = .ok (.iconst 0, 1) := by decide +kernel
theorem dX0_beHeard_34 : decode cX0_beHeard 34 = .ok (.istore 5, 2) := by decide +kernel
theorem dX0_beHeard_36 : decode cX0_beHeard 36 = .ok (.iload 5, 2) := by decide +kernel
theorem dX0_beHeard_38 : decode cX0_beHeard 38 = .ok (.aload_n 0, 1) := by decide +kernel
theorem dX0_beHeard_39 : decode cX0_beHeard 39 = .ok (.getfield 49, 3) := by decide +kernel
theorem dX0_beHeard_42 : decode cX0_beHeard 42 = .ok (.if_icmp .ge 61, 3) := by decide +kernel
theorem dX0_beHeard_45 : decode cX0_beHeard 45 = .ok (.iload 4, 2) := by decide +kernel
theorem dX0_beHeard_47 : decode cX0_beHeard 47 = .ok (.iload 5, 2) := by decide +kernel
theorem dX0_beHeard_49 : decode cX0_beHeard 49 = .ok (.ishr, 1) := by decide +kernel
theorem dX0_beHeard_50 : decode cX0_beHeard 50 = .ok (.iconst 1, 1) := by decide +kernel
theorem dX0_beHeard_51 : decode cX0_beHeard 51 = .ok (.iand, 1) := by decide +kernel
theorem dX0_beHeard_52 : decode cX0_beHeard 52 = .ok (.ifCond .ne 6, 3) := by decide +kernel
theorem dX0_beHeard_55 : decode cX0_beHeard 55 = .ok (.goto 42, 3) := by decide +kernel
theorem dX0_beHeard_58 : decode cX0_beHeard 58 = .ok (.aload_n 0, 1) := by decide +kernel
theorem dX0_beHeard_59 : decode cX0_beHeard 59 = .ok (.getfield 34, 3) := by decide +kernel
theorem dX0_beHeard_62 : decode cX0_beHeard 62 = .ok (.iload 5, 2) := by decide +kernel
theorem dX0_beHeard_64 : decode cX0_beHeard 64 = .ok (.aaload, 1) := by decide +kernel
theorem dX0_beHeard_65 : decode cX0_beHeard 65 = .ok (.getfield 184, 3) := by decide +kernel
theorem dX0_beHeard_68 : decode cX0_beHeard 68 = .ok (.iload_n 2, 1) := by decide +kernel
theorem dX0_beHeard_69 : decode cX0_beHeard 69 = .ok (.aload_n 1, 1) := by decide +kernel
theorem dX0_beHeard_70 : decode cX0_beHeard 70 = .ok (.getfield 181, 3) := by decide +kernel
theorem dX0_beHeard_73 : decode cX0_beHeard 73 = .ok (.iload_n 3, 1) := by decide +kernel
theorem dX0_beHeard_74 : decode cX0_beHeard 74 = .ok (.aload_n 0, 1) := by decide +kernel
theorem dX0_beHeard_75 : decode cX0_beHeard 75 = .ok (.getfield 56, 3) := by decide +kernel
theorem dX0_beHeard_78 : decode cX0_beHeard 78 = .ok (.invokevirtual 188, 3) := by decide +kernel
theorem dX0_beHeard_81 : decode cX0_beHeard 81 = .ok (.aload_n 0, 1) := by decide +kernel
theorem dX0_beHeard_82 : decode cX0_beHeard 82 = .ok (.getfield 34, 3) := by decide +kernel
theorem dX0_beHeard_85 : decode cX0_beHeard 85 = .ok (.iload 5, 2) := by decide +kernel
theorem dX0_beHeard_87 : decode cX0_beHeard 87 = .ok (.aaload, 1) := by decide +kernel
theorem dX0_beHeard_88 : decode cX0_beHeard 88 = .ok (.dup, 1) := by decide +kernel
theorem dX0_beHeard_89 : decode cX0_beHeard 89 = .ok (.getfield 193, 3) := by decide +kernel
theorem dX0_beHeard_92 : decode cX0_beHeard 92 = .ok (.iconst 1, 1) := by decide +kernel
theorem dX0_beHeard_93 : decode cX0_beHeard 93 = .ok (.iadd, 1) := by decide +kernel
theorem dX0_beHeard_94 : decode cX0_beHeard 94 = .ok (.putfield 193, 3) := by decide +kernel
theorem dX0_beHeard_97 : decode cX0_beHeard 97 = .ok (.iinc 5 1, 3) := by decide +kernel
theorem dX0_beHeard_100 : decode cX0_beHeard 100 = .ok (.goto (-64), 3) := by decide +kernel
theorem dX0_beHeard_103 : decode cX0_beHeard 103 = .ok (.aload_n 1, 1) := by decide +kernel
theorem dX0_beHeard_104 : decode cX0_beHeard 104 = .ok (.dup, 1) := by decide +kernel
theorem dX0_beHeard_105 : decode cX0_beHeard 105 = .ok (.getfield 196, 3) := by decide +kernel
theorem dX0_beHeard_108 : decode cX0_beHeard 108 = .ok (.iconst 1, 1) := by decide +kernel
theorem dX0_beHeard_109 : decode cX0_beHeard 109 = .ok (.iadd, 1) := by decide +kernel
theorem dX0_beHeard_110 : decode cX0_beHeard 110 = .ok (.putfield 196, 3) := by decide +kernel
theorem dX0_beHeard_113 : decode cX0_beHeard 113 = .ok (.iload_n 3, 1) := by decide +kernel
theorem dX0_beHeard_114 : decode cX0_beHeard 114 = .ok (.invokestatic 84, 3) := by decide +kernel
theorem dX0_beHeard_117 : decode cX0_beHeard 117 = .ok (.ifCond .eq 13, 3) := by decide +kernel
theorem dX0_beHeard_120 : decode cX0_beHeard 120 = .ok (.aload_n 0, 1) := by decide +kernel
theorem dX0_beHeard_121 : decode cX0_beHeard 121 = .ok (.getfield 26, 3) := by decide +kernel
theorem dX0_beHeard_124 : decode cX0_beHeard 124 = .ok (.iload_n 3, 1) := by decide +kernel
theorem dX0_beHeard_125 : decode cX0_beHeard 125 = .ok (.dup2, 1) := by decide +kernel
theorem dX0_beHeard_126 : decode cX0_beHeard 126 = .ok (.iaload, 1) := by decide +kernel
theorem dX0_beHeard_127 : decode cX0_beHeard 127 = .ok (.iconst 1, 1) := by decide +kernel
theorem dX0_beHeard_128 : decode cX0_beHeard 128 = .ok (.iadd, 1) := by decide +kernel
theorem dX0_beHeard_129 : decode cX0_beHeard 129 = .ok (.iastore, 1) := by decide +kernel
theorem dX0_beHeard_130 : decode cX0_beHeard 130 = .ok (.aload_n 1, 1) := by decide +kernel
theorem dX0_beHeard_131 : decode cX0_beHeard 131 = .ok (.getfield 91, 3) := by decide +kernel
theorem dX0_beHeard_134 : decode cX0_beHeard 134 = .ok (.invokevirtual 108, 3) := by decide +kernel
theorem dX0_beHeard_137 : decode cX0_beHeard 137 = .ok (.aload_n 1, 1) := by decide +kernel
theorem dX0_beHeard_138 : decode cX0_beHeard 138 = .ok (.invokevirtual 111, 3) := by decide +kernel
theorem dX0_beHeard_141 : decode cX0_beHeard 141 = .ok (.return_, 1) := by decide +kernel
theorem dX0_giveUp_0 : decode cX0_giveUp 0 = .ok (.aload_n 1, 1) := by decide +kernel
theorem dX0_giveUp_1 : decode cX0_giveUp 1 = .ok (.getfield 91, 3) := by decide +kernel
theorem dX0_giveUp_4 : decode cX0_giveUp 4 = .ok (.iconst 0, 1) := by decide +kernel
theorem dX0_giveUp_5 : decode cX0_giveUp 5 = .ok (.invokevirtual 154, 3) := by decide +kernel
theorem dX0_giveUp_8 : decode cX0_giveUp 8 = .ok (.istore_n 2, 1) := by decide +kernel
theorem dX0_giveUp_9 : decode cX0_giveUp 9 = .ok (.aload_n 1, 1) := by decide +kernel
theorem dX0_giveUp_10 : decode cX0_giveUp 10 = .ok (.invokevirtual 111, 3) := by decide +kernel
theorem dX0_giveUp_13 : decode cX0_giveUp 13 = .ok (.aload_n 1, 1) := by decide +kernel
theorem dX0_giveUp_14 : decode cX0_giveUp 14 = .ok (.dup, 1) := by decide +kernel
theorem dX0_giveUp_15 : decode cX0_giveUp 15 = .ok (.getfield 199, 3) := by decide +kernel
theorem dX0_giveUp_18 : decode cX0_giveUp 18 = .ok (.iconst 1, 1) := by decide +kernel
theorem dX0_giveUp_19 : decode cX0_giveUp 19 = .ok (.iadd, 1) := by decide +kernel
theorem dX0_giveUp_20 : decode cX0_giveUp 20 = .ok (.putfield 199, 3) := by decide +kernel
theorem dX0_giveUp_23 : decode cX0_giveUp 23 = .ok (.aload_n 1, 1) := by decide +kernel
theorem dX0_giveUp_24 : decode cX0_giveUp 24 = .ok (.getfield 91, 3) := by decide +kernel
theorem dX0_giveUp_27 : decode cX0_giveUp 27 = .ok (.invokevirtual 202, 3) := by decide +kernel
theorem dX0_giveUp_30 : decode cX0_giveUp 30 = .ok (.aload_n 0, 1) := by decide +kernel
theorem dX0_giveUp_31 : decode cX0_giveUp 31 = .ok (.getfield 18, 3) := by decide +kernel
theorem dX0_giveUp_34 : decode cX0_giveUp 34 = .ok (.iconst 4, 1) := by decide +kernel
theorem dX0_giveUp_35 : decode cX0_giveUp 35 = .ok (.iaload, 1) := by decide +kernel
theorem dX0_giveUp_36 : decode cX0_giveUp 36 = .ok (.if_icmp .ge 4, 3) := by decide +kernel
theorem dX0_giveUp_39 : decode cX0_giveUp 39 = .ok (.return_, 1) := by decide +kernel
theorem dX0_giveUp_40 : decode cX0_giveUp 40 = .ok (.aload_n 1, 1) := by decide +kernel
theorem dX0_giveUp_41 : decode cX0_giveUp 41 = .ok (.getfield 91, 3) := by decide +kernel
theorem dX0_giveUp_44 : decode cX0_giveUp 44 = .ok (.invokevirtual 108, 3) := by decide +kernel
theorem dX0_giveUp_47 : decode cX0_giveUp 47 = .ok (.aload_n 1, 1) := by decide +kernel
theorem dX0_giveUp_48 : decode cX0_giveUp 48 = .ok (.dup, 1) := by decide +kernel
theorem dX0_giveUp_49 : decode cX0_giveUp 49 = .ok (.getfield 205, 3) := by decide +kernel
theorem dX0_giveUp_52 : decode cX0_giveUp 52 = .ok (.iconst 1, 1) := by decide +kernel
theorem dX0_giveUp_53 : decode cX0_giveUp 53 = .ok (.iadd, 1) := by decide +kernel
theorem dX0_giveUp_54 : decode cX0_giveUp 54 = .ok (.putfield 205, 3) := by decide +kernel
theorem dX0_giveUp_57 : decode cX0_giveUp 57 = .ok (.iload_n 2, 1) := by decide +kernel
theorem dX0_giveUp_58 : decode cX0_giveUp 58 = .ok (.invokestatic 84, 3) := by decide +kernel
theorem dX0_giveUp_61 : decode cX0_giveUp 61 = .ok (.ifCond .eq 13, 3) := by decide +kernel
theorem dX0_giveUp_64 : decode cX0_giveUp 64 = .ok (.aload_n 0, 1) := by decide +kernel
theorem dX0_giveUp_65 : decode cX0_giveUp 65 = .ok (.getfield 29, 3) := by decide +kernel
theorem dX0_giveUp_68 : decode cX0_giveUp 68 = .ok (.iload_n 2, 1) := by decide +kernel
theorem dX0_giveUp_69 : decode cX0_giveUp 69 = .ok (.dup2, 1) := by decide +kernel
theorem dX0_giveUp_70 : decode cX0_giveUp 70 = .ok (.iaload, 1) := by decide +kernel
theorem dX0_giveUp_71 : decode cX0_giveUp 71 = .ok (.iconst 1, 1) := by decide +kernel
theorem dX0_giveUp_72 : decode cX0_giveUp 72 = .ok (.iadd, 1) := by decide +kernel
theorem dX0_giveUp_73 : decode cX0_giveUp 73 = .ok (.iastore, 1) := by decide +kernel
theorem dX0_giveUp_74 : decode cX0_giveUp 74 = .ok (.return_, 1) := by decide +kernel
theorem dX0_changeCharges_0 : decode cX0_changeCharges 0 = .ok (.aload_n 0, 1) := by decide +kernel
theorem dX0_changeCharges_1 : decode cX0_changeCharges 1 = .ok (.getfield 18, 3) := by decide +kernel
theorem dX0_changeCharges_4 : decode cX0_changeCharges 4 = .ok (.iconst 1, 1) := by decide +kernel
theorem dX0_changeCharges_5 : decode cX0_changeCharges 5 = .ok (.iaload, 1) := by decide +kernel
theorem dX0_changeCharges_6 : decode cX0_changeCharges 6 = .ok (.istore_n 2, 1) := by decide +kernel
theorem dX0_changeCharges_7 : decode cX0_changeCharges 7 = .ok (.iconst 0, 1) := by decide +kernel
theorem dX0_changeCharges_8 : decode cX0_changeCharges 8 = .ok (.istore_n 3, 1) := by decide +kernel
theorem dX0_changeCharges_9 : decode cX0_changeCharges 9 = .ok (.iload_n 3, 1) := by decide +kernel
theorem dX0_changeCharges_10 : decode cX0_changeCharges 10 = .ok (.aload_n 0, 1) := by decide +kernel
theorem dX0_changeCharges_11 : decode cX0_changeCharges 11 = .ok (.getfield 49, 3) := by decide +kernel
theorem dX0_changeCharges_14 : decode cX0_changeCharges 14 = .ok (.if_icmp .ge 138, 3) := by decide +kernel
theorem dX0_changeCharges_17 : decode cX0_changeCharges 17 = .ok (.aload_n 0, 1) := by decide +kernel
theorem dX0_changeCharges_18 : decode cX0_changeCharges 18 = .ok (.getfield 34, 3) := by decide +kernel
theorem dX0_changeCharges_21 : decode cX0_changeCharges 21 = .ok (.iload_n 3, 1) := by decide +kernel
theorem dX0_changeCharges_22 : decode cX0_changeCharges 22 = .ok (.aaload, 1) := by decide +kernel
theorem dX0_changeCharges_23 : decode cX0_changeCharges 23 = .ok (.astore 4, 2) := by decide +kernel
theorem dX0_changeCharges_25 : decode cX0_changeCharges 25 = .ok (.aload 4, 2) := by decide +kernel
theorem dX0_changeCharges_27 : decode cX0_changeCharges 27 = .ok (.invokevirtual 151, 3) := by decide +kernel
theorem dX0_changeCharges_30 : decode cX0_changeCharges 30 = .ok (.ifCond .eq 12, 3) := by decide +kernel
theorem dX0_changeCharges_33 : decode cX0_changeCharges 33 = .ok (.aload_n 0, 1) := by decide +kernel
theorem dX0_changeCharges_34 : decode cX0_changeCharges 34 = .ok (.getfield 18, 3) := by decide +kernel
theorem dX0_changeCharges_37 : decode cX0_changeCharges 37 = .ok (.iconst 2, 1) := by decide +kernel
theorem dX0_changeCharges_38 : decode cX0_changeCharges 38 = .ok (.iaload, 1) := by decide +kernel
theorem dX0_changeCharges_39 : decode cX0_changeCharges 39 = .ok (.goto 4, 3) := by decide +kernel
theorem dX0_changeCharges_42 : decode cX0_changeCharges 42 = .ok (.iconst 0, 1) := by decide +kernel
theorem dX0_changeCharges_43 : decode cX0_changeCharges 43 = .ok (.istore 5, 2) := by decide +kernel
theorem dX0_changeCharges_45 : decode cX0_changeCharges 45 = .ok (.aload 4, 2) := by decide +kernel
theorem dX0_changeCharges_47 : decode cX0_changeCharges 47 = .ok (.getfield 68, 3) := by decide +kernel
theorem dX0_changeCharges_50 : decode cX0_changeCharges 50 = .ok (.aload_n 0, 1) := by decide +kernel
theorem dX0_changeCharges_51 : decode cX0_changeCharges 51 = .ok (.getfield 18, 3) := by decide +kernel
theorem dX0_changeCharges_54 : decode cX0_changeCharges 54 = .ok (.iconst 3, 1) := by decide +kernel
theorem dX0_changeCharges_55 : decode cX0_changeCharges 55 = .ok (.iaload, 1) := by decide +kernel
theorem dX0_changeCharges_56 : decode cX0_changeCharges 56 = .ok (.aload 4, 2) := by decide +kernel
theorem dX0_changeCharges_58 : decode cX0_changeCharges 58 = .ok (.getfield 77, 3) := by decide +kernel
theorem dX0_changeCharges_61 : decode cX0_changeCharges 61 = .ok (.iload_n 1, 1) := by decide +kernel
theorem dX0_changeCharges_62 : decode cX0_changeCharges 62 = .ok (.iand, 1) := by decide +kernel
theorem dX0_changeCharges_63 : decode cX0_changeCharges 63 = .ok (.invokestatic 208, 3) := by decide +kernel
theorem dX0_changeCharges_66 : decode cX0_changeCharges 66 = .ok (.imul, 1) := by decide +kernel
theorem dX0_changeCharges_67 : decode cX0_changeCharges 67 = .ok (.iadd, 1) := by decide +kernel
theorem dX0_changeCharges_68 : decode cX0_changeCharges 68 = .ok (.iload 5, 2) := by decide +kernel
theorem dX0_changeCharges_70 : decode cX0_changeCharges 70 = .ok (.isub, 1) := by decide +kernel
theorem dX0_changeCharges_71 : decode cX0_changeCharges 71 = .ok (.istore 6, 2) := by decide +kernel
theorem dX0_changeCharges_73 : decode cX0_changeCharges 73 = .ok (.aload 4, 2) := by decide +kernel
theorem dX0_changeCharges_75 : decode cX0_changeCharges 75 = .ok (.iconst 0, 1) := by decide +kernel
theorem dX0_changeCharges_76 : decode cX0_changeCharges 76 = .ok (.iload 6, 2) := by decide +kernel
theorem dX0_changeCharges_78 : decode cX0_changeCharges 78 = .ok (.iload_n 2, 1) := by decide +kernel
theorem dX0_changeCharges_79 : decode cX0_changeCharges 79 = .ok (.invokestatic 71, 3) := by decide +kernel
theorem dX0_changeCharges_82 : decode cX0_changeCharges 82 = .ok (.invokestatic 213, 3) := by decide +kernel
theorem dX0_changeCharges_85 : decode cX0_changeCharges 85 = .ok (.putfield 68, 3) := by decide +kernel
theorem dX0_changeCharges_88 : decode cX0_changeCharges 88 = .ok (.iload 6, 2) := by decide +kernel
theorem dX0_changeCharges_90 : decode cX0_changeCharges 90 = .ok (.ifCond .ge 23, 3) := by decide +kernel
theorem dX0_changeCharges_93 : decode cX0_changeCharges 93 = .ok (.aload 4, 2) := by decide +kernel
theorem dX0_changeCharges_95 : decode cX0_changeCharges 95 = .ok (.iconst 1, 1) := by decide +kernel
theorem dX0_changeCharges_96 : decode cX0_changeCharges 96 = .ok (.putfield 216, 3) := by decide +kernel
theorem dX0_changeCharges_99 : decode cX0_changeCharges 99 = .ok (.aload 4, 2) := by decide +kernel
theorem dX0_changeCharges_101 : decode cX0_changeCharges 101 = .ok (.invokevirtual 121, 3) := by decide +kernel
theorem dX0_changeCharges_104 : decode cX0_changeCharges 104 = .ok (.ifCond .eq 9, 3) := by decide +kernel
theorem dX0_changeCharges_107 : decode cX0_changeCharges 107 = .ok (.aload_n 0, 1) := by decide +kernel
theorem dX0_changeCharges_108 : decode cX0_changeCharges 108 = .ok (.aload 4, 2) := by decide +kernel
theorem dX0_changeCharges_110 : decode cX0_changeCharges 110 = .ok (.invokevirtual 125, 3) := by decide +kernel
theorem dX0_changeCharges_113 : decode cX0_changeCharges 113 = .ok (.aload 4, 2) := by decide +kernel
theorem dX0_changeCharges_115 : decode cX0_changeCharges 115 = .ok (.getfield 216, 3) := by decide +kernel
theorem dX0_changeCharges_118 : decode cX0_changeCharges 118 = .ok (.ifCond .eq 28, 3) := by decide +kernel
theorem dX0_changeCharges_121 : decode cX0_changeCharges 121 = .ok (.aload 4, 2) := by decide +kernel
theorem dX0_changeCharges_123 : decode cX0_changeCharges 123 = .ok (.getfield 117, 3) := by decide +kernel
theorem dX0_changeCharges_126 : decode cX0_changeCharges 126 = .ok (.ifCond .ne 20, 3) := by decide +kernel
theorem dX0_changeCharges_129 : decode cX0_changeCharges 129 = .ok (.aload 4, 2) := by decide +kernel
theorem dX0_changeCharges_131 : decode cX0_changeCharges 131 = .ok (.getfield 68, 3) := by decide +kernel
theorem dX0_changeCharges_134 : decode cX0_changeCharges 134 = .ok (.iload_n 2, 1) := by decide +kernel
theorem dX0_changeCharges_135 : decode cX0_changeCharges 135 = .ok (.iconst 2, 1) := by decide +kernel
theorem dX0_changeCharges_136 : decode cX0_changeCharges 136 = .ok (.idiv, 1) := by decide +kernel
theorem dX0_changeCharges_137 : decode cX0_changeCharges 137 = .ok (.if_icmp .lt 9, 3) := by decide +kernel
theorem dX0_changeCharges_140 : decode cX0_changeCharges 140 = .ok (.aload 4, 2) := by decide +kernel
theorem dX0_changeCharges_142 : decode cX0_changeCharges 142 = .ok (.iconst 0, 1) := by decide +kernel
theorem dX0_changeCharges_143 : decode cX0_changeCharges 143 = .ok (.putfield 216, 3) := by decide +kernel
theorem dX0_changeCharges_146 : decode cX0_changeCharges 146 = .ok (.iinc 3 1, 3) := by decide +kernel
theorem dX0_changeCharges_149 : decode cX0_changeCharges 149 = .ok (.goto (-140), 3) := by decide +kernel
theorem dX0_changeCharges_152 : decode cX0_changeCharges 152 = .ok (.return_, 1) := by decide +kernel
theorem dX0_restWires_0 : decode cX0_restWires 0 = .ok (.iconst 0, 1) := by decide +kernel
theorem dX0_restWires_1 : decode cX0_restWires 1 = .ok (.istore_n 2, 1) := by decide +kernel
theorem dX0_restWires_2 : decode cX0_restWires 2 = .ok (.iload_n 2, 1) := by decide +kernel
theorem dX0_restWires_3 : decode cX0_restWires 3 = .ok (.bipush 6, 2) := by decide +kernel
theorem dX0_restWires_5 : decode cX0_restWires 5 = .ok (.if_icmp .ge 42, 3) := by decide +kernel
theorem dX0_restWires_8 : decode cX0_restWires 8 = .ok (.aload_n 0, 1) := by decide +kernel
theorem dX0_restWires_9 : decode cX0_restWires 9 = .ok (.getfield 23, 3) := by decide +kernel
theorem dX0_restWires_12 : decode cX0_restWires 12 = .ok (.iload_n 2, 1) := by decide +kernel
theorem dX0_restWires_13 : decode cX0_restWires 13 = .ok (.iload_n 1, 1) := by decide +kernel
theorem dX0_restWires_14 : decode cX0_restWires 14 = .ok (.iload_n 2, 1) := by decide +kernel
theorem dX0_restWires_15 : decode cX0_restWires 15 = .ok (.ishr, 1) := by decide +kernel
theorem dX0_restWires_16 : decode cX0_restWires 16 = .ok (.iconst 1, 1) := by decide +kernel
theorem dX0_restWires_17 : decode cX0_restWires 17 = .ok (.iand, 1) := by decide +kernel
theorem dX0_restWires_18 : decode cX0_restWires 18 = .ok (.iconst 1, 1) := by decide +kernel
theorem dX0_restWires_19 : decode cX0_restWires 19 = .ok (.if_icmp .ne 20, 3) := by decide +kernel
theorem dX0_restWires_22 : decode cX0_restWires 22 = .ok (.aload_n 0, 1) := by decide +kernel
theorem dX0_restWires_23 : decode cX0_restWires 23 = .ok (.getfield 23, 3) := by decide +kernel
theorem dX0_restWires_26 : decode cX0_restWires 26 = .ok (.iload_n 2, 1) := by decide +kernel
theorem dX0_restWires_27 : decode cX0_restWires 27 = .ok (.iaload, 1) := by decide +kernel
theorem dX0_restWires_28 : decode cX0_restWires 28 = .ok (.iconst 1, 1) := by decide +kernel
theorem dX0_restWires_29 : decode cX0_restWires 29 = .ok (.iadd, 1) := by decide +kernel
theorem dX0_restWires_30 : decode cX0_restWires 30 = .ok (.sipush 999, 3) := by decide +kernel
theorem dX0_restWires_33 : decode cX0_restWires 33 = .ok (.invokestatic 71, 3) := by decide +kernel
theorem dX0_restWires_36 : decode cX0_restWires 36 = .ok (.goto 4, 3) := by decide +kernel
theorem dX0_restWires_39 : decode cX0_restWires 39 = .ok (.iconst 0, 1) := by decide +kernel
theorem dX0_restWires_40 : decode cX0_restWires 40 = .ok (.iastore, 1) := by decide +kernel
theorem dX0_restWires_41 : decode cX0_restWires 41 = .ok (.iinc 2 1, 3) := by decide +kernel
theorem dX0_restWires_44 : decode cX0_restWires 44 = .ok (.goto (-42), 3) := by decide +kernel
theorem dX0_restWires_47 : decode cX0_restWires 47 = .ok (.return_, 1) := by decide +kernel
theorem dX0_isRested_0 : decode cX0_isRested 0 = .ok (.iload_n 1, 1) := by decide +kernel
theorem dX0_isRested_1 : decode cX0_isRested 1 = .ok (.invokestatic 84, 3) := by decide +kernel
theorem dX0_isRested_4 : decode cX0_isRested 4 = .ok (.ifCond .eq 22, 3) := by decide +kernel
theorem dX0_isRested_7 : decode cX0_isRested 7 = .ok (.aload_n 0, 1) := by decide +kernel
theorem dX0_isRested_8 : decode cX0_isRested 8 = .ok (.getfield 23, 3) := by decide +kernel
theorem dX0_isRested_11 : decode cX0_isRested 11 = .ok (.iload_n 1, 1) := by decide +kernel
theorem dX0_isRested_12 : decode cX0_isRested 12 = .ok (.iaload, 1) := by decide +kernel
theorem dX0_isRested_13 : decode cX0_isRested 13 = .ok (.aload_n 0, 1) := by decide +kernel
theorem dX0_isRested_14 : decode cX0_isRested 14 = .ok (.getfield 18, 3) := by decide +kernel
theorem dX0_isRested_17 : decode cX0_isRested 17 = .ok (.iconst 0, 1) := by decide +kernel
theorem dX0_isRested_18 : decode cX0_isRested 18 = .ok (.iaload, 1) := by decide +kernel
theorem dX0_isRested_19 : decode cX0_isRested 19 = .ok (.if_icmp .lt 7, 3) := by decide +kernel
theorem dX0_isRested_22 : decode cX0_isRested 22 = .ok (.iconst 1, 1) := by decide +kernel
theorem dX0_isRested_23 : decode cX0_isRested 23 = .ok (.goto 4, 3) := by decide +kernel
theorem dX0_isRested_26 : decode cX0_isRested 26 = .ok (.iconst 0, 1) := by decide +kernel
theorem dX0_isRested_27 : decode cX0_isRested 27 = .ok (.ireturn, 1) := by decide +kernel
theorem dX0_hasFault_0 : decode cX0_hasFault 0 = .ok (.iload_n 1, 1) := by decide +kernel
theorem dX0_hasFault_1 : decode cX0_hasFault 1 = .ok (.invokestatic 84, 3) := by decide +kernel
theorem dX0_hasFault_4 : decode cX0_hasFault 4 = .ok (.ifCond .eq 19, 3) := by decide +kernel
theorem dX0_hasFault_7 : decode cX0_hasFault 7 = .ok (.aload_n 0, 1) := by decide +kernel
theorem dX0_hasFault_8 : decode cX0_hasFault 8 = .ok (.getfield 53, 3) := by decide +kernel
theorem dX0_hasFault_11 : decode cX0_hasFault 11 = .ok (.iload_n 1, 1) := by decide +kernel
theorem dX0_hasFault_12 : decode cX0_hasFault 12 = .ok (.ishr, 1) := by decide +kernel
theorem dX0_hasFault_13 : decode cX0_hasFault 13 = .ok (.iconst 1, 1) := by decide +kernel
theorem dX0_hasFault_14 : decode cX0_hasFault 14 = .ok (.iand, 1) := by decide +kernel
theorem dX0_hasFault_15 : decode cX0_hasFault 15 = .ok (.iconst 1, 1) := by decide +kernel
theorem dX0_hasFault_16 : decode cX0_hasFault 16 = .ok (.if_icmp .ne 7, 3) := by decide +kernel
theorem dX0_hasFault_19 : decode cX0_hasFault 19 = .ok (.iconst 1, 1) := by decide +kernel
theorem dX0_hasFault_20 : decode cX0_hasFault 20 = .ok (.goto 4, 3) := by decide +kernel
theorem dX0_hasFault_23 : decode cX0_hasFault 23 = .ok (.iconst 0, 1) := by decide +kernel
theorem dX0_hasFault_24 : decode cX0_hasFault 24 = .ok (.ireturn, 1) := by decide +kernel
theorem dX0_stationsAt_0 : decode cX0_stationsAt 0 = .ok (.iconst 0, 1) := by decide +kernel
theorem dX0_stationsAt_1 : decode cX0_stationsAt 1 = .ok (.istore_n 2, 1) := by decide +kernel
theorem dX0_stationsAt_2 : decode cX0_stationsAt 2 = .ok (.iconst 0, 1) := by decide +kernel
theorem dX0_stationsAt_3 : decode cX0_stationsAt 3 = .ok (.istore_n 3, 1) := by decide +kernel
theorem dX0_stationsAt_4 : decode cX0_stationsAt 4 = .ok (.iload_n 3, 1) := by decide +kernel
theorem dX0_stationsAt_5 : decode cX0_stationsAt 5 = .ok (.aload_n 0, 1) := by decide +kernel
theorem dX0_stationsAt_6 : decode cX0_stationsAt 6 = .ok (.getfield 49, 3) := by decide +kernel
theorem dX0_stationsAt_9 : decode cX0_stationsAt 9 = .ok (.if_icmp .ge 28, 3) := by decide +kernel
theorem dX0_stationsAt_12 : decode cX0_stationsAt 12 = .ok (.aload_n 0, 1) := by decide +kernel
theorem dX0_stationsAt_13 : decode cX0_stationsAt 13 = .ok (.getfield 34, 3) := by decide +kernel
theorem dX0_stationsAt_16 : decode cX0_stationsAt 16 = .ok (.iload_n 3, 1) := by decide +kernel
theorem dX0_stationsAt_17 : decode cX0_stationsAt 17 = .ok (.aaload, 1) := by decide +kernel
theorem dX0_stationsAt_18 : decode cX0_stationsAt 18 = .ok (.iload_n 1, 1) := by decide +kernel
theorem dX0_stationsAt_19 : decode cX0_stationsAt 19 = .ok (.invokevirtual 88, 3) := by decide +kernel
theorem dX0_stationsAt_22 : decode cX0_stationsAt 22 = .ok (.ifCond .eq 9, 3) := by decide +kernel
theorem dX0_stationsAt_25 : decode cX0_stationsAt 25 = .ok (.iload_n 2, 1) := by decide +kernel
theorem dX0_stationsAt_26 : decode cX0_stationsAt 26 = .ok (.iconst 1, 1) := by decide +kernel
theorem dX0_stationsAt_27 : decode cX0_stationsAt 27 = .ok (.iload_n 3, 1) := by decide +kernel
theorem dX0_stationsAt_28 : decode cX0_stationsAt 28 = .ok (.ishl, 1) := by decide +kernel
theorem dX0_stationsAt_29 : decode cX0_stationsAt 29 = .ok (.ior, 1) := by decide +kernel
theorem dX0_stationsAt_30 : decode cX0_stationsAt 30 = .ok (.istore_n 2, 1) := by decide +kernel
theorem dX0_stationsAt_31 : decode cX0_stationsAt 31 = .ok (.iinc 3 1, 3) := by decide +kernel
theorem dX0_stationsAt_34 : decode cX0_stationsAt 34 = .ok (.goto (-30), 3) := by decide +kernel
theorem dX0_stationsAt_37 : decode cX0_stationsAt 37 = .ok (.iload_n 2, 1) := by decide +kernel
theorem dX0_stationsAt_38 : decode cX0_stationsAt 38 = .ok (.ireturn, 1) := by decide +kernel
theorem dX0_speakersOn_0 : decode cX0_speakersOn 0 = .ok (.iconst 0, 1) := by decide +kernel
theorem dX0_speakersOn_1 : decode cX0_speakersOn 1 = .ok (.istore_n 2, 1) := by decide +kernel
theorem dX0_speakersOn_2 : decode cX0_speakersOn 2 = .ok (.iconst 0, 1) := by decide +kernel
theorem dX0_speakersOn_3 : decode cX0_speakersOn 3 = .ok (.istore_n 3, 1) := by decide +kernel
theorem dX0_speakersOn_4 : decode cX0_speakersOn 4 = .ok (.iload_n 3, 1) := by decide +kernel
theorem dX0_speakersOn_5 : decode cX0_speakersOn 5 = .ok (.aload_n 0, 1) := by decide +kernel
theorem dX0_speakersOn_6 : decode cX0_speakersOn 6 = .ok (.getfield 49, 3) := by decide +kernel
theorem dX0_speakersOn_9 : decode cX0_speakersOn 9 = .ok (.if_icmp .ge 29, 3) := by decide +kernel
theorem dX0_speakersOn_12 : decode cX0_speakersOn 12 = .ok (.aload_n 0, 1) := by decide +kernel
theorem dX0_speakersOn_13 : decode cX0_speakersOn 13 = .ok (.getfield 34, 3) := by decide +kernel
theorem dX0_speakersOn_16 : decode cX0_speakersOn 16 = .ok (.iload_n 3, 1) := by decide +kernel
theorem dX0_speakersOn_17 : decode cX0_speakersOn 17 = .ok (.aaload, 1) := by decide +kernel
theorem dX0_speakersOn_18 : decode cX0_speakersOn 18 = .ok (.getfield 169, 3) := by decide +kernel
theorem dX0_speakersOn_21 : decode cX0_speakersOn 21 = .ok (.iload_n 1, 1) := by decide +kernel
theorem dX0_speakersOn_22 : decode cX0_speakersOn 22 = .ok (.iand, 1) := by decide +kernel
theorem dX0_speakersOn_23 : decode cX0_speakersOn 23 = .ok (.ifCond .eq 9, 3) := by decide +kernel
theorem dX0_speakersOn_26 : decode cX0_speakersOn 26 = .ok (.iload_n 2, 1) := by decide +kernel
theorem dX0_speakersOn_27 : decode cX0_speakersOn 27 = .ok (.iconst 1, 1) := by decide +kernel
theorem dX0_speakersOn_28 : decode cX0_speakersOn 28 = .ok (.iload_n 3, 1) := by decide +kernel
theorem dX0_speakersOn_29 : decode cX0_speakersOn 29 = .ok (.ishl, 1) := by decide +kernel
theorem dX0_speakersOn_30 : decode cX0_speakersOn 30 = .ok (.ior, 1) := by decide +kernel
theorem dX0_speakersOn_31 : decode cX0_speakersOn 31 = .ok (.istore_n 2, 1) := by decide +kernel
theorem dX0_speakersOn_32 : decode cX0_speakersOn 32 = .ok (.iinc 3 1, 3) := by decide +kernel
theorem dX0_speakersOn_35 : decode cX0_speakersOn 35 = .ok (.goto (-31), 3) := by decide +kernel
theorem dX0_speakersOn_38 : decode cX0_speakersOn 38 = .ok (.iload_n 2, 1) := by decide +kernel
theorem dX0_speakersOn_39 : decode cX0_speakersOn 39 = .ok (.ireturn, 1) := by decide +kernel
theorem dX0_awakeStations_0 : decode cX0_awakeStations 0 = .ok (.iconst 0, 1) := by decide +kernel
theorem dX0_awakeStations_1 : decode cX0_awakeStations 1 = .ok (.istore_n 1, 1) := by decide +kernel
theorem dX0_awakeStations_2 : decode cX0_awakeStations 2 = .ok (.iconst 0, 1) := by decide +kernel
theorem dX0_awakeStations_3 : decode cX0_awakeStations 3 = .ok (.istore_n 2, 1) := by decide +kernel
theorem dX0_awakeStations_4 : decode cX0_awakeStations 4 = .ok (.iload_n 2, 1) := by decide +kernel
theorem dX0_awakeStations_5 : decode cX0_awakeStations 5 = .ok (.aload_n 0, 1) := by decide +kernel
theorem dX0_awakeStations_6 : decode cX0_awakeStations 6 = .ok (.getfield 49, 3) := by decide +kernel
theorem dX0_awakeStations_9 : decode cX0_awakeStations 9 = .ok (.if_icmp .ge 27, 3) := by decide +kernel
theorem dX0_awakeStations_12 : decode cX0_awakeStations 12 = .ok (.aload_n 0, 1) := by decide +kernel
theorem dX0_awakeStations_13 : decode cX0_awakeStations 13 = .ok (.getfield 34, 3) := by decide +kernel
theorem dX0_awakeStations_16 : decode cX0_awakeStations 16 = .ok (.iload_n 2, 1) := by decide +kernel
theorem dX0_awakeStations_17 : decode cX0_awakeStations 17 = .ok (.aaload, 1) := by decide +kernel
theorem dX0_awakeStations_18 : decode cX0_awakeStations 18 = .ok (.invokevirtual 151, 3) := by decide +kernel
theorem dX0_awakeStations_21 : decode cX0_awakeStations 21 = .ok (.ifCond .eq 9, 3) := by decide +kernel
theorem dX0_awakeStations_24 : decode cX0_awakeStations 24 = .ok (.iload_n 1, 1) := by decide +kernel
theorem dX0_awakeStations_25 : decode cX0_awakeStations 25 = .ok (.iconst 1, 1) := by decide +kernel
theorem dX0_awakeStations_26 : decode cX0_awakeStations 26 = .ok (.iload_n 2, 1) := by decide +kernel
theorem dX0_awakeStations_27 : decode cX0_awakeStations 27 = .ok (.ishl, 1) := by decide +kernel
theorem dX0_awakeStations_28 : decode cX0_awakeStations 28 = .ok (.ior, 1) := by decide +kernel
theorem dX0_awakeStations_29 : decode cX0_awakeStations 29 = .ok (.istore_n 1, 1) := by decide +kernel
theorem dX0_awakeStations_30 : decode cX0_awakeStations 30 = .ok (.iinc 2 1, 3) := by decide +kernel
theorem dX0_awakeStations_33 : decode cX0_awakeStations 33 = .ok (.goto (-29), 3) := by decide +kernel
theorem dX0_awakeStations_36 : decode cX0_awakeStations 36 = .ok (.iload_n 1, 1) := by decide +kernel
theorem dX0_awakeStations_37 : decode cX0_awakeStations 37 = .ok (.ireturn, 1) := by decide +kernel
theorem dX0_hasWords_0 : decode cX0_hasWords 0 = .ok (.iconst 0, 1) := by decide +kernel
theorem dX0_hasWords_1 : decode cX0_hasWords 1 = .ok (.istore_n 1, 1) := by decide +kernel
theorem dX0_hasWords_2 : decode cX0_hasWords 2 = .ok (.iload_n 1, 1) := by decide +kernel
theorem dX0_hasWords_3 : decode cX0_hasWords 3 = .ok (.aload_n 0, 1) := by decide +kernel
theorem dX0_hasWords_4 : decode cX0_hasWords 4 = .ok (.getfield 49, 3) := by decide +kernel
theorem dX0_hasWords_7 : decode cX0_hasWords 7 = .ok (.if_icmp .ge 26, 3) := by decide +kernel
theorem dX0_hasWords_10 : decode cX0_hasWords 10 = .ok (.aload_n 0, 1) := by decide +kernel
theorem dX0_hasWords_11 : decode cX0_hasWords 11 = .ok (.getfield 34, 3) := by decide +kernel
theorem dX0_hasWords_14 : decode cX0_hasWords 14 = .ok (.iload_n 1, 1) := by decide +kernel
theorem dX0_hasWords_15 : decode cX0_hasWords 15 = .ok (.aaload, 1) := by decide +kernel
theorem dX0_hasWords_16 : decode cX0_hasWords 16 = .ok (.getfield 91, 3) := by decide +kernel
theorem dX0_hasWords_19 : decode cX0_hasWords 19 = .ok (.getfield 95, 3) := by decide +kernel
theorem dX0_hasWords_22 : decode cX0_hasWords 22 = .ok (.ifCond .le 5, 3) := by decide +kernel
theorem dX0_hasWords_25 : decode cX0_hasWords 25 = .ok (.iconst 1, 1) := by decide +kernel
theorem dX0_hasWords_26 : decode cX0_hasWords 26 = .ok (.ireturn, 1) := by decide +kernel
theorem dX0_hasWords_27 : decode cX0_hasWords 27 = .ok (.iinc 1 1, 3) := by decide +kernel
theorem dX0_hasWords_30 : decode cX0_hasWords 30 = .ok (.goto (-28), 3) := by decide +kernel
theorem dX0_hasWords_33 : decode cX0_hasWords 33 = .ok (.iconst 0, 1) := by decide +kernel
theorem dX0_hasWords_34 : decode cX0_hasWords 34 = .ok (.ireturn, 1) := by decide +kernel
theorem dX0_waitingFor_0 : decode cX0_waitingFor 0 = .ok (.iconst 0, 1) := by decide +kernel
theorem dX0_waitingFor_1 : decode cX0_waitingFor 1 = .ok (.istore_n 2, 1) := by decide +kernel
theorem dX0_waitingFor_2 : decode cX0_waitingFor 2 = .ok (.iconst 0, 1) := by decide +kernel
theorem dX0_waitingFor_3 : decode cX0_waitingFor 3 = .ok (.istore_n 3, 1) := by decide +kernel
theorem dX0_waitingFor_4 : decode cX0_waitingFor 4 = .ok (.iload_n 3, 1) := by decide +kernel
theorem dX0_waitingFor_5 : decode cX0_waitingFor 5 = .ok (.aload_n 0, 1) := by decide +kernel
theorem dX0_waitingFor_6 : decode cX0_waitingFor 6 = .ok (.getfield 49, 3) := by decide +kernel
theorem dX0_waitingFor_9 : decode cX0_waitingFor 9 = .ok (.if_icmp .ge 25, 3) := by decide +kernel
theorem dX0_waitingFor_12 : decode cX0_waitingFor 12 = .ok (.iload_n 2, 1) := by decide +kernel
theorem dX0_waitingFor_13 : decode cX0_waitingFor 13 = .ok (.aload_n 0, 1) := by decide +kernel
theorem dX0_waitingFor_14 : decode cX0_waitingFor 14 = .ok (.getfield 34, 3) := by decide +kernel
theorem dX0_waitingFor_17 : decode cX0_waitingFor 17 = .ok (.iload_n 3, 1) := by decide +kernel
theorem dX0_waitingFor_18 : decode cX0_waitingFor 18 = .ok (.aaload, 1) := by decide +kernel
theorem dX0_waitingFor_19 : decode cX0_waitingFor 19 = .ok (.getfield 91, 3) := by decide +kernel
theorem dX0_waitingFor_22 : decode cX0_waitingFor 22 = .ok (.iload_n 1, 1) := by decide +kernel
theorem dX0_waitingFor_23 : decode cX0_waitingFor 23 = .ok (.invokevirtual 219, 3) := by decide +kernel
theorem dX0_waitingFor_26 : decode cX0_waitingFor 26 = .ok (.iadd, 1) := by decide +kernel
theorem dX0_waitingFor_27 : decode cX0_waitingFor 27 = .ok (.istore_n 2, 1) := by decide +kernel
theorem dX0_waitingFor_28 : decode cX0_waitingFor 28 = .ok (.iinc 3 1, 3) := by decide +kernel
theorem dX0_waitingFor_31 : decode cX0_waitingFor 31 = .ok (.goto (-27), 3) := by decide +kernel
theorem dX0_waitingFor_34 : decode cX0_waitingFor 34 = .ok (.iload_n 2, 1) := by decide +kernel
theorem dX0_waitingFor_35 : decode cX0_waitingFor 35 = .ok (.ireturn, 1) := by decide +kernel
theorem dX0_sumOf_0 : decode cX0_sumOf 0 = .ok (.iconst 0, 1) := by decide +kernel
theorem dX0_sumOf_1 : decode cX0_sumOf 1 = .ok (.istore_n 2, 1) := by decide +kernel
theorem dX0_sumOf_2 : decode cX0_sumOf 2 = .ok (.iconst 0, 1) := by decide +kernel
theorem dX0_sumOf_3 : decode cX0_sumOf 3 = .ok (.istore_n 3, 1) := by decide +kernel
theorem dX0_sumOf_4 : decode cX0_sumOf 4 = .ok (.iload_n 3, 1) := by decide +kernel
theorem dX0_sumOf_5 : decode cX0_sumOf 5 = .ok (.aload_n 0, 1) := by decide +kernel
theorem dX0_sumOf_6 : decode cX0_sumOf 6 = .ok (.getfield 49, 3) := by decide +kernel
theorem dX0_sumOf_9 : decode cX0_sumOf 9 = .ok (.if_icmp .ge 22, 3) := by decide +kernel
theorem dX0_sumOf_12 : decode cX0_sumOf 12 = .ok (.iload_n 2, 1) := by decide +kernel
theorem dX0_sumOf_13 : decode cX0_sumOf 13 = .ok (.aload_n 0, 1) := by decide +kernel
theorem dX0_sumOf_14 : decode cX0_sumOf 14 = .ok (.getfield 34, 3) := by decide +kernel
theorem dX0_sumOf_17 : decode cX0_sumOf 17 = .ok (.iload_n 3, 1) := by decide +kernel
theorem dX0_sumOf_18 : decode cX0_sumOf 18 = .ok (.aaload, 1) := by decide +kernel
theorem dX0_sumOf_19 : decode cX0_sumOf 19 = .ok (.iload_n 1, 1) := by decide +kernel
theorem dX0_sumOf_20 : decode cX0_sumOf 20 = .ok (.invokevirtual 222, 3) := by decide +kernel
theorem dX0_sumOf_23 : decode cX0_sumOf 23 = .ok (.iadd, 1) := by decide +kernel
theorem dX0_sumOf_24 : decode cX0_sumOf 24 = .ok (.istore_n 2, 1) := by decide +kernel
theorem dX0_sumOf_25 : decode cX0_sumOf 25 = .ok (.iinc 3 1, 3) := by decide +kernel
theorem dX0_sumOf_28 : decode cX0_sumOf 28 = .ok (.goto (-24), 3) := by decide +kernel
theorem dX0_sumOf_31 : decode cX0_sumOf 31 = .ok (.iload_n 2, 1) := by decide +kernel
theorem dX0_sumOf_32 : decode cX0_sumOf 32 = .ok (.ireturn, 1) := by decide +kernel
theorem dX1_init_0 : decode cX1_init 0 = .ok (.aload_n 0, 1) := by decide +kernel
theorem dX1_init_1 : decode cX1_init 1 = .ok (.invokespecial 3, 3) := by decide +kernel
theorem dX1_init_4 : decode cX1_init 4 = .ok (.aload_n 0, 1) := by decide +kernel
theorem dX1_init_5 : decode cX1_init 5 = .ok (.bipush 7, 2) := by decide +kernel
theorem dX1_init_7 : decode cX1_init 7 = .ok (.anewarray 9, 3) := by decide +kernel
theorem dX1_init_10 : decode cX1_init 10 = .ok (.putfield 11, 3) := by decide +kernel
theorem dX1_init_13 : decode cX1_init 13 = .ok (.iconst 0, 1) := by decide +kernel
theorem dX1_init_14 : decode cX1_init 14 = .ok (.istore_n 1, 1) := by decide +kernel
theorem dX1_init_15 : decode cX1_init 15 = .ok (.iload_n 1, 1) := by decide +kernel
theorem dX1_init_16 : decode cX1_init 16 = .ok (.bipush 6, 2) := by decide +kernel
theorem dX1_init_18 : decode cX1_init 18 = .ok (.if_icmp .gt 22, 3) := by decide +kernel
theorem dX1_init_21 : decode cX1_init 21 = .ok (.aload_n 0, 1) := by decide +kernel
theorem dX1_init_22 : decode cX1_init 22 = .ok (.getfield 11, 3) := by decide +kernel
theorem dX1_init_25 : decode cX1_init 25 = .ok (.iload_n 1, 1) := by decide +kernel
theorem dX1_init_26 : decode cX1_init 26 = .ok (.new 9, 3) := by decide +kernel
theorem dX1_init_29 : decode cX1_init 29 = .ok (.dup, 1) := by decide +kernel
theorem dX1_init_30 : decode cX1_init 30 = .ok (.invokespecial 17, 3) := by decide +kernel
theorem dX1_init_33 : decode cX1_init 33 = .ok (.aastore, 1) := by decide +kernel
theorem dX1_init_34 : decode cX1_init 34 = .ok (.iinc 1 1, 3) := by decide +kernel
theorem dX1_init_37 : decode cX1_init 37 = .ok (.goto (-22), 3) := by decide +kernel
theorem dX1_init_40 : decode cX1_init 40 = .ok (.return_, 1) := by decide +kernel
theorem dX1_prepare_0 : decode cX1_prepare 0 = .ok (.aload_n 0, 1) := by decide +kernel
theorem dX1_prepare_1 : decode cX1_prepare 1 = .ok (.getfield 11, 3) := by decide +kernel
theorem dX1_prepare_4 : decode cX1_prepare 4 = .ok (.aload_n 0, 1) := by decide +kernel
theorem dX1_prepare_5 : decode cX1_prepare 5 = .ok (.getfield 18, 3) := by decide +kernel
theorem dX1_prepare_8 : decode cX1_prepare 8 = .ok (.aaload, 1) := by decide +kernel
theorem dX1_prepare_9 : decode cX1_prepare 9 = .ok (.aload_n 1, 1) := by decide +kernel
theorem dX1_prepare_10 : decode cX1_prepare 10 = .ok (.invokevirtual 22, 3) := by decide +kernel
theorem dX1_prepare_13 : decode cX1_prepare 13 = .ok (.return_, 1) := by decide +kernel
theorem dX1_keep_0 : decode cX1_keep 0 = .ok (.iload_n 1, 1) := by decide +kernel
theorem dX1_keep_1 : decode cX1_keep 1 = .ok (.ifCond .ge 5, 3) := by decide +kernel
theorem dX1_keep_4 : decode cX1_keep 4 = .ok (.iload_n 1, 1) := by decide +kernel
theorem dX1_keep_5 : decode cX1_keep 5 = .ok (.ireturn, 1) := by decide +kernel
theorem dX1_keep_6 : decode cX1_keep 6 = .ok (.aload_n 0, 1) := by decide +kernel
theorem dX1_keep_7 : decode cX1_keep 7 = .ok (.aload_n 0, 1) := by decide +kernel
theorem dX1_keep_8 : decode cX1_keep 8 = .ok (.getfield 18, 3) := by decide +kernel
theorem dX1_keep_11 : decode cX1_keep 11 = .ok (.bipush 6, 2) := by decide +kernel
theorem dX1_keep_13 : decode cX1_keep 13 = .ok (.if_icmp .ge 12, 3) := by decide +kernel
theorem dX1_keep_16 : decode cX1_keep 16 = .ok (.aload_n 0, 1) := by decide +kernel
theorem dX1_keep_17 : decode cX1_keep 17 = .ok (.getfield 18, 3) := by decide +kernel
theorem dX1_keep_20 : decode cX1_keep 20 = .ok (.iconst 1, 1) := by decide +kernel
theorem dX1_keep_21 : decode cX1_keep 21 = .ok (.iadd, 1) := by decide +kernel
theorem dX1_keep_22 : decode cX1_keep 22 = .ok (.goto 4, 3) := by decide +kernel
theorem dX1_keep_25 : decode cX1_keep 25 = .ok (.iconst 0, 1) := by decide +kernel
theorem dX1_keep_26 : decode cX1_keep 26 = .ok (.putfield 18, 3) := by decide +kernel
theorem dX1_keep_29 : decode cX1_keep 29 = .ok (.aload_n 0, 1) := by decide +kernel
theorem dX1_keep_30 : decode cX1_keep 30 = .ok (.aload_n 0, 1) := by decide +kernel
theorem dX1_keep_31 : decode cX1_keep 31 = .ok (.getfield 26, 3) := by decide +kernel
theorem dX1_keep_34 : decode cX1_keep 34 = .ok (.iconst 1, 1) := by decide +kernel
theorem dX1_keep_35 : decode cX1_keep 35 = .ok (.iadd, 1) := by decide +kernel
theorem dX1_keep_36 : decode cX1_keep 36 = .ok (.bipush 6, 2) := by decide +kernel
theorem dX1_keep_38 : decode cX1_keep 38 = .ok (.invokestatic 29, 3) := by decide +kernel
theorem dX1_keep_41 : decode cX1_keep 41 = .ok (.putfield 26, 3) := by decide +kernel
theorem dX1_keep_44 : decode cX1_keep 44 = .ok (.iload_n 1, 1) := by decide +kernel
theorem dX1_keep_45 : decode cX1_keep 45 = .ok (.ireturn, 1) := by decide +kernel
theorem dX1_takeBack_0 : decode cX1_takeBack 0 = .ok (.aload_n 0, 1) := by decide +kernel
theorem dX1_takeBack_1 : decode cX1_takeBack 1 = .ok (.getfield 26, 3) := by decide +kernel
theorem dX1_takeBack_4 : decode cX1_takeBack 4 = .ok (.ifCond .ne 6, 3) := by decide +kernel
theorem dX1_takeBack_7 : decode cX1_takeBack 7 = .ok (.bipush (-5), 2) := by decide +kernel
theorem dX1_takeBack_9 : decode cX1_takeBack 9 = .ok (.ireturn, 1) := by decide +kernel
theorem dX1_takeBack_10 : decode cX1_takeBack 10 = .ok (.aload_n 0, 1) := by decide +kernel
theorem dX1_takeBack_11 : decode cX1_takeBack 11 = .ok (.aload_n 0, 1) := by decide +kernel
theorem dX1_takeBack_12 : decode cX1_takeBack 12 = .ok (.getfield 18, 3) := by decide +kernel
theorem dX1_takeBack_15 : decode cX1_takeBack 15 = .ok (.ifCond .le 12, 3) := by decide +kernel
theorem dX1_takeBack_18 : decode cX1_takeBack 18 = .ok (.aload_n 0, 1) := by decide +kernel
theorem dX1_takeBack_19 : decode cX1_takeBack 19 = .ok (.getfield 18, 3) := by decide +kernel
theorem dX1_takeBack_22 : decode cX1_takeBack 22 = .ok (.iconst 1, 1) := by decide +kernel
theorem dX1_takeBack_23 : decode cX1_takeBack 23 = .ok (.isub, 1) := by decide +kernel
theorem dX1_takeBack_24 : decode cX1_takeBack 24 = .ok (.goto 5, 3) := by decide +kernel
theorem dX1_takeBack_27 : decode cX1_takeBack 27 = .ok (.bipush 6, 2) := by decide +kernel
theorem dX1_takeBack_29 : decode cX1_takeBack 29 = .ok (.putfield 18, 3) := by decide +kernel
theorem dX1_takeBack_32 : decode cX1_takeBack 32 = .ok (.aload_n 1, 1) := by decide +kernel
theorem dX1_takeBack_33 : decode cX1_takeBack 33 = .ok (.aload_n 0, 1) := by decide +kernel
theorem dX1_takeBack_34 : decode cX1_takeBack 34 = .ok (.getfield 11, 3) := by decide +kernel
theorem dX1_takeBack_37 : decode cX1_takeBack 37 = .ok (.aload_n 0, 1) := by decide +kernel
theorem dX1_takeBack_38 : decode cX1_takeBack 38 = .ok (.getfield 18, 3) := by decide +kernel
theorem dX1_takeBack_41 : decode cX1_takeBack 41 = .ok (.aaload, 1) := by decide +kernel
theorem dX1_takeBack_42 : decode cX1_takeBack 42 = .ok (.invokevirtual 22, 3) := by decide +kernel
theorem dX1_takeBack_45 : decode cX1_takeBack 45 = .ok (.aload_n 0, 1) := by decide +kernel
theorem dX1_takeBack_46 : decode cX1_takeBack 46 = .ok (.dup, 1) := by decide +kernel
theorem dX1_takeBack_47 : decode cX1_takeBack 47 = .ok (.getfield 26, 3) := by decide +kernel
theorem dX1_takeBack_50 : decode cX1_takeBack 50 = .ok (.iconst 1, 1) := by decide +kernel
theorem dX1_takeBack_51 : decode cX1_takeBack 51 = .ok (.isub, 1) := by decide +kernel
theorem dX1_takeBack_52 : decode cX1_takeBack 52 = .ok (.putfield 26, 3) := by decide +kernel
theorem dX1_takeBack_55 : decode cX1_takeBack 55 = .ok (.aload_n 0, 1) := by decide +kernel
theorem dX1_takeBack_56 : decode cX1_takeBack 56 = .ok (.getfield 26, 3) := by decide +kernel
theorem dX1_takeBack_59 : decode cX1_takeBack 59 = .ok (.ireturn, 1) := by decide +kernel
theorem dX2_init_0 : decode cX2_init 0 = .ok (.aload_n 0, 1) := by decide +kernel
theorem dX2_init_1 : decode cX2_init 1 = .ok (.invokespecial 3, 3) := by decide +kernel
theorem dX2_init_4 : decode cX2_init 4 = .ok (.aload_n 0, 1) := by decide +kernel
theorem dX2_init_5 : decode cX2_init 5 = .ok (.bipush 16, 2) := by decide +kernel
theorem dX2_init_7 : decode cX2_init 7 = .ok (.newarray .int, 2) := by decide +kernel
theorem dX2_init_9 : decode cX2_init 9 = .ok (.putfield 9, 3) := by decide +kernel
theorem dX2_init_12 : decode cX2_init 12 = .ok (.return_, 1) := by decide +kernel
theorem dX2_copyFrom_0 : decode cX2_copyFrom 0 = .ok (.aload_n 1, 1) := by decide +kernel
theorem dX2_copyFrom_1 : decode cX2_copyFrom 1 = .ok (.getfield 9, 3) := by decide +kernel
theorem dX2_copyFrom_4 : decode cX2_copyFrom 4 = .ok (.aload_n 0, 1) := by decide +kernel
theorem dX2_copyFrom_5 : decode cX2_copyFrom 5 = .ok (.getfield 9, 3) := by decide +kernel
theorem dX2_copyFrom_8 : decode cX2_copyFrom 8 = .ok (.invokestatic 15, 3) := by decide +kernel
theorem dX2_copyFrom_11 : decode cX2_copyFrom 11 = .ok (.aload_n 0, 1) := by decide +kernel
theorem dX2_copyFrom_12 : decode cX2_copyFrom 12 = .ok (.aload_n 1, 1) := by decide +kernel
theorem dX2_copyFrom_13 : decode cX2_copyFrom 13 = .ok (.getfield 19, 3) := by decide +kernel
theorem dX2_copyFrom_16 : decode cX2_copyFrom 16 = .ok (.putfield 19, 3) := by decide +kernel
theorem dX2_copyFrom_19 : decode cX2_copyFrom 19 = .ok (.return_, 1) := by decide +kernel
theorem dX2_has_0 : decode cX2_has 0 = .ok (.iload_n 1, 1) := by decide +kernel
theorem dX2_has_1 : decode cX2_has 1 = .ok (.ifCond .lt 20, 3) := by decide +kernel
theorem dX2_has_4 : decode cX2_has 4 = .ok (.iload_n 1, 1) := by decide +kernel
theorem dX2_has_5 : decode cX2_has 5 = .ok (.aload_n 0, 1) := by decide +kernel
theorem dX2_has_6 : decode cX2_has 6 = .ok (.getfield 19, 3) := by decide +kernel
theorem dX2_has_9 : decode cX2_has 9 = .ok (.if_icmp .ge 12, 3) := by decide +kernel
theorem dX2_has_12 : decode cX2_has 12 = .ok (.iload_n 1, 1) := by decide +kernel
theorem dX2_has_13 : decode cX2_has 13 = .ok (.iconst 4, 1) := by decide +kernel
theorem dX2_has_14 : decode cX2_has 14 = .ok (.if_icmp .ge 7, 3) := by decide +kernel
theorem dX2_has_17 : decode cX2_has 17 = .ok (.iconst 1, 1) := by decide +kernel
theorem dX2_has_18 : decode cX2_has 18 = .ok (.goto 4, 3) := by decide +kernel
theorem dX2_has_21 : decode cX2_has 21 = .ok (.iconst 0, 1) := by decide +kernel
theorem dX2_has_22 : decode cX2_has 22 = .ok (.ireturn, 1) := by decide +kernel
theorem dX2_fact_0 : decode cX2_fact 0 = .ok (.aload_n 0, 1) := by decide +kernel
theorem dX2_fact_1 : decode cX2_fact 1 = .ok (.iload_n 1, 1) := by decide +kernel
theorem dX2_fact_2 : decode cX2_fact 2 = .ok (.invokevirtual 23, 3) := by decide +kernel
theorem dX2_fact_5 : decode cX2_fact 5 = .ok (.ifCond .ne 5, 3) := by decide +kernel
theorem dX2_fact_8 : decode cX2_fact 8 = .ok (.iconst (-1), 1) := by decide +kernel
theorem dX2_fact_9 : decode cX2_fact 9 = .ok (.ireturn, 1) := by decide +kernel
theorem dX2_fact_10 : decode cX2_fact 10 = .ok (.iload_n 2, 1) := by decide +kernel
theorem dX2_fact_11 : decode cX2_fact 11 = .ok (.ifCond .lt 8, 3) := by decide +kernel
theorem dX2_fact_14 : decode cX2_fact 14 = .ok (.iload_n 2, 1) := by decide +kernel
theorem dX2_fact_15 : decode cX2_fact 15 = .ok (.iconst 4, 1) := by decide +kernel
theorem dX2_fact_16 : decode cX2_fact 16 = .ok (.if_icmp .lt 6, 3) := by decide +kernel
theorem dX2_fact_19 : decode cX2_fact 19 = .ok (.bipush (-2), 2) := by decide +kernel
theorem dX2_fact_21 : decode cX2_fact 21 = .ok (.ireturn, 1) := by decide +kernel
theorem dX2_fact_22 : decode cX2_fact 22 = .ok (.aload_n 0, 1) := by decide +kernel
theorem dX2_fact_23 : decode cX2_fact 23 = .ok (.getfield 9, 3) := by decide +kernel
theorem dX2_fact_26 : decode cX2_fact 26 = .ok (.iload_n 1, 1) := by decide +kernel
theorem dX2_fact_27 : decode cX2_fact 27 = .ok (.iconst 4, 1) := by decide +kernel
theorem dX2_fact_28 : decode cX2_fact 28 = .ok (.imul, 1) := by decide +kernel
theorem dX2_fact_29 : decode cX2_fact 29 = .ok (.iload_n 2, 1) := by decide +kernel
theorem dX2_fact_30 : decode cX2_fact 30 = .ok (.iadd, 1) := by decide +kernel
theorem dX2_fact_31 : decode cX2_fact 31 = .ok (.iaload, 1) := by decide +kernel
theorem dX2_fact_32 : decode cX2_fact 32 = .ok (.ireturn, 1) := by decide +kernel
theorem dX2_add_0 : decode cX2_add 0 = .ok (.aload_n 0, 1) := by decide +kernel
theorem dX2_add_1 : decode cX2_add 1 = .ok (.getfield 9, 3) := by decide +kernel
theorem dX2_add_4 : decode cX2_add 4 = .ok (.iconst 0, 1) := by decide +kernel
theorem dX2_add_5 : decode cX2_add 5 = .ok (.aload_n 0, 1) := by decide +kernel
theorem dX2_add_6 : decode cX2_add 6 = .ok (.getfield 9, 3) := by decide +kernel
theorem dX2_add_9 : decode cX2_add 9 = .ok (.iconst 4, 1) := by decide +kernel
theorem dX2_add_10 : decode cX2_add 10 = .ok (.bipush 12, 2) := by decide +kernel
theorem dX2_add_12 : decode cX2_add 12 = .ok (.invokestatic 27, 3) := by decide +kernel
theorem dX2_add_15 : decode cX2_add 15 = .ok (.aload_n 0, 1) := by decide +kernel
theorem dX2_add_16 : decode cX2_add 16 = .ok (.getfield 9, 3) := by decide +kernel
theorem dX2_add_19 : decode cX2_add 19 = .ok (.iconst 0, 1) := by decide +kernel
theorem dX2_add_20 : decode cX2_add 20 = .ok (.iload_n 1, 1) := by decide +kernel
theorem dX2_add_21 : decode cX2_add 21 = .ok (.iastore, 1) := by decide +kernel
theorem dX2_add_22 : decode cX2_add 22 = .ok (.aload_n 0, 1) := by decide +kernel
theorem dX2_add_23 : decode cX2_add 23 = .ok (.getfield 9, 3) := by decide +kernel
theorem dX2_add_26 : decode cX2_add 26 = .ok (.iconst 1, 1) := by decide +kernel
theorem dX2_add_27 : decode cX2_add 27 = .ok (.iload_n 2, 1) := by decide +kernel
theorem dX2_add_28 : decode cX2_add 28 = .ok (.iastore, 1) := by decide +kernel
theorem dX2_add_29 : decode cX2_add 29 = .ok (.aload_n 0, 1) := by decide +kernel
theorem dX2_add_30 : decode cX2_add 30 = .ok (.getfield 9, 3) := by decide +kernel
theorem dX2_add_33 : decode cX2_add 33 = .ok (.iconst 2, 1) := by decide +kernel
theorem dX2_add_34 : decode cX2_add 34 = .ok (.iload_n 3, 1) := by decide +kernel
theorem dX2_add_35 : decode cX2_add 35 = .ok (.iastore, 1) := by decide +kernel
theorem dX2_add_36 : decode cX2_add 36 = .ok (.aload_n 0, 1) := by decide +kernel
theorem dX2_add_37 : decode cX2_add 37 = .ok (.getfield 9, 3) := by decide +kernel
theorem dX2_add_40 : decode cX2_add 40 = .ok (.iconst 3, 1) := by decide +kernel
theorem dX2_add_41 : decode cX2_add 41 = .ok (.iload 4, 2) := by decide +kernel
theorem dX2_add_43 : decode cX2_add 43 = .ok (.iastore, 1) := by decide +kernel
theorem dX2_add_44 : decode cX2_add 44 = .ok (.aload_n 0, 1) := by decide +kernel
theorem dX2_add_45 : decode cX2_add 45 = .ok (.aload_n 0, 1) := by decide +kernel
theorem dX2_add_46 : decode cX2_add 46 = .ok (.getfield 19, 3) := by decide +kernel
theorem dX2_add_49 : decode cX2_add 49 = .ok (.iconst 1, 1) := by decide +kernel
theorem dX2_add_50 : decode cX2_add 50 = .ok (.iadd, 1) := by decide +kernel
theorem dX2_add_51 : decode cX2_add 51 = .ok (.iconst 4, 1) := by decide +kernel
theorem dX2_add_52 : decode cX2_add 52 = .ok (.invokestatic 33, 3) := by decide +kernel
theorem dX2_add_55 : decode cX2_add 55 = .ok (.putfield 19, 3) := by decide +kernel
theorem dX2_add_58 : decode cX2_add 58 = .ok (.return_, 1) := by decide +kernel
theorem dX3_init_0 : decode cX3_init 0 = .ok (.aload_n 0, 1) := by decide +kernel
theorem dX3_init_1 : decode cX3_init 1 = .ok (.invokespecial 3, 3) := by decide +kernel
theorem dX3_init_4 : decode cX3_init 4 = .ok (.aload_n 0, 1) := by decide +kernel
theorem dX3_init_5 : decode cX3_init 5 = .ok (.bipush 80, 2) := by decide +kernel
theorem dX3_init_7 : decode cX3_init 7 = .ok (.newarray .char, 2) := by decide +kernel
theorem dX3_init_9 : decode cX3_init 9 = .ok (.putfield 9, 3) := by decide +kernel
theorem dX3_init_12 : decode cX3_init 12 = .ok (.return_, 1) := by decide +kernel
theorem dX3_append_0 : decode cX3_append 0 = .ok (.lload_n 1, 1) := by decide +kernel
theorem dX3_append_1 : decode cX3_append 1 = .ok (.invokestatic 15, 3) := by decide +kernel
theorem dX3_append_4 : decode cX3_append 4 = .ok (.istore_n 3, 1) := by decide +kernel
theorem dX3_append_5 : decode cX3_append 5 = .ok (.iload_n 3, 1) := by decide +kernel
theorem dX3_append_6 : decode cX3_append 6 = .ok (.ifCond .ne 6, 3) := by decide +kernel
theorem dX3_append_9 : decode cX3_append 9 = .ok (.bipush (-2), 2) := by decide +kernel
theorem dX3_append_11 : decode cX3_append 11 = .ok (.ireturn, 1) := by decide +kernel
theorem dX3_append_12 : decode cX3_append 12 = .ok (.aload_n 0, 1) := by decide +kernel
theorem dX3_append_13 : decode cX3_append 13 = .ok (.getfield 19, 3) := by decide +kernel
theorem dX3_append_16 : decode cX3_append 16 = .ok (.iload_n 3, 1) := by decide +kernel
theorem dX3_append_17 : decode cX3_append 17 = .ok (.iadd, 1) := by decide +kernel
theorem dX3_append_18 : decode cX3_append 18 = .ok (.bipush 80, 2) := by decide +kernel
theorem dX3_append_20 : decode cX3_append 20 = .ok (.if_icmp .le 6, 3) := by decide +kernel
theorem dX3_append_23 : decode cX3_append 23 = .ok (.bipush (-4), 2) := by decide +kernel
theorem dX3_append_25 : decode cX3_append 25 = .ok (.ireturn, 1) := by decide +kernel
theorem dX3_append_26 : decode cX3_append 26 = .ok (.lload_n 1, 1) := by decide +kernel
theorem dX3_append_27 : decode cX3_append 27 = .ok (.lstore 4, 2) := by decide +kernel
theorem dX3_append_29 : decode cX3_append 29 = .ok (.aload_n 0, 1) := by decide +kernel
theorem dX3_append_30 : decode cX3_append 30 = .ok (.getfield 19, 3) := by decide +kernel
theorem dX3_append_33 : decode cX3_append 33 = .ok (.iload_n 3, 1) := by decide +kernel
theorem dX3_append_34 : decode cX3_append 34 = .ok (.iadd, 1) := by decide +kernel
theorem dX3_append_35 : decode cX3_append 35 = .ok (.iconst 1, 1) := by decide +kernel
theorem dX3_append_36 : decode cX3_append 36 = .ok (.isub, 1) := by decide +kernel
theorem dX3_append_37 : decode cX3_append 37 = .ok (.istore 6, 2) := by decide +kernel
theorem dX3_append_39 : decode cX3_append 39 = .ok (.iload 6, 2) := by decide +kernel
theorem dX3_append_41 : decode cX3_append 41 = .ok (.aload_n 0, 1) := by decide +kernel
theorem dX3_append_42 : decode cX3_append 42 = .ok (.getfield 19, 3) := by decide +kernel
theorem dX3_append_45 : decode cX3_append 45 = .ok (.if_icmp .lt 31, 3) := by decide +kernel
theorem dX3_append_48 : decode cX3_append 48 = .ok (.aload_n 0, 1) := by decide +kernel
theorem dX3_append_49 : decode cX3_append 49 = .ok (.getfield 9, 3) := by decide +kernel
theorem dX3_append_52 : decode cX3_append 52 = .ok (.iload 6, 2) := by decide +kernel
theorem dX3_append_54 : decode cX3_append 54 = .ok (.lload 4, 2) := by decide +kernel
theorem dX3_append_56 : decode cX3_append 56 = .ok (.ldc2_w 23, 3) := by decide +kernel
theorem dX3_append_59 : decode cX3_append 59 = .ok (.land, 1) := by decide +kernel
theorem dX3_append_60 : decode cX3_append 60 = .ok (.l2i, 1) := by decide +kernel
theorem dX3_append_61 : decode cX3_append 61 = .ok (.i2c, 1) := by decide +kernel
theorem dX3_append_62 : decode cX3_append 62 = .ok (.castore, 1) := by decide +kernel
theorem dX3_append_63 : decode cX3_append 63 = .ok (.lload 4, 2) := by decide +kernel
theorem dX3_append_65 : decode cX3_append 65 = .ok (.bipush 8, 2) := by decide +kernel
theorem dX3_append_67 : decode cX3_append 67 = .ok (.lushr, 1) := by decide +kernel
theorem dX3_append_68 : decode cX3_append 68 = .ok (.lstore 4, 2) := by decide +kernel
theorem dX3_append_70 : decode cX3_append 70 = .ok (.iinc 6 (-1), 3) := by decide +kernel
theorem dX3_append_73 : decode cX3_append 73 = .ok (.goto (-34), 3) := by decide +kernel
theorem dX3_append_76 : decode cX3_append 76 = .ok (.aload_n 0, 1) := by decide +kernel
theorem dX3_append_77 : decode cX3_append 77 = .ok (.dup, 1) := by decide +kernel
theorem dX3_append_78 : decode cX3_append 78 = .ok (.getfield 19, 3) := by decide +kernel
theorem dX3_append_81 : decode cX3_append 81 = .ok (.iload_n 3, 1) := by decide +kernel
theorem dX3_append_82 : decode cX3_append 82 = .ok (.iadd, 1) := by decide +kernel
theorem dX3_append_83 : decode cX3_append 83 = .ok (.putfield 19, 3) := by decide +kernel
theorem dX3_append_86 : decode cX3_append 86 = .ok (.aload_n 0, 1) := by decide +kernel
theorem dX3_append_87 : decode cX3_append 87 = .ok (.getfield 19, 3) := by decide +kernel
theorem dX3_append_90 : decode cX3_append 90 = .ok (.ireturn, 1) := by decide +kernel
theorem dX3_charactersIn_0 : decode cX3_charactersIn 0 = .ok (.iconst 0, 1) := by decide +kernel
theorem dX3_charactersIn_1 : decode cX3_charactersIn 1 = .ok (.istore_n 2, 1) := by decide +kernel
theorem dX3_charactersIn_2 : decode cX3_charactersIn 2 = .ok (.lload_n 0, 1) := by decide +kernel
theorem dX3_charactersIn_3 : decode cX3_charactersIn 3 = .ok (.lstore_n 3, 1) := by decide +kernel
theorem dX3_charactersIn_4 : decode cX3_charactersIn 4 = .ok (.lload_n 3, 1) := by decide +kernel
theorem dX3_charactersIn_5 : decode cX3_charactersIn 5 = .ok (.lconst 0, 1) := by decide +kernel
theorem dX3_charactersIn_6 : decode cX3_charactersIn 6 = .ok (.lcmp, 1) := by decide +kernel
theorem dX3_charactersIn_7 : decode cX3_charactersIn 7 = .ok (.ifCond .eq 47, 3) := by decide +kernel
theorem dX3_charactersIn_10 : decode cX3_charactersIn 10 = .ok (.iload_n 2, 1) := by decide +kernel
theorem dX3_charactersIn_11 : decode cX3_charactersIn 11 = .ok (.bipush 8, 2) := by decide +kernel
theorem dX3_charactersIn_13 : decode cX3_charactersIn 13 = .ok (.if_icmp .ge 41, 3) := by decide +kernel
theorem dX3_charactersIn_16 : decode cX3_charactersIn 16 = .ok (.lload_n 3, 1) := by decide +kernel
theorem dX3_charactersIn_17 : decode cX3_charactersIn 17 = .ok (.ldc2_w 23, 3) := by decide +kernel
theorem dX3_charactersIn_20 : decode cX3_charactersIn 20 = .ok (.land, 1) := by decide +kernel
theorem dX3_charactersIn_21 : decode cX3_charactersIn 21 = .ok (.lstore 5, 2) := by decide +kernel
theorem dX3_charactersIn_23 : decode cX3_charactersIn 23 = .ok (.lload 5, 2) := by decide +kernel
theorem dX3_charactersIn_25 : decode cX3_charactersIn 25 = .ok (.ldc2_w 25, 3) := by decide +kernel
theorem dX3_charactersIn_28 : decode cX3_charactersIn 28 = .ok (.lcmp, 1) := by decide +kernel
theorem dX3_charactersIn_29 : decode cX3_charactersIn 29 = .ok (.ifCond .lt 12, 3) := by decide +kernel
theorem dX3_charactersIn_32 : decode cX3_charactersIn 32 = .ok (.lload 5, 2) := by decide +kernel
theorem dX3_charactersIn_34 : decode cX3_charactersIn 34 = .ok (.ldc2_w 27, 3) := by decide +kernel
theorem dX3_charactersIn_37 : decode cX3_charactersIn 37 = .ok (.lcmp, 1) := by decide +kernel
theorem dX3_charactersIn_38 : decode cX3_charactersIn 38 = .ok (.ifCond .le 5, 3) := by decide +kernel
theorem dX3_charactersIn_41 : decode cX3_charactersIn 41 = .ok (.iconst 0, 1) := by decide +kernel
theorem dX3_charactersIn_42 : decode cX3_charactersIn 42 = .ok (.ireturn, 1) := by decide +kernel
theorem dX3_charactersIn_43 : decode cX3_charactersIn 43 = .ok (.iinc 2 1, 3) := by decide +kernel
theorem dX3_charactersIn_46 : decode cX3_charactersIn 46 = .ok (.lload_n 3, 1) := by decide +kernel
theorem dX3_charactersIn_47 : decode cX3_charactersIn 47 = .ok (.bipush 8, 2) := by decide +kernel
theorem dX3_charactersIn_49 : decode cX3_charactersIn 49 = .ok (.lushr, 1) := by decide +kernel
theorem dX3_charactersIn_50 : decode cX3_charactersIn 50 = .ok (.lstore_n 3, 1) := by decide +kernel
theorem dX3_charactersIn_51 : decode cX3_charactersIn 51 = .ok (.goto (-47), 3) := by decide +kernel
theorem dX3_charactersIn_54 : decode cX3_charactersIn 54 = .ok (.iload_n 2, 1) := by decide +kernel
theorem dX3_charactersIn_55 : decode cX3_charactersIn 55 = .ok (.ireturn, 1) := by decide +kernel
theorem dX3_clear_0 : decode cX3_clear 0 = .ok (.aload_n 0, 1) := by decide +kernel
theorem dX3_clear_1 : decode cX3_clear 1 = .ok (.getfield 19, 3) := by decide +kernel
theorem dX3_clear_4 : decode cX3_clear 4 = .ok (.istore_n 1, 1) := by decide +kernel
theorem dX3_clear_5 : decode cX3_clear 5 = .ok (.aload_n 0, 1) := by decide +kernel
theorem dX3_clear_6 : decode cX3_clear 6 = .ok (.iconst 0, 1) := by decide +kernel
theorem dX3_clear_7 : decode cX3_clear 7 = .ok (.putfield 19, 3) := by decide +kernel
theorem dX3_clear_10 : decode cX3_clear 10 = .ok (.iload_n 1, 1) := by decide +kernel
theorem dX3_clear_11 : decode cX3_clear 11 = .ok (.ireturn, 1) := by decide +kernel
theorem dX3_codeAt_0 : decode cX3_codeAt 0 = .ok (.iload_n 1, 1) := by decide +kernel
theorem dX3_codeAt_1 : decode cX3_codeAt 1 = .ok (.ifCond .lt 26, 3) := by decide +kernel
theorem dX3_codeAt_4 : decode cX3_codeAt 4 = .ok (.iload_n 1, 1) := by decide +kernel
theorem dX3_codeAt_5 : decode cX3_codeAt 5 = .ok (.aload_n 0, 1) := by decide +kernel
theorem dX3_codeAt_6 : decode cX3_codeAt 6 = .ok (.getfield 19, 3) := by decide +kernel
theorem dX3_codeAt_9 : decode cX3_codeAt 9 = .ok (.if_icmp .ge 18, 3) := by decide +kernel
theorem dX3_codeAt_12 : decode cX3_codeAt 12 = .ok (.iload_n 1, 1) := by decide +kernel
theorem dX3_codeAt_13 : decode cX3_codeAt 13 = .ok (.bipush 80, 2) := by decide +kernel
theorem dX3_codeAt_15 : decode cX3_codeAt 15 = .ok (.if_icmp .ge 12, 3) := by decide +kernel
theorem dX3_codeAt_18 : decode cX3_codeAt 18 = .ok (.aload_n 0, 1) := by decide +kernel
theorem dX3_codeAt_19 : decode cX3_codeAt 19 = .ok (.getfield 9, 3) := by decide +kernel
theorem dX3_codeAt_22 : decode cX3_codeAt 22 = .ok (.iload_n 1, 1) := by decide +kernel
theorem dX3_codeAt_23 : decode cX3_codeAt 23 = .ok (.caload, 1) := by decide +kernel
theorem dX3_codeAt_24 : decode cX3_codeAt 24 = .ok (.goto 4, 3) := by decide +kernel
theorem dX3_codeAt_27 : decode cX3_codeAt 27 = .ok (.iconst 0, 1) := by decide +kernel
theorem dX3_codeAt_28 : decode cX3_codeAt 28 = .ok (.ireturn, 1) := by decide +kernel
theorem dX4_init_0 : decode cX4_init 0 = .ok (.aload_n 0, 1) := by decide +kernel
theorem dX4_init_1 : decode cX4_init 1 = .ok (.invokespecial 3, 3) := by decide +kernel
theorem dX4_init_4 : decode cX4_init 4 = .ok (.aload_n 0, 1) := by decide +kernel
theorem dX4_init_5 : decode cX4_init 5 = .ok (.aload_n 1, 1) := by decide +kernel
theorem dX4_init_6 : decode cX4_init 6 = .ok (.putfield 9, 3) := by decide +kernel
theorem dX4_init_9 : decode cX4_init 9 = .ok (.return_, 1) := by decide +kernel
theorem dX4_findFault_0 : decode cX4_findFault 0 = .ok (.aload_n 0, 1) := by decide +kernel
theorem dX4_findFault_1 : decode cX4_findFault 1 = .ok (.iconst 0, 1) := by decide +kernel
theorem dX4_findFault_2 : decode cX4_findFault 2 = .ok (.putfield 15, 3) := by decide +kernel
theorem dX4_findFault_5 : decode cX4_findFault 5 = .ok (.aload_n 0, 1) := by decide +kernel
theorem dX4_findFault_6 : decode cX4_findFault 6 = .ok (.getfield 15, 3) := by decide +kernel
theorem dX4_findFault_9 : decode cX4_findFault 9 = .ok (.aload_n 0, 1) := by decide +kernel
theorem dX4_findFault_10 : decode cX4_findFault 10 = .ok (.getfield 9, 3) := by decide +kernel
theorem dX4_findFault_13 : decode cX4_findFault 13 = .ok (.getfield 19, 3) := by decide +kernel
theorem dX4_findFault_16 : decode cX4_findFault 16 = .ok (.if_icmp .ge 66, 3) := by decide +kernel
theorem dX4_findFault_19 : decode cX4_findFault 19 = .ok (.aload_n 0, 1) := by decide +kernel
theorem dX4_findFault_20 : decode cX4_findFault 20 = .ok (.invokevirtual 24, 3) := by decide +kernel
theorem dX4_findFault_23 : decode cX4_findFault 23 = .ok (.ifCond .ne 8, 3) := by decide +kernel
theorem dX4_findFault_26 : decode cX4_findFault 26 = .ok (.aload_n 0, 1) := by decide +kernel
theorem dX4_findFault_27 : decode cX4_findFault 27 = .ok (.getfield 15, 3) := by decide +kernel
theorem dX4_findFault_30 : decode cX4_findFault 30 = .ok (.ireturn, 1) := by decide +kernel
theorem dX4_findFault_31 : decode cX4_findFault 31 = .ok (.aload_n 0, 1) := by decide +kernel
theorem dX4_findFault_32 : decode cX4_findFault 32 = .ok (.getfield 15, 3) := by decide +kernel
theorem dX4_findFault_35 : decode cX4_findFault 35 = .ok (.aload_n 0, 1) := by decide +kernel
theorem dX4_findFault_36 : decode cX4_findFault 36 = .ok (.getfield 9, 3) := by decide +kernel
theorem dX4_findFault_39 : decode cX4_findFault 39 = .ok (.getfield 19, 3) := by decide +kernel
theorem dX4_findFault_42 : decode cX4_findFault 42 = .ok (.if_icmp .lt 6, 3) := by decide +kernel
theorem dX4_findFault_45 : decode cX4_findFault 45 = .ok (.bipush (-6), 2) := by decide +kernel
theorem dX4_findFault_47 : decode cX4_findFault 47 = .ok (.ireturn, 1) := by decide +kernel
theorem dX4_findFault_48 : decode cX4_findFault 48 = .ok (.aload_n 0, 1) := by decide +kernel
theorem dX4_findFault_49 : decode cX4_findFault 49 = .ok (.getfield 9, 3) := by decide +kernel
theorem dX4_findFault_52 : decode cX4_findFault 52 = .ok (.aload_n 0, 1) := by decide +kernel
theorem dX4_findFault_53 : decode cX4_findFault 53 = .ok (.getfield 15, 3) := by decide +kernel
theorem dX4_findFault_56 : decode cX4_findFault 56 = .ok (.invokevirtual 28, 3) := by decide +kernel
theorem dX4_findFault_59 : decode cX4_findFault 59 = .ok (.bipush 59, 2) := by decide +kernel
theorem dX4_findFault_61 : decode cX4_findFault 61 = .ok (.if_icmp .eq 8, 3) := by decide +kernel
theorem dX4_findFault_64 : decode cX4_findFault 64 = .ok (.aload_n 0, 1) := by decide +kernel
theorem dX4_findFault_65 : decode cX4_findFault 65 = .ok (.getfield 15, 3) := by decide +kernel
theorem dX4_findFault_68 : decode cX4_findFault 68 = .ok (.ireturn, 1) := by decide +kernel
theorem dX4_findFault_69 : decode cX4_findFault 69 = .ok (.aload_n 0, 1) := by decide +kernel
theorem dX4_findFault_70 : decode cX4_findFault 70 = .ok (.dup, 1) := by decide +kernel
theorem dX4_findFault_71 : decode cX4_findFault 71 = .ok (.getfield 15, 3) := by decide +kernel
theorem dX4_findFault_74 : decode cX4_findFault 74 = .ok (.iconst 1, 1) := by decide +kernel
theorem dX4_findFault_75 : decode cX4_findFault 75 = .ok (.iadd, 1) := by decide +kernel
theorem dX4_findFault_76 : decode cX4_findFault 76 = .ok (.putfield 15, 3) := by decide +kernel
theorem dX4_findFault_79 : decode cX4_findFault 79 = .ok (.goto (-74), 3) := by decide +kernel
theorem dX4_findFault_82 : decode cX4_findFault 82 = .ok (.aload_n 0, 1) := by decide +kernel
theorem dX4_findFault_83 : decode cX4_findFault 83 = .ok (.getfield 15, 3) := by decide +kernel
theorem dX4_findFault_86 : decode cX4_findFault 86 = .ok (.ireturn, 1) := by decide +kernel
theorem dX4_readOrder_0 : decode cX4_readOrder 0 = .ok (.aload_n 0, 1) := by decide +kernel
theorem dX4_readOrder_1 : decode cX4_readOrder 1 = .ok (.aload_n 0, 1) := by decide +kernel
theorem dX4_readOrder_2 : decode cX4_readOrder 2 = .ok (.getfield 9, 3) := by decide +kernel
theorem dX4_readOrder_5 : decode cX4_readOrder 5 = .ok (.aload_n 0, 1) := by decide +kernel
theorem dX4_readOrder_6 : decode cX4_readOrder 6 = .ok (.getfield 15, 3) := by decide +kernel
theorem dX4_readOrder_9 : decode cX4_readOrder 9 = .ok (.invokevirtual 28, 3) := by decide +kernel
theorem dX4_readOrder_12 : decode cX4_readOrder 12 = .ok (.putfield 32, 3) := by decide +kernel
theorem dX4_readOrder_15 : decode cX4_readOrder 15 = .ok (.aload_n 0, 1) := by decide +kernel
theorem dX4_readOrder_16 : decode cX4_readOrder 16 = .ok (.getfield 32, 3) := by decide +kernel
theorem dX4_readOrder_19 : decode cX4_readOrder 19 = .ok (.lookupswitch 182 #[(33, 116), (98, 160), (115, 49), (119, 71), (122, 138)], 49) := by decide +kernel
theorem dX4_readOrder_68 : decode cX4_readOrder 68 = .ok (.aload_n 0, 1) := by decide +kernel
theorem dX4_readOrder_69 : decode cX4_readOrder 69 = .ok (.bipush 115, 2) := by decide +kernel
theorem dX4_readOrder_71 : decode cX4_readOrder 71 = .ok (.invokevirtual 35, 3) := by decide +kernel
theorem dX4_readOrder_74 : decode cX4_readOrder 74 = .ok (.ifCond .eq 14, 3) := by decide +kernel
theorem dX4_readOrder_77 : decode cX4_readOrder 77 = .ok (.aload_n 0, 1) := by decide +kernel
theorem dX4_readOrder_78 : decode cX4_readOrder 78 = .ok (.invokevirtual 39, 3) := by decide +kernel
theorem dX4_readOrder_81 : decode cX4_readOrder 81 = .ok (.ifCond .eq 7, 3) := by decide +kernel
theorem dX4_readOrder_84 : decode cX4_readOrder 84 = .ok (.iconst 1, 1) := by decide +kernel
theorem dX4_readOrder_85 : decode cX4_readOrder 85 = .ok (.goto 4, 3) := by decide +kernel
theorem dX4_readOrder_88 : decode cX4_readOrder 88 = .ok (.iconst 0, 1) := by decide +kernel
theorem dX4_readOrder_89 : decode cX4_readOrder 89 = .ok (.ireturn, 1) := by decide +kernel
theorem dX4_readOrder_90 : decode cX4_readOrder 90 = .ok (.aload_n 0, 1) := by decide +kernel
theorem dX4_readOrder_91 : decode cX4_readOrder 91 = .ok (.bipush 119, 2) := by decide +kernel
theorem dX4_readOrder_93 : decode cX4_readOrder 93 = .ok (.invokevirtual 35, 3) := by decide +kernel
theorem dX4_readOrder_96 : decode cX4_readOrder 96 = .ok (.ifCond .eq 37, 3) := by decide +kernel
theorem dX4_readOrder_99 : decode cX4_readOrder 99 = .ok (.aload_n 0, 1) := by decide +kernel
theorem dX4_readOrder_100 : decode cX4_readOrder 100 = .ok (.invokevirtual 42, 3) := by decide +kernel
theorem dX4_readOrder_103 : decode cX4_readOrder 103 = .ok (.ifCond .eq 30, 3) := by decide +kernel
theorem dX4_readOrder_106 : decode cX4_readOrder 106 = .ok (.aload_n 0, 1) := by decide +kernel
theorem dX4_readOrder_107 : decode cX4_readOrder 107 = .ok (.invokevirtual 45, 3) := by decide +kernel
theorem dX4_readOrder_110 : decode cX4_readOrder 110 = .ok (.ifCond .eq 23, 3) := by decide +kernel
theorem dX4_readOrder_113 : decode cX4_readOrder 113 = .ok (.aload_n 0, 1) := by decide +kernel
theorem dX4_readOrder_114 : decode cX4_readOrder 114 = .ok (.bipush 61, 2) := by decide +kernel
theorem dX4_readOrder_116 : decode cX4_readOrder 116 = .ok (.invokevirtual 35, 3) := by decide +kernel
theorem dX4_readOrder_119 : decode cX4_readOrder 119 = .ok (.ifCond .eq 14, 3) := by decide +kernel
theorem dX4_readOrder_122 : decode cX4_readOrder 122 = .ok (.aload_n 0, 1) := by decide +kernel
theorem dX4_readOrder_123 : decode cX4_readOrder 123 = .ok (.invokevirtual 48, 3) := by decide +kernel
theorem dX4_readOrder_126 : decode cX4_readOrder 126 = .ok (.ifCond .eq 7, 3) := by decide +kernel
theorem dX4_readOrder_129 : decode cX4_readOrder 129 = .ok (.iconst 1, 1) := by decide +kernel
theorem dX4_readOrder_130 : decode cX4_readOrder 130 = .ok (.goto 4, 3) := by decide +kernel
theorem dX4_readOrder_133 : decode cX4_readOrder 133 = .ok (.iconst 0, 1) := by decide +kernel
theorem dX4_readOrder_134 : decode cX4_readOrder 134 = .ok (.ireturn, 1) := by decide +kernel
theorem dX4_readOrder_135 : decode cX4_readOrder 135 = .ok (.aload_n 0, 1) := by decide +kernel
theorem dX4_readOrder_136 : decode cX4_readOrder 136 = .ok (.bipush 33, 2) := by decide +kernel
theorem dX4_readOrder_138 : decode cX4_readOrder 138 = .ok (.invokevirtual 35, 3) := by decide +kernel
theorem dX4_readOrder_141 : decode cX4_readOrder 141 = .ok (.ifCond .eq 14, 3) := by decide +kernel
theorem dX4_readOrder_144 : decode cX4_readOrder 144 = .ok (.aload_n 0, 1) := by decide +kernel
theorem dX4_readOrder_145 : decode cX4_readOrder 145 = .ok (.invokevirtual 45, 3) := by decide +kernel
theorem dX4_readOrder_148 : decode cX4_readOrder 148 = .ok (.ifCond .eq 7, 3) := by decide +kernel
theorem dX4_readOrder_151 : decode cX4_readOrder 151 = .ok (.iconst 1, 1) := by decide +kernel
theorem dX4_readOrder_152 : decode cX4_readOrder 152 = .ok (.goto 4, 3) := by decide +kernel
theorem dX4_readOrder_155 : decode cX4_readOrder 155 = .ok (.iconst 0, 1) := by decide +kernel
theorem dX4_readOrder_156 : decode cX4_readOrder 156 = .ok (.ireturn, 1) := by decide +kernel
theorem dX4_readOrder_157 : decode cX4_readOrder 157 = .ok (.aload_n 0, 1) := by decide +kernel
theorem dX4_readOrder_158 : decode cX4_readOrder 158 = .ok (.bipush 122, 2) := by decide +kernel
theorem dX4_readOrder_160 : decode cX4_readOrder 160 = .ok (.invokevirtual 35, 3) := by decide +kernel
theorem dX4_readOrder_163 : decode cX4_readOrder 163 = .ok (.ifCond .eq 14, 3) := by decide +kernel
theorem dX4_readOrder_166 : decode cX4_readOrder 166 = .ok (.aload_n 0, 1) := by decide +kernel
theorem dX4_readOrder_167 : decode cX4_readOrder 167 = .ok (.invokevirtual 42, 3) := by decide +kernel
theorem dX4_readOrder_170 : decode cX4_readOrder 170 = .ok (.ifCond .eq 7, 3) := by decide +kernel
theorem dX4_readOrder_173 : decode cX4_readOrder 173 = .ok (.iconst 1, 1) := by decide +kernel
theorem dX4_readOrder_174 : decode cX4_readOrder 174 = .ok (.goto 4, 3) := by decide +kernel
theorem dX4_readOrder_177 : decode cX4_readOrder 177 = .ok (.iconst 0, 1) := by decide +kernel
theorem dX4_readOrder_178 : decode cX4_readOrder 178 = .ok (.ireturn, 1) := by decide +kernel
theorem dX4_readOrder_179 : decode cX4_readOrder 179 = .ok (.aload_n 0, 1) := by decide +kernel
theorem dX4_readOrder_180 : decode cX4_readOrder 180 = .ok (.bipush 98, 2) := by decide +kernel
theorem dX4_readOrder_182 : decode cX4_readOrder 182 = .ok (.invokevirtual 35, 3) := by decide +kernel
theorem dX4_readOrder_185 : decode cX4_readOrder 185 = .ok (.ifCond .eq 14, 3) := by decide +kernel
theorem dX4_readOrder_188 : decode cX4_readOrder 188 = .ok (.aload_n 0, 1) := by decide +kernel
theorem dX4_readOrder_189 : decode cX4_readOrder 189 = .ok (.invokevirtual 48, 3) := by decide +kernel
theorem dX4_readOrder_192 : decode cX4_readOrder 192 = .ok (.ifCond .eq 7, 3) := by decide +kernel
theorem dX4_readOrder_195 : decode cX4_readOrder 195 = .ok (.iconst 1, 1) := by decide +kernel
theorem dX4_readOrder_196 : decode cX4_readOrder 196 = .ok (.goto 4, 3) := by decide +kernel
theorem dX4_readOrder_199 : decode cX4_readOrder 199 = .ok (.iconst 0, 1) := by decide +kernel
theorem dX4_readOrder_200 : decode cX4_readOrder 200 = .ok (.ireturn, 1) := by decide +kernel
theorem dX4_readOrder_201 : decode cX4_readOrder 201 = .ok (.iconst 0, 1) := by decide +kernel
theorem dX4_readOrder_202 : decode cX4_readOrder 202 = .ok (.ireturn, 1) := by decide +kernel
theorem dX4_readSign_0 : decode cX4_readSign 0 = .ok (.aload_n 0, 1) := by decide +kernel
theorem dX4_readSign_1 : decode cX4_readSign 1 = .ok (.getfield 9, 3) := by decide +kernel
theorem dX4_readSign_4 : decode cX4_readSign 4 = .ok (.aload_n 0, 1) := by decide +kernel
theorem dX4_readSign_5 : decode cX4_readSign 5 = .ok (.getfield 15, 3) := by decide +kernel
theorem dX4_readSign_8 : decode cX4_readSign 8 = .ok (.invokevirtual 28, 3) := by decide +kernel
theorem dX4_readSign_11 : decode cX4_readSign 11 = .ok (.iload_n 1, 1) := by decide +kernel
theorem dX4_readSign_12 : decode cX4_readSign 12 = .ok (.if_icmp .eq 5, 3) := by decide +kernel
theorem dX4_readSign_15 : decode cX4_readSign 15 = .ok (.iconst 0, 1) := by decide +kernel
theorem dX4_readSign_16 : decode cX4_readSign 16 = .ok (.ireturn, 1) := by decide +kernel
theorem dX4_readSign_17 : decode cX4_readSign 17 = .ok (.aload_n 0, 1) := by decide +kernel
theorem dX4_readSign_18 : decode cX4_readSign 18 = .ok (.dup, 1) := by decide +kernel
theorem dX4_readSign_19 : decode cX4_readSign 19 = .ok (.getfield 15, 3) := by decide +kernel
theorem dX4_readSign_22 : decode cX4_readSign 22 = .ok (.iconst 1, 1) := by decide +kernel
theorem dX4_readSign_23 : decode cX4_readSign 23 = .ok (.iadd, 1) := by decide +kernel
theorem dX4_readSign_24 : decode cX4_readSign 24 = .ok (.putfield 15, 3) := by decide +kernel
theorem dX4_readSign_27 : decode cX4_readSign 27 = .ok (.iconst 1, 1) := by decide +kernel
theorem dX4_readSign_28 : decode cX4_readSign 28 = .ok (.ireturn, 1) := by decide +kernel
theorem dX4_readWire_0 : decode cX4_readWire 0 = .ok (.aload_n 0, 1) := by decide +kernel
theorem dX4_readWire_1 : decode cX4_readWire 1 = .ok (.aload_n 0, 1) := by decide +kernel
theorem dX4_readWire_2 : decode cX4_readWire 2 = .ok (.getfield 9, 3) := by decide +kernel
theorem dX4_readWire_5 : decode cX4_readWire 5 = .ok (.aload_n 0, 1) := by decide +kernel
theorem dX4_readWire_6 : decode cX4_readWire 6 = .ok (.getfield 15, 3) := by decide +kernel
theorem dX4_readWire_9 : decode cX4_readWire 9 = .ok (.invokevirtual 28, 3) := by decide +kernel
theorem dX4_readWire_12 : decode cX4_readWire 12 = .ok (.bipush 97, 2) := by decide +kernel
theorem dX4_readWire_14 : decode cX4_readWire 14 = .ok (.isub, 1) := by decide +kernel
theorem dX4_readWire_15 : decode cX4_readWire 15 = .ok (.putfield 51, 3) := by decide +kernel
theorem dX4_readWire_18 : decode cX4_readWire 18 = .ok (.aload_n 0, 1) := by decide +kernel
theorem dX4_readWire_19 : decode cX4_readWire 19 = .ok (.getfield 51, 3) := by decide +kernel
theorem dX4_readWire_22 : decode cX4_readWire 22 = .ok (.invokestatic 54, 3) := by decide +kernel
theorem dX4_readWire_25 : decode cX4_readWire 25 = .ok (.ifCond .ne 5, 3) := by decide +kernel
theorem dX4_readWire_28 : decode cX4_readWire 28 = .ok (.iconst 0, 1) := by decide +kernel
theorem dX4_readWire_29 : decode cX4_readWire 29 = .ok (.ireturn, 1) := by decide +kernel
theorem dX4_readWire_30 : decode cX4_readWire 30 = .ok (.aload_n 0, 1) := by decide +kernel
theorem dX4_readWire_31 : decode cX4_readWire 31 = .ok (.dup, 1) := by decide +kernel
theorem dX4_readWire_32 : decode cX4_readWire 32 = .ok (.getfield 15, 3) := by decide +kernel
theorem dX4_readWire_35 : decode cX4_readWire 35 = .ok (.iconst 1, 1) := by decide +kernel
theorem dX4_readWire_36 : decode cX4_readWire 36 = .ok (.iadd, 1) := by decide +kernel
theorem dX4_readWire_37 : decode cX4_readWire 37 = .ok (.putfield 15, 3) := by decide +kernel
theorem dX4_readWire_40 : decode cX4_readWire 40 = .ok (.iconst 1, 1) := by decide +kernel
theorem dX4_readWire_41 : decode cX4_readWire 41 = .ok (.ireturn, 1) := by decide +kernel
theorem dX4_readWires_0 : decode cX4_readWires 0 = .ok (.aload_n 0, 1) := by decide +kernel
theorem dX4_readWires_1 : decode cX4_readWires 1 = .ok (.iconst 0, 1) := by decide +kernel
theorem dX4_readWires_2 : decode cX4_readWires 2 = .ok (.putfield 58, 3) := by decide +kernel
theorem dX4_readWires_5 : decode cX4_readWires 5 = .ok (.iconst 0, 1) := by decide +kernel
theorem dX4_readWires_6 : decode cX4_readWires 6 = .ok (.istore_n 1, 1) := by decide +kernel
theorem dX4_readWires_7 : decode cX4_readWires 7 = .ok (.iload_n 1, 1) := by decide +kernel
theorem dX4_readWires_8 : decode cX4_readWires 8 = .ok (.bipush 6, 2) := by decide +kernel
theorem dX4_readWires_10 : decode cX4_readWires 10 = .ok (.if_icmp .ge 50, 3) := by decide +kernel
theorem dX4_readWires_13 : decode cX4_readWires 13 = .ok (.aload_n 0, 1) := by decide +kernel
theorem dX4_readWires_14 : decode cX4_readWires 14 = .ok (.aload_n 0, 1) := by decide +kernel
theorem dX4_readWires_15 : decode cX4_readWires 15 = .ok (.getfield 9, 3) := by decide +kernel
theorem dX4_readWires_18 : decode cX4_readWires 18 = .ok (.aload_n 0, 1) := by decide +kernel
theorem dX4_readWires_19 : decode cX4_readWires 19 = .ok (.getfield 15, 3) := by decide +kernel
theorem dX4_readWires_22 : decode cX4_readWires 22 = .ok (.invokevirtual 28, 3) := by decide +kernel
theorem dX4_readWires_25 : decode cX4_readWires 25 = .ok (.bipush 97, 2) := by decide +kernel
theorem dX4_readWires_27 : decode cX4_readWires 27 = .ok (.isub, 1) := by decide +kernel
theorem dX4_readWires_28 : decode cX4_readWires 28 = .ok (.invokevirtual 61, 3) := by decide +kernel
theorem dX4_readWires_31 : decode cX4_readWires 31 = .ok (.ifCond .eq 29, 3) := by decide +kernel
theorem dX4_readWires_34 : decode cX4_readWires 34 = .ok (.aload_n 0, 1) := by decide +kernel
theorem dX4_readWires_35 : decode cX4_readWires 35 = .ok (.invokevirtual 45, 3) := by decide +kernel
theorem dX4_readWires_38 : decode cX4_readWires 38 = .ok (.pop, 1) := by decide +kernel
theorem dX4_readWires_39 : decode cX4_readWires 39 = .ok (.aload_n 0, 1) := by decide +kernel
theorem dX4_readWires_40 : decode cX4_readWires 40 = .ok (.dup, 1) := by decide +kernel
theorem dX4_readWires_41 : decode cX4_readWires 41 = .ok (.getfield 58, 3) := by decide +kernel
theorem dX4_readWires_44 : decode cX4_readWires 44 = .ok (.iconst 1, 1) := by decide +kernel
theorem dX4_readWires_45 : decode cX4_readWires 45 = .ok (.aload_n 0, 1) := by decide +kernel
theorem dX4_readWires_46 : decode cX4_readWires 46 = .ok (.getfield 51, 3) := by decide +kernel
theorem dX4_readWires_49 : decode cX4_readWires 49 = .ok (.ishl, 1) := by decide +kernel
theorem dX4_readWires_50 : decode cX4_readWires 50 = .ok (.ior, 1) := by decide +kernel
theorem dX4_readWires_51 : decode cX4_readWires 51 = .ok (.putfield 58, 3) := by decide +kernel
theorem dX4_readWires_54 : decode cX4_readWires 54 = .ok (.iinc 1 1, 3) := by decide +kernel
theorem dX4_readWires_57 : decode cX4_readWires 57 = .ok (.goto (-50), 3) := by decide +kernel
theorem dX4_readWires_60 : decode cX4_readWires 60 = .ok (.aload_n 0, 1) := by decide +kernel
theorem dX4_readWires_61 : decode cX4_readWires 61 = .ok (.getfield 58, 3) := by decide +kernel
theorem dX4_readWires_64 : decode cX4_readWires 64 = .ok (.ifCond .eq 7, 3) := by decide +kernel
theorem dX4_readWires_67 : decode cX4_readWires 67 = .ok (.iconst 1, 1) := by decide +kernel
theorem dX4_readWires_68 : decode cX4_readWires 68 = .ok (.goto 4, 3) := by decide +kernel
theorem dX4_readWires_71 : decode cX4_readWires 71 = .ok (.iconst 0, 1) := by decide +kernel
theorem dX4_readWires_72 : decode cX4_readWires 72 = .ok (.ireturn, 1) := by decide +kernel
theorem dX4_isNewWire_0 : decode cX4_isNewWire 0 = .ok (.iload_n 1, 1) := by decide +kernel
theorem dX4_isNewWire_1 : decode cX4_isNewWire 1 = .ok (.invokestatic 54, 3) := by decide +kernel
theorem dX4_isNewWire_4 : decode cX4_isNewWire 4 = .ok (.ifCond .eq 18, 3) := by decide +kernel
theorem dX4_isNewWire_7 : decode cX4_isNewWire 7 = .ok (.aload_n 0, 1) := by decide +kernel
theorem dX4_isNewWire_8 : decode cX4_isNewWire 8 = .ok (.getfield 58, 3) := by decide +kernel
theorem dX4_isNewWire_11 : decode cX4_isNewWire 11 = .ok (.iload_n 1, 1) := by decide +kernel
theorem dX4_isNewWire_12 : decode cX4_isNewWire 12 = .ok (.ishr, 1) := by decide +kernel
theorem dX4_isNewWire_13 : decode cX4_isNewWire 13 = .ok (.iconst 1, 1) := by decide +kernel
theorem dX4_isNewWire_14 : decode cX4_isNewWire 14 = .ok (.iand, 1) := by decide +kernel
theorem dX4_isNewWire_15 : decode cX4_isNewWire 15 = .ok (.ifCond .ne 7, 3) := by decide +kernel
theorem dX4_isNewWire_18 : decode cX4_isNewWire 18 = .ok (.iconst 1, 1) := by decide +kernel
theorem dX4_isNewWire_19 : decode cX4_isNewWire 19 = .ok (.goto 4, 3) := by decide +kernel
theorem dX4_isNewWire_22 : decode cX4_isNewWire 22 = .ok (.iconst 0, 1) := by decide +kernel
theorem dX4_isNewWire_23 : decode cX4_isNewWire 23 = .ok (.ireturn, 1) := by decide +kernel
theorem dX4_readStation_0 : decode cX4_readStation 0 = .ok (.aload_n 0, 1) := by decide +kernel
theorem dX4_readStation_1 : decode cX4_readStation 1 = .ok (.aload_n 0, 1) := by decide +kernel
theorem dX4_readStation_2 : decode cX4_readStation 2 = .ok (.invokevirtual 64, 3) := by decide +kernel
theorem dX4_readStation_5 : decode cX4_readStation 5 = .ok (.putfield 68, 3) := by decide +kernel
theorem dX4_readStation_8 : decode cX4_readStation 8 = .ok (.aload_n 0, 1) := by decide +kernel
theorem dX4_readStation_9 : decode cX4_readStation 9 = .ok (.getfield 68, 3) := by decide +kernel
theorem dX4_readStation_12 : decode cX4_readStation 12 = .ok (.bipush (-6), 2) := by decide +kernel
theorem dX4_readStation_14 : decode cX4_readStation 14 = .ok (.if_icmp .ne 5, 3) := by decide +kernel
theorem dX4_readStation_17 : decode cX4_readStation 17 = .ok (.iconst 0, 1) := by decide +kernel
theorem dX4_readStation_18 : decode cX4_readStation 18 = .ok (.ireturn, 1) := by decide +kernel
theorem dX4_readStation_19 : decode cX4_readStation 19 = .ok (.aload_n 0, 1) := by decide +kernel
theorem dX4_readStation_20 : decode cX4_readStation 20 = .ok (.dup, 1) := by decide +kernel
theorem dX4_readStation_21 : decode cX4_readStation 21 = .ok (.getfield 15, 3) := by decide +kernel
theorem dX4_readStation_24 : decode cX4_readStation 24 = .ok (.iconst 1, 1) := by decide +kernel
theorem dX4_readStation_25 : decode cX4_readStation 25 = .ok (.iadd, 1) := by decide +kernel
theorem dX4_readStation_26 : decode cX4_readStation 26 = .ok (.putfield 15, 3) := by decide +kernel
theorem dX4_readStation_29 : decode cX4_readStation 29 = .ok (.iconst 1, 1) := by decide +kernel
theorem dX4_readStation_30 : decode cX4_readStation 30 = .ok (.ireturn, 1) := by decide +kernel
theorem dX4_readNumber_0 : decode cX4_readNumber 0 = .ok (.aload_n 0, 1) := by decide +kernel
theorem dX4_readNumber_1 : decode cX4_readNumber 1 = .ok (.aload_n 0, 1) := by decide +kernel
theorem dX4_readNumber_2 : decode cX4_readNumber 2 = .ok (.invokevirtual 64, 3) := by decide +kernel
theorem dX4_readNumber_5 : decode cX4_readNumber 5 = .ok (.putfield 71, 3) := by decide +kernel
theorem dX4_readNumber_8 : decode cX4_readNumber 8 = .ok (.aload_n 0, 1) := by decide +kernel
theorem dX4_readNumber_9 : decode cX4_readNumber 9 = .ok (.getfield 71, 3) := by decide +kernel
theorem dX4_readNumber_12 : decode cX4_readNumber 12 = .ok (.bipush (-6), 2) := by decide +kernel
theorem dX4_readNumber_14 : decode cX4_readNumber 14 = .ok (.if_icmp .ne 5, 3) := by decide +kernel
theorem dX4_readNumber_17 : decode cX4_readNumber 17 = .ok (.iconst 0, 1) := by decide +kernel
theorem dX4_readNumber_18 : decode cX4_readNumber 18 = .ok (.ireturn, 1) := by decide +kernel
theorem dX4_readNumber_19 : decode cX4_readNumber 19 = .ok (.aload_n 0, 1) := by decide +kernel
theorem dX4_readNumber_20 : decode cX4_readNumber 20 = .ok (.dup, 1) := by decide +kernel
theorem dX4_readNumber_21 : decode cX4_readNumber 21 = .ok (.getfield 15, 3) := by decide +kernel
theorem dX4_readNumber_24 : decode cX4_readNumber 24 = .ok (.iconst 1, 1) := by decide +kernel
theorem dX4_readNumber_25 : decode cX4_readNumber 25 = .ok (.iadd, 1) := by decide +kernel
theorem dX4_readNumber_26 : decode cX4_readNumber 26 = .ok (.putfield 15, 3) := by decide +kernel
theorem dX4_readNumber_29 : decode cX4_readNumber 29 = .ok (.iconst 1, 1) := by decide +kernel
theorem dX4_readNumber_30 : decode cX4_readNumber 30 = .ok (.istore_n 1, 1) := by decide +kernel
theorem dX4_readNumber_31 : decode cX4_readNumber 31 = .ok (.iload_n 1, 1) := by decide +kernel
theorem dX4_readNumber_32 : decode cX4_readNumber 32 = .ok (.bipush 80, 2) := by decide +kernel
theorem dX4_readNumber_34 : decode cX4_readNumber 34 = .ok (.if_icmp .ge 46, 3) := by decide +kernel
theorem dX4_readNumber_37 : decode cX4_readNumber 37 = .ok (.aload_n 0, 1) := by decide +kernel
theorem dX4_readNumber_38 : decode cX4_readNumber 38 = .ok (.aload_n 0, 1) := by decide +kernel
theorem dX4_readNumber_39 : decode cX4_readNumber 39 = .ok (.invokevirtual 64, 3) := by decide +kernel
theorem dX4_readNumber_42 : decode cX4_readNumber 42 = .ok (.invokevirtual 74, 3) := by decide +kernel
theorem dX4_readNumber_45 : decode cX4_readNumber 45 = .ok (.ifCond .eq 35, 3) := by decide +kernel
theorem dX4_readNumber_48 : decode cX4_readNumber 48 = .ok (.aload_n 0, 1) := by decide +kernel
theorem dX4_readNumber_49 : decode cX4_readNumber 49 = .ok (.aload_n 0, 1) := by decide +kernel
theorem dX4_readNumber_50 : decode cX4_readNumber 50 = .ok (.getfield 71, 3) := by decide +kernel
theorem dX4_readNumber_53 : decode cX4_readNumber 53 = .ok (.bipush 10, 2) := by decide +kernel
theorem dX4_readNumber_55 : decode cX4_readNumber 55 = .ok (.imul, 1) := by decide +kernel
theorem dX4_readNumber_56 : decode cX4_readNumber 56 = .ok (.aload_n 0, 1) := by decide +kernel
theorem dX4_readNumber_57 : decode cX4_readNumber 57 = .ok (.invokevirtual 64, 3) := by decide +kernel
theorem dX4_readNumber_60 : decode cX4_readNumber 60 = .ok (.iadd, 1) := by decide +kernel
theorem dX4_readNumber_61 : decode cX4_readNumber 61 = .ok (.putfield 71, 3) := by decide +kernel
theorem dX4_readNumber_64 : decode cX4_readNumber 64 = .ok (.aload_n 0, 1) := by decide +kernel
theorem dX4_readNumber_65 : decode cX4_readNumber 65 = .ok (.dup, 1) := by decide +kernel
theorem dX4_readNumber_66 : decode cX4_readNumber 66 = .ok (.getfield 15, 3) := by decide +kernel
theorem dX4_readNumber_69 : decode cX4_readNumber 69 = .ok (.iconst 1, 1) := by decide +kernel
theorem dX4_readNumber_70 : decode cX4_readNumber 70 = .ok (.iadd, 1) := by decide +kernel
theorem dX4_readNumber_71 : decode cX4_readNumber 71 = .ok (.putfield 15, 3) := by decide +kernel
theorem dX4_readNumber_74 : decode cX4_readNumber 74 = .ok (.iinc 1 1, 3) := by decide +kernel
theorem dX4_readNumber_77 : decode cX4_readNumber 77 = .ok (.goto (-46), 3) := by decide +kernel
theorem dX4_readNumber_80 : decode cX4_readNumber 80 = .ok (.iconst 1, 1) := by decide +kernel
theorem dX4_readNumber_81 : decode cX4_readNumber 81 = .ok (.ireturn, 1) := by decide +kernel
theorem dX4_canGrowBy_0 : decode cX4_canGrowBy 0 = .ok (.iload_n 1, 1) := by decide +kernel
theorem dX4_canGrowBy_1 : decode cX4_canGrowBy 1 = .ok (.bipush (-6), 2) := by decide +kernel
theorem dX4_canGrowBy_3 : decode cX4_canGrowBy 3 = .ok (.if_icmp .eq 29, 3) := by decide +kernel
theorem dX4_canGrowBy_6 : decode cX4_canGrowBy 6 = .ok (.aload_n 0, 1) := by decide +kernel
theorem dX4_canGrowBy_7 : decode cX4_canGrowBy 7 = .ok (.getfield 71, 3) := by decide +kernel
theorem dX4_canGrowBy_10 : decode cX4_canGrowBy 10 = .ok (.ifCond .eq 22, 3) := by decide +kernel
theorem dX4_canGrowBy_13 : decode cX4_canGrowBy 13 = .ok (.aload_n 0, 1) := by decide +kernel
theorem dX4_canGrowBy_14 : decode cX4_canGrowBy 14 = .ok (.getfield 71, 3) := by decide +kernel
theorem dX4_canGrowBy_17 : decode cX4_canGrowBy 17 = .ok (.bipush 10, 2) := by decide +kernel
theorem dX4_canGrowBy_19 : decode cX4_canGrowBy 19 = .ok (.imul, 1) := by decide +kernel
theorem dX4_canGrowBy_20 : decode cX4_canGrowBy 20 = .ok (.iload_n 1, 1) := by decide +kernel
theorem dX4_canGrowBy_21 : decode cX4_canGrowBy 21 = .ok (.iadd, 1) := by decide +kernel
theorem dX4_canGrowBy_22 : decode cX4_canGrowBy 22 = .ok (.sipush 999, 3) := by decide +kernel
theorem dX4_canGrowBy_25 : decode cX4_canGrowBy 25 = .ok (.if_icmp .gt 7, 3) := by decide +kernel
theorem dX4_canGrowBy_28 : decode cX4_canGrowBy 28 = .ok (.iconst 1, 1) := by decide +kernel
theorem dX4_canGrowBy_29 : decode cX4_canGrowBy 29 = .ok (.goto 4, 3) := by decide +kernel
theorem dX4_canGrowBy_32 : decode cX4_canGrowBy 32 = .ok (.iconst 0, 1) := by decide +kernel
theorem dX4_canGrowBy_33 : decode cX4_canGrowBy 33 = .ok (.ireturn, 1) := by decide +kernel
theorem dX4_digitAt_0 : decode cX4_digitAt 0 = .ok (.aload_n 0, 1) := by decide +kernel
theorem dX4_digitAt_1 : decode cX4_digitAt 1 = .ok (.getfield 9, 3) := by decide +kernel
theorem dX4_digitAt_4 : decode cX4_digitAt 4 = .ok (.aload_n 0, 1) := by decide +kernel
theorem dX4_digitAt_5 : decode cX4_digitAt 5 = .ok (.getfield 15, 3) := by decide +kernel
theorem dX4_digitAt_8 : decode cX4_digitAt 8 = .ok (.invokevirtual 28, 3) := by decide +kernel
theorem dX4_digitAt_11 : decode cX4_digitAt 11 = .ok (.bipush 48, 2) := by decide +kernel
theorem dX4_digitAt_13 : decode cX4_digitAt 13 = .ok (.isub, 1) := by decide +kernel
theorem dX4_digitAt_14 : decode cX4_digitAt 14 = .ok (.istore_n 1, 1) := by decide +kernel
theorem dX4_digitAt_15 : decode cX4_digitAt 15 = .ok (.iload_n 1, 1) := by decide +kernel
theorem dX4_digitAt_16 : decode cX4_digitAt 16 = .ok (.ifCond .lt 13, 3) := by decide +kernel
theorem dX4_digitAt_19 : decode cX4_digitAt 19 = .ok (.iload_n 1, 1) := by decide +kernel
theorem dX4_digitAt_20 : decode cX4_digitAt 20 = .ok (.bipush 9, 2) := by decide +kernel
theorem dX4_digitAt_22 : decode cX4_digitAt 22 = .ok (.if_icmp .gt 7, 3) := by decide +kernel
theorem dX4_digitAt_25 : decode cX4_digitAt 25 = .ok (.iload_n 1, 1) := by decide +kernel
theorem dX4_digitAt_26 : decode cX4_digitAt 26 = .ok (.goto 5, 3) := by decide +kernel
theorem dX4_digitAt_29 : decode cX4_digitAt 29 = .ok (.bipush (-6), 2) := by decide +kernel
theorem dX4_digitAt_31 : decode cX4_digitAt 31 = .ok (.ireturn, 1) := by decide +kernel
theorem dX5_init_0 : decode cX5_init 0 = .ok (.aload_n 0, 1) := by decide +kernel
theorem dX5_init_1 : decode cX5_init 1 = .ok (.invokespecial 3, 3) := by decide +kernel
theorem dX5_init_4 : decode cX5_init 4 = .ok (.aload_n 0, 1) := by decide +kernel
theorem dX5_init_5 : decode cX5_init 5 = .ok (.iconst 4, 1) := by decide +kernel
theorem dX5_init_6 : decode cX5_init 6 = .ok (.newarray .int, 2) := by decide +kernel
theorem dX5_init_8 : decode cX5_init 8 = .ok (.putfield 9, 3) := by decide +kernel
theorem dX5_init_11 : decode cX5_init 11 = .ok (.aload_n 0, 1) := by decide +kernel
theorem dX5_init_12 : decode cX5_init 12 = .ok (.iconst 4, 1) := by decide +kernel
theorem dX5_init_13 : decode cX5_init 13 = .ok (.newarray .int, 2) := by decide +kernel
theorem dX5_init_15 : decode cX5_init 15 = .ok (.putfield 15, 3) := by decide +kernel
theorem dX5_init_18 : decode cX5_init 18 = .ok (.aload_n 0, 1) := by decide +kernel
theorem dX5_init_19 : decode cX5_init 19 = .ok (.iconst 4, 1) := by decide +kernel
theorem dX5_init_20 : decode cX5_init 20 = .ok (.newarray .int, 2) := by decide +kernel
theorem dX5_init_22 : decode cX5_init 22 = .ok (.putfield 18, 3) := by decide +kernel
theorem dX5_init_25 : decode cX5_init 25 = .ok (.return_, 1) := by decide +kernel
theorem dX5_copyFrom_0 : decode cX5_copyFrom 0 = .ok (.aload_n 1, 1) := by decide +kernel
theorem dX5_copyFrom_1 : decode cX5_copyFrom 1 = .ok (.getfield 9, 3) := by decide +kernel
theorem dX5_copyFrom_4 : decode cX5_copyFrom 4 = .ok (.aload_n 0, 1) := by decide +kernel
theorem dX5_copyFrom_5 : decode cX5_copyFrom 5 = .ok (.getfield 9, 3) := by decide +kernel
theorem dX5_copyFrom_8 : decode cX5_copyFrom 8 = .ok (.invokestatic 21, 3) := by decide +kernel
theorem dX5_copyFrom_11 : decode cX5_copyFrom 11 = .ok (.aload_n 1, 1) := by decide +kernel
theorem dX5_copyFrom_12 : decode cX5_copyFrom 12 = .ok (.getfield 15, 3) := by decide +kernel
theorem dX5_copyFrom_15 : decode cX5_copyFrom 15 = .ok (.aload_n 0, 1) := by decide +kernel
theorem dX5_copyFrom_16 : decode cX5_copyFrom 16 = .ok (.getfield 15, 3) := by decide +kernel
theorem dX5_copyFrom_19 : decode cX5_copyFrom 19 = .ok (.invokestatic 21, 3) := by decide +kernel
theorem dX5_copyFrom_22 : decode cX5_copyFrom 22 = .ok (.aload_n 1, 1) := by decide +kernel
theorem dX5_copyFrom_23 : decode cX5_copyFrom 23 = .ok (.getfield 18, 3) := by decide +kernel
theorem dX5_copyFrom_26 : decode cX5_copyFrom 26 = .ok (.aload_n 0, 1) := by decide +kernel
theorem dX5_copyFrom_27 : decode cX5_copyFrom 27 = .ok (.getfield 18, 3) := by decide +kernel
theorem dX5_copyFrom_30 : decode cX5_copyFrom 30 = .ok (.invokestatic 21, 3) := by decide +kernel
theorem dX5_copyFrom_33 : decode cX5_copyFrom 33 = .ok (.aload_n 0, 1) := by decide +kernel
theorem dX5_copyFrom_34 : decode cX5_copyFrom 34 = .ok (.aload_n 1, 1) := by decide +kernel
theorem dX5_copyFrom_35 : decode cX5_copyFrom 35 = .ok (.getfield 25, 3) := by decide +kernel
theorem dX5_copyFrom_38 : decode cX5_copyFrom 38 = .ok (.putfield 25, 3) := by decide +kernel
theorem dX5_copyFrom_41 : decode cX5_copyFrom 41 = .ok (.return_, 1) := by decide +kernel
theorem dX5_has_0 : decode cX5_has 0 = .ok (.iload_n 1, 1) := by decide +kernel
theorem dX5_has_1 : decode cX5_has 1 = .ok (.ifCond .lt 20, 3) := by decide +kernel
theorem dX5_has_4 : decode cX5_has 4 = .ok (.iload_n 1, 1) := by decide +kernel
theorem dX5_has_5 : decode cX5_has 5 = .ok (.aload_n 0, 1) := by decide +kernel
theorem dX5_has_6 : decode cX5_has 6 = .ok (.getfield 25, 3) := by decide +kernel
theorem dX5_has_9 : decode cX5_has 9 = .ok (.if_icmp .ge 12, 3) := by decide +kernel
theorem dX5_has_12 : decode cX5_has 12 = .ok (.iload_n 1, 1) := by decide +kernel
theorem dX5_has_13 : decode cX5_has 13 = .ok (.iconst 4, 1) := by decide +kernel
theorem dX5_has_14 : decode cX5_has 14 = .ok (.if_icmp .ge 7, 3) := by decide +kernel
theorem dX5_has_17 : decode cX5_has 17 = .ok (.iconst 1, 1) := by decide +kernel
theorem dX5_has_18 : decode cX5_has 18 = .ok (.goto 4, 3) := by decide +kernel
theorem dX5_has_21 : decode cX5_has 21 = .ok (.iconst 0, 1) := by decide +kernel
theorem dX5_has_22 : decode cX5_has 22 = .ok (.ireturn, 1) := by decide +kernel
theorem dX5_numberAt_0 : decode cX5_numberAt 0 = .ok (.aload_n 0, 1) := by decide +kernel
theorem dX5_numberAt_1 : decode cX5_numberAt 1 = .ok (.iload_n 1, 1) := by decide +kernel
theorem dX5_numberAt_2 : decode cX5_numberAt 2 = .ok (.invokevirtual 29, 3) := by decide +kernel
theorem dX5_numberAt_5 : decode cX5_numberAt 5 = .ok (.ifCond .eq 12, 3) := by decide +kernel
theorem dX5_numberAt_8 : decode cX5_numberAt 8 = .ok (.aload_n 0, 1) := by decide +kernel
theorem dX5_numberAt_9 : decode cX5_numberAt 9 = .ok (.getfield 9, 3) := by decide +kernel
theorem dX5_numberAt_12 : decode cX5_numberAt 12 = .ok (.iload_n 1, 1) := by decide +kernel
theorem dX5_numberAt_13 : decode cX5_numberAt 13 = .ok (.iaload, 1) := by decide +kernel
theorem dX5_numberAt_14 : decode cX5_numberAt 14 = .ok (.goto 5, 3) := by decide +kernel
theorem dX5_numberAt_17 : decode cX5_numberAt 17 = .ok (.bipush (-6), 2) := by decide +kernel
theorem dX5_numberAt_19 : decode cX5_numberAt 19 = .ok (.ireturn, 1) := by decide +kernel
theorem dX5_wireAt_0 : decode cX5_wireAt 0 = .ok (.aload_n 0, 1) := by decide +kernel
theorem dX5_wireAt_1 : decode cX5_wireAt 1 = .ok (.iload_n 1, 1) := by decide +kernel
theorem dX5_wireAt_2 : decode cX5_wireAt 2 = .ok (.invokevirtual 29, 3) := by decide +kernel
theorem dX5_wireAt_5 : decode cX5_wireAt 5 = .ok (.ifCond .eq 12, 3) := by decide +kernel
theorem dX5_wireAt_8 : decode cX5_wireAt 8 = .ok (.aload_n 0, 1) := by decide +kernel
theorem dX5_wireAt_9 : decode cX5_wireAt 9 = .ok (.getfield 15, 3) := by decide +kernel
theorem dX5_wireAt_12 : decode cX5_wireAt 12 = .ok (.iload_n 1, 1) := by decide +kernel
theorem dX5_wireAt_13 : decode cX5_wireAt 13 = .ok (.iaload, 1) := by decide +kernel
theorem dX5_wireAt_14 : decode cX5_wireAt 14 = .ok (.goto 5, 3) := by decide +kernel
theorem dX5_wireAt_17 : decode cX5_wireAt 17 = .ok (.bipush (-6), 2) := by decide +kernel
theorem dX5_wireAt_19 : decode cX5_wireAt 19 = .ok (.ireturn, 1) := by decide +kernel
theorem dX5_triesAt_0 : decode cX5_triesAt 0 = .ok (.aload_n 0, 1) := by decide +kernel
theorem dX5_triesAt_1 : decode cX5_triesAt 1 = .ok (.iload_n 1, 1) := by decide +kernel
theorem dX5_triesAt_2 : decode cX5_triesAt 2 = .ok (.invokevirtual 29, 3) := by decide +kernel
theorem dX5_triesAt_5 : decode cX5_triesAt 5 = .ok (.ifCond .eq 12, 3) := by decide +kernel
theorem dX5_triesAt_8 : decode cX5_triesAt 8 = .ok (.aload_n 0, 1) := by decide +kernel
theorem dX5_triesAt_9 : decode cX5_triesAt 9 = .ok (.getfield 18, 3) := by decide +kernel
theorem dX5_triesAt_12 : decode cX5_triesAt 12 = .ok (.iload_n 1, 1) := by decide +kernel
theorem dX5_triesAt_13 : decode cX5_triesAt 13 = .ok (.iaload, 1) := by decide +kernel
theorem dX5_triesAt_14 : decode cX5_triesAt 14 = .ok (.goto 5, 3) := by decide +kernel
theorem dX5_triesAt_17 : decode cX5_triesAt 17 = .ok (.bipush (-6), 2) := by decide +kernel
theorem dX5_triesAt_19 : decode cX5_triesAt 19 = .ok (.ireturn, 1) := by decide +kernel
theorem dX5_countFor_0 : decode cX5_countFor 0 = .ok (.iconst 0, 1) := by decide +kernel
theorem dX5_countFor_1 : decode cX5_countFor 1 = .ok (.istore_n 2, 1) := by decide +kernel
theorem dX5_countFor_2 : decode cX5_countFor 2 = .ok (.iconst 0, 1) := by decide +kernel
theorem dX5_countFor_3 : decode cX5_countFor 3 = .ok (.istore_n 3, 1) := by decide +kernel
theorem dX5_countFor_4 : decode cX5_countFor 4 = .ok (.iload_n 3, 1) := by decide +kernel
theorem dX5_countFor_5 : decode cX5_countFor 5 = .ok (.aload_n 0, 1) := by decide +kernel
theorem dX5_countFor_6 : decode cX5_countFor 6 = .ok (.getfield 25, 3) := by decide +kernel
theorem dX5_countFor_9 : decode cX5_countFor 9 = .ok (.if_icmp .ge 21, 3) := by decide +kernel
theorem dX5_countFor_12 : decode cX5_countFor 12 = .ok (.aload_n 0, 1) := by decide +kernel
theorem dX5_countFor_13 : decode cX5_countFor 13 = .ok (.iload_n 3, 1) := by decide +kernel
theorem dX5_countFor_14 : decode cX5_countFor 14 = .ok (.invokevirtual 33, 3) := by decide +kernel
theorem dX5_countFor_17 : decode cX5_countFor 17 = .ok (.iload_n 1, 1) := by decide +kernel
theorem dX5_countFor_18 : decode cX5_countFor 18 = .ok (.if_icmp .ne 6, 3) := by decide +kernel
theorem dX5_countFor_21 : decode cX5_countFor 21 = .ok (.iinc 2 1, 3) := by decide +kernel
theorem dX5_countFor_24 : decode cX5_countFor 24 = .ok (.iinc 3 1, 3) := by decide +kernel
theorem dX5_countFor_27 : decode cX5_countFor 27 = .ok (.goto (-23), 3) := by decide +kernel
theorem dX5_countFor_30 : decode cX5_countFor 30 = .ok (.iload_n 2, 1) := by decide +kernel
theorem dX5_countFor_31 : decode cX5_countFor 31 = .ok (.ireturn, 1) := by decide +kernel
theorem dX5_add_0 : decode cX5_add 0 = .ok (.aload_n 0, 1) := by decide +kernel
theorem dX5_add_1 : decode cX5_add 1 = .ok (.getfield 25, 3) := by decide +kernel
theorem dX5_add_4 : decode cX5_add 4 = .ok (.iconst 4, 1) := by decide +kernel
theorem dX5_add_5 : decode cX5_add 5 = .ok (.if_icmp .lt 4, 3) := by decide +kernel
theorem dX5_add_8 : decode cX5_add 8 = .ok (.return_, 1) := by decide +kernel
theorem dX5_add_9 : decode cX5_add 9 = .ok (.aload_n 0, 1) := by decide +kernel
theorem dX5_add_10 : decode cX5_add 10 = .ok (.getfield 9, 3) := by decide +kernel
theorem dX5_add_13 : decode cX5_add 13 = .ok (.aload_n 0, 1) := by decide +kernel
theorem dX5_add_14 : decode cX5_add 14 = .ok (.getfield 25, 3) := by decide +kernel
theorem dX5_add_17 : decode cX5_add 17 = .ok (.iload_n 1, 1) := by decide +kernel
theorem dX5_add_18 : decode cX5_add 18 = .ok (.iastore, 1) := by decide +kernel
theorem dX5_add_19 : decode cX5_add 19 = .ok (.aload_n 0, 1) := by decide +kernel
theorem dX5_add_20 : decode cX5_add 20 = .ok (.getfield 15, 3) := by decide +kernel
theorem dX5_add_23 : decode cX5_add 23 = .ok (.aload_n 0, 1) := by decide +kernel
theorem dX5_add_24 : decode cX5_add 24 = .ok (.getfield 25, 3) := by decide +kernel
theorem dX5_add_27 : decode cX5_add 27 = .ok (.iload_n 2, 1) := by decide +kernel
theorem dX5_add_28 : decode cX5_add 28 = .ok (.iastore, 1) := by decide +kernel
theorem dX5_add_29 : decode cX5_add 29 = .ok (.aload_n 0, 1) := by decide +kernel
theorem dX5_add_30 : decode cX5_add 30 = .ok (.getfield 18, 3) := by decide +kernel
theorem dX5_add_33 : decode cX5_add 33 = .ok (.aload_n 0, 1) := by decide +kernel
theorem dX5_add_34 : decode cX5_add 34 = .ok (.getfield 25, 3) := by decide +kernel
theorem dX5_add_37 : decode cX5_add 37 = .ok (.iconst 0, 1) := by decide +kernel
theorem dX5_add_38 : decode cX5_add 38 = .ok (.iastore, 1) := by decide +kernel
theorem dX5_add_39 : decode cX5_add 39 = .ok (.aload_n 0, 1) := by decide +kernel
theorem dX5_add_40 : decode cX5_add 40 = .ok (.dup, 1) := by decide +kernel
theorem dX5_add_41 : decode cX5_add 41 = .ok (.getfield 25, 3) := by decide +kernel
theorem dX5_add_44 : decode cX5_add 44 = .ok (.iconst 1, 1) := by decide +kernel
theorem dX5_add_45 : decode cX5_add 45 = .ok (.iadd, 1) := by decide +kernel
theorem dX5_add_46 : decode cX5_add 46 = .ok (.putfield 25, 3) := by decide +kernel
theorem dX5_add_49 : decode cX5_add 49 = .ok (.return_, 1) := by decide +kernel
theorem dX5_tryFirst_0 : decode cX5_tryFirst 0 = .ok (.aload_n 0, 1) := by decide +kernel
theorem dX5_tryFirst_1 : decode cX5_tryFirst 1 = .ok (.getfield 25, 3) := by decide +kernel
theorem dX5_tryFirst_4 : decode cX5_tryFirst 4 = .ok (.ifCond .ne 5, 3) := by decide +kernel
theorem dX5_tryFirst_7 : decode cX5_tryFirst 7 = .ok (.iconst 0, 1) := by decide +kernel
theorem dX5_tryFirst_8 : decode cX5_tryFirst 8 = .ok (.ireturn, 1) := by decide +kernel
theorem dX5_tryFirst_9 : decode cX5_tryFirst 9 = .ok (.aload_n 0, 1) := by decide +kernel
theorem dX5_tryFirst_10 : decode cX5_tryFirst 10 = .ok (.getfield 18, 3) := by decide +kernel
theorem dX5_tryFirst_13 : decode cX5_tryFirst 13 = .ok (.iconst 0, 1) := by decide +kernel
theorem dX5_tryFirst_14 : decode cX5_tryFirst 14 = .ok (.dup2, 1) := by decide +kernel
theorem dX5_tryFirst_15 : decode cX5_tryFirst 15 = .ok (.iaload, 1) := by decide +kernel
theorem dX5_tryFirst_16 : decode cX5_tryFirst 16 = .ok (.iconst 1, 1) := by decide +kernel
theorem dX5_tryFirst_17 : decode cX5_tryFirst 17 = .ok (.iadd, 1) := by decide +kernel
theorem dX5_tryFirst_18 : decode cX5_tryFirst 18 = .ok (.iastore, 1) := by decide +kernel
theorem dX5_tryFirst_19 : decode cX5_tryFirst 19 = .ok (.aload_n 0, 1) := by decide +kernel
theorem dX5_tryFirst_20 : decode cX5_tryFirst 20 = .ok (.getfield 18, 3) := by decide +kernel
theorem dX5_tryFirst_23 : decode cX5_tryFirst 23 = .ok (.iconst 0, 1) := by decide +kernel
theorem dX5_tryFirst_24 : decode cX5_tryFirst 24 = .ok (.iaload, 1) := by decide +kernel
theorem dX5_tryFirst_25 : decode cX5_tryFirst 25 = .ok (.ireturn, 1) := by decide +kernel
theorem dX5_dropFirst_0 : decode cX5_dropFirst 0 = .ok (.aload_n 0, 1) := by decide +kernel
theorem dX5_dropFirst_1 : decode cX5_dropFirst 1 = .ok (.getfield 25, 3) := by decide +kernel
theorem dX5_dropFirst_4 : decode cX5_dropFirst 4 = .ok (.ifCond .ne 4, 3) := by decide +kernel
theorem dX5_dropFirst_7 : decode cX5_dropFirst 7 = .ok (.return_, 1) := by decide +kernel
theorem dX5_dropFirst_8 : decode cX5_dropFirst 8 = .ok (.iconst 1, 1) := by decide +kernel
theorem dX5_dropFirst_9 : decode cX5_dropFirst 9 = .ok (.istore_n 1, 1) := by decide +kernel
theorem dX5_dropFirst_10 : decode cX5_dropFirst 10 = .ok (.iload_n 1, 1) := by decide +kernel
theorem dX5_dropFirst_11 : decode cX5_dropFirst 11 = .ok (.aload_n 0, 1) := by decide +kernel
theorem dX5_dropFirst_12 : decode cX5_dropFirst 12 = .ok (.getfield 25, 3) := by decide +kernel
theorem dX5_dropFirst_15 : decode cX5_dropFirst 15 = .ok (.if_icmp .ge 51, 3) := by decide +kernel
theorem dX5_dropFirst_18 : decode cX5_dropFirst 18 = .ok (.aload_n 0, 1) := by decide +kernel
theorem dX5_dropFirst_19 : decode cX5_dropFirst 19 = .ok (.getfield 9, 3) := by decide +kernel
theorem dX5_dropFirst_22 : decode cX5_dropFirst 22 = .ok (.iload_n 1, 1) := by decide +kernel
theorem dX5_dropFirst_23 : decode cX5_dropFirst 23 = .ok (.iconst 1, 1) := by decide +kernel
theorem dX5_dropFirst_24 : decode cX5_dropFirst 24 = .ok (.isub, 1) := by decide +kernel
theorem dX5_dropFirst_25 : decode cX5_dropFirst 25 = .ok (.aload_n 0, 1) := by decide +kernel
theorem dX5_dropFirst_26 : decode cX5_dropFirst 26 = .ok (.getfield 9, 3) := by decide +kernel
theorem dX5_dropFirst_29 : decode cX5_dropFirst 29 = .ok (.iload_n 1, 1) := by decide +kernel
theorem dX5_dropFirst_30 : decode cX5_dropFirst 30 = .ok (.iaload, 1) := by decide +kernel
theorem dX5_dropFirst_31 : decode cX5_dropFirst 31 = .ok (.iastore, 1) := by decide +kernel
theorem dX5_dropFirst_32 : decode cX5_dropFirst 32 = .ok (.aload_n 0, 1) := by decide +kernel
theorem dX5_dropFirst_33 : decode cX5_dropFirst 33 = .ok (.getfield 15, 3) := by decide +kernel
theorem dX5_dropFirst_36 : decode cX5_dropFirst 36 = .ok (.iload_n 1, 1) := by decide +kernel
theorem dX5_dropFirst_37 : decode cX5_dropFirst 37 = .ok (.iconst 1, 1) := by decide +kernel
theorem dX5_dropFirst_38 : decode cX5_dropFirst 38 = .ok (.isub, 1) := by decide +kernel
theorem dX5_dropFirst_39 : decode cX5_dropFirst 39 = .ok (.aload_n 0, 1) := by decide +kernel
theorem dX5_dropFirst_40 : decode cX5_dropFirst 40 = .ok (.getfield 15, 3) := by decide +kernel
theorem dX5_dropFirst_43 : decode cX5_dropFirst 43 = .ok (.iload_n 1, 1) := by decide +kernel
theorem dX5_dropFirst_44 : decode cX5_dropFirst 44 = .ok (.iaload, 1) := by decide +kernel
theorem dX5_dropFirst_45 : decode cX5_dropFirst 45 = .ok (.iastore, 1) := by decide +kernel
theorem dX5_dropFirst_46 : decode cX5_dropFirst 46 = .ok (.aload_n 0, 1) := by decide +kernel
theorem dX5_dropFirst_47 : decode cX5_dropFirst 47 = .ok (.getfield 18, 3) := by decide +kernel
theorem dX5_dropFirst_50 : decode cX5_dropFirst 50 = .ok (.iload_n 1, 1) := by decide +kernel
theorem dX5_dropFirst_51 : decode cX5_dropFirst 51 = .ok (.iconst 1, 1) := by decide +kernel
theorem dX5_dropFirst_52 : decode cX5_dropFirst 52 = .ok (.isub, 1) := by decide +kernel
theorem dX5_dropFirst_53 : decode cX5_dropFirst 53 = .ok (.aload_n 0, 1) := by decide +kernel
theorem dX5_dropFirst_54 : decode cX5_dropFirst 54 = .ok (.getfield 18, 3) := by decide +kernel
theorem dX5_dropFirst_57 : decode cX5_dropFirst 57 = .ok (.iload_n 1, 1) := by decide +kernel
theorem dX5_dropFirst_58 : decode cX5_dropFirst 58 = .ok (.iaload, 1) := by decide +kernel
theorem dX5_dropFirst_59 : decode cX5_dropFirst 59 = .ok (.iastore, 1) := by decide +kernel
theorem dX5_dropFirst_60 : decode cX5_dropFirst 60 = .ok (.iinc 1 1, 3) := by decide +kernel
theorem dX5_dropFirst_63 : decode cX5_dropFirst 63 = .ok (.goto (-53), 3) := by decide +kernel
theorem dX5_dropFirst_66 : decode cX5_dropFirst 66 = .ok (.aload_n 0, 1) := by decide +kernel
theorem dX5_dropFirst_67 : decode cX5_dropFirst 67 = .ok (.dup, 1) := by decide +kernel
theorem dX5_dropFirst_68 : decode cX5_dropFirst 68 = .ok (.getfield 25, 3) := by decide +kernel
theorem dX5_dropFirst_71 : decode cX5_dropFirst 71 = .ok (.iconst 1, 1) := by decide +kernel
theorem dX5_dropFirst_72 : decode cX5_dropFirst 72 = .ok (.isub, 1) := by decide +kernel
theorem dX5_dropFirst_73 : decode cX5_dropFirst 73 = .ok (.putfield 25, 3) := by decide +kernel
theorem dX5_dropFirst_76 : decode cX5_dropFirst 76 = .ok (.return_, 1) := by decide +kernel
theorem dX6_init_0 : decode cX6_init 0 = .ok (.aload_n 0, 1) := by decide +kernel
theorem dX6_init_1 : decode cX6_init 1 = .ok (.invokespecial 3, 3) := by decide +kernel
theorem dX6_init_4 : decode cX6_init 4 = .ok (.aload_n 0, 1) := by decide +kernel
theorem dX6_init_5 : decode cX6_init 5 = .ok (.new 9, 3) := by decide +kernel
theorem dX6_init_8 : decode cX6_init 8 = .ok (.dup, 1) := by decide +kernel
theorem dX6_init_9 : decode cX6_init 9 = .ok (.invokespecial 11, 3) := by decide +kernel
theorem dX6_init_12 : decode cX6_init 12 = .ok (.putfield 12, 3) := by decide +kernel
theorem dX6_init_15 : decode cX6_init 15 = .ok (.aload_n 0, 1) := by decide +kernel
theorem dX6_init_16 : decode cX6_init 16 = .ok (.new 18, 3) := by decide +kernel
theorem dX6_init_19 : decode cX6_init 19 = .ok (.dup, 1) := by decide +kernel
theorem dX6_init_20 : decode cX6_init 20 = .ok (.invokespecial 20, 3) := by decide +kernel
theorem dX6_init_23 : decode cX6_init 23 = .ok (.putfield 21, 3) := by decide +kernel
theorem dX6_init_26 : decode cX6_init 26 = .ok (.aload_n 0, 1) := by decide +kernel
theorem dX6_init_27 : decode cX6_init 27 = .ok (.iconst (-1), 1) := by decide +kernel
theorem dX6_init_28 : decode cX6_init 28 = .ok (.putfield 25, 3) := by decide +kernel
theorem dX6_init_31 : decode cX6_init 31 = .ok (.aload_n 0, 1) := by decide +kernel
theorem dX6_init_32 : decode cX6_init 32 = .ok (.iload_n 1, 1) := by decide +kernel
theorem dX6_init_33 : decode cX6_init 33 = .ok (.putfield 29, 3) := by decide +kernel
theorem dX6_init_36 : decode cX6_init 36 = .ok (.return_, 1) := by decide +kernel
theorem dX6_copyFrom_0 : decode cX6_copyFrom 0 = .ok (.aload_n 0, 1) := by decide +kernel
theorem dX6_copyFrom_1 : decode cX6_copyFrom 1 = .ok (.getfield 12, 3) := by decide +kernel
theorem dX6_copyFrom_4 : decode cX6_copyFrom 4 = .ok (.aload_n 1, 1) := by decide +kernel
theorem dX6_copyFrom_5 : decode cX6_copyFrom 5 = .ok (.getfield 12, 3) := by decide +kernel
theorem dX6_copyFrom_8 : decode cX6_copyFrom 8 = .ok (.invokevirtual 32, 3) := by decide +kernel
theorem dX6_copyFrom_11 : decode cX6_copyFrom 11 = .ok (.aload_n 0, 1) := by decide +kernel
theorem dX6_copyFrom_12 : decode cX6_copyFrom 12 = .ok (.getfield 21, 3) := by decide +kernel
theorem dX6_copyFrom_15 : decode cX6_copyFrom 15 = .ok (.aload_n 1, 1) := by decide +kernel
theorem dX6_copyFrom_16 : decode cX6_copyFrom 16 = .ok (.getfield 21, 3) := by decide +kernel
theorem dX6_copyFrom_19 : decode cX6_copyFrom 19 = .ok (.invokevirtual 36, 3) := by decide +kernel
theorem dX6_copyFrom_22 : decode cX6_copyFrom 22 = .ok (.aload_n 0, 1) := by decide +kernel
theorem dX6_copyFrom_23 : decode cX6_copyFrom 23 = .ok (.aload_n 1, 1) := by decide +kernel
theorem dX6_copyFrom_24 : decode cX6_copyFrom 24 = .ok (.getfield 39, 3) := by decide +kernel
theorem dX6_copyFrom_27 : decode cX6_copyFrom 27 = .ok (.putfield 39, 3) := by decide +kernel
theorem dX6_copyFrom_30 : decode cX6_copyFrom 30 = .ok (.aload_n 0, 1) := by decide +kernel
theorem dX6_copyFrom_31 : decode cX6_copyFrom 31 = .ok (.aload_n 1, 1) := by decide +kernel
theorem dX6_copyFrom_32 : decode cX6_copyFrom 32 = .ok (.getfield 42, 3) := by decide +kernel
theorem dX6_copyFrom_35 : decode cX6_copyFrom 35 = .ok (.putfield 42, 3) := by decide +kernel
theorem dX6_copyFrom_38 : decode cX6_copyFrom 38 = .ok (.aload_n 0, 1) := by decide +kernel
theorem dX6_copyFrom_39 : decode cX6_copyFrom 39 = .ok (.aload_n 1, 1) := by decide +kernel
theorem dX6_copyFrom_40 : decode cX6_copyFrom 40 = .ok (.getfield 45, 3) := by decide +kernel
theorem dX6_copyFrom_43 : decode cX6_copyFrom 43 = .ok (.putfield 45, 3) := by decide +kernel
theorem dX6_copyFrom_46 : decode cX6_copyFrom 46 = .ok (.aload_n 0, 1) := by decide +kernel
theorem dX6_copyFrom_47 : decode cX6_copyFrom 47 = .ok (.aload_n 1, 1) := by decide +kernel
theorem dX6_copyFrom_48 : decode cX6_copyFrom 48 = .ok (.getfield 49, 3) := by decide +kernel
theorem dX6_copyFrom_51 : decode cX6_copyFrom 51 = .ok (.putfield 49, 3) := by decide +kernel
theorem dX6_copyFrom_54 : decode cX6_copyFrom 54 = .ok (.aload_n 0, 1) := by decide +kernel
theorem dX6_copyFrom_55 : decode cX6_copyFrom 55 = .ok (.aload_n 1, 1) := by decide +kernel
theorem dX6_copyFrom_56 : decode cX6_copyFrom 56 = .ok (.getfield 25, 3) := by decide +kernel
theorem dX6_copyFrom_59 : decode cX6_copyFrom 59 = .ok (.putfield 25, 3) := by decide +kernel
theorem dX6_copyFrom_62 : decode cX6_copyFrom 62 = .ok (.aload_n 0, 1) := by decide +kernel
theorem dX6_copyFrom_63 : decode cX6_copyFrom 63 = .ok (.aload_n 1, 1) := by decide +kernel
theorem dX6_copyFrom_64 : decode cX6_copyFrom 64 = .ok (.getfield 52, 3) := by decide +kernel
theorem dX6_copyFrom_67 : decode cX6_copyFrom 67 = .ok (.putfield 52, 3) := by decide +kernel
theorem dX6_copyFrom_70 : decode cX6_copyFrom 70 = .ok (.aload_n 0, 1) := by decide +kernel
theorem dX6_copyFrom_71 : decode cX6_copyFrom 71 = .ok (.aload_n 1, 1) := by decide +kernel
theorem dX6_copyFrom_72 : decode cX6_copyFrom 72 = .ok (.getfield 55, 3) := by decide +kernel
theorem dX6_copyFrom_75 : decode cX6_copyFrom 75 = .ok (.putfield 55, 3) := by decide +kernel
theorem dX6_copyFrom_78 : decode cX6_copyFrom 78 = .ok (.aload_n 0, 1) := by decide +kernel
theorem dX6_copyFrom_79 : decode cX6_copyFrom 79 = .ok (.aload_n 1, 1) := by decide +kernel
theorem dX6_copyFrom_80 : decode cX6_copyFrom 80 = .ok (.getfield 58, 3) := by decide +kernel
theorem dX6_copyFrom_83 : decode cX6_copyFrom 83 = .ok (.putfield 58, 3) := by decide +kernel
theorem dX6_copyFrom_86 : decode cX6_copyFrom 86 = .ok (.aload_n 0, 1) := by decide +kernel
theorem dX6_copyFrom_87 : decode cX6_copyFrom 87 = .ok (.aload_n 1, 1) := by decide +kernel
theorem dX6_copyFrom_88 : decode cX6_copyFrom 88 = .ok (.getfield 61, 3) := by decide +kernel
theorem dX6_copyFrom_91 : decode cX6_copyFrom 91 = .ok (.putfield 61, 3) := by decide +kernel
theorem dX6_copyFrom_94 : decode cX6_copyFrom 94 = .ok (.aload_n 0, 1) := by decide +kernel
theorem dX6_copyFrom_95 : decode cX6_copyFrom 95 = .ok (.aload_n 1, 1) := by decide +kernel
theorem dX6_copyFrom_96 : decode cX6_copyFrom 96 = .ok (.getfield 64, 3) := by decide +kernel
theorem dX6_copyFrom_99 : decode cX6_copyFrom 99 = .ok (.putfield 64, 3) := by decide +kernel
theorem dX6_copyFrom_102 : decode cX6_copyFrom 102 = .ok (.aload_n 0, 1) := by decide +kernel
theorem dX6_copyFrom_103 : decode cX6_copyFrom 103 = .ok (.aload_n 1, 1) := by decide +kernel
theorem dX6_copyFrom_104 : decode cX6_copyFrom 104 = .ok (.getfield 67, 3) := by decide +kernel
theorem dX6_copyFrom_107 : decode cX6_copyFrom 107 = .ok (.putfield 67, 3) := by decide +kernel
theorem dX6_copyFrom_110 : decode cX6_copyFrom 110 = .ok (.aload_n 0, 1) := by decide +kernel
theorem dX6_copyFrom_111 : decode cX6_copyFrom 111 = .ok (.aload_n 1, 1) := by decide +kernel
theorem dX6_copyFrom_112 : decode cX6_copyFrom 112 = .ok (.getfield 70, 3) := by decide +kernel
theorem dX6_copyFrom_115 : decode cX6_copyFrom 115 = .ok (.putfield 70, 3) := by decide +kernel
theorem dX6_copyFrom_118 : decode cX6_copyFrom 118 = .ok (.return_, 1) := by decide +kernel
theorem dX6_isAt_0 : decode cX6_isAt 0 = .ok (.aload_n 0, 1) := by decide +kernel
theorem dX6_isAt_1 : decode cX6_isAt 1 = .ok (.getfield 39, 3) := by decide +kernel
theorem dX6_isAt_4 : decode cX6_isAt 4 = .ok (.iload_n 1, 1) := by decide +kernel
theorem dX6_isAt_5 : decode cX6_isAt 5 = .ok (.ishr, 1) := by decide +kernel
theorem dX6_isAt_6 : decode cX6_isAt 6 = .ok (.iconst 1, 1) := by decide +kernel
theorem dX6_isAt_7 : decode cX6_isAt 7 = .ok (.iand, 1) := by decide +kernel
theorem dX6_isAt_8 : decode cX6_isAt 8 = .ok (.iconst 1, 1) := by decide +kernel
theorem dX6_isAt_9 : decode cX6_isAt 9 = .ok (.if_icmp .ne 7, 3) := by decide +kernel
theorem dX6_isAt_12 : decode cX6_isAt 12 = .ok (.iconst 1, 1) := by decide +kernel
theorem dX6_isAt_13 : decode cX6_isAt 13 = .ok (.goto 4, 3) := by decide +kernel
theorem dX6_isAt_16 : decode cX6_isAt 16 = .ok (.iconst 0, 1) := by decide +kernel
theorem dX6_isAt_17 : decode cX6_isAt 17 = .ok (.ireturn, 1) := by decide +kernel
theorem dX6_isAwake_0 : decode cX6_isAwake 0 = .ok (.aload_n 0, 1) := by decide +kernel
theorem dX6_isAwake_1 : decode cX6_isAwake 1 = .ok (.getfield 45, 3) := by decide +kernel
theorem dX6_isAwake_4 : decode cX6_isAwake 4 = .ok (.ifCond .ne 14, 3) := by decide +kernel
theorem dX6_isAwake_7 : decode cX6_isAwake 7 = .ok (.aload_n 0, 1) := by decide +kernel
theorem dX6_isAwake_8 : decode cX6_isAwake 8 = .ok (.getfield 49, 3) := by decide +kernel
theorem dX6_isAwake_11 : decode cX6_isAwake 11 = .ok (.ifCond .ne 7, 3) := by decide +kernel
theorem dX6_isAwake_14 : decode cX6_isAwake 14 = .ok (.iconst 1, 1) := by decide +kernel
theorem dX6_isAwake_15 : decode cX6_isAwake 15 = .ok (.goto 4, 3) := by decide +kernel
theorem dX6_isAwake_18 : decode cX6_isAwake 18 = .ok (.iconst 0, 1) := by decide +kernel
theorem dX6_isAwake_19 : decode cX6_isAwake 19 = .ok (.ireturn, 1) := by decide +kernel
theorem dX6_isSpeaking_0 : decode cX6_isSpeaking 0 = .ok (.aload_n 0, 1) := by decide +kernel
theorem dX6_isSpeaking_1 : decode cX6_isSpeaking 1 = .ok (.getfield 25, 3) := by decide +kernel
theorem dX6_isSpeaking_4 : decode cX6_isSpeaking 4 = .ok (.iconst (-1), 1) := by decide +kernel
theorem dX6_isSpeaking_5 : decode cX6_isSpeaking 5 = .ok (.if_icmp .eq 7, 3) := by decide +kernel
theorem dX6_isSpeaking_8 : decode cX6_isSpeaking 8 = .ok (.iconst 1, 1) := by decide +kernel
theorem dX6_isSpeaking_9 : decode cX6_isSpeaking 9 = .ok (.goto 4, 3) := by decide +kernel
theorem dX6_isSpeaking_12 : decode cX6_isSpeaking 12 = .ok (.iconst 0, 1) := by decide +kernel
theorem dX6_isSpeaking_13 : decode cX6_isSpeaking 13 = .ok (.ireturn, 1) := by decide +kernel
theorem dX6_letsGo_0 : decode cX6_letsGo 0 = .ok (.aload_n 0, 1) := by decide +kernel
theorem dX6_letsGo_1 : decode cX6_letsGo 1 = .ok (.getfield 55, 3) := by decide +kernel
theorem dX6_letsGo_4 : decode cX6_letsGo 4 = .ok (.bipush 10, 2) := by decide +kernel
theorem dX6_letsGo_6 : decode cX6_letsGo 6 = .ok (.aload_n 0, 1) := by decide +kernel
theorem dX6_letsGo_7 : decode cX6_letsGo 7 = .ok (.getfield 25, 3) := by decide +kernel
theorem dX6_letsGo_10 : decode cX6_letsGo 10 = .ok (.isub, 1) := by decide +kernel
theorem dX6_letsGo_11 : decode cX6_letsGo 11 = .ok (.ishr, 1) := by decide +kernel
theorem dX6_letsGo_12 : decode cX6_letsGo 12 = .ok (.iconst 1, 1) := by decide +kernel
theorem dX6_letsGo_13 : decode cX6_letsGo 13 = .ok (.iand, 1) := by decide +kernel
theorem dX6_letsGo_14 : decode cX6_letsGo 14 = .ok (.iconst 1, 1) := by decide +kernel
theorem dX6_letsGo_15 : decode cX6_letsGo 15 = .ok (.if_icmp .ne 7, 3) := by decide +kernel
theorem dX6_letsGo_18 : decode cX6_letsGo 18 = .ok (.iconst 1, 1) := by decide +kernel
theorem dX6_letsGo_19 : decode cX6_letsGo 19 = .ok (.goto 4, 3) := by decide +kernel
theorem dX6_letsGo_22 : decode cX6_letsGo 22 = .ok (.iconst 0, 1) := by decide +kernel
theorem dX6_letsGo_23 : decode cX6_letsGo 23 = .ok (.ireturn, 1) := by decide +kernel
theorem dX6_begin_0 : decode cX6_begin 0 = .ok (.aload_n 0, 1) := by decide +kernel
theorem dX6_begin_1 : decode cX6_begin 1 = .ok (.iconst 0, 1) := by decide +kernel
theorem dX6_begin_2 : decode cX6_begin 2 = .ok (.putfield 25, 3) := by decide +kernel
theorem dX6_begin_5 : decode cX6_begin 5 = .ok (.aload_n 0, 1) := by decide +kernel
theorem dX6_begin_6 : decode cX6_begin 6 = .ok (.iconst 1, 1) := by decide +kernel
theorem dX6_begin_7 : decode cX6_begin 7 = .ok (.iload_n 1, 1) := by decide +kernel
theorem dX6_begin_8 : decode cX6_begin 8 = .ok (.ishl, 1) := by decide +kernel
theorem dX6_begin_9 : decode cX6_begin 9 = .ok (.putfield 52, 3) := by decide +kernel
theorem dX6_begin_12 : decode cX6_begin 12 = .ok (.aload_n 0, 1) := by decide +kernel
theorem dX6_begin_13 : decode cX6_begin 13 = .ok (.aload_n 0, 1) := by decide +kernel
theorem dX6_begin_14 : decode cX6_begin 14 = .ok (.getfield 29, 3) := by decide +kernel
theorem dX6_begin_17 : decode cX6_begin 17 = .ok (.bipush 8, 2) := by decide +kernel
theorem dX6_begin_19 : decode cX6_begin 19 = .ok (.ishl, 1) := by decide +kernel
theorem dX6_begin_20 : decode cX6_begin 20 = .ok (.aload_n 0, 1) := by decide +kernel
theorem dX6_begin_21 : decode cX6_begin 21 = .ok (.getfield 12, 3) := by decide +kernel
theorem dX6_begin_24 : decode cX6_begin 24 = .ok (.iconst 0, 1) := by decide +kernel
theorem dX6_begin_25 : decode cX6_begin 25 = .ok (.invokevirtual 73, 3) := by decide +kernel
theorem dX6_begin_28 : decode cX6_begin 28 = .ok (.ior, 1) := by decide +kernel
theorem dX6_begin_29 : decode cX6_begin 29 = .ok (.putfield 55, 3) := by decide +kernel
theorem dX6_begin_32 : decode cX6_begin 32 = .ok (.aload_n 0, 1) := by decide +kernel
theorem dX6_begin_33 : decode cX6_begin 33 = .ok (.iload_n 2, 1) := by decide +kernel
theorem dX6_begin_34 : decode cX6_begin 34 = .ok (.putfield 58, 3) := by decide +kernel
theorem dX6_begin_37 : decode cX6_begin 37 = .ok (.return_, 1) := by decide +kernel
theorem dX6_fallSilent_0 : decode cX6_fallSilent 0 = .ok (.aload_n 0, 1) := by decide +kernel
theorem dX6_fallSilent_1 : decode cX6_fallSilent 1 = .ok (.iconst (-1), 1) := by decide +kernel
theorem dX6_fallSilent_2 : decode cX6_fallSilent 2 = .ok (.putfield 25, 3) := by decide +kernel
theorem dX6_fallSilent_5 : decode cX6_fallSilent 5 = .ok (.aload_n 0, 1) := by decide +kernel
theorem dX6_fallSilent_6 : decode cX6_fallSilent 6 = .ok (.iconst 0, 1) := by decide +kernel
theorem dX6_fallSilent_7 : decode cX6_fallSilent 7 = .ok (.putfield 52, 3) := by decide +kernel
theorem dX6_fallSilent_10 : decode cX6_fallSilent 10 = .ok (.aload_n 0, 1) := by decide +kernel
theorem dX6_fallSilent_11 : decode cX6_fallSilent 11 = .ok (.iconst 0, 1) := by decide +kernel
theorem dX6_fallSilent_12 : decode cX6_fallSilent 12 = .ok (.putfield 55, 3) := by decide +kernel
theorem dX6_fallSilent_15 : decode cX6_fallSilent 15 = .ok (.aload_n 0, 1) := by decide +kernel
theorem dX6_fallSilent_16 : decode cX6_fallSilent 16 = .ok (.iconst 0, 1) := by decide +kernel
theorem dX6_fallSilent_17 : decode cX6_fallSilent 17 = .ok (.putfield 58, 3) := by decide +kernel
theorem dX6_fallSilent_20 : decode cX6_fallSilent 20 = .ok (.return_, 1) := by decide +kernel
theorem dX6_fact_0 : decode cX6_fact 0 = .ok (.iload_n 1, 1) := by decide +kernel
theorem dX6_fact_1 : decode cX6_fact 1 = .ok (.tableswitch 139 0 9 #[55, 60, 65, 89, 97, 114, 119, 124, 129, 134], 55) := by decide +kernel
theorem dX6_fact_56 : decode cX6_fact 56 = .ok (.aload_n 0, 1) := by decide +kernel
theorem dX6_fact_57 : decode cX6_fact 57 = .ok (.getfield 39, 3) := by decide +kernel
theorem dX6_fact_60 : decode cX6_fact 60 = .ok (.ireturn, 1) := by decide +kernel
theorem dX6_fact_61 : decode cX6_fact 61 = .ok (.aload_n 0, 1) := by decide +kernel
theorem dX6_fact_62 : decode cX6_fact 62 = .ok (.getfield 42, 3) := by decide +kernel
theorem dX6_fact_65 : decode cX6_fact 65 = .ok (.ireturn, 1) := by decide +kernel
theorem dX6_fact_66 : decode cX6_fact 66 = .ok (.aload_n 0, 1) := by decide +kernel
theorem dX6_fact_67 : decode cX6_fact 67 = .ok (.getfield 49, 3) := by decide +kernel
theorem dX6_fact_70 : decode cX6_fact 70 = .ok (.ifCond .eq 7, 3) := by decide +kernel
theorem dX6_fact_73 : decode cX6_fact 73 = .ok (.iconst 2, 1) := by decide +kernel
theorem dX6_fact_74 : decode cX6_fact 74 = .ok (.goto 15, 3) := by decide +kernel
theorem dX6_fact_77 : decode cX6_fact 77 = .ok (.aload_n 0, 1) := by decide +kernel
theorem dX6_fact_78 : decode cX6_fact 78 = .ok (.getfield 45, 3) := by decide +kernel
theorem dX6_fact_81 : decode cX6_fact 81 = .ok (.ifCond .eq 7, 3) := by decide +kernel
theorem dX6_fact_84 : decode cX6_fact 84 = .ok (.iconst 1, 1) := by decide +kernel
theorem dX6_fact_85 : decode cX6_fact 85 = .ok (.goto 4, 3) := by decide +kernel
theorem dX6_fact_88 : decode cX6_fact 88 = .ok (.iconst 0, 1) := by decide +kernel
theorem dX6_fact_89 : decode cX6_fact 89 = .ok (.ireturn, 1) := by decide +kernel
theorem dX6_fact_90 : decode cX6_fact 90 = .ok (.aload_n 0, 1) := by decide +kernel
theorem dX6_fact_91 : decode cX6_fact 91 = .ok (.getfield 12, 3) := by decide +kernel
theorem dX6_fact_94 : decode cX6_fact 94 = .ok (.getfield 77, 3) := by decide +kernel
theorem dX6_fact_97 : decode cX6_fact 97 = .ok (.ireturn, 1) := by decide +kernel
theorem dX6_fact_98 : decode cX6_fact 98 = .ok (.aload_n 0, 1) := by decide +kernel
theorem dX6_fact_99 : decode cX6_fact 99 = .ok (.invokevirtual 80, 3) := by decide +kernel
theorem dX6_fact_102 : decode cX6_fact 102 = .ok (.ifCond .eq 10, 3) := by decide +kernel
theorem dX6_fact_105 : decode cX6_fact 105 = .ok (.aload_n 0, 1) := by decide +kernel
theorem dX6_fact_106 : decode cX6_fact 106 = .ok (.getfield 25, 3) := by decide +kernel
theorem dX6_fact_109 : decode cX6_fact 109 = .ok (.goto 5, 3) := by decide +kernel
theorem dX6_fact_112 : decode cX6_fact 112 = .ok (.bipush (-6), 2) := by decide +kernel
theorem dX6_fact_114 : decode cX6_fact 114 = .ok (.ireturn, 1) := by decide +kernel
theorem dX6_fact_115 : decode cX6_fact 115 = .ok (.aload_n 0, 1) := by decide +kernel
theorem dX6_fact_116 : decode cX6_fact 116 = .ok (.getfield 58, 3) := by decide +kernel
theorem dX6_fact_119 : decode cX6_fact 119 = .ok (.ireturn, 1) := by decide +kernel
theorem dX6_fact_120 : decode cX6_fact 120 = .ok (.aload_n 0, 1) := by decide +kernel
theorem dX6_fact_121 : decode cX6_fact 121 = .ok (.getfield 61, 3) := by decide +kernel
theorem dX6_fact_124 : decode cX6_fact 124 = .ok (.ireturn, 1) := by decide +kernel
theorem dX6_fact_125 : decode cX6_fact 125 = .ok (.aload_n 0, 1) := by decide +kernel
theorem dX6_fact_126 : decode cX6_fact 126 = .ok (.getfield 64, 3) := by decide +kernel
theorem dX6_fact_129 : decode cX6_fact 129 = .ok (.ireturn, 1) := by decide +kernel
theorem dX6_fact_130 : decode cX6_fact 130 = .ok (.aload_n 0, 1) := by decide +kernel
theorem dX6_fact_131 : decode cX6_fact 131 = .ok (.getfield 67, 3) := by decide +kernel
theorem dX6_fact_134 : decode cX6_fact 134 = .ok (.ireturn, 1) := by decide +kernel
theorem dX6_fact_135 : decode cX6_fact 135 = .ok (.aload_n 0, 1) := by decide +kernel
theorem dX6_fact_136 : decode cX6_fact 136 = .ok (.getfield 70, 3) := by decide +kernel
theorem dX6_fact_139 : decode cX6_fact 139 = .ok (.ireturn, 1) := by decide +kernel
theorem dX6_fact_140 : decode cX6_fact 140 = .ok (.bipush (-2), 2) := by decide +kernel
theorem dX6_fact_142 : decode cX6_fact 142 = .ok (.ireturn, 1) := by decide +kernel
theorem dX7_init_0 : decode cX7_init 0 = .ok (.aload_n 0, 1) := by decide +kernel
theorem dX7_init_1 : decode cX7_init 1 = .ok (.invokespecial 1, 3) := by decide +kernel
theorem dX7_init_4 : decode cX7_init 4 = .ok (.aload_n 0, 1) := by decide +kernel
theorem dX7_init_5 : decode cX7_init 5 = .ok (.new 7, 3) := by decide +kernel
theorem dX7_init_8 : decode cX7_init 8 = .ok (.dup, 1) := by decide +kernel
theorem dX7_init_9 : decode cX7_init 9 = .ok (.invokespecial 9, 3) := by decide +kernel
theorem dX7_init_12 : decode cX7_init 12 = .ok (.putfield 10, 3) := by decide +kernel
theorem dX7_init_15 : decode cX7_init 15 = .ok (.aload_n 0, 1) := by decide +kernel
theorem dX7_init_16 : decode cX7_init 16 = .ok (.new 7, 3) := by decide +kernel
theorem dX7_init_19 : decode cX7_init 19 = .ok (.dup, 1) := by decide +kernel
theorem dX7_init_20 : decode cX7_init 20 = .ok (.invokespecial 9, 3) := by decide +kernel
theorem dX7_init_23 : decode cX7_init 23 = .ok (.putfield 16, 3) := by decide +kernel
theorem dX7_init_26 : decode cX7_init 26 = .ok (.aload_n 0, 1) := by decide +kernel
theorem dX7_init_27 : decode cX7_init 27 = .ok (.new 19, 3) := by decide +kernel
theorem dX7_init_30 : decode cX7_init 30 = .ok (.dup, 1) := by decide +kernel
theorem dX7_init_31 : decode cX7_init 31 = .ok (.invokespecial 21, 3) := by decide +kernel
theorem dX7_init_34 : decode cX7_init 34 = .ok (.putfield 22, 3) := by decide +kernel
theorem dX7_init_37 : decode cX7_init 37 = .ok (.aload_n 0, 1) := by decide +kernel
theorem dX7_init_38 : decode cX7_init 38 = .ok (.iconst 2, 1) := by decide +kernel
theorem dX7_init_39 : decode cX7_init 39 = .ok (.anewarray 7, 3) := by decide +kernel
theorem dX7_init_42 : decode cX7_init 42 = .ok (.putfield 26, 3) := by decide +kernel
theorem dX7_init_45 : decode cX7_init 45 = .ok (.aload_n 0, 1) := by decide +kernel
theorem dX7_init_46 : decode cX7_init 46 = .ok (.new 30, 3) := by decide +kernel
theorem dX7_init_49 : decode cX7_init 49 = .ok (.dup, 1) := by decide +kernel
theorem dX7_init_50 : decode cX7_init 50 = .ok (.invokespecial 32, 3) := by decide +kernel
theorem dX7_init_53 : decode cX7_init 53 = .ok (.putfield 33, 3) := by decide +kernel
theorem dX7_init_56 : decode cX7_init 56 = .ok (.aload_n 0, 1) := by decide +kernel
theorem dX7_init_57 : decode cX7_init 57 = .ok (.new 37, 3) := by decide +kernel
theorem dX7_init_60 : decode cX7_init 60 = .ok (.dup, 1) := by decide +kernel
theorem dX7_init_61 : decode cX7_init 61 = .ok (.aload_n 0, 1) := by decide +kernel
theorem dX7_init_62 : decode cX7_init 62 = .ok (.getfield 33, 3) := by decide +kernel
theorem dX7_init_65 : decode cX7_init 65 = .ok (.invokespecial 39, 3) := by decide +kernel
theorem dX7_init_68 : decode cX7_init 68 = .ok (.putfield 42, 3) := by decide +kernel
theorem dX7_init_71 : decode cX7_init 71 = .ok (.return_, 1) := by decide +kernel
theorem dX7_set_0 : decode cX7_set 0 = .ok (.aload_n 0, 1) := by decide +kernel
theorem dX7_set_1 : decode cX7_set 1 = .ok (.getfield 22, 3) := by decide +kernel
theorem dX7_set_4 : decode cX7_set 4 = .ok (.aload_n 0, 1) := by decide +kernel
theorem dX7_set_5 : decode cX7_set 5 = .ok (.getfield 10, 3) := by decide +kernel
theorem dX7_set_8 : decode cX7_set 8 = .ok (.invokevirtual 46, 3) := by decide +kernel
theorem dX7_set_11 : decode cX7_set 11 = .ok (.aload_n 0, 1) := by decide +kernel
theorem dX7_set_12 : decode cX7_set 12 = .ok (.getfield 22, 3) := by decide +kernel
theorem dX7_set_15 : decode cX7_set 15 = .ok (.aload_n 0, 1) := by decide +kernel
theorem dX7_set_16 : decode cX7_set 16 = .ok (.getfield 10, 3) := by decide +kernel
theorem dX7_set_19 : decode cX7_set 19 = .ok (.iload_n 1, 1) := by decide +kernel
theorem dX7_set_20 : decode cX7_set 20 = .ok (.iload_n 2, 1) := by decide +kernel
theorem dX7_set_21 : decode cX7_set 21 = .ok (.invokevirtual 50, 3) := by decide +kernel
theorem dX7_set_24 : decode cX7_set 24 = .ok (.invokevirtual 54, 3) := by decide +kernel
theorem dX7_set_27 : decode cX7_set 27 = .ok (.ireturn, 1) := by decide +kernel
theorem dX7_station_0 : decode cX7_station 0 = .ok (.aload_n 0, 1) := by decide +kernel
theorem dX7_station_1 : decode cX7_station 1 = .ok (.getfield 22, 3) := by decide +kernel
theorem dX7_station_4 : decode cX7_station 4 = .ok (.aload_n 0, 1) := by decide +kernel
theorem dX7_station_5 : decode cX7_station 5 = .ok (.getfield 10, 3) := by decide +kernel
theorem dX7_station_8 : decode cX7_station 8 = .ok (.invokevirtual 46, 3) := by decide +kernel
theorem dX7_station_11 : decode cX7_station 11 = .ok (.aload_n 0, 1) := by decide +kernel
theorem dX7_station_12 : decode cX7_station 12 = .ok (.getfield 22, 3) := by decide +kernel
theorem dX7_station_15 : decode cX7_station 15 = .ok (.aload_n 0, 1) := by decide +kernel
theorem dX7_station_16 : decode cX7_station 16 = .ok (.getfield 10, 3) := by decide +kernel
theorem dX7_station_19 : decode cX7_station 19 = .ok (.iload_n 1, 1) := by decide +kernel
theorem dX7_station_20 : decode cX7_station 20 = .ok (.invokevirtual 58, 3) := by decide +kernel
theorem dX7_station_23 : decode cX7_station 23 = .ok (.invokevirtual 54, 3) := by decide +kernel
theorem dX7_station_26 : decode cX7_station 26 = .ok (.ireturn, 1) := by decide +kernel
theorem dX7_word_0 : decode cX7_word 0 = .ok (.aload_n 0, 1) := by decide +kernel
theorem dX7_word_1 : decode cX7_word 1 = .ok (.getfield 22, 3) := by decide +kernel
theorem dX7_word_4 : decode cX7_word 4 = .ok (.aload_n 0, 1) := by decide +kernel
theorem dX7_word_5 : decode cX7_word 5 = .ok (.getfield 10, 3) := by decide +kernel
theorem dX7_word_8 : decode cX7_word 8 = .ok (.invokevirtual 46, 3) := by decide +kernel
theorem dX7_word_11 : decode cX7_word 11 = .ok (.aload_n 0, 1) := by decide +kernel
theorem dX7_word_12 : decode cX7_word 12 = .ok (.getfield 22, 3) := by decide +kernel
theorem dX7_word_15 : decode cX7_word 15 = .ok (.aload_n 0, 1) := by decide +kernel
theorem dX7_word_16 : decode cX7_word 16 = .ok (.getfield 10, 3) := by decide +kernel
theorem dX7_word_19 : decode cX7_word 19 = .ok (.iload_n 1, 1) := by decide +kernel
theorem dX7_word_20 : decode cX7_word 20 = .ok (.iload_n 2, 1) := by decide +kernel
theorem dX7_word_21 : decode cX7_word 21 = .ok (.iload_n 3, 1) := by decide +kernel
theorem dX7_word_22 : decode cX7_word 22 = .ok (.invokevirtual 61, 3) := by decide +kernel
theorem dX7_word_25 : decode cX7_word 25 = .ok (.invokevirtual 54, 3) := by decide +kernel
theorem dX7_word_28 : decode cX7_word 28 = .ok (.ireturn, 1) := by decide +kernel
theorem dX7_forget_0 : decode cX7_forget 0 = .ok (.aload_n 0, 1) := by decide +kernel
theorem dX7_forget_1 : decode cX7_forget 1 = .ok (.getfield 22, 3) := by decide +kernel
theorem dX7_forget_4 : decode cX7_forget 4 = .ok (.aload_n 0, 1) := by decide +kernel
theorem dX7_forget_5 : decode cX7_forget 5 = .ok (.getfield 10, 3) := by decide +kernel
theorem dX7_forget_8 : decode cX7_forget 8 = .ok (.invokevirtual 46, 3) := by decide +kernel
theorem dX7_forget_11 : decode cX7_forget 11 = .ok (.aload_n 0, 1) := by decide +kernel
theorem dX7_forget_12 : decode cX7_forget 12 = .ok (.getfield 22, 3) := by decide +kernel
theorem dX7_forget_15 : decode cX7_forget 15 = .ok (.aload_n 0, 1) := by decide +kernel
theorem dX7_forget_16 : decode cX7_forget 16 = .ok (.getfield 10, 3) := by decide +kernel
theorem dX7_forget_19 : decode cX7_forget 19 = .ok (.iload_n 1, 1) := by decide +kernel
theorem dX7_forget_20 : decode cX7_forget 20 = .ok (.invokevirtual 65, 3) := by decide +kernel
theorem dX7_forget_23 : decode cX7_forget 23 = .ok (.invokevirtual 54, 3) := by decide +kernel
theorem dX7_forget_26 : decode cX7_forget 26 = .ok (.ireturn, 1) := by decide +kernel
theorem dX7_stick_0 : decode cX7_stick 0 = .ok (.aload_n 0, 1) := by decide +kernel
theorem dX7_stick_1 : decode cX7_stick 1 = .ok (.getfield 22, 3) := by decide +kernel
theorem dX7_stick_4 : decode cX7_stick 4 = .ok (.aload_n 0, 1) := by decide +kernel
theorem dX7_stick_5 : decode cX7_stick 5 = .ok (.getfield 10, 3) := by decide +kernel
theorem dX7_stick_8 : decode cX7_stick 8 = .ok (.invokevirtual 46, 3) := by decide +kernel
theorem dX7_stick_11 : decode cX7_stick 11 = .ok (.aload_n 0, 1) := by decide +kernel
theorem dX7_stick_12 : decode cX7_stick 12 = .ok (.getfield 22, 3) := by decide +kernel
theorem dX7_stick_15 : decode cX7_stick 15 = .ok (.aload_n 0, 1) := by decide +kernel
theorem dX7_stick_16 : decode cX7_stick 16 = .ok (.getfield 10, 3) := by decide +kernel
theorem dX7_stick_19 : decode cX7_stick 19 = .ok (.iload_n 1, 1) := by decide +kernel
theorem dX7_stick_20 : decode cX7_stick 20 = .ok (.invokevirtual 68, 3) := by decide +kernel
theorem dX7_stick_23 : decode cX7_stick 23 = .ok (.invokevirtual 54, 3) := by decide +kernel
theorem dX7_stick_26 : decode cX7_stick 26 = .ok (.ireturn, 1) := by decide +kernel
theorem dX7_doze_0 : decode cX7_doze 0 = .ok (.aload_n 0, 1) := by decide +kernel
theorem dX7_doze_1 : decode cX7_doze 1 = .ok (.getfield 22, 3) := by decide +kernel
theorem dX7_doze_4 : decode cX7_doze 4 = .ok (.aload_n 0, 1) := by decide +kernel
theorem dX7_doze_5 : decode cX7_doze 5 = .ok (.getfield 10, 3) := by decide +kernel
theorem dX7_doze_8 : decode cX7_doze 8 = .ok (.invokevirtual 46, 3) := by decide +kernel
theorem dX7_doze_11 : decode cX7_doze 11 = .ok (.aload_n 0, 1) := by decide +kernel
theorem dX7_doze_12 : decode cX7_doze 12 = .ok (.getfield 22, 3) := by decide +kernel
theorem dX7_doze_15 : decode cX7_doze 15 = .ok (.aload_n 0, 1) := by decide +kernel
theorem dX7_doze_16 : decode cX7_doze 16 = .ok (.getfield 10, 3) := by decide +kernel
theorem dX7_doze_19 : decode cX7_doze 19 = .ok (.iload_n 1, 1) := by decide +kernel
theorem dX7_doze_20 : decode cX7_doze 20 = .ok (.invokevirtual 71, 3) := by decide +kernel
theorem dX7_doze_23 : decode cX7_doze 23 = .ok (.invokevirtual 54, 3) := by decide +kernel
theorem dX7_doze_26 : decode cX7_doze 26 = .ok (.ireturn, 1) := by decide +kernel
theorem dX7_pass_0 : decode cX7_pass 0 = .ok (.aload_n 0, 1) := by decide +kernel
theorem dX7_pass_1 : decode cX7_pass 1 = .ok (.getfield 22, 3) := by decide +kernel
theorem dX7_pass_4 : decode cX7_pass 4 = .ok (.aload_n 0, 1) := by decide +kernel
theorem dX7_pass_5 : decode cX7_pass 5 = .ok (.getfield 10, 3) := by decide +kernel
theorem dX7_pass_8 : decode cX7_pass 8 = .ok (.invokevirtual 46, 3) := by decide +kernel
theorem dX7_pass_11 : decode cX7_pass 11 = .ok (.aload_n 0, 1) := by decide +kernel
theorem dX7_pass_12 : decode cX7_pass 12 = .ok (.getfield 22, 3) := by decide +kernel
theorem dX7_pass_15 : decode cX7_pass 15 = .ok (.aload_n 0, 1) := by decide +kernel
theorem dX7_pass_16 : decode cX7_pass 16 = .ok (.getfield 10, 3) := by decide +kernel
theorem dX7_pass_19 : decode cX7_pass 19 = .ok (.iload_n 1, 1) := by decide +kernel
theorem dX7_pass_20 : decode cX7_pass 20 = .ok (.invokevirtual 74, 3) := by decide +kernel
theorem dX7_pass_23 : decode cX7_pass 23 = .ok (.invokevirtual 54, 3) := by decide +kernel
theorem dX7_pass_26 : decode cX7_pass 26 = .ok (.ireturn, 1) := by decide +kernel
theorem dX7_ofWire_0 : decode cX7_ofWire 0 = .ok (.iload_n 1, 1) := by decide +kernel
theorem dX7_ofWire_1 : decode cX7_ofWire 1 = .ok (.invokestatic 77, 3) := by decide +kernel
theorem dX7_ofWire_4 : decode cX7_ofWire 4 = .ok (.ifCond .ne 5, 3) := by decide +kernel
theorem dX7_ofWire_7 : decode cX7_ofWire 7 = .ok (.iconst (-1), 1) := by decide +kernel
theorem dX7_ofWire_8 : decode cX7_ofWire 8 = .ok (.ireturn, 1) := by decide +kernel
theorem dX7_ofWire_9 : decode cX7_ofWire 9 = .ok (.iload_n 2, 1) := by decide +kernel
theorem dX7_ofWire_10 : decode cX7_ofWire 10 = .ok (.tableswitch 118 0 6 #[42, 52, 69, 78, 89, 98, 108], 42) := by decide +kernel
theorem dX7_ofWire_52 : decode cX7_ofWire 52 = .ok (.aload_n 0, 1) := by decide +kernel
theorem dX7_ofWire_53 : decode cX7_ofWire 53 = .ok (.getfield 10, 3) := by decide +kernel
theorem dX7_ofWire_56 : decode cX7_ofWire 56 = .ok (.getfield 81, 3) := by decide +kernel
theorem dX7_ofWire_59 : decode cX7_ofWire 59 = .ok (.iload_n 1, 1) := by decide +kernel
theorem dX7_ofWire_60 : decode cX7_ofWire 60 = .ok (.iaload, 1) := by decide +kernel
theorem dX7_ofWire_61 : decode cX7_ofWire 61 = .ok (.ireturn, 1) := by decide +kernel
theorem dX7_ofWire_62 : decode cX7_ofWire 62 = .ok (.aload_n 0, 1) := by decide +kernel
theorem dX7_ofWire_63 : decode cX7_ofWire 63 = .ok (.getfield 10, 3) := by decide +kernel
theorem dX7_ofWire_66 : decode cX7_ofWire 66 = .ok (.iload_n 1, 1) := by decide +kernel
theorem dX7_ofWire_67 : decode cX7_ofWire 67 = .ok (.invokevirtual 85, 3) := by decide +kernel
theorem dX7_ofWire_70 : decode cX7_ofWire 70 = .ok (.ifCond .eq 7, 3) := by decide +kernel
theorem dX7_ofWire_73 : decode cX7_ofWire 73 = .ok (.iconst 1, 1) := by decide +kernel
theorem dX7_ofWire_74 : decode cX7_ofWire 74 = .ok (.goto 4, 3) := by decide +kernel
theorem dX7_ofWire_77 : decode cX7_ofWire 77 = .ok (.iconst 0, 1) := by decide +kernel
theorem dX7_ofWire_78 : decode cX7_ofWire 78 = .ok (.ireturn, 1) := by decide +kernel
theorem dX7_ofWire_79 : decode cX7_ofWire 79 = .ok (.aload_n 0, 1) := by decide +kernel
theorem dX7_ofWire_80 : decode cX7_ofWire 80 = .ok (.getfield 10, 3) := by decide +kernel
theorem dX7_ofWire_83 : decode cX7_ofWire 83 = .ok (.iload_n 1, 1) := by decide +kernel
theorem dX7_ofWire_84 : decode cX7_ofWire 84 = .ok (.invokevirtual 88, 3) := by decide +kernel
theorem dX7_ofWire_87 : decode cX7_ofWire 87 = .ok (.ireturn, 1) := by decide +kernel
theorem dX7_ofWire_88 : decode cX7_ofWire 88 = .ok (.aload_n 0, 1) := by decide +kernel
theorem dX7_ofWire_89 : decode cX7_ofWire 89 = .ok (.getfield 10, 3) := by decide +kernel
theorem dX7_ofWire_92 : decode cX7_ofWire 92 = .ok (.iconst 1, 1) := by decide +kernel
theorem dX7_ofWire_93 : decode cX7_ofWire 93 = .ok (.iload_n 1, 1) := by decide +kernel
theorem dX7_ofWire_94 : decode cX7_ofWire 94 = .ok (.ishl, 1) := by decide +kernel
theorem dX7_ofWire_95 : decode cX7_ofWire 95 = .ok (.invokevirtual 91, 3) := by decide +kernel
theorem dX7_ofWire_98 : decode cX7_ofWire 98 = .ok (.ireturn, 1) := by decide +kernel
theorem dX7_ofWire_99 : decode cX7_ofWire 99 = .ok (.aload_n 0, 1) := by decide +kernel
theorem dX7_ofWire_100 : decode cX7_ofWire 100 = .ok (.getfield 10, 3) := by decide +kernel
theorem dX7_ofWire_103 : decode cX7_ofWire 103 = .ok (.iload_n 1, 1) := by decide +kernel
theorem dX7_ofWire_104 : decode cX7_ofWire 104 = .ok (.invokevirtual 94, 3) := by decide +kernel
theorem dX7_ofWire_107 : decode cX7_ofWire 107 = .ok (.ireturn, 1) := by decide +kernel
theorem dX7_ofWire_108 : decode cX7_ofWire 108 = .ok (.aload_n 0, 1) := by decide +kernel
theorem dX7_ofWire_109 : decode cX7_ofWire 109 = .ok (.getfield 10, 3) := by decide +kernel
theorem dX7_ofWire_112 : decode cX7_ofWire 112 = .ok (.getfield 97, 3) := by decide +kernel
theorem dX7_ofWire_115 : decode cX7_ofWire 115 = .ok (.iload_n 1, 1) := by decide +kernel
theorem dX7_ofWire_116 : decode cX7_ofWire 116 = .ok (.iaload, 1) := by decide +kernel
theorem dX7_ofWire_117 : decode cX7_ofWire 117 = .ok (.ireturn, 1) := by decide +kernel
theorem dX7_ofWire_118 : decode cX7_ofWire 118 = .ok (.aload_n 0, 1) := by decide +kernel
theorem dX7_ofWire_119 : decode cX7_ofWire 119 = .ok (.getfield 10, 3) := by decide +kernel
theorem dX7_ofWire_122 : decode cX7_ofWire 122 = .ok (.getfield 100, 3) := by decide +kernel
theorem dX7_ofWire_125 : decode cX7_ofWire 125 = .ok (.iload_n 1, 1) := by decide +kernel
theorem dX7_ofWire_126 : decode cX7_ofWire 126 = .ok (.iaload, 1) := by decide +kernel
theorem dX7_ofWire_127 : decode cX7_ofWire 127 = .ok (.ireturn, 1) := by decide +kernel
theorem dX7_ofWire_128 : decode cX7_ofWire 128 = .ok (.bipush (-2), 2) := by decide +kernel
theorem dX7_ofWire_130 : decode cX7_ofWire 130 = .ok (.ireturn, 1) := by decide +kernel
theorem dX7_of_0 : decode cX7_of 0 = .ok (.aload_n 0, 1) := by decide +kernel
theorem dX7_of_1 : decode cX7_of 1 = .ok (.getfield 10, 3) := by decide +kernel
theorem dX7_of_4 : decode cX7_of 4 = .ok (.iload_n 1, 1) := by decide +kernel
theorem dX7_of_5 : decode cX7_of 5 = .ok (.invokevirtual 103, 3) := by decide +kernel
theorem dX7_of_8 : decode cX7_of 8 = .ok (.astore_n 3, 1) := by decide +kernel
theorem dX7_of_9 : decode cX7_of 9 = .ok (.aload_n 3, 1) := by decide +kernel
theorem dX7_of_10 : decode cX7_of 10 = .ok (.ifnonnull 7, 3) := by decide +kernel
theorem dX7_of_13 : decode cX7_of 13 = .ok (.iconst (-1), 1) := by decide +kernel
theorem dX7_of_14 : decode cX7_of 14 = .ok (.goto 8, 3) := by decide +kernel
theorem dX7_of_17 : decode cX7_of 17 = .ok (.aload_n 3, 1) := by decide +kernel
theorem dX7_of_18 : decode cX7_of 18 = .ok (.iload_n 2, 1) := by decide +kernel
theorem dX7_of_19 : decode cX7_of 19 = .ok (.invokevirtual 107, 3) := by decide +kernel
theorem dX7_of_22 : decode cX7_of 22 = .ok (.ireturn, 1) := by decide +kernel
theorem dX7_row_0 : decode cX7_row 0 = .ok (.aload_n 0, 1) := by decide +kernel
theorem dX7_row_1 : decode cX7_row 1 = .ok (.getfield 10, 3) := by decide +kernel
theorem dX7_row_4 : decode cX7_row 4 = .ok (.iload_n 1, 1) := by decide +kernel
theorem dX7_row_5 : decode cX7_row 5 = .ok (.invokevirtual 103, 3) := by decide +kernel
theorem dX7_row_8 : decode cX7_row 8 = .ok (.astore 4, 2) := by decide +kernel
theorem dX7_row_10 : decode cX7_row 10 = .ok (.aload 4, 2) := by decide +kernel
theorem dX7_row_12 : decode cX7_row 12 = .ok (.ifnull 15, 3) := by decide +kernel
theorem dX7_row_15 : decode cX7_row 15 = .ok (.aload 4, 2) := by decide +kernel
theorem dX7_row_17 : decode cX7_row 17 = .ok (.getfield 112, 3) := by decide +kernel
theorem dX7_row_20 : decode cX7_row 20 = .ok (.iload_n 2, 1) := by decide +kernel
theorem dX7_row_21 : decode cX7_row 21 = .ok (.invokevirtual 116, 3) := by decide +kernel
theorem dX7_row_24 : decode cX7_row 24 = .ok (.ifCond .ne 5, 3) := by decide +kernel
theorem dX7_row_27 : decode cX7_row 27 = .ok (.iconst (-1), 1) := by decide +kernel
theorem dX7_row_28 : decode cX7_row 28 = .ok (.ireturn, 1) := by decide +kernel
theorem dX7_row_29 : decode cX7_row 29 = .ok (.iload_n 3, 1) := by decide +kernel
theorem dX7_row_30 : decode cX7_row 30 = .ok (.tableswitch 56 0 2 #[26, 36, 46], 26) := by decide +kernel
theorem dX7_row_56 : decode cX7_row 56 = .ok (.aload 4, 2) := by decide +kernel
theorem dX7_row_58 : decode cX7_row 58 = .ok (.getfield 112, 3) := by decide +kernel
theorem dX7_row_61 : decode cX7_row 61 = .ok (.iload_n 2, 1) := by decide +kernel
theorem dX7_row_62 : decode cX7_row 62 = .ok (.invokevirtual 121, 3) := by decide +kernel
theorem dX7_row_65 : decode cX7_row 65 = .ok (.ireturn, 1) := by decide +kernel
theorem dX7_row_66 : decode cX7_row 66 = .ok (.aload 4, 2) := by decide +kernel
theorem dX7_row_68 : decode cX7_row 68 = .ok (.getfield 112, 3) := by decide +kernel
theorem dX7_row_71 : decode cX7_row 71 = .ok (.iload_n 2, 1) := by decide +kernel
theorem dX7_row_72 : decode cX7_row 72 = .ok (.invokevirtual 124, 3) := by decide +kernel
theorem dX7_row_75 : decode cX7_row 75 = .ok (.ireturn, 1) := by decide +kernel
theorem dX7_row_76 : decode cX7_row 76 = .ok (.aload 4, 2) := by decide +kernel
theorem dX7_row_78 : decode cX7_row 78 = .ok (.getfield 112, 3) := by decide +kernel
theorem dX7_row_81 : decode cX7_row 81 = .ok (.iload_n 2, 1) := by decide +kernel
theorem dX7_row_82 : decode cX7_row 82 = .ok (.invokevirtual 127, 3) := by decide +kernel
theorem dX7_row_85 : decode cX7_row 85 = .ok (.ireturn, 1) := by decide +kernel
theorem dX7_row_86 : decode cX7_row 86 = .ok (.bipush (-2), 2) := by decide +kernel
theorem dX7_row_88 : decode cX7_row 88 = .ok (.ireturn, 1) := by decide +kernel
theorem dX7_heard_0 : decode cX7_heard 0 = .ok (.aload_n 0, 1) := by decide +kernel
theorem dX7_heard_1 : decode cX7_heard 1 = .ok (.getfield 10, 3) := by decide +kernel
theorem dX7_heard_4 : decode cX7_heard 4 = .ok (.iload_n 1, 1) := by decide +kernel
theorem dX7_heard_5 : decode cX7_heard 5 = .ok (.invokevirtual 103, 3) := by decide +kernel
theorem dX7_heard_8 : decode cX7_heard 8 = .ok (.astore 4, 2) := by decide +kernel
theorem dX7_heard_10 : decode cX7_heard 10 = .ok (.aload 4, 2) := by decide +kernel
theorem dX7_heard_12 : decode cX7_heard 12 = .ok (.ifnull 15, 3) := by decide +kernel
theorem dX7_heard_15 : decode cX7_heard 15 = .ok (.aload 4, 2) := by decide +kernel
theorem dX7_heard_17 : decode cX7_heard 17 = .ok (.getfield 130, 3) := by decide +kernel
theorem dX7_heard_20 : decode cX7_heard 20 = .ok (.iload_n 2, 1) := by decide +kernel
theorem dX7_heard_21 : decode cX7_heard 21 = .ok (.invokevirtual 134, 3) := by decide +kernel
theorem dX7_heard_24 : decode cX7_heard 24 = .ok (.ifCond .ne 5, 3) := by decide +kernel
theorem dX7_heard_27 : decode cX7_heard 27 = .ok (.iconst (-1), 1) := by decide +kernel
theorem dX7_heard_28 : decode cX7_heard 28 = .ok (.ireturn, 1) := by decide +kernel
theorem dX7_heard_29 : decode cX7_heard 29 = .ok (.aload 4, 2) := by decide +kernel
theorem dX7_heard_31 : decode cX7_heard 31 = .ok (.getfield 130, 3) := by decide +kernel
theorem dX7_heard_34 : decode cX7_heard 34 = .ok (.iload_n 2, 1) := by decide +kernel
theorem dX7_heard_35 : decode cX7_heard 35 = .ok (.iload_n 3, 1) := by decide +kernel
theorem dX7_heard_36 : decode cX7_heard 36 = .ok (.invokevirtual 137, 3) := by decide +kernel
theorem dX7_heard_39 : decode cX7_heard 39 = .ok (.ireturn, 1) := by decide +kernel
theorem dX7_count_0 : decode cX7_count 0 = .ok (.iload_n 1, 1) := by decide +kernel
theorem dX7_count_1 : decode cX7_count 1 = .ok (.tableswitch 202 0 16 #[83, 91, 99, 109, 117, 126, 136, 146, 156, 164, 173, 173, 173, 173, 173, 186, 194], 83) := by decide +kernel
theorem dX7_count_84 : decode cX7_count 84 = .ok (.aload_n 0, 1) := by decide +kernel
theorem dX7_count_85 : decode cX7_count 85 = .ok (.getfield 10, 3) := by decide +kernel
theorem dX7_count_88 : decode cX7_count 88 = .ok (.getfield 139, 3) := by decide +kernel
theorem dX7_count_91 : decode cX7_count 91 = .ok (.ireturn, 1) := by decide +kernel
theorem dX7_count_92 : decode cX7_count 92 = .ok (.aload_n 0, 1) := by decide +kernel
theorem dX7_count_93 : decode cX7_count 93 = .ok (.getfield 10, 3) := by decide +kernel
theorem dX7_count_96 : decode cX7_count 96 = .ok (.getfield 143, 3) := by decide +kernel
theorem dX7_count_99 : decode cX7_count 99 = .ok (.ireturn, 1) := by decide +kernel
theorem dX7_count_100 : decode cX7_count 100 = .ok (.aload_n 0, 1) := by decide +kernel
theorem dX7_count_101 : decode cX7_count 101 = .ok (.getfield 10, 3) := by decide +kernel
theorem dX7_count_104 : decode cX7_count 104 = .ok (.bipush 63, 2) := by decide +kernel
theorem dX7_count_106 : decode cX7_count 106 = .ok (.invokevirtual 91, 3) := by decide +kernel
theorem dX7_count_109 : decode cX7_count 109 = .ok (.ireturn, 1) := by decide +kernel
theorem dX7_count_110 : decode cX7_count 110 = .ok (.aload_n 0, 1) := by decide +kernel
theorem dX7_count_111 : decode cX7_count 111 = .ok (.getfield 10, 3) := by decide +kernel
theorem dX7_count_114 : decode cX7_count 114 = .ok (.invokevirtual 146, 3) := by decide +kernel
theorem dX7_count_117 : decode cX7_count 117 = .ok (.ireturn, 1) := by decide +kernel
theorem dX7_count_118 : decode cX7_count 118 = .ok (.aload_n 0, 1) := by decide +kernel
theorem dX7_count_119 : decode cX7_count 119 = .ok (.getfield 10, 3) := by decide +kernel
theorem dX7_count_122 : decode cX7_count 122 = .ok (.iconst 3, 1) := by decide +kernel
theorem dX7_count_123 : decode cX7_count 123 = .ok (.invokevirtual 150, 3) := by decide +kernel
theorem dX7_count_126 : decode cX7_count 126 = .ok (.ireturn, 1) := by decide +kernel
theorem dX7_count_127 : decode cX7_count 127 = .ok (.aload_n 0, 1) := by decide +kernel
theorem dX7_count_128 : decode cX7_count 128 = .ok (.getfield 10, 3) := by decide +kernel
theorem dX7_count_131 : decode cX7_count 131 = .ok (.bipush 6, 2) := by decide +kernel
theorem dX7_count_133 : decode cX7_count 133 = .ok (.invokevirtual 150, 3) := by decide +kernel
theorem dX7_count_136 : decode cX7_count 136 = .ok (.ireturn, 1) := by decide +kernel
theorem dX7_count_137 : decode cX7_count 137 = .ok (.aload_n 0, 1) := by decide +kernel
theorem dX7_count_138 : decode cX7_count 138 = .ok (.getfield 10, 3) := by decide +kernel
theorem dX7_count_141 : decode cX7_count 141 = .ok (.bipush 7, 2) := by decide +kernel
theorem dX7_count_143 : decode cX7_count 143 = .ok (.invokevirtual 150, 3) := by decide +kernel
theorem dX7_count_146 : decode cX7_count 146 = .ok (.ireturn, 1) := by decide +kernel
theorem dX7_count_147 : decode cX7_count 147 = .ok (.aload_n 0, 1) := by decide +kernel
theorem dX7_count_148 : decode cX7_count 148 = .ok (.getfield 10, 3) := by decide +kernel
theorem dX7_count_151 : decode cX7_count 151 = .ok (.bipush 9, 2) := by decide +kernel
theorem dX7_count_153 : decode cX7_count 153 = .ok (.invokevirtual 150, 3) := by decide +kernel
theorem dX7_count_156 : decode cX7_count 156 = .ok (.ireturn, 1) := by decide +kernel
theorem dX7_count_157 : decode cX7_count 157 = .ok (.aload_n 0, 1) := by decide +kernel
theorem dX7_count_158 : decode cX7_count 158 = .ok (.getfield 10, 3) := by decide +kernel
theorem dX7_count_161 : decode cX7_count 161 = .ok (.getfield 153, 3) := by decide +kernel
theorem dX7_count_164 : decode cX7_count 164 = .ok (.ireturn, 1) := by decide +kernel
theorem dX7_count_165 : decode cX7_count 165 = .ok (.aload_n 0, 1) := by decide +kernel
theorem dX7_count_166 : decode cX7_count 166 = .ok (.getfield 10, 3) := by decide +kernel
theorem dX7_count_169 : decode cX7_count 169 = .ok (.iconst 1, 1) := by decide +kernel
theorem dX7_count_170 : decode cX7_count 170 = .ok (.invokevirtual 150, 3) := by decide +kernel
theorem dX7_count_173 : decode cX7_count 173 = .ok (.ireturn, 1) := by decide +kernel
theorem dX7_count_174 : decode cX7_count 174 = .ok (.aload_n 0, 1) := by decide +kernel
theorem dX7_count_175 : decode cX7_count 175 = .ok (.getfield 10, 3) := by decide +kernel
theorem dX7_count_178 : decode cX7_count 178 = .ok (.getfield 156, 3) := by decide +kernel
theorem dX7_count_181 : decode cX7_count 181 = .ok (.iload_n 1, 1) := by decide +kernel
theorem dX7_count_182 : decode cX7_count 182 = .ok (.bipush 10, 2) := by decide +kernel
theorem dX7_count_184 : decode cX7_count 184 = .ok (.isub, 1) := by decide +kernel
theorem dX7_count_185 : decode cX7_count 185 = .ok (.iaload, 1) := by decide +kernel
theorem dX7_count_186 : decode cX7_count 186 = .ok (.ireturn, 1) := by decide +kernel
theorem dX7_count_187 : decode cX7_count 187 = .ok (.aload_n 0, 1) := by decide +kernel
theorem dX7_count_188 : decode cX7_count 188 = .ok (.getfield 33, 3) := by decide +kernel
theorem dX7_count_191 : decode cX7_count 191 = .ok (.getfield 159, 3) := by decide +kernel
theorem dX7_count_194 : decode cX7_count 194 = .ok (.ireturn, 1) := by decide +kernel
theorem dX7_count_195 : decode cX7_count 195 = .ok (.aload_n 0, 1) := by decide +kernel
theorem dX7_count_196 : decode cX7_count 196 = .ok (.getfield 22, 3) := by decide +kernel
theorem dX7_count_199 : decode cX7_count 199 = .ok (.getfield 162, 3) := by decide +kernel
theorem dX7_count_202 : decode cX7_count 202 = .ok (.ireturn, 1) := by decide +kernel
theorem dX7_count_203 : decode cX7_count 203 = .ok (.bipush (-2), 2) := by decide +kernel
theorem dX7_count_205 : decode cX7_count 205 = .ok (.ireturn, 1) := by decide +kernel
theorem dX7_why_0 : decode cX7_why 0 = .ok (.aload_n 0, 1) := by decide +kernel
theorem dX7_why_1 : decode cX7_why 1 = .ok (.getfield 10, 3) := by decide +kernel
theorem dX7_why_4 : decode cX7_why 4 = .ok (.iload_n 1, 1) := by decide +kernel
theorem dX7_why_5 : decode cX7_why 5 = .ok (.invokevirtual 103, 3) := by decide +kernel
theorem dX7_why_8 : decode cX7_why 8 = .ok (.astore_n 2, 1) := by decide +kernel
theorem dX7_why_9 : decode cX7_why 9 = .ok (.aload_n 2, 1) := by decide +kernel
theorem dX7_why_10 : decode cX7_why 10 = .ok (.ifnonnull 5, 3) := by decide +kernel
theorem dX7_why_13 : decode cX7_why 13 = .ok (.iconst (-1), 1) := by decide +kernel
theorem dX7_why_14 : decode cX7_why 14 = .ok (.ireturn, 1) := by decide +kernel
theorem dX7_why_15 : decode cX7_why 15 = .ok (.aload_n 2, 1) := by decide +kernel
theorem dX7_why_16 : decode cX7_why 16 = .ok (.invokevirtual 163, 3) := by decide +kernel
theorem dX7_why_19 : decode cX7_why 19 = .ok (.ifCond .eq 5, 3) := by decide +kernel
theorem dX7_why_22 : decode cX7_why 22 = .ok (.iconst 1, 1) := by decide +kernel
theorem dX7_why_23 : decode cX7_why 23 = .ok (.ireturn, 1) := by decide +kernel
theorem dX7_why_24 : decode cX7_why 24 = .ok (.aload_n 2, 1) := by decide +kernel
theorem dX7_why_25 : decode cX7_why 25 = .ok (.getfield 167, 3) := by decide +kernel
theorem dX7_why_28 : decode cX7_why 28 = .ok (.ifCond .eq 5, 3) := by decide +kernel
theorem dX7_why_31 : decode cX7_why 31 = .ok (.iconst 2, 1) := by decide +kernel
theorem dX7_why_32 : decode cX7_why 32 = .ok (.ireturn, 1) := by decide +kernel
theorem dX7_why_33 : decode cX7_why 33 = .ok (.aload_n 2, 1) := by decide +kernel
theorem dX7_why_34 : decode cX7_why 34 = .ok (.getfield 171, 3) := by decide +kernel
theorem dX7_why_37 : decode cX7_why 37 = .ok (.ifCond .eq 5, 3) := by decide +kernel
theorem dX7_why_40 : decode cX7_why 40 = .ok (.iconst 3, 1) := by decide +kernel
theorem dX7_why_41 : decode cX7_why 41 = .ok (.ireturn, 1) := by decide +kernel
theorem dX7_why_42 : decode cX7_why 42 = .ok (.aload_n 2, 1) := by decide +kernel
theorem dX7_why_43 : decode cX7_why 43 = .ok (.getfield 112, 3) := by decide +kernel
theorem dX7_why_46 : decode cX7_why 46 = .ok (.getfield 174, 3) := by decide +kernel
theorem dX7_why_49 : decode cX7_why 49 = .ok (.ifCond .ne 5, 3) := by decide +kernel
theorem dX7_why_52 : decode cX7_why 52 = .ok (.iconst 4, 1) := by decide +kernel
theorem dX7_why_53 : decode cX7_why 53 = .ok (.ireturn, 1) := by decide +kernel
theorem dX7_why_54 : decode cX7_why 54 = .ok (.aload_n 2, 1) := by decide +kernel
theorem dX7_why_55 : decode cX7_why 55 = .ok (.getfield 112, 3) := by decide +kernel
theorem dX7_why_58 : decode cX7_why 58 = .ok (.iconst 0, 1) := by decide +kernel
theorem dX7_why_59 : decode cX7_why 59 = .ok (.invokevirtual 124, 3) := by decide +kernel
theorem dX7_why_62 : decode cX7_why 62 = .ok (.istore_n 3, 1) := by decide +kernel
theorem dX7_why_63 : decode cX7_why 63 = .ok (.aload_n 0, 1) := by decide +kernel
theorem dX7_why_64 : decode cX7_why 64 = .ok (.getfield 10, 3) := by decide +kernel
theorem dX7_why_67 : decode cX7_why 67 = .ok (.iload_n 3, 1) := by decide +kernel
theorem dX7_why_68 : decode cX7_why 68 = .ok (.invokevirtual 175, 3) := by decide +kernel
theorem dX7_why_71 : decode cX7_why 71 = .ok (.ifCond .eq 5, 3) := by decide +kernel
theorem dX7_why_74 : decode cX7_why 74 = .ok (.iconst 0, 1) := by decide +kernel
theorem dX7_why_75 : decode cX7_why 75 = .ok (.ireturn, 1) := by decide +kernel
theorem dX7_why_76 : decode cX7_why 76 = .ok (.aload_n 0, 1) := by decide +kernel
theorem dX7_why_77 : decode cX7_why 77 = .ok (.getfield 10, 3) := by decide +kernel
theorem dX7_why_80 : decode cX7_why 80 = .ok (.iload_n 3, 1) := by decide +kernel
theorem dX7_why_81 : decode cX7_why 81 = .ok (.invokevirtual 85, 3) := by decide +kernel
theorem dX7_why_84 : decode cX7_why 84 = .ok (.ifCond .eq 7, 3) := by decide +kernel
theorem dX7_why_87 : decode cX7_why 87 = .ok (.iconst 5, 1) := by decide +kernel
theorem dX7_why_88 : decode cX7_why 88 = .ok (.goto 5, 3) := by decide +kernel
theorem dX7_why_91 : decode cX7_why 91 = .ok (.bipush 6, 2) := by decide +kernel
theorem dX7_why_93 : decode cX7_why 93 = .ok (.ireturn, 1) := by decide +kernel
theorem dX7_endsIn_0 : decode cX7_endsIn 0 = .ok (.aload_n 0, 1) := by decide +kernel
theorem dX7_endsIn_1 : decode cX7_endsIn 1 = .ok (.getfield 10, 3) := by decide +kernel
theorem dX7_endsIn_4 : decode cX7_endsIn 4 = .ok (.iload_n 1, 1) := by decide +kernel
theorem dX7_endsIn_5 : decode cX7_endsIn 5 = .ok (.invokevirtual 103, 3) := by decide +kernel
theorem dX7_endsIn_8 : decode cX7_endsIn 8 = .ok (.astore_n 3, 1) := by decide +kernel
theorem dX7_endsIn_9 : decode cX7_endsIn 9 = .ok (.aload_n 3, 1) := by decide +kernel
theorem dX7_endsIn_10 : decode cX7_endsIn 10 = .ok (.ifnonnull 5, 3) := by decide +kernel
theorem dX7_endsIn_13 : decode cX7_endsIn 13 = .ok (.iconst (-1), 1) := by decide +kernel
theorem dX7_endsIn_14 : decode cX7_endsIn 14 = .ok (.ireturn, 1) := by decide +kernel
theorem dX7_endsIn_15 : decode cX7_endsIn 15 = .ok (.iload_n 2, 1) := by decide +kernel
theorem dX7_endsIn_16 : decode cX7_endsIn 16 = .ok (.ifCond .lt 8, 3) := by decide +kernel
theorem dX7_endsIn_19 : decode cX7_endsIn 19 = .ok (.iload_n 2, 1) := by decide +kernel
theorem dX7_endsIn_20 : decode cX7_endsIn 20 = .ok (.iconst 1, 1) := by decide +kernel
theorem dX7_endsIn_21 : decode cX7_endsIn 21 = .ok (.if_icmp .le 6, 3) := by decide +kernel
theorem dX7_endsIn_24 : decode cX7_endsIn 24 = .ok (.bipush (-2), 2) := by decide +kernel
theorem dX7_endsIn_26 : decode cX7_endsIn 26 = .ok (.ireturn, 1) := by decide +kernel
theorem dX7_endsIn_27 : decode cX7_endsIn 27 = .ok (.aload_n 3, 1) := by decide +kernel
theorem dX7_endsIn_28 : decode cX7_endsIn 28 = .ok (.getfield 112, 3) := by decide +kernel
theorem dX7_endsIn_31 : decode cX7_endsIn 31 = .ok (.getfield 174, 3) := by decide +kernel
theorem dX7_endsIn_34 : decode cX7_endsIn 34 = .ok (.ifCond .ne 6, 3) := by decide +kernel
theorem dX7_endsIn_37 : decode cX7_endsIn 37 = .ok (.bipush (-5), 2) := by decide +kernel
theorem dX7_endsIn_39 : decode cX7_endsIn 39 = .ok (.ireturn, 1) := by decide +kernel
theorem dX7_endsIn_40 : decode cX7_endsIn 40 = .ok (.aload_n 0, 1) := by decide +kernel
theorem dX7_endsIn_41 : decode cX7_endsIn 41 = .ok (.getfield 16, 3) := by decide +kernel
theorem dX7_endsIn_44 : decode cX7_endsIn 44 = .ok (.aload_n 0, 1) := by decide +kernel
theorem dX7_endsIn_45 : decode cX7_endsIn 45 = .ok (.getfield 10, 3) := by decide +kernel
theorem dX7_endsIn_48 : decode cX7_endsIn 48 = .ok (.invokevirtual 178, 3) := by decide +kernel
theorem dX7_endsIn_51 : decode cX7_endsIn 51 = .ok (.aload_n 0, 1) := by decide +kernel
theorem dX7_endsIn_52 : decode cX7_endsIn 52 = .ok (.getfield 16, 3) := by decide +kernel
theorem dX7_endsIn_55 : decode cX7_endsIn 55 = .ok (.iload_n 1, 1) := by decide +kernel
theorem dX7_endsIn_56 : decode cX7_endsIn 56 = .ok (.invokevirtual 103, 3) := by decide +kernel
theorem dX7_endsIn_59 : decode cX7_endsIn 59 = .ok (.astore 4, 2) := by decide +kernel
theorem dX7_endsIn_61 : decode cX7_endsIn 61 = .ok (.aload 4, 2) := by decide +kernel
theorem dX7_endsIn_63 : decode cX7_endsIn 63 = .ok (.ifnonnull 5, 3) := by decide +kernel
theorem dX7_endsIn_66 : decode cX7_endsIn 66 = .ok (.iconst (-1), 1) := by decide +kernel
theorem dX7_endsIn_67 : decode cX7_endsIn 67 = .ok (.ireturn, 1) := by decide +kernel
theorem dX7_endsIn_68 : decode cX7_endsIn 68 = .ok (.iconst 1, 1) := by decide +kernel
theorem dX7_endsIn_69 : decode cX7_endsIn 69 = .ok (.istore 5, 2) := by decide +kernel
theorem dX7_endsIn_71 : decode cX7_endsIn 71 = .ok (.iload 5, 2) := by decide +kernel
theorem dX7_endsIn_73 : decode cX7_endsIn 73 = .ok (.sipush 600, 3) := by decide +kernel
theorem dX7_endsIn_76 : decode cX7_endsIn 76 = .ok (.if_icmp .gt 63, 3) := by decide +kernel
theorem dX7_endsIn_79 : decode cX7_endsIn 79 = .ok (.aload_n 0, 1) := by decide +kernel
theorem dX7_endsIn_80 : decode cX7_endsIn 80 = .ok (.getfield 16, 3) := by decide +kernel
theorem dX7_endsIn_83 : decode cX7_endsIn 83 = .ok (.invokevirtual 181, 3) := by decide +kernel
theorem dX7_endsIn_86 : decode cX7_endsIn 86 = .ok (.pop, 1) := by decide +kernel
theorem dX7_endsIn_87 : decode cX7_endsIn 87 = .ok (.aload 4, 2) := by decide +kernel
theorem dX7_endsIn_89 : decode cX7_endsIn 89 = .ok (.getfield 184, 3) := by decide +kernel
theorem dX7_endsIn_92 : decode cX7_endsIn 92 = .ok (.aload_n 3, 1) := by decide +kernel
theorem dX7_endsIn_93 : decode cX7_endsIn 93 = .ok (.getfield 184, 3) := by decide +kernel
theorem dX7_endsIn_96 : decode cX7_endsIn 96 = .ok (.if_icmp .eq 14, 3) := by decide +kernel
theorem dX7_endsIn_99 : decode cX7_endsIn 99 = .ok (.iload_n 2, 1) := by decide +kernel
theorem dX7_endsIn_100 : decode cX7_endsIn 100 = .ok (.ifCond .ne 8, 3) := by decide +kernel
theorem dX7_endsIn_103 : decode cX7_endsIn 103 = .ok (.iload 5, 2) := by decide +kernel
theorem dX7_endsIn_105 : decode cX7_endsIn 105 = .ok (.goto 4, 3) := by decide +kernel
theorem dX7_endsIn_108 : decode cX7_endsIn 108 = .ok (.iconst 1, 1) := by decide +kernel
theorem dX7_endsIn_109 : decode cX7_endsIn 109 = .ok (.ireturn, 1) := by decide +kernel
theorem dX7_endsIn_110 : decode cX7_endsIn 110 = .ok (.aload 4, 2) := by decide +kernel
theorem dX7_endsIn_112 : decode cX7_endsIn 112 = .ok (.getfield 187, 3) := by decide +kernel
theorem dX7_endsIn_115 : decode cX7_endsIn 115 = .ok (.aload_n 3, 1) := by decide +kernel
theorem dX7_endsIn_116 : decode cX7_endsIn 116 = .ok (.getfield 187, 3) := by decide +kernel
theorem dX7_endsIn_119 : decode cX7_endsIn 119 = .ok (.if_icmp .eq 14, 3) := by decide +kernel
theorem dX7_endsIn_122 : decode cX7_endsIn 122 = .ok (.iload_n 2, 1) := by decide +kernel
theorem dX7_endsIn_123 : decode cX7_endsIn 123 = .ok (.ifCond .ne 8, 3) := by decide +kernel
theorem dX7_endsIn_126 : decode cX7_endsIn 126 = .ok (.iload 5, 2) := by decide +kernel
theorem dX7_endsIn_128 : decode cX7_endsIn 128 = .ok (.goto 4, 3) := by decide +kernel
theorem dX7_endsIn_131 : decode cX7_endsIn 131 = .ok (.iconst 2, 1) := by decide +kernel
theorem dX7_endsIn_132 : decode cX7_endsIn 132 = .ok (.ireturn, 1) := by decide +kernel
theorem dX7_endsIn_133 : decode cX7_endsIn 133 = .ok (.iinc 5 1, 3) := by decide +kernel
theorem dX7_endsIn_136 : decode cX7_endsIn 136 = .ok (.goto (-65), 3) := by decide +kernel
theorem dX7_endsIn_139 : decode cX7_endsIn 139 = .ok (.bipush (-6), 2) := by decide +kernel
theorem dX7_endsIn_141 : decode cX7_endsIn 141 = .ok (.ireturn, 1) := by decide +kernel
theorem dX7_quietIn_0 : decode cX7_quietIn 0 = .ok (.aload_n 0, 1) := by decide +kernel
theorem dX7_quietIn_1 : decode cX7_quietIn 1 = .ok (.getfield 16, 3) := by decide +kernel
theorem dX7_quietIn_4 : decode cX7_quietIn 4 = .ok (.aload_n 0, 1) := by decide +kernel
theorem dX7_quietIn_5 : decode cX7_quietIn 5 = .ok (.getfield 10, 3) := by decide +kernel
theorem dX7_quietIn_8 : decode cX7_quietIn 8 = .ok (.invokevirtual 178, 3) := by decide +kernel
theorem dX7_quietIn_11 : decode cX7_quietIn 11 = .ok (.iconst 0, 1) := by decide +kernel
theorem dX7_quietIn_12 : decode cX7_quietIn 12 = .ok (.istore_n 1, 1) := by decide +kernel
theorem dX7_quietIn_13 : decode cX7_quietIn 13 = .ok (.iload_n 1, 1) := by decide +kernel
theorem dX7_quietIn_14 : decode cX7_quietIn 14 = .ok (.sipush 900, 3) := by decide +kernel
theorem dX7_quietIn_17 : decode cX7_quietIn 17 = .ok (.if_icmp .gt 29, 3) := by decide +kernel
theorem dX7_quietIn_20 : decode cX7_quietIn 20 = .ok (.aload_n 0, 1) := by decide +kernel
theorem dX7_quietIn_21 : decode cX7_quietIn 21 = .ok (.getfield 16, 3) := by decide +kernel
theorem dX7_quietIn_24 : decode cX7_quietIn 24 = .ok (.invokevirtual 190, 3) := by decide +kernel
theorem dX7_quietIn_27 : decode cX7_quietIn 27 = .ok (.ifCond .ne 5, 3) := by decide +kernel
theorem dX7_quietIn_30 : decode cX7_quietIn 30 = .ok (.iload_n 1, 1) := by decide +kernel
theorem dX7_quietIn_31 : decode cX7_quietIn 31 = .ok (.ireturn, 1) := by decide +kernel
theorem dX7_quietIn_32 : decode cX7_quietIn 32 = .ok (.aload_n 0, 1) := by decide +kernel
theorem dX7_quietIn_33 : decode cX7_quietIn 33 = .ok (.getfield 16, 3) := by decide +kernel
theorem dX7_quietIn_36 : decode cX7_quietIn 36 = .ok (.invokevirtual 181, 3) := by decide +kernel
theorem dX7_quietIn_39 : decode cX7_quietIn 39 = .ok (.pop, 1) := by decide +kernel
theorem dX7_quietIn_40 : decode cX7_quietIn 40 = .ok (.iinc 1 1, 3) := by decide +kernel
theorem dX7_quietIn_43 : decode cX7_quietIn 43 = .ok (.goto (-30), 3) := by decide +kernel
theorem dX7_quietIn_46 : decode cX7_quietIn 46 = .ok (.bipush (-6), 2) := by decide +kernel
theorem dX7_quietIn_48 : decode cX7_quietIn 48 = .ok (.ireturn, 1) := by decide +kernel
theorem dX7_bestRest_0 : decode cX7_bestRest 0 = .ok (.iload_n 1, 1) := by decide +kernel
theorem dX7_bestRest_1 : decode cX7_bestRest 1 = .ok (.iconst 1, 1) := by decide +kernel
theorem dX7_bestRest_2 : decode cX7_bestRest 2 = .ok (.if_icmp .lt 19, 3) := by decide +kernel
theorem dX7_bestRest_5 : decode cX7_bestRest 5 = .ok (.iload_n 1, 1) := by decide +kernel
theorem dX7_bestRest_6 : decode cX7_bestRest 6 = .ok (.sipush 200, 3) := by decide +kernel
theorem dX7_bestRest_9 : decode cX7_bestRest 9 = .ok (.if_icmp .gt 12, 3) := by decide +kernel
theorem dX7_bestRest_12 : decode cX7_bestRest 12 = .ok (.iload_n 2, 1) := by decide +kernel
theorem dX7_bestRest_13 : decode cX7_bestRest 13 = .ok (.ifCond .lt 8, 3) := by decide +kernel
theorem dX7_bestRest_16 : decode cX7_bestRest 16 = .ok (.iload_n 2, 1) := by decide +kernel
theorem dX7_bestRest_17 : decode cX7_bestRest 17 = .ok (.iconst 1, 1) := by decide +kernel
theorem dX7_bestRest_18 : decode cX7_bestRest 18 = .ok (.if_icmp .le 6, 3) := by decide +kernel
theorem dX7_bestRest_21 : decode cX7_bestRest 21 = .ok (.bipush (-2), 2) := by decide +kernel
theorem dX7_bestRest_23 : decode cX7_bestRest 23 = .ok (.ireturn, 1) := by decide +kernel
theorem dX7_bestRest_24 : decode cX7_bestRest 24 = .ok (.getstatic 193, 3) := by decide +kernel
theorem dX7_bestRest_27 : decode cX7_bestRest 27 = .ok (.iconst 0, 1) := by decide +kernel
theorem dX7_bestRest_28 : decode cX7_bestRest 28 = .ok (.iaload, 1) := by decide +kernel
theorem dX7_bestRest_29 : decode cX7_bestRest 29 = .ok (.istore_n 3, 1) := by decide +kernel
theorem dX7_bestRest_30 : decode cX7_bestRest 30 = .ok (.iconst 0, 1) := by decide +kernel
theorem dX7_bestRest_31 : decode cX7_bestRest 31 = .ok (.istore 4, 2) := by decide +kernel
theorem dX7_bestRest_33 : decode cX7_bestRest 33 = .ok (.getstatic 193, 3) := by decide +kernel
theorem dX7_bestRest_36 : decode cX7_bestRest 36 = .ok (.iconst 0, 1) := by decide +kernel
theorem dX7_bestRest_37 : decode cX7_bestRest 37 = .ok (.iaload, 1) := by decide +kernel
theorem dX7_bestRest_38 : decode cX7_bestRest 38 = .ok (.istore 5, 2) := by decide +kernel
theorem dX7_bestRest_40 : decode cX7_bestRest 40 = .ok (.iload 5, 2) := by decide +kernel
theorem dX7_bestRest_42 : decode cX7_bestRest 42 = .ok (.getstatic 196, 3) := by decide +kernel
theorem dX7_bestRest_45 : decode cX7_bestRest 45 = .ok (.iconst 0, 1) := by decide +kernel
theorem dX7_bestRest_46 : decode cX7_bestRest 46 = .ok (.iaload, 1) := by decide +kernel
theorem dX7_bestRest_47 : decode cX7_bestRest 47 = .ok (.if_icmp .gt 32, 3) := by decide +kernel
theorem dX7_bestRest_50 : decode cX7_bestRest 50 = .ok (.aload_n 0, 1) := by decide +kernel
theorem dX7_bestRest_51 : decode cX7_bestRest 51 = .ok (.iload 5, 2) := by decide +kernel
theorem dX7_bestRest_53 : decode cX7_bestRest 53 = .ok (.iload_n 1, 1) := by decide +kernel
theorem dX7_bestRest_54 : decode cX7_bestRest 54 = .ok (.invokevirtual 199, 3) := by decide +kernel
theorem dX7_bestRest_57 : decode cX7_bestRest 57 = .ok (.istore 6, 2) := by decide +kernel
theorem dX7_bestRest_59 : decode cX7_bestRest 59 = .ok (.iload 6, 2) := by decide +kernel
theorem dX7_bestRest_61 : decode cX7_bestRest 61 = .ok (.iload 4, 2) := by decide +kernel
theorem dX7_bestRest_63 : decode cX7_bestRest 63 = .ok (.if_icmp .lt 10, 3) := by decide +kernel
theorem dX7_bestRest_66 : decode cX7_bestRest 66 = .ok (.iload 5, 2) := by decide +kernel
theorem dX7_bestRest_68 : decode cX7_bestRest 68 = .ok (.istore_n 3, 1) := by decide +kernel
theorem dX7_bestRest_69 : decode cX7_bestRest 69 = .ok (.iload 6, 2) := by decide +kernel
theorem dX7_bestRest_71 : decode cX7_bestRest 71 = .ok (.istore 4, 2) := by decide +kernel
theorem dX7_bestRest_73 : decode cX7_bestRest 73 = .ok (.iinc 5 1, 3) := by decide +kernel
theorem dX7_bestRest_76 : decode cX7_bestRest 76 = .ok (.goto (-36), 3) := by decide +kernel
theorem dX7_bestRest_79 : decode cX7_bestRest 79 = .ok (.iload_n 2, 1) := by decide +kernel
theorem dX7_bestRest_80 : decode cX7_bestRest 80 = .ok (.ifCond .ne 7, 3) := by decide +kernel
theorem dX7_bestRest_83 : decode cX7_bestRest 83 = .ok (.iload_n 3, 1) := by decide +kernel
theorem dX7_bestRest_84 : decode cX7_bestRest 84 = .ok (.goto 5, 3) := by decide +kernel
theorem dX7_bestRest_87 : decode cX7_bestRest 87 = .ok (.iload 4, 2) := by decide +kernel
theorem dX7_bestRest_89 : decode cX7_bestRest 89 = .ok (.ireturn, 1) := by decide +kernel
theorem dX7_heardWithRest_0 : decode cX7_heardWithRest 0 = .ok (.aload_n 0, 1) := by decide +kernel
theorem dX7_heardWithRest_1 : decode cX7_heardWithRest 1 = .ok (.getfield 16, 3) := by decide +kernel
theorem dX7_heardWithRest_4 : decode cX7_heardWithRest 4 = .ok (.aload_n 0, 1) := by decide +kernel
theorem dX7_heardWithRest_5 : decode cX7_heardWithRest 5 = .ok (.getfield 10, 3) := by decide +kernel
theorem dX7_heardWithRest_8 : decode cX7_heardWithRest 8 = .ok (.invokevirtual 178, 3) := by decide +kernel
theorem dX7_heardWithRest_11 : decode cX7_heardWithRest 11 = .ok (.aload_n 0, 1) := by decide +kernel
theorem dX7_heardWithRest_12 : decode cX7_heardWithRest 12 = .ok (.getfield 16, 3) := by decide +kernel
theorem dX7_heardWithRest_15 : decode cX7_heardWithRest 15 = .ok (.iconst 0, 1) := by decide +kernel
theorem dX7_heardWithRest_16 : decode cX7_heardWithRest 16 = .ok (.iload_n 1, 1) := by decide +kernel
theorem dX7_heardWithRest_17 : decode cX7_heardWithRest 17 = .ok (.invokevirtual 50, 3) := by decide +kernel
theorem dX7_heardWithRest_20 : decode cX7_heardWithRest 20 = .ok (.pop, 1) := by decide +kernel
theorem dX7_heardWithRest_21 : decode cX7_heardWithRest 21 = .ok (.iconst 0, 1) := by decide +kernel
theorem dX7_heardWithRest_22 : decode cX7_heardWithRest 22 = .ok (.istore_n 3, 1) := by decide +kernel
theorem dX7_heardWithRest_23 : decode cX7_heardWithRest 23 = .ok (.iconst 0, 1) := by decide +kernel
theorem dX7_heardWithRest_24 : decode cX7_heardWithRest 24 = .ok (.istore 4, 2) := by decide +kernel
theorem dX7_heardWithRest_26 : decode cX7_heardWithRest 26 = .ok (.iload 4, 2) := by decide +kernel
theorem dX7_heardWithRest_28 : decode cX7_heardWithRest 28 = .ok (.iload_n 2, 1) := by decide +kernel
theorem dX7_heardWithRest_29 : decode cX7_heardWithRest 29 = .ok (.if_icmp .ge 29, 3) := by decide +kernel
theorem dX7_heardWithRest_32 : decode cX7_heardWithRest 32 = .ok (.aload_n 0, 1) := by decide +kernel
theorem dX7_heardWithRest_33 : decode cX7_heardWithRest 33 = .ok (.getfield 16, 3) := by decide +kernel
theorem dX7_heardWithRest_36 : decode cX7_heardWithRest 36 = .ok (.invokevirtual 190, 3) := by decide +kernel
theorem dX7_heardWithRest_39 : decode cX7_heardWithRest 39 = .ok (.ifCond .eq 19, 3) := by decide +kernel
theorem dX7_heardWithRest_42 : decode cX7_heardWithRest 42 = .ok (.iload_n 3, 1) := by decide +kernel
theorem dX7_heardWithRest_43 : decode cX7_heardWithRest 43 = .ok (.aload_n 0, 1) := by decide +kernel
theorem dX7_heardWithRest_44 : decode cX7_heardWithRest 44 = .ok (.getfield 16, 3) := by decide +kernel
theorem dX7_heardWithRest_47 : decode cX7_heardWithRest 47 = .ok (.invokevirtual 181, 3) := by decide +kernel
theorem dX7_heardWithRest_50 : decode cX7_heardWithRest 50 = .ok (.iadd, 1) := by decide +kernel
theorem dX7_heardWithRest_51 : decode cX7_heardWithRest 51 = .ok (.istore_n 3, 1) := by decide +kernel
theorem dX7_heardWithRest_52 : decode cX7_heardWithRest 52 = .ok (.iinc 4 1, 3) := by decide +kernel
theorem dX7_heardWithRest_55 : decode cX7_heardWithRest 55 = .ok (.goto (-29), 3) := by decide +kernel
theorem dX7_heardWithRest_58 : decode cX7_heardWithRest 58 = .ok (.iload_n 3, 1) := by decide +kernel
theorem dX7_heardWithRest_59 : decode cX7_heardWithRest 59 = .ok (.ireturn, 1) := by decide +kernel
theorem dX7_busiest_0 : decode cX7_busiest 0 = .ok (.bipush (-6), 2) := by decide +kernel
theorem dX7_busiest_2 : decode cX7_busiest 2 = .ok (.istore_n 1, 1) := by decide +kernel
theorem dX7_busiest_3 : decode cX7_busiest 3 = .ok (.iconst 0, 1) := by decide +kernel
theorem dX7_busiest_4 : decode cX7_busiest 4 = .ok (.istore_n 2, 1) := by decide +kernel
theorem dX7_busiest_5 : decode cX7_busiest 5 = .ok (.iconst 0, 1) := by decide +kernel
theorem dX7_busiest_6 : decode cX7_busiest 6 = .ok (.istore_n 3, 1) := by decide +kernel
theorem dX7_busiest_7 : decode cX7_busiest 7 = .ok (.iload_n 3, 1) := by decide +kernel
theorem dX7_busiest_8 : decode cX7_busiest 8 = .ok (.bipush 6, 2) := by decide +kernel
theorem dX7_busiest_10 : decode cX7_busiest 10 = .ok (.if_icmp .ge 30, 3) := by decide +kernel
theorem dX7_busiest_13 : decode cX7_busiest 13 = .ok (.aload_n 0, 1) := by decide +kernel
theorem dX7_busiest_14 : decode cX7_busiest 14 = .ok (.getfield 10, 3) := by decide +kernel
theorem dX7_busiest_17 : decode cX7_busiest 17 = .ok (.iload_n 3, 1) := by decide +kernel
theorem dX7_busiest_18 : decode cX7_busiest 18 = .ok (.invokevirtual 94, 3) := by decide +kernel
theorem dX7_busiest_21 : decode cX7_busiest 21 = .ok (.istore 4, 2) := by decide +kernel
theorem dX7_busiest_23 : decode cX7_busiest 23 = .ok (.iload 4, 2) := by decide +kernel
theorem dX7_busiest_25 : decode cX7_busiest 25 = .ok (.iload_n 2, 1) := by decide +kernel
theorem dX7_busiest_26 : decode cX7_busiest 26 = .ok (.if_icmp .le 8, 3) := by decide +kernel
theorem dX7_busiest_29 : decode cX7_busiest 29 = .ok (.iload_n 3, 1) := by decide +kernel
theorem dX7_busiest_30 : decode cX7_busiest 30 = .ok (.istore_n 1, 1) := by decide +kernel
theorem dX7_busiest_31 : decode cX7_busiest 31 = .ok (.iload 4, 2) := by decide +kernel
theorem dX7_busiest_33 : decode cX7_busiest 33 = .ok (.istore_n 2, 1) := by decide +kernel
theorem dX7_busiest_34 : decode cX7_busiest 34 = .ok (.iinc 3 1, 3) := by decide +kernel
theorem dX7_busiest_37 : decode cX7_busiest 37 = .ok (.goto (-30), 3) := by decide +kernel
theorem dX7_busiest_40 : decode cX7_busiest 40 = .ok (.iload_n 1, 1) := by decide +kernel
theorem dX7_busiest_41 : decode cX7_busiest 41 = .ok (.ireturn, 1) := by decide +kernel
theorem dX7_sleepsIn_0 : decode cX7_sleepsIn 0 = .ok (.aload_n 0, 1) := by decide +kernel
theorem dX7_sleepsIn_1 : decode cX7_sleepsIn 1 = .ok (.getfield 16, 3) := by decide +kernel
theorem dX7_sleepsIn_4 : decode cX7_sleepsIn 4 = .ok (.aload_n 0, 1) := by decide +kernel
theorem dX7_sleepsIn_5 : decode cX7_sleepsIn 5 = .ok (.getfield 10, 3) := by decide +kernel
theorem dX7_sleepsIn_8 : decode cX7_sleepsIn 8 = .ok (.invokevirtual 178, 3) := by decide +kernel
theorem dX7_sleepsIn_11 : decode cX7_sleepsIn 11 = .ok (.aload_n 0, 1) := by decide +kernel
theorem dX7_sleepsIn_12 : decode cX7_sleepsIn 12 = .ok (.getfield 16, 3) := by decide +kernel
theorem dX7_sleepsIn_15 : decode cX7_sleepsIn 15 = .ok (.iload_n 1, 1) := by decide +kernel
theorem dX7_sleepsIn_16 : decode cX7_sleepsIn 16 = .ok (.invokevirtual 103, 3) := by decide +kernel
theorem dX7_sleepsIn_19 : decode cX7_sleepsIn 19 = .ok (.astore_n 2, 1) := by decide +kernel
theorem dX7_sleepsIn_20 : decode cX7_sleepsIn 20 = .ok (.aload_n 2, 1) := by decide +kernel
theorem dX7_sleepsIn_21 : decode cX7_sleepsIn 21 = .ok (.ifnonnull 5, 3) := by decide +kernel
theorem dX7_sleepsIn_24 : decode cX7_sleepsIn 24 = .ok (.iconst (-1), 1) := by decide +kernel
theorem dX7_sleepsIn_25 : decode cX7_sleepsIn 25 = .ok (.ireturn, 1) := by decide +kernel
theorem dX7_sleepsIn_26 : decode cX7_sleepsIn 26 = .ok (.iconst 0, 1) := by decide +kernel
theorem dX7_sleepsIn_27 : decode cX7_sleepsIn 27 = .ok (.istore_n 3, 1) := by decide +kernel
theorem dX7_sleepsIn_28 : decode cX7_sleepsIn 28 = .ok (.iload_n 3, 1) := by decide +kernel
theorem dX7_sleepsIn_29 : decode cX7_sleepsIn 29 = .ok (.sipush 600, 3) := by decide +kernel
theorem dX7_sleepsIn_32 : decode cX7_sleepsIn 32 = .ok (.if_icmp .gt 26, 3) := by decide +kernel
theorem dX7_sleepsIn_35 : decode cX7_sleepsIn 35 = .ok (.aload_n 2, 1) := by decide +kernel
theorem dX7_sleepsIn_36 : decode cX7_sleepsIn 36 = .ok (.getfield 171, 3) := by decide +kernel
theorem dX7_sleepsIn_39 : decode cX7_sleepsIn 39 = .ok (.ifCond .eq 5, 3) := by decide +kernel
theorem dX7_sleepsIn_42 : decode cX7_sleepsIn 42 = .ok (.iload_n 3, 1) := by decide +kernel
theorem dX7_sleepsIn_43 : decode cX7_sleepsIn 43 = .ok (.ireturn, 1) := by decide +kernel
theorem dX7_sleepsIn_44 : decode cX7_sleepsIn 44 = .ok (.aload_n 0, 1) := by decide +kernel
theorem dX7_sleepsIn_45 : decode cX7_sleepsIn 45 = .ok (.getfield 16, 3) := by decide +kernel
theorem dX7_sleepsIn_48 : decode cX7_sleepsIn 48 = .ok (.invokevirtual 181, 3) := by decide +kernel
theorem dX7_sleepsIn_51 : decode cX7_sleepsIn 51 = .ok (.pop, 1) := by decide +kernel
theorem dX7_sleepsIn_52 : decode cX7_sleepsIn 52 = .ok (.iinc 3 1, 3) := by decide +kernel
theorem dX7_sleepsIn_55 : decode cX7_sleepsIn 55 = .ok (.goto (-27), 3) := by decide +kernel
theorem dX7_sleepsIn_58 : decode cX7_sleepsIn 58 = .ok (.bipush (-6), 2) := by decide +kernel
theorem dX7_sleepsIn_60 : decode cX7_sleepsIn 60 = .ok (.ireturn, 1) := by decide +kernel
theorem dX7_put_0 : decode cX7_put 0 = .ok (.aload_n 0, 1) := by decide +kernel
theorem dX7_put_1 : decode cX7_put 1 = .ok (.getfield 33, 3) := by decide +kernel
theorem dX7_put_4 : decode cX7_put 4 = .ok (.lload_n 1, 1) := by decide +kernel
theorem dX7_put_5 : decode cX7_put 5 = .ok (.invokevirtual 202, 3) := by decide +kernel
theorem dX7_put_8 : decode cX7_put 8 = .ok (.ireturn, 1) := by decide +kernel
theorem dX7_wipe_0 : decode cX7_wipe 0 = .ok (.aload_n 0, 1) := by decide +kernel
theorem dX7_wipe_1 : decode cX7_wipe 1 = .ok (.getfield 33, 3) := by decide +kernel
theorem dX7_wipe_4 : decode cX7_wipe 4 = .ok (.invokevirtual 206, 3) := by decide +kernel
theorem dX7_wipe_7 : decode cX7_wipe 7 = .ok (.ireturn, 1) := by decide +kernel
theorem dX7_fault_0 : decode cX7_fault 0 = .ok (.aload_n 0, 1) := by decide +kernel
theorem dX7_fault_1 : decode cX7_fault 1 = .ok (.getfield 42, 3) := by decide +kernel
theorem dX7_fault_4 : decode cX7_fault 4 = .ok (.invokevirtual 209, 3) := by decide +kernel
theorem dX7_fault_7 : decode cX7_fault 7 = .ok (.ireturn, 1) := by decide +kernel
theorem dX7_carryOut_0 : decode cX7_carryOut 0 = .ok (.aload_n 0, 1) := by decide +kernel
theorem dX7_carryOut_1 : decode cX7_carryOut 1 = .ok (.getfield 42, 3) := by decide +kernel
theorem dX7_carryOut_4 : decode cX7_carryOut 4 = .ok (.invokevirtual 209, 3) := by decide +kernel
theorem dX7_carryOut_7 : decode cX7_carryOut 7 = .ok (.bipush (-6), 2) := by decide +kernel
theorem dX7_carryOut_9 : decode cX7_carryOut 9 = .ok (.if_icmp .eq 6, 3) := by decide +kernel
theorem dX7_carryOut_12 : decode cX7_carryOut 12 = .ok (.bipush (-3), 2) := by decide +kernel
theorem dX7_carryOut_14 : decode cX7_carryOut 14 = .ok (.ireturn, 1) := by decide +kernel
theorem dX7_carryOut_15 : decode cX7_carryOut 15 = .ok (.aload_n 0, 1) := by decide +kernel
theorem dX7_carryOut_16 : decode cX7_carryOut 16 = .ok (.getfield 22, 3) := by decide +kernel
theorem dX7_carryOut_19 : decode cX7_carryOut 19 = .ok (.aload_n 0, 1) := by decide +kernel
theorem dX7_carryOut_20 : decode cX7_carryOut 20 = .ok (.getfield 10, 3) := by decide +kernel
theorem dX7_carryOut_23 : decode cX7_carryOut 23 = .ok (.invokevirtual 46, 3) := by decide +kernel
theorem dX7_carryOut_26 : decode cX7_carryOut 26 = .ok (.iconst 0, 1) := by decide +kernel
theorem dX7_carryOut_27 : decode cX7_carryOut 27 = .ok (.istore_n 1, 1) := by decide +kernel
theorem dX7_carryOut_28 : decode cX7_carryOut 28 = .ok (.aload_n 0, 1) := by decide +kernel
theorem dX7_carryOut_29 : decode cX7_carryOut 29 = .ok (.getfield 42, 3) := by decide +kernel
theorem dX7_carryOut_32 : decode cX7_carryOut 32 = .ok (.iconst 0, 1) := by decide +kernel
theorem dX7_carryOut_33 : decode cX7_carryOut 33 = .ok (.putfield 212, 3) := by decide +kernel
theorem dX7_carryOut_36 : decode cX7_carryOut 36 = .ok (.aload_n 0, 1) := by decide +kernel
theorem dX7_carryOut_37 : decode cX7_carryOut 37 = .ok (.getfield 42, 3) := by decide +kernel
theorem dX7_carryOut_40 : decode cX7_carryOut 40 = .ok (.getfield 212, 3) := by decide +kernel
theorem dX7_carryOut_43 : decode cX7_carryOut 43 = .ok (.aload_n 0, 1) := by decide +kernel
theorem dX7_carryOut_44 : decode cX7_carryOut 44 = .ok (.getfield 33, 3) := by decide +kernel
theorem dX7_carryOut_47 : decode cX7_carryOut 47 = .ok (.getfield 159, 3) := by decide +kernel
theorem dX7_carryOut_50 : decode cX7_carryOut 50 = .ok (.if_icmp .ge 42, 3) := by decide +kernel
theorem dX7_carryOut_53 : decode cX7_carryOut 53 = .ok (.aload_n 0, 1) := by decide +kernel
theorem dX7_carryOut_54 : decode cX7_carryOut 54 = .ok (.getfield 42, 3) := by decide +kernel
theorem dX7_carryOut_57 : decode cX7_carryOut 57 = .ok (.invokevirtual 215, 3) := by decide +kernel
theorem dX7_carryOut_60 : decode cX7_carryOut 60 = .ok (.ifCond .eq 32, 3) := by decide +kernel
theorem dX7_carryOut_63 : decode cX7_carryOut 63 = .ok (.aload_n 0, 1) := by decide +kernel
theorem dX7_carryOut_64 : decode cX7_carryOut 64 = .ok (.invokevirtual 218, 3) := by decide +kernel
theorem dX7_carryOut_67 : decode cX7_carryOut 67 = .ok (.ifCond .ge 6, 3) := by decide +kernel
theorem dX7_carryOut_70 : decode cX7_carryOut 70 = .ok (.goto 22, 3) := by decide +kernel
theorem dX7_carryOut_73 : decode cX7_carryOut 73 = .ok (.iinc 1 1, 3) := by decide +kernel
theorem dX7_carryOut_76 : decode cX7_carryOut 76 = .ok (.aload_n 0, 1) := by decide +kernel
theorem dX7_carryOut_77 : decode cX7_carryOut 77 = .ok (.getfield 42, 3) := by decide +kernel
theorem dX7_carryOut_80 : decode cX7_carryOut 80 = .ok (.dup, 1) := by decide +kernel
theorem dX7_carryOut_81 : decode cX7_carryOut 81 = .ok (.getfield 212, 3) := by decide +kernel
theorem dX7_carryOut_84 : decode cX7_carryOut 84 = .ok (.iconst 1, 1) := by decide +kernel
theorem dX7_carryOut_85 : decode cX7_carryOut 85 = .ok (.iadd, 1) := by decide +kernel
theorem dX7_carryOut_86 : decode cX7_carryOut 86 = .ok (.putfield 212, 3) := by decide +kernel
theorem dX7_carryOut_89 : decode cX7_carryOut 89 = .ok (.goto (-53), 3) := by decide +kernel
theorem dX7_carryOut_92 : decode cX7_carryOut 92 = .ok (.aload_n 0, 1) := by decide +kernel
theorem dX7_carryOut_93 : decode cX7_carryOut 93 = .ok (.getfield 33, 3) := by decide +kernel
theorem dX7_carryOut_96 : decode cX7_carryOut 96 = .ok (.invokevirtual 206, 3) := by decide +kernel
theorem dX7_carryOut_99 : decode cX7_carryOut 99 = .ok (.pop, 1) := by decide +kernel
theorem dX7_carryOut_100 : decode cX7_carryOut 100 = .ok (.aload_n 0, 1) := by decide +kernel
theorem dX7_carryOut_101 : decode cX7_carryOut 101 = .ok (.getfield 22, 3) := by decide +kernel
theorem dX7_carryOut_104 : decode cX7_carryOut 104 = .ok (.iload_n 1, 1) := by decide +kernel
theorem dX7_carryOut_105 : decode cX7_carryOut 105 = .ok (.invokevirtual 54, 3) := by decide +kernel
theorem dX7_carryOut_108 : decode cX7_carryOut 108 = .ok (.ireturn, 1) := by decide +kernel
theorem dX7_carryOrder_0 : decode cX7_carryOrder 0 = .ok (.aload_n 0, 1) := by decide +kernel
theorem dX7_carryOrder_1 : decode cX7_carryOrder 1 = .ok (.getfield 42, 3) := by decide +kernel
theorem dX7_carryOrder_4 : decode cX7_carryOrder 4 = .ok (.getfield 221, 3) := by decide +kernel
theorem dX7_carryOrder_7 : decode cX7_carryOrder 7 = .ok (.lookupswitch 138 #[(33, 93), (98, 123), (115, 49), (119, 64), (122, 108)], 49) := by decide +kernel
theorem dX7_carryOrder_56 : decode cX7_carryOrder 56 = .ok (.aload_n 0, 1) := by decide +kernel
theorem dX7_carryOrder_57 : decode cX7_carryOrder 57 = .ok (.getfield 10, 3) := by decide +kernel
theorem dX7_carryOrder_60 : decode cX7_carryOrder 60 = .ok (.aload_n 0, 1) := by decide +kernel
theorem dX7_carryOrder_61 : decode cX7_carryOrder 61 = .ok (.getfield 42, 3) := by decide +kernel
theorem dX7_carryOrder_64 : decode cX7_carryOrder 64 = .ok (.getfield 224, 3) := by decide +kernel
theorem dX7_carryOrder_67 : decode cX7_carryOrder 67 = .ok (.invokevirtual 58, 3) := by decide +kernel
theorem dX7_carryOrder_70 : decode cX7_carryOrder 70 = .ok (.ireturn, 1) := by decide +kernel
theorem dX7_carryOrder_71 : decode cX7_carryOrder 71 = .ok (.aload_n 0, 1) := by decide +kernel
theorem dX7_carryOrder_72 : decode cX7_carryOrder 72 = .ok (.getfield 10, 3) := by decide +kernel
theorem dX7_carryOrder_75 : decode cX7_carryOrder 75 = .ok (.aload_n 0, 1) := by decide +kernel
theorem dX7_carryOrder_76 : decode cX7_carryOrder 76 = .ok (.getfield 42, 3) := by decide +kernel
theorem dX7_carryOrder_79 : decode cX7_carryOrder 79 = .ok (.getfield 227, 3) := by decide +kernel
theorem dX7_carryOrder_82 : decode cX7_carryOrder 82 = .ok (.aload_n 0, 1) := by decide +kernel
theorem dX7_carryOrder_83 : decode cX7_carryOrder 83 = .ok (.getfield 42, 3) := by decide +kernel
theorem dX7_carryOrder_86 : decode cX7_carryOrder 86 = .ok (.getfield 230, 3) := by decide +kernel
theorem dX7_carryOrder_89 : decode cX7_carryOrder 89 = .ok (.aload_n 0, 1) := by decide +kernel
theorem dX7_carryOrder_90 : decode cX7_carryOrder 90 = .ok (.getfield 42, 3) := by decide +kernel
theorem dX7_carryOrder_93 : decode cX7_carryOrder 93 = .ok (.getfield 233, 3) := by decide +kernel
theorem dX7_carryOrder_96 : decode cX7_carryOrder 96 = .ok (.invokevirtual 61, 3) := by decide +kernel
theorem dX7_carryOrder_99 : decode cX7_carryOrder 99 = .ok (.ireturn, 1) := by decide +kernel
theorem dX7_carryOrder_100 : decode cX7_carryOrder 100 = .ok (.aload_n 0, 1) := by decide +kernel
theorem dX7_carryOrder_101 : decode cX7_carryOrder 101 = .ok (.getfield 10, 3) := by decide +kernel
theorem dX7_carryOrder_104 : decode cX7_carryOrder 104 = .ok (.aload_n 0, 1) := by decide +kernel
theorem dX7_carryOrder_105 : decode cX7_carryOrder 105 = .ok (.getfield 42, 3) := by decide +kernel
theorem dX7_carryOrder_108 : decode cX7_carryOrder 108 = .ok (.getfield 230, 3) := by decide +kernel
theorem dX7_carryOrder_111 : decode cX7_carryOrder 111 = .ok (.invokevirtual 68, 3) := by decide +kernel
theorem dX7_carryOrder_114 : decode cX7_carryOrder 114 = .ok (.ireturn, 1) := by decide +kernel
theorem dX7_carryOrder_115 : decode cX7_carryOrder 115 = .ok (.aload_n 0, 1) := by decide +kernel
theorem dX7_carryOrder_116 : decode cX7_carryOrder 116 = .ok (.getfield 10, 3) := by decide +kernel
theorem dX7_carryOrder_119 : decode cX7_carryOrder 119 = .ok (.aload_n 0, 1) := by decide +kernel
theorem dX7_carryOrder_120 : decode cX7_carryOrder 120 = .ok (.getfield 42, 3) := by decide +kernel
theorem dX7_carryOrder_123 : decode cX7_carryOrder 123 = .ok (.getfield 227, 3) := by decide +kernel
theorem dX7_carryOrder_126 : decode cX7_carryOrder 126 = .ok (.invokevirtual 71, 3) := by decide +kernel
theorem dX7_carryOrder_129 : decode cX7_carryOrder 129 = .ok (.ireturn, 1) := by decide +kernel
theorem dX7_carryOrder_130 : decode cX7_carryOrder 130 = .ok (.aload_n 0, 1) := by decide +kernel
theorem dX7_carryOrder_131 : decode cX7_carryOrder 131 = .ok (.getfield 10, 3) := by decide +kernel
theorem dX7_carryOrder_134 : decode cX7_carryOrder 134 = .ok (.aload_n 0, 1) := by decide +kernel
theorem dX7_carryOrder_135 : decode cX7_carryOrder 135 = .ok (.getfield 42, 3) := by decide +kernel
theorem dX7_carryOrder_138 : decode cX7_carryOrder 138 = .ok (.getfield 233, 3) := by decide +kernel
theorem dX7_carryOrder_141 : decode cX7_carryOrder 141 = .ok (.invokevirtual 74, 3) := by decide +kernel
theorem dX7_carryOrder_144 : decode cX7_carryOrder 144 = .ok (.ireturn, 1) := by decide +kernel
theorem dX7_carryOrder_145 : decode cX7_carryOrder 145 = .ok (.bipush (-3), 2) := by decide +kernel
theorem dX7_carryOrder_147 : decode cX7_carryOrder 147 = .ok (.ireturn, 1) := by decide +kernel
theorem dX7_undo_0 : decode cX7_undo 0 = .ok (.aload_n 0, 1) := by decide +kernel
theorem dX7_undo_1 : decode cX7_undo 1 = .ok (.getfield 22, 3) := by decide +kernel
theorem dX7_undo_4 : decode cX7_undo 4 = .ok (.aload_n 0, 1) := by decide +kernel
theorem dX7_undo_5 : decode cX7_undo 5 = .ok (.getfield 10, 3) := by decide +kernel
theorem dX7_undo_8 : decode cX7_undo 8 = .ok (.invokevirtual 236, 3) := by decide +kernel
theorem dX7_undo_11 : decode cX7_undo 11 = .ok (.ireturn, 1) := by decide +kernel
theorem dX7_save_0 : decode cX7_save 0 = .ok (.iload_n 1, 1) := by decide +kernel
theorem dX7_save_1 : decode cX7_save 1 = .ok (.invokestatic 240, 3) := by decide +kernel
theorem dX7_save_4 : decode cX7_save 4 = .ok (.ifCond .ne 6, 3) := by decide +kernel
theorem dX7_save_7 : decode cX7_save 7 = .ok (.bipush (-2), 2) := by decide +kernel
theorem dX7_save_9 : decode cX7_save 9 = .ok (.ireturn, 1) := by decide +kernel
theorem dX7_save_10 : decode cX7_save 10 = .ok (.aload_n 0, 1) := by decide +kernel
theorem dX7_save_11 : decode cX7_save 11 = .ok (.getfield 26, 3) := by decide +kernel
theorem dX7_save_14 : decode cX7_save 14 = .ok (.iload_n 1, 1) := by decide +kernel
theorem dX7_save_15 : decode cX7_save 15 = .ok (.aaload, 1) := by decide +kernel
theorem dX7_save_16 : decode cX7_save 16 = .ok (.ifnonnull 16, 3) := by decide +kernel
theorem dX7_save_19 : decode cX7_save 19 = .ok (.aload_n 0, 1) := by decide +kernel
theorem dX7_save_20 : decode cX7_save 20 = .ok (.getfield 26, 3) := by decide +kernel
theorem dX7_save_23 : decode cX7_save 23 = .ok (.iload_n 1, 1) := by decide +kernel
theorem dX7_save_24 : decode cX7_save 24 = .ok (.new 7, 3) := by decide +kernel
theorem dX7_save_27 : decode cX7_save 27 = .ok (.dup, 1) := by decide +kernel
theorem dX7_save_28 : decode cX7_save 28 = .ok (.invokespecial 9, 3) := by decide +kernel
theorem dX7_save_31 : decode cX7_save 31 = .ok (.aastore, 1) := by decide +kernel
theorem dX7_save_32 : decode cX7_save 32 = .ok (.aload_n 0, 1) := by decide +kernel
theorem dX7_save_33 : decode cX7_save 33 = .ok (.getfield 26, 3) := by decide +kernel
theorem dX7_save_36 : decode cX7_save 36 = .ok (.iload_n 1, 1) := by decide +kernel
theorem dX7_save_37 : decode cX7_save 37 = .ok (.aaload, 1) := by decide +kernel
theorem dX7_save_38 : decode cX7_save 38 = .ok (.aload_n 0, 1) := by decide +kernel
theorem dX7_save_39 : decode cX7_save 39 = .ok (.getfield 10, 3) := by decide +kernel
theorem dX7_save_42 : decode cX7_save 42 = .ok (.invokevirtual 178, 3) := by decide +kernel
theorem dX7_save_45 : decode cX7_save 45 = .ok (.aload_n 0, 1) := by decide +kernel
theorem dX7_save_46 : decode cX7_save 46 = .ok (.getfield 10, 3) := by decide +kernel
theorem dX7_save_49 : decode cX7_save 49 = .ok (.getfield 143, 3) := by decide +kernel
theorem dX7_save_52 : decode cX7_save 52 = .ok (.ireturn, 1) := by decide +kernel
theorem dX7_restore_0 : decode cX7_restore 0 = .ok (.iload_n 1, 1) := by decide +kernel
theorem dX7_restore_1 : decode cX7_restore 1 = .ok (.invokestatic 240, 3) := by decide +kernel
theorem dX7_restore_4 : decode cX7_restore 4 = .ok (.ifCond .ne 6, 3) := by decide +kernel
theorem dX7_restore_7 : decode cX7_restore 7 = .ok (.bipush (-2), 2) := by decide +kernel
theorem dX7_restore_9 : decode cX7_restore 9 = .ok (.ireturn, 1) := by decide +kernel
theorem dX7_restore_10 : decode cX7_restore 10 = .ok (.aload_n 0, 1) := by decide +kernel
theorem dX7_restore_11 : decode cX7_restore 11 = .ok (.getfield 26, 3) := by decide +kernel
theorem dX7_restore_14 : decode cX7_restore 14 = .ok (.iload_n 1, 1) := by decide +kernel
theorem dX7_restore_15 : decode cX7_restore 15 = .ok (.aaload, 1) := by decide +kernel
theorem dX7_restore_16 : decode cX7_restore 16 = .ok (.astore_n 2, 1) := by decide +kernel
theorem dX7_restore_17 : decode cX7_restore 17 = .ok (.aload_n 2, 1) := by decide +kernel
theorem dX7_restore_18 : decode cX7_restore 18 = .ok (.ifnonnull 6, 3) := by decide +kernel
theorem dX7_restore_21 : decode cX7_restore 21 = .ok (.bipush (-5), 2) := by decide +kernel
theorem dX7_restore_23 : decode cX7_restore 23 = .ok (.ireturn, 1) := by decide +kernel
theorem dX7_restore_24 : decode cX7_restore 24 = .ok (.aload_n 0, 1) := by decide +kernel
theorem dX7_restore_25 : decode cX7_restore 25 = .ok (.getfield 22, 3) := by decide +kernel
theorem dX7_restore_28 : decode cX7_restore 28 = .ok (.aload_n 0, 1) := by decide +kernel
theorem dX7_restore_29 : decode cX7_restore 29 = .ok (.getfield 10, 3) := by decide +kernel
theorem dX7_restore_32 : decode cX7_restore 32 = .ok (.invokevirtual 46, 3) := by decide +kernel
theorem dX7_restore_35 : decode cX7_restore 35 = .ok (.aload_n 0, 1) := by decide +kernel
theorem dX7_restore_36 : decode cX7_restore 36 = .ok (.getfield 10, 3) := by decide +kernel
theorem dX7_restore_39 : decode cX7_restore 39 = .ok (.aload_n 2, 1) := by decide +kernel
theorem dX7_restore_40 : decode cX7_restore 40 = .ok (.invokevirtual 178, 3) := by decide +kernel
theorem dX7_restore_43 : decode cX7_restore 43 = .ok (.aload_n 0, 1) := by decide +kernel
theorem dX7_restore_44 : decode cX7_restore 44 = .ok (.getfield 22, 3) := by decide +kernel
theorem dX7_restore_47 : decode cX7_restore 47 = .ok (.aload_n 0, 1) := by decide +kernel
theorem dX7_restore_48 : decode cX7_restore 48 = .ok (.getfield 10, 3) := by decide +kernel
theorem dX7_restore_51 : decode cX7_restore 51 = .ok (.getfield 143, 3) := by decide +kernel
theorem dX7_restore_54 : decode cX7_restore 54 = .ok (.invokevirtual 54, 3) := by decide +kernel
theorem dX7_restore_57 : decode cX7_restore 57 = .ok (.ireturn, 1) := by decide +kernel
theorem dX7_isSlot_0 : decode cX7_isSlot 0 = .ok (.iload_n 0, 1) := by decide +kernel
theorem dX7_isSlot_1 : decode cX7_isSlot 1 = .ok (.ifCond .lt 12, 3) := by decide +kernel
theorem dX7_isSlot_4 : decode cX7_isSlot 4 = .ok (.iload_n 0, 1) := by decide +kernel
theorem dX7_isSlot_5 : decode cX7_isSlot 5 = .ok (.iconst 2, 1) := by decide +kernel
theorem dX7_isSlot_6 : decode cX7_isSlot 6 = .ok (.if_icmp .ge 7, 3) := by decide +kernel
theorem dX7_isSlot_9 : decode cX7_isSlot 9 = .ok (.iconst 1, 1) := by decide +kernel
theorem dX7_isSlot_10 : decode cX7_isSlot 10 = .ok (.goto 4, 3) := by decide +kernel
theorem dX7_isSlot_13 : decode cX7_isSlot 13 = .ok (.iconst 0, 1) := by decide +kernel
theorem dX7_isSlot_14 : decode cX7_isSlot 14 = .ok (.ireturn, 1) := by decide +kernel
theorem dX7_isWire_0 : decode cX7_isWire 0 = .ok (.iload_n 0, 1) := by decide +kernel
theorem dX7_isWire_1 : decode cX7_isWire 1 = .ok (.ifCond .lt 13, 3) := by decide +kernel
theorem dX7_isWire_4 : decode cX7_isWire 4 = .ok (.iload_n 0, 1) := by decide +kernel
theorem dX7_isWire_5 : decode cX7_isWire 5 = .ok (.bipush 6, 2) := by decide +kernel
theorem dX7_isWire_7 : decode cX7_isWire 7 = .ok (.if_icmp .ge 7, 3) := by decide +kernel
theorem dX7_isWire_10 : decode cX7_isWire 10 = .ok (.iconst 1, 1) := by decide +kernel
theorem dX7_isWire_11 : decode cX7_isWire 11 = .ok (.goto 4, 3) := by decide +kernel
theorem dX7_isWire_14 : decode cX7_isWire 14 = .ok (.iconst 0, 1) := by decide +kernel
theorem dX7_isWire_15 : decode cX7_isWire 15 = .ok (.ireturn, 1) := by decide +kernel
theorem dX7_copyNumbers_0 : decode cX7_copyNumbers 0 = .ok (.aload_n 0, 1) := by decide +kernel
theorem dX7_copyNumbers_1 : decode cX7_copyNumbers 1 = .ok (.iconst 0, 1) := by decide +kernel
theorem dX7_copyNumbers_2 : decode cX7_copyNumbers 2 = .ok (.aload_n 1, 1) := by decide +kernel
theorem dX7_copyNumbers_3 : decode cX7_copyNumbers 3 = .ok (.iconst 0, 1) := by decide +kernel
theorem dX7_copyNumbers_4 : decode cX7_copyNumbers 4 = .ok (.aload_n 0, 1) := by decide +kernel
theorem dX7_copyNumbers_5 : decode cX7_copyNumbers 5 = .ok (.arraylength, 1) := by decide +kernel
theorem dX7_copyNumbers_6 : decode cX7_copyNumbers 6 = .ok (.aload_n 1, 1) := by decide +kernel
theorem dX7_copyNumbers_7 : decode cX7_copyNumbers 7 = .ok (.arraylength, 1) := by decide +kernel
theorem dX7_copyNumbers_8 : decode cX7_copyNumbers 8 = .ok (.invokestatic 243, 3) := by decide +kernel
theorem dX7_copyNumbers_11 : decode cX7_copyNumbers 11 = .ok (.invokestatic 248, 3) := by decide +kernel
theorem dX7_copyNumbers_14 : decode cX7_copyNumbers 14 = .ok (.return_, 1) := by decide +kernel
theorem dX8_init_0 : decode cX8_init 0 = .ok (.aload_n 0, 1) := by decide +kernel
theorem dX8_init_1 : decode cX8_init 1 = .ok (.invokespecial 1, 3) := by decide +kernel
theorem dX8_init_4 : decode cX8_init 4 = .ok (.aload_n 0, 1) := by decide +kernel
theorem dX8_init_5 : decode cX8_init 5 = .ok (.sipush 351, 3) := by decide +kernel
theorem dX8_init_8 : decode cX8_init 8 = .ok (.newarray .int, 2) := by decide +kernel
theorem dX8_init_10 : decode cX8_init 10 = .ok (.putfield 7, 3) := by decide +kernel
theorem dX8_init_13 : decode cX8_init 13 = .ok (.aload_n 0, 1) := by decide +kernel
theorem dX8_init_14 : decode cX8_init 14 = .ok (.sipush 2106, 3) := by decide +kernel
theorem dX8_init_17 : decode cX8_init 17 = .ok (.newarray .int, 2) := by decide +kernel
theorem dX8_init_19 : decode cX8_init 19 = .ok (.putfield 13, 3) := by decide +kernel
theorem dX8_init_22 : decode cX8_init 22 = .ok (.aload_n 0, 1) := by decide +kernel
theorem dX8_init_23 : decode cX8_init 23 = .ok (.sipush 702, 3) := by decide +kernel
theorem dX8_init_26 : decode cX8_init 26 = .ok (.newarray .int, 2) := by decide +kernel
theorem dX8_init_28 : decode cX8_init 28 = .ok (.putfield 16, 3) := by decide +kernel
theorem dX8_init_31 : decode cX8_init 31 = .ok (.aload_n 0, 1) := by decide +kernel
theorem dX8_init_32 : decode cX8_init 32 = .ok (.iconst 2, 1) := by decide +kernel
theorem dX8_init_33 : decode cX8_init 33 = .ok (.newarray .boolean, 2) := by decide +kernel
theorem dX8_init_35 : decode cX8_init 35 = .ok (.putfield 19, 3) := by decide +kernel
theorem dX8_init_38 : decode cX8_init 38 = .ok (.aload_n 0, 1) := by decide +kernel
theorem dX8_init_39 : decode cX8_init 39 = .ok (.sipush 351, 3) := by decide +kernel
theorem dX8_init_42 : decode cX8_init 42 = .ok (.newarray .int, 2) := by decide +kernel
theorem dX8_init_44 : decode cX8_init 44 = .ok (.putfield 23, 3) := by decide +kernel
theorem dX8_init_47 : decode cX8_init 47 = .ok (.aload_n 0, 1) := by decide +kernel
theorem dX8_init_48 : decode cX8_init 48 = .ok (.bipush 80, 2) := by decide +kernel
theorem dX8_init_50 : decode cX8_init 50 = .ok (.newarray .char, 2) := by decide +kernel
theorem dX8_init_52 : decode cX8_init 52 = .ok (.putfield 26, 3) := by decide +kernel
theorem dX8_init_55 : decode cX8_init 55 = .ok (.aload_n 0, 1) := by decide +kernel
theorem dX8_init_56 : decode cX8_init 56 = .ok (.bipush 6, 2) := by decide +kernel
theorem dX8_init_58 : decode cX8_init 58 = .ok (.newarray .boolean, 2) := by decide +kernel
theorem dX8_init_60 : decode cX8_init 60 = .ok (.putfield 30, 3) := by decide +kernel
theorem dX8_init_63 : decode cX8_init 63 = .ok (.aload_n 0, 1) := by decide +kernel
theorem dX8_init_64 : decode cX8_init 64 = .ok (.sipush 168, 3) := by decide +kernel
theorem dX8_init_67 : decode cX8_init 67 = .ok (.newarray .int, 2) := by decide +kernel
theorem dX8_init_69 : decode cX8_init 69 = .ok (.putfield 33, 3) := by decide +kernel
theorem dX8_init_72 : decode cX8_init 72 = .ok (.aload_n 0, 1) := by decide +kernel
theorem dX8_init_73 : decode cX8_init 73 = .ok (.getfield 7, 3) := by decide +kernel
theorem dX8_init_76 : decode cX8_init 76 = .ok (.iconst 0, 1) := by decide +kernel
theorem dX8_init_77 : decode cX8_init 77 = .ok (.iconst 3, 1) := by decide +kernel
theorem dX8_init_78 : decode cX8_init 78 = .ok (.iastore, 1) := by decide +kernel
theorem dX8_init_79 : decode cX8_init 79 = .ok (.aload_n 0, 1) := by decide +kernel
theorem dX8_init_80 : decode cX8_init 80 = .ok (.getfield 7, 3) := by decide +kernel
theorem dX8_init_83 : decode cX8_init 83 = .ok (.iconst 1, 1) := by decide +kernel
theorem dX8_init_84 : decode cX8_init 84 = .ok (.bipush 40, 2) := by decide +kernel
theorem dX8_init_86 : decode cX8_init 86 = .ok (.iastore, 1) := by decide +kernel
theorem dX8_init_87 : decode cX8_init 87 = .ok (.aload_n 0, 1) := by decide +kernel
theorem dX8_init_88 : decode cX8_init 88 = .ok (.getfield 7, 3) := by decide +kernel
theorem dX8_init_91 : decode cX8_init 91 = .ok (.iconst 2, 1) := by decide +kernel
theorem dX8_init_92 : decode cX8_init 92 = .ok (.iconst 1, 1) := by decide +kernel
theorem dX8_init_93 : decode cX8_init 93 = .ok (.iastore, 1) := by decide +kernel
theorem dX8_init_94 : decode cX8_init 94 = .ok (.aload_n 0, 1) := by decide +kernel
theorem dX8_init_95 : decode cX8_init 95 = .ok (.getfield 7, 3) := by decide +kernel
theorem dX8_init_98 : decode cX8_init 98 = .ok (.iconst 3, 1) := by decide +kernel
theorem dX8_init_99 : decode cX8_init 99 = .ok (.iconst 1, 1) := by decide +kernel
theorem dX8_init_100 : decode cX8_init 100 = .ok (.iastore, 1) := by decide +kernel
theorem dX8_init_101 : decode cX8_init 101 = .ok (.aload_n 0, 1) := by decide +kernel
theorem dX8_init_102 : decode cX8_init 102 = .ok (.getfield 7, 3) := by decide +kernel
theorem dX8_init_105 : decode cX8_init 105 = .ok (.iconst 4, 1) := by decide +kernel
theorem dX8_init_106 : decode cX8_init 106 = .ok (.iconst 4, 1) := by decide +kernel
theorem dX8_init_107 : decode cX8_init 107 = .ok (.iastore, 1) := by decide +kernel
theorem dX8_init_108 : decode cX8_init 108 = .ok (.return_, 1) := by decide +kernel
theorem dX8_in_0 : decode cX8_in 0 = .ok (.iload_n 0, 1) := by decide +kernel
theorem dX8_in_1 : decode cX8_in 1 = .ok (.iload_n 1, 1) := by decide +kernel
theorem dX8_in_2 : decode cX8_in 2 = .ok (.if_icmp .lt 12, 3) := by decide +kernel
theorem dX8_in_5 : decode cX8_in 5 = .ok (.iload_n 0, 1) := by decide +kernel
theorem dX8_in_6 : decode cX8_in 6 = .ok (.iload_n 2, 1) := by decide +kernel
theorem dX8_in_7 : decode cX8_in 7 = .ok (.if_icmp .gt 7, 3) := by decide +kernel
theorem dX8_in_10 : decode cX8_in 10 = .ok (.iconst 1, 1) := by decide +kernel
theorem dX8_in_11 : decode cX8_in 11 = .ok (.goto 4, 3) := by decide +kernel
theorem dX8_in_14 : decode cX8_in 14 = .ok (.iconst 0, 1) := by decide +kernel
theorem dX8_in_15 : decode cX8_in 15 = .ok (.ireturn, 1) := by decide +kernel
theorem dX8_isStation_0 : decode cX8_isStation 0 = .ok (.iload_n 1, 1) := by decide +kernel
theorem dX8_isStation_1 : decode cX8_isStation 1 = .ok (.ifCond .lt 18, 3) := by decide +kernel
theorem dX8_isStation_4 : decode cX8_isStation 4 = .ok (.iload_n 1, 1) := by decide +kernel
theorem dX8_isStation_5 : decode cX8_isStation 5 = .ok (.aload_n 0, 1) := by decide +kernel
theorem dX8_isStation_6 : decode cX8_isStation 6 = .ok (.getfield 7, 3) := by decide +kernel
theorem dX8_isStation_9 : decode cX8_isStation 9 = .ok (.bipush 6, 2) := by decide +kernel
theorem dX8_isStation_11 : decode cX8_isStation 11 = .ok (.iaload, 1) := by decide +kernel
theorem dX8_isStation_12 : decode cX8_isStation 12 = .ok (.if_icmp .ge 7, 3) := by decide +kernel
theorem dX8_isStation_15 : decode cX8_isStation 15 = .ok (.iconst 1, 1) := by decide +kernel
theorem dX8_isStation_16 : decode cX8_isStation 16 = .ok (.goto 4, 3) := by decide +kernel
theorem dX8_isStation_19 : decode cX8_isStation 19 = .ok (.iconst 0, 1) := by decide +kernel
theorem dX8_isStation_20 : decode cX8_isStation 20 = .ok (.ireturn, 1) := by decide +kernel
theorem dX8_isWire_0 : decode cX8_isWire 0 = .ok (.iload_n 0, 1) := by decide +kernel
theorem dX8_isWire_1 : decode cX8_isWire 1 = .ok (.iconst 0, 1) := by decide +kernel
theorem dX8_isWire_2 : decode cX8_isWire 2 = .ok (.iconst 5, 1) := by decide +kernel
theorem dX8_isWire_3 : decode cX8_isWire 3 = .ok (.invokestatic 36, 3) := by decide +kernel
theorem dX8_isWire_6 : decode cX8_isWire 6 = .ok (.ireturn, 1) := by decide +kernel
theorem dX8_at_0 : decode cX8_at 0 = .ok (.aload_n 0, 1) := by decide +kernel
theorem dX8_at_1 : decode cX8_at 1 = .ok (.getfield 7, 3) := by decide +kernel
theorem dX8_at_4 : decode cX8_at 4 = .ok (.bipush 31, 2) := by decide +kernel
theorem dX8_at_6 : decode cX8_at 6 = .ok (.bipush 40, 2) := by decide +kernel
theorem dX8_at_8 : decode cX8_at 8 = .ok (.iload_n 1, 1) := by decide +kernel
theorem dX8_at_9 : decode cX8_at 9 = .ok (.imul, 1) := by decide +kernel
theorem dX8_at_10 : decode cX8_at 10 = .ok (.iadd, 1) := by decide +kernel
theorem dX8_at_11 : decode cX8_at 11 = .ok (.iload_n 2, 1) := by decide +kernel
theorem dX8_at_12 : decode cX8_at 12 = .ok (.iadd, 1) := by decide +kernel
theorem dX8_at_13 : decode cX8_at 13 = .ok (.iaload, 1) := by decide +kernel
theorem dX8_at_14 : decode cX8_at 14 = .ok (.ireturn, 1) := by decide +kernel
theorem dX8_lay_0 : decode cX8_lay 0 = .ok (.aload_n 0, 1) := by decide +kernel
theorem dX8_lay_1 : decode cX8_lay 1 = .ok (.getfield 7, 3) := by decide +kernel
theorem dX8_lay_4 : decode cX8_lay 4 = .ok (.bipush 31, 2) := by decide +kernel
theorem dX8_lay_6 : decode cX8_lay 6 = .ok (.bipush 40, 2) := by decide +kernel
theorem dX8_lay_8 : decode cX8_lay 8 = .ok (.iload_n 1, 1) := by decide +kernel
theorem dX8_lay_9 : decode cX8_lay 9 = .ok (.imul, 1) := by decide +kernel
theorem dX8_lay_10 : decode cX8_lay 10 = .ok (.iadd, 1) := by decide +kernel
theorem dX8_lay_11 : decode cX8_lay 11 = .ok (.iload_n 2, 1) := by decide +kernel
theorem dX8_lay_12 : decode cX8_lay 12 = .ok (.iadd, 1) := by decide +kernel
theorem dX8_lay_13 : decode cX8_lay 13 = .ok (.iload_n 3, 1) := by decide +kernel
theorem dX8_lay_14 : decode cX8_lay 14 = .ok (.iastore, 1) := by decide +kernel
theorem dX8_lay_15 : decode cX8_lay 15 = .ok (.return_, 1) := by decide +kernel
theorem dX8_add_0 : decode cX8_add 0 = .ok (.aload_n 0, 1) := by decide +kernel
theorem dX8_add_1 : decode cX8_add 1 = .ok (.getfield 7, 3) := by decide +kernel
theorem dX8_add_4 : decode cX8_add 4 = .ok (.bipush 31, 2) := by decide +kernel
theorem dX8_add_6 : decode cX8_add 6 = .ok (.bipush 40, 2) := by decide +kernel
theorem dX8_add_8 : decode cX8_add 8 = .ok (.iload_n 1, 1) := by decide +kernel
theorem dX8_add_9 : decode cX8_add 9 = .ok (.imul, 1) := by decide +kernel
theorem dX8_add_10 : decode cX8_add 10 = .ok (.iadd, 1) := by decide +kernel
theorem dX8_add_11 : decode cX8_add 11 = .ok (.iload_n 2, 1) := by decide +kernel
theorem dX8_add_12 : decode cX8_add 12 = .ok (.iadd, 1) := by decide +kernel
theorem dX8_add_13 : decode cX8_add 13 = .ok (.dup2, 1) := by decide +kernel
theorem dX8_add_14 : decode cX8_add 14 = .ok (.iaload, 1) := by decide +kernel
theorem dX8_add_15 : decode cX8_add 15 = .ok (.iload_n 3, 1) := by decide +kernel
theorem dX8_add_16 : decode cX8_add 16 = .ok (.iadd, 1) := by decide +kernel
theorem dX8_add_17 : decode cX8_add 17 = .ok (.iastore, 1) := by decide +kernel
theorem dX8_add_18 : decode cX8_add 18 = .ok (.return_, 1) := by decide +kernel
theorem dX8_wire_0 : decode cX8_wire 0 = .ok (.aload_n 0, 1) := by decide +kernel
theorem dX8_wire_1 : decode cX8_wire 1 = .ok (.getfield 7, 3) := by decide +kernel
theorem dX8_wire_4 : decode cX8_wire 4 = .ok (.bipush 7, 2) := by decide +kernel
theorem dX8_wire_6 : decode cX8_wire 6 = .ok (.iconst 4, 1) := by decide +kernel
theorem dX8_wire_7 : decode cX8_wire 7 = .ok (.iload_n 1, 1) := by decide +kernel
theorem dX8_wire_8 : decode cX8_wire 8 = .ok (.imul, 1) := by decide +kernel
theorem dX8_wire_9 : decode cX8_wire 9 = .ok (.iadd, 1) := by decide +kernel
theorem dX8_wire_10 : decode cX8_wire 10 = .ok (.iload_n 2, 1) := by decide +kernel
theorem dX8_wire_11 : decode cX8_wire 11 = .ok (.iadd, 1) := by decide +kernel
theorem dX8_wire_12 : decode cX8_wire 12 = .ok (.iaload, 1) := by decide +kernel
theorem dX8_wire_13 : decode cX8_wire 13 = .ok (.ireturn, 1) := by decide +kernel
theorem dX8_tally_0 : decode cX8_tally 0 = .ok (.aload_n 0, 1) := by decide +kernel
theorem dX8_tally_1 : decode cX8_tally 1 = .ok (.getfield 7, 3) := by decide +kernel
theorem dX8_tally_4 : decode cX8_tally 4 = .ok (.bipush 7, 2) := by decide +kernel
theorem dX8_tally_6 : decode cX8_tally 6 = .ok (.iconst 4, 1) := by decide +kernel
theorem dX8_tally_7 : decode cX8_tally 7 = .ok (.iload_n 1, 1) := by decide +kernel
theorem dX8_tally_8 : decode cX8_tally 8 = .ok (.imul, 1) := by decide +kernel
theorem dX8_tally_9 : decode cX8_tally 9 = .ok (.iadd, 1) := by decide +kernel
theorem dX8_tally_10 : decode cX8_tally 10 = .ok (.iload_n 2, 1) := by decide +kernel
theorem dX8_tally_11 : decode cX8_tally 11 = .ok (.iadd, 1) := by decide +kernel
theorem dX8_tally_12 : decode cX8_tally 12 = .ok (.dup2, 1) := by decide +kernel
theorem dX8_tally_13 : decode cX8_tally 13 = .ok (.iaload, 1) := by decide +kernel
theorem dX8_tally_14 : decode cX8_tally 14 = .ok (.iconst 1, 1) := by decide +kernel
theorem dX8_tally_15 : decode cX8_tally 15 = .ok (.iadd, 1) := by decide +kernel
theorem dX8_tally_16 : decode cX8_tally 16 = .ok (.iastore, 1) := by decide +kernel
theorem dX8_tally_17 : decode cX8_tally 17 = .ok (.return_, 1) := by decide +kernel
theorem dX8_isAwake_0 : decode cX8_isAwake 0 = .ok (.aload_n 0, 1) := by decide +kernel
theorem dX8_isAwake_1 : decode cX8_isAwake 1 = .ok (.iload_n 1, 1) := by decide +kernel
theorem dX8_isAwake_2 : decode cX8_isAwake 2 = .ok (.iconst 2, 1) := by decide +kernel
theorem dX8_isAwake_3 : decode cX8_isAwake 3 = .ok (.invokevirtual 40, 3) := by decide +kernel
theorem dX8_isAwake_6 : decode cX8_isAwake 6 = .ok (.ifCond .ne 16, 3) := by decide +kernel
theorem dX8_isAwake_9 : decode cX8_isAwake 9 = .ok (.aload_n 0, 1) := by decide +kernel
theorem dX8_isAwake_10 : decode cX8_isAwake 10 = .ok (.iload_n 1, 1) := by decide +kernel
theorem dX8_isAwake_11 : decode cX8_isAwake 11 = .ok (.iconst 3, 1) := by decide +kernel
theorem dX8_isAwake_12 : decode cX8_isAwake 12 = .ok (.invokevirtual 40, 3) := by decide +kernel
theorem dX8_isAwake_15 : decode cX8_isAwake 15 = .ok (.ifCond .ne 7, 3) := by decide +kernel
theorem dX8_isAwake_18 : decode cX8_isAwake 18 = .ok (.iconst 1, 1) := by decide +kernel
theorem dX8_isAwake_19 : decode cX8_isAwake 19 = .ok (.goto 4, 3) := by decide +kernel
theorem dX8_isAwake_22 : decode cX8_isAwake 22 = .ok (.iconst 0, 1) := by decide +kernel
theorem dX8_isAwake_23 : decode cX8_isAwake 23 = .ok (.ireturn, 1) := by decide +kernel
theorem dX8_speaks_0 : decode cX8_speaks 0 = .ok (.aload_n 0, 1) := by decide +kernel
theorem dX8_speaks_1 : decode cX8_speaks 1 = .ok (.iload_n 1, 1) := by decide +kernel
theorem dX8_speaks_2 : decode cX8_speaks 2 = .ok (.bipush 17, 2) := by decide +kernel
theorem dX8_speaks_4 : decode cX8_speaks 4 = .ok (.invokevirtual 40, 3) := by decide +kernel
theorem dX8_speaks_7 : decode cX8_speaks 7 = .ok (.bipush (-6), 2) := by decide +kernel
theorem dX8_speaks_9 : decode cX8_speaks 9 = .ok (.if_icmp .eq 7, 3) := by decide +kernel
theorem dX8_speaks_12 : decode cX8_speaks 12 = .ok (.iconst 1, 1) := by decide +kernel
theorem dX8_speaks_13 : decode cX8_speaks 13 = .ok (.goto 4, 3) := by decide +kernel
theorem dX8_speaks_16 : decode cX8_speaks 16 = .ok (.iconst 0, 1) := by decide +kernel
theorem dX8_speaks_17 : decode cX8_speaks 17 = .ok (.ireturn, 1) := by decide +kernel
theorem dX8_firstWire_0 : decode cX8_firstWire 0 = .ok (.aload_n 0, 1) := by decide +kernel
theorem dX8_firstWire_1 : decode cX8_firstWire 1 = .ok (.iload_n 1, 1) := by decide +kernel
theorem dX8_firstWire_2 : decode cX8_firstWire 2 = .ok (.bipush 6, 2) := by decide +kernel
theorem dX8_firstWire_4 : decode cX8_firstWire 4 = .ok (.invokevirtual 40, 3) := by decide +kernel
theorem dX8_firstWire_7 : decode cX8_firstWire 7 = .ok (.ireturn, 1) := by decide +kernel
theorem dX8_record_0 : decode cX8_record 0 = .ok (.aload_n 0, 1) := by decide +kernel
theorem dX8_record_1 : decode cX8_record 1 = .ok (.getfield 44, 3) := by decide +kernel
theorem dX8_record_4 : decode cX8_record 4 = .ok (.bipush 6, 2) := by decide +kernel
theorem dX8_record_6 : decode cX8_record 6 = .ok (.if_icmp .ne 44, 3) := by decide +kernel
theorem dX8_record_9 : decode cX8_record 9 = .ok (.iconst 0, 1) := by decide +kernel
theorem dX8_record_10 : decode cX8_record 10 = .ok (.istore_n 1, 1) := by decide +kernel
theorem dX8_record_11 : decode cX8_record 11 = .ok (.iload_n 1, 1) := by decide +kernel
theorem dX8_record_12 : decode cX8_record 12 = .ok (.sipush 1755, 3) := by decide +kernel
theorem dX8_record_15 : decode cX8_record 15 = .ok (.if_icmp .ge 25, 3) := by decide +kernel
theorem dX8_record_18 : decode cX8_record 18 = .ok (.aload_n 0, 1) := by decide +kernel
theorem dX8_record_19 : decode cX8_record 19 = .ok (.getfield 13, 3) := by decide +kernel
theorem dX8_record_22 : decode cX8_record 22 = .ok (.iload_n 1, 1) := by decide +kernel
theorem dX8_record_23 : decode cX8_record 23 = .ok (.aload_n 0, 1) := by decide +kernel
theorem dX8_record_24 : decode cX8_record 24 = .ok (.getfield 13, 3) := by decide +kernel
theorem dX8_record_27 : decode cX8_record 27 = .ok (.iload_n 1, 1) := by decide +kernel
theorem dX8_record_28 : decode cX8_record 28 = .ok (.sipush 351, 3) := by decide +kernel
theorem dX8_record_31 : decode cX8_record 31 = .ok (.iadd, 1) := by decide +kernel
theorem dX8_record_32 : decode cX8_record 32 = .ok (.iaload, 1) := by decide +kernel
theorem dX8_record_33 : decode cX8_record 33 = .ok (.iastore, 1) := by decide +kernel
theorem dX8_record_34 : decode cX8_record 34 = .ok (.iinc 1 1, 3) := by decide +kernel
theorem dX8_record_37 : decode cX8_record 37 = .ok (.goto (-26), 3) := by decide +kernel
theorem dX8_record_40 : decode cX8_record 40 = .ok (.aload_n 0, 1) := by decide +kernel
theorem dX8_record_41 : decode cX8_record 41 = .ok (.dup, 1) := by decide +kernel
theorem dX8_record_42 : decode cX8_record 42 = .ok (.getfield 44, 3) := by decide +kernel
theorem dX8_record_45 : decode cX8_record 45 = .ok (.iconst 1, 1) := by decide +kernel
theorem dX8_record_46 : decode cX8_record 46 = .ok (.isub, 1) := by decide +kernel
theorem dX8_record_47 : decode cX8_record 47 = .ok (.putfield 44, 3) := by decide +kernel
theorem dX8_record_50 : decode cX8_record 50 = .ok (.iconst 0, 1) := by decide +kernel
theorem dX8_record_51 : decode cX8_record 51 = .ok (.istore_n 1, 1) := by decide +kernel
theorem dX8_record_52 : decode cX8_record 52 = .ok (.iload_n 1, 1) := by decide +kernel
theorem dX8_record_53 : decode cX8_record 53 = .ok (.sipush 351, 3) := by decide +kernel
theorem dX8_record_56 : decode cX8_record 56 = .ok (.if_icmp .ge 30, 3) := by decide +kernel
theorem dX8_record_59 : decode cX8_record 59 = .ok (.aload_n 0, 1) := by decide +kernel
theorem dX8_record_60 : decode cX8_record 60 = .ok (.getfield 13, 3) := by decide +kernel
theorem dX8_record_63 : decode cX8_record 63 = .ok (.aload_n 0, 1) := by decide +kernel
theorem dX8_record_64 : decode cX8_record 64 = .ok (.getfield 44, 3) := by decide +kernel
theorem dX8_record_67 : decode cX8_record 67 = .ok (.sipush 351, 3) := by decide +kernel
theorem dX8_record_70 : decode cX8_record 70 = .ok (.imul, 1) := by decide +kernel
theorem dX8_record_71 : decode cX8_record 71 = .ok (.iload_n 1, 1) := by decide +kernel
theorem dX8_record_72 : decode cX8_record 72 = .ok (.iadd, 1) := by decide +kernel
theorem dX8_record_73 : decode cX8_record 73 = .ok (.aload_n 0, 1) := by decide +kernel
theorem dX8_record_74 : decode cX8_record 74 = .ok (.getfield 7, 3) := by decide +kernel
theorem dX8_record_77 : decode cX8_record 77 = .ok (.iload_n 1, 1) := by decide +kernel
theorem dX8_record_78 : decode cX8_record 78 = .ok (.iaload, 1) := by decide +kernel
theorem dX8_record_79 : decode cX8_record 79 = .ok (.iastore, 1) := by decide +kernel
theorem dX8_record_80 : decode cX8_record 80 = .ok (.iinc 1 1, 3) := by decide +kernel
theorem dX8_record_83 : decode cX8_record 83 = .ok (.goto (-31), 3) := by decide +kernel
theorem dX8_record_86 : decode cX8_record 86 = .ok (.aload_n 0, 1) := by decide +kernel
theorem dX8_record_87 : decode cX8_record 87 = .ok (.dup, 1) := by decide +kernel
theorem dX8_record_88 : decode cX8_record 88 = .ok (.getfield 44, 3) := by decide +kernel
theorem dX8_record_91 : decode cX8_record 91 = .ok (.iconst 1, 1) := by decide +kernel
theorem dX8_record_92 : decode cX8_record 92 = .ok (.iadd, 1) := by decide +kernel
theorem dX8_record_93 : decode cX8_record 93 = .ok (.putfield 44, 3) := by decide +kernel
theorem dX8_record_96 : decode cX8_record 96 = .ok (.return_, 1) := by decide +kernel
theorem dX8_undo_0 : decode cX8_undo 0 = .ok (.aload_n 0, 1) := by decide +kernel
theorem dX8_undo_1 : decode cX8_undo 1 = .ok (.getfield 44, 3) := by decide +kernel
theorem dX8_undo_4 : decode cX8_undo 4 = .ok (.ifCond .ne 6, 3) := by decide +kernel
theorem dX8_undo_7 : decode cX8_undo 7 = .ok (.bipush (-5), 2) := by decide +kernel
theorem dX8_undo_9 : decode cX8_undo 9 = .ok (.ireturn, 1) := by decide +kernel
theorem dX8_undo_10 : decode cX8_undo 10 = .ok (.aload_n 0, 1) := by decide +kernel
theorem dX8_undo_11 : decode cX8_undo 11 = .ok (.dup, 1) := by decide +kernel
theorem dX8_undo_12 : decode cX8_undo 12 = .ok (.getfield 44, 3) := by decide +kernel
theorem dX8_undo_15 : decode cX8_undo 15 = .ok (.iconst 1, 1) := by decide +kernel
theorem dX8_undo_16 : decode cX8_undo 16 = .ok (.isub, 1) := by decide +kernel
theorem dX8_undo_17 : decode cX8_undo 17 = .ok (.putfield 44, 3) := by decide +kernel
theorem dX8_undo_20 : decode cX8_undo 20 = .ok (.iconst 0, 1) := by decide +kernel
theorem dX8_undo_21 : decode cX8_undo 21 = .ok (.istore_n 1, 1) := by decide +kernel
theorem dX8_undo_22 : decode cX8_undo 22 = .ok (.iload_n 1, 1) := by decide +kernel
theorem dX8_undo_23 : decode cX8_undo 23 = .ok (.sipush 351, 3) := by decide +kernel
theorem dX8_undo_26 : decode cX8_undo 26 = .ok (.if_icmp .ge 30, 3) := by decide +kernel
theorem dX8_undo_29 : decode cX8_undo 29 = .ok (.aload_n 0, 1) := by decide +kernel
theorem dX8_undo_30 : decode cX8_undo 30 = .ok (.getfield 7, 3) := by decide +kernel
theorem dX8_undo_33 : decode cX8_undo 33 = .ok (.iload_n 1, 1) := by decide +kernel
theorem dX8_undo_34 : decode cX8_undo 34 = .ok (.aload_n 0, 1) := by decide +kernel
theorem dX8_undo_35 : decode cX8_undo 35 = .ok (.getfield 13, 3) := by decide +kernel
theorem dX8_undo_38 : decode cX8_undo 38 = .ok (.aload_n 0, 1) := by decide +kernel
theorem dX8_undo_39 : decode cX8_undo 39 = .ok (.getfield 44, 3) := by decide +kernel
theorem dX8_undo_42 : decode cX8_undo 42 = .ok (.sipush 351, 3) := by decide +kernel
theorem dX8_undo_45 : decode cX8_undo 45 = .ok (.imul, 1) := by decide +kernel
theorem dX8_undo_46 : decode cX8_undo 46 = .ok (.iload_n 1, 1) := by decide +kernel
theorem dX8_undo_47 : decode cX8_undo 47 = .ok (.iadd, 1) := by decide +kernel
theorem dX8_undo_48 : decode cX8_undo 48 = .ok (.iaload, 1) := by decide +kernel
theorem dX8_undo_49 : decode cX8_undo 49 = .ok (.iastore, 1) := by decide +kernel
theorem dX8_undo_50 : decode cX8_undo 50 = .ok (.iinc 1 1, 3) := by decide +kernel
theorem dX8_undo_53 : decode cX8_undo 53 = .ok (.goto (-31), 3) := by decide +kernel
theorem dX8_undo_56 : decode cX8_undo 56 = .ok (.aload_n 0, 1) := by decide +kernel
theorem dX8_undo_57 : decode cX8_undo 57 = .ok (.getfield 44, 3) := by decide +kernel
theorem dX8_undo_60 : decode cX8_undo 60 = .ok (.ireturn, 1) := by decide +kernel
theorem dX8_save_0 : decode cX8_save 0 = .ok (.iload_n 1, 1) := by decide +kernel
theorem dX8_save_1 : decode cX8_save 1 = .ok (.iconst 0, 1) := by decide +kernel
theorem dX8_save_2 : decode cX8_save 2 = .ok (.iconst 1, 1) := by decide +kernel
theorem dX8_save_3 : decode cX8_save 3 = .ok (.invokestatic 36, 3) := by decide +kernel
theorem dX8_save_6 : decode cX8_save 6 = .ok (.ifCond .ne 6, 3) := by decide +kernel
theorem dX8_save_9 : decode cX8_save 9 = .ok (.bipush (-2), 2) := by decide +kernel
theorem dX8_save_11 : decode cX8_save 11 = .ok (.ireturn, 1) := by decide +kernel
theorem dX8_save_12 : decode cX8_save 12 = .ok (.aload_n 0, 1) := by decide +kernel
theorem dX8_save_13 : decode cX8_save 13 = .ok (.getfield 19, 3) := by decide +kernel
theorem dX8_save_16 : decode cX8_save 16 = .ok (.iload_n 1, 1) := by decide +kernel
theorem dX8_save_17 : decode cX8_save 17 = .ok (.iconst 1, 1) := by decide +kernel
theorem dX8_save_18 : decode cX8_save 18 = .ok (.bastore, 1) := by decide +kernel
theorem dX8_save_19 : decode cX8_save 19 = .ok (.iconst 0, 1) := by decide +kernel
theorem dX8_save_20 : decode cX8_save 20 = .ok (.istore_n 2, 1) := by decide +kernel
theorem dX8_save_21 : decode cX8_save 21 = .ok (.iload_n 2, 1) := by decide +kernel
theorem dX8_save_22 : decode cX8_save 22 = .ok (.sipush 351, 3) := by decide +kernel
theorem dX8_save_25 : decode cX8_save 25 = .ok (.if_icmp .ge 27, 3) := by decide +kernel
theorem dX8_save_28 : decode cX8_save 28 = .ok (.aload_n 0, 1) := by decide +kernel
theorem dX8_save_29 : decode cX8_save 29 = .ok (.getfield 16, 3) := by decide +kernel
theorem dX8_save_32 : decode cX8_save 32 = .ok (.iload_n 1, 1) := by decide +kernel
theorem dX8_save_33 : decode cX8_save 33 = .ok (.sipush 351, 3) := by decide +kernel
theorem dX8_save_36 : decode cX8_save 36 = .ok (.imul, 1) := by decide +kernel
theorem dX8_save_37 : decode cX8_save 37 = .ok (.iload_n 2, 1) := by decide +kernel
theorem dX8_save_38 : decode cX8_save 38 = .ok (.iadd, 1) := by decide +kernel
theorem dX8_save_39 : decode cX8_save 39 = .ok (.aload_n 0, 1) := by decide +kernel
theorem dX8_save_40 : decode cX8_save 40 = .ok (.getfield 7, 3) := by decide +kernel
theorem dX8_save_43 : decode cX8_save 43 = .ok (.iload_n 2, 1) := by decide +kernel
theorem dX8_save_44 : decode cX8_save 44 = .ok (.iaload, 1) := by decide +kernel
theorem dX8_save_45 : decode cX8_save 45 = .ok (.iastore, 1) := by decide +kernel
theorem dX8_save_46 : decode cX8_save 46 = .ok (.iinc 2 1, 3) := by decide +kernel
theorem dX8_save_49 : decode cX8_save 49 = .ok (.goto (-28), 3) := by decide +kernel
theorem dX8_save_52 : decode cX8_save 52 = .ok (.aload_n 0, 1) := by decide +kernel
theorem dX8_save_53 : decode cX8_save 53 = .ok (.getfield 7, 3) := by decide +kernel
theorem dX8_save_56 : decode cX8_save 56 = .ok (.bipush 6, 2) := by decide +kernel
theorem dX8_save_58 : decode cX8_save 58 = .ok (.iaload, 1) := by decide +kernel
theorem dX8_save_59 : decode cX8_save 59 = .ok (.ireturn, 1) := by decide +kernel
theorem dX8_restore_0 : decode cX8_restore 0 = .ok (.iload_n 1, 1) := by decide +kernel
theorem dX8_restore_1 : decode cX8_restore 1 = .ok (.iconst 0, 1) := by decide +kernel
theorem dX8_restore_2 : decode cX8_restore 2 = .ok (.iconst 1, 1) := by decide +kernel
theorem dX8_restore_3 : decode cX8_restore 3 = .ok (.invokestatic 36, 3) := by decide +kernel
theorem dX8_restore_6 : decode cX8_restore 6 = .ok (.ifCond .ne 6, 3) := by decide +kernel
theorem dX8_restore_9 : decode cX8_restore 9 = .ok (.bipush (-2), 2) := by decide +kernel
theorem dX8_restore_11 : decode cX8_restore 11 = .ok (.ireturn, 1) := by decide +kernel
theorem dX8_restore_12 : decode cX8_restore 12 = .ok (.aload_n 0, 1) := by decide +kernel
theorem dX8_restore_13 : decode cX8_restore 13 = .ok (.getfield 19, 3) := by decide +kernel
theorem dX8_restore_16 : decode cX8_restore 16 = .ok (.iload_n 1, 1) := by decide +kernel
theorem dX8_restore_17 : decode cX8_restore 17 = .ok (.baload, 1) := by decide +kernel
theorem dX8_restore_18 : decode cX8_restore 18 = .ok (.ifCond .ne 6, 3) := by decide +kernel
theorem dX8_restore_21 : decode cX8_restore 21 = .ok (.bipush (-5), 2) := by decide +kernel
theorem dX8_restore_23 : decode cX8_restore 23 = .ok (.ireturn, 1) := by decide +kernel
theorem dX8_restore_24 : decode cX8_restore 24 = .ok (.aload_n 0, 1) := by decide +kernel
theorem dX8_restore_25 : decode cX8_restore 25 = .ok (.invokevirtual 48, 3) := by decide +kernel
theorem dX8_restore_28 : decode cX8_restore 28 = .ok (.iconst 0, 1) := by decide +kernel
theorem dX8_restore_29 : decode cX8_restore 29 = .ok (.istore_n 2, 1) := by decide +kernel
theorem dX8_restore_30 : decode cX8_restore 30 = .ok (.iload_n 2, 1) := by decide +kernel
theorem dX8_restore_31 : decode cX8_restore 31 = .ok (.sipush 351, 3) := by decide +kernel
theorem dX8_restore_34 : decode cX8_restore 34 = .ok (.if_icmp .ge 27, 3) := by decide +kernel
theorem dX8_restore_37 : decode cX8_restore 37 = .ok (.aload_n 0, 1) := by decide +kernel
theorem dX8_restore_38 : decode cX8_restore 38 = .ok (.getfield 7, 3) := by decide +kernel
theorem dX8_restore_41 : decode cX8_restore 41 = .ok (.iload_n 2, 1) := by decide +kernel
theorem dX8_restore_42 : decode cX8_restore 42 = .ok (.aload_n 0, 1) := by decide +kernel
theorem dX8_restore_43 : decode cX8_restore 43 = .ok (.getfield 16, 3) := by decide +kernel
theorem dX8_restore_46 : decode cX8_restore 46 = .ok (.iload_n 1, 1) := by decide +kernel
theorem dX8_restore_47 : decode cX8_restore 47 = .ok (.sipush 351, 3) := by decide +kernel
theorem dX8_restore_50 : decode cX8_restore 50 = .ok (.imul, 1) := by decide +kernel
theorem dX8_restore_51 : decode cX8_restore 51 = .ok (.iload_n 2, 1) := by decide +kernel
theorem dX8_restore_52 : decode cX8_restore 52 = .ok (.iadd, 1) := by decide +kernel
theorem dX8_restore_53 : decode cX8_restore 53 = .ok (.iaload, 1) := by decide +kernel
theorem dX8_restore_54 : decode cX8_restore 54 = .ok (.iastore, 1) := by decide +kernel
theorem dX8_restore_55 : decode cX8_restore 55 = .ok (.iinc 2 1, 3) := by decide +kernel
theorem dX8_restore_58 : decode cX8_restore 58 = .ok (.goto (-28), 3) := by decide +kernel
theorem dX8_restore_61 : decode cX8_restore 61 = .ok (.aload_n 0, 1) := by decide +kernel
theorem dX8_restore_62 : decode cX8_restore 62 = .ok (.getfield 7, 3) := by decide +kernel
theorem dX8_restore_65 : decode cX8_restore 65 = .ok (.bipush 6, 2) := by decide +kernel
theorem dX8_restore_67 : decode cX8_restore 67 = .ok (.iaload, 1) := by decide +kernel
theorem dX8_restore_68 : decode cX8_restore 68 = .ok (.ireturn, 1) := by decide +kernel
theorem dX8_putAside_0 : decode cX8_putAside 0 = .ok (.iconst 0, 1) := by decide +kernel
theorem dX8_putAside_1 : decode cX8_putAside 1 = .ok (.istore_n 1, 1) := by decide +kernel
theorem dX8_putAside_2 : decode cX8_putAside 2 = .ok (.iload_n 1, 1) := by decide +kernel
theorem dX8_putAside_3 : decode cX8_putAside 3 = .ok (.sipush 351, 3) := by decide +kernel
theorem dX8_putAside_6 : decode cX8_putAside 6 = .ok (.if_icmp .ge 21, 3) := by decide +kernel
theorem dX8_putAside_9 : decode cX8_putAside 9 = .ok (.aload_n 0, 1) := by decide +kernel
theorem dX8_putAside_10 : decode cX8_putAside 10 = .ok (.getfield 23, 3) := by decide +kernel
theorem dX8_putAside_13 : decode cX8_putAside 13 = .ok (.iload_n 1, 1) := by decide +kernel
theorem dX8_putAside_14 : decode cX8_putAside 14 = .ok (.aload_n 0, 1) := by decide +kernel
theorem dX8_putAside_15 : decode cX8_putAside 15 = .ok (.getfield 7, 3) := by decide +kernel
theorem dX8_putAside_18 : decode cX8_putAside 18 = .ok (.iload_n 1, 1) := by decide +kernel
theorem dX8_putAside_19 : decode cX8_putAside 19 = .ok (.iaload, 1) := by decide +kernel
theorem dX8_putAside_20 : decode cX8_putAside 20 = .ok (.iastore, 1) := by decide +kernel
theorem dX8_putAside_21 : decode cX8_putAside 21 = .ok (.iinc 1 1, 3) := by decide +kernel
theorem dX8_putAside_24 : decode cX8_putAside 24 = .ok (.goto (-22), 3) := by decide +kernel
theorem dX8_putAside_27 : decode cX8_putAside 27 = .ok (.return_, 1) := by decide +kernel
theorem dX8_bringBack_0 : decode cX8_bringBack 0 = .ok (.iconst 0, 1) := by decide +kernel
theorem dX8_bringBack_1 : decode cX8_bringBack 1 = .ok (.istore_n 1, 1) := by decide +kernel
theorem dX8_bringBack_2 : decode cX8_bringBack 2 = .ok (.iload_n 1, 1) := by decide +kernel
theorem dX8_bringBack_3 : decode cX8_bringBack 3 = .ok (.sipush 351, 3) := by decide +kernel
theorem dX8_bringBack_6 : decode cX8_bringBack 6 = .ok (.if_icmp .ge 21, 3) := by decide +kernel
theorem dX8_bringBack_9 : decode cX8_bringBack 9 = .ok (.aload_n 0, 1) := by decide +kernel
theorem dX8_bringBack_10 : decode cX8_bringBack 10 = .ok (.getfield 7, 3) := by decide +kernel
theorem dX8_bringBack_13 : decode cX8_bringBack 13 = .ok (.iload_n 1, 1) := by decide +kernel
theorem dX8_bringBack_14 : decode cX8_bringBack 14 = .ok (.aload_n 0, 1) := by decide +kernel
theorem dX8_bringBack_15 : decode cX8_bringBack 15 = .ok (.getfield 23, 3) := by decide +kernel
theorem dX8_bringBack_18 : decode cX8_bringBack 18 = .ok (.iload_n 1, 1) := by decide +kernel
theorem dX8_bringBack_19 : decode cX8_bringBack 19 = .ok (.iaload, 1) := by decide +kernel
theorem dX8_bringBack_20 : decode cX8_bringBack 20 = .ok (.iastore, 1) := by decide +kernel
theorem dX8_bringBack_21 : decode cX8_bringBack 21 = .ok (.iinc 1 1, 3) := by decide +kernel
theorem dX8_bringBack_24 : decode cX8_bringBack 24 = .ok (.goto (-22), 3) := by decide +kernel
theorem dX8_bringBack_27 : decode cX8_bringBack 27 = .ok (.return_, 1) := by decide +kernel
theorem dX8_isValue_0 : decode cX8_isValue 0 = .ok (.iload_n 0, 1) := by decide +kernel
theorem dX8_isValue_1 : decode cX8_isValue 1 = .ok (.tableswitch 59 0 4 #[35, 43, 59, 59, 51], 35) := by decide +kernel
theorem dX8_isValue_36 : decode cX8_isValue 36 = .ok (.iload_n 1, 1) := by decide +kernel
theorem dX8_isValue_37 : decode cX8_isValue 37 = .ok (.iconst 1, 1) := by decide +kernel
theorem dX8_isValue_38 : decode cX8_isValue 38 = .ok (.bipush 20, 2) := by decide +kernel
theorem dX8_isValue_40 : decode cX8_isValue 40 = .ok (.invokestatic 36, 3) := by decide +kernel
theorem dX8_isValue_43 : decode cX8_isValue 43 = .ok (.ireturn, 1) := by decide +kernel
theorem dX8_isValue_44 : decode cX8_isValue 44 = .ok (.iload_n 1, 1) := by decide +kernel
theorem dX8_isValue_45 : decode cX8_isValue 45 = .ok (.iconst 2, 1) := by decide +kernel
theorem dX8_isValue_46 : decode cX8_isValue 46 = .ok (.bipush 99, 2) := by decide +kernel
theorem dX8_isValue_48 : decode cX8_isValue 48 = .ok (.invokestatic 36, 3) := by decide +kernel
theorem dX8_isValue_51 : decode cX8_isValue 51 = .ok (.ireturn, 1) := by decide +kernel
theorem dX8_isValue_52 : decode cX8_isValue 52 = .ok (.iload_n 1, 1) := by decide +kernel
theorem dX8_isValue_53 : decode cX8_isValue 53 = .ok (.iconst 1, 1) := by decide +kernel
theorem dX8_isValue_54 : decode cX8_isValue 54 = .ok (.bipush 9, 2) := by decide +kernel
theorem dX8_isValue_56 : decode cX8_isValue 56 = .ok (.invokestatic 36, 3) := by decide +kernel
theorem dX8_isValue_59 : decode cX8_isValue 59 = .ok (.ireturn, 1) := by decide +kernel
theorem dX8_isValue_60 : decode cX8_isValue 60 = .ok (.iload_n 1, 1) := by decide +kernel
theorem dX8_isValue_61 : decode cX8_isValue 61 = .ok (.iconst 0, 1) := by decide +kernel
theorem dX8_isValue_62 : decode cX8_isValue 62 = .ok (.bipush 9, 2) := by decide +kernel
theorem dX8_isValue_64 : decode cX8_isValue 64 = .ok (.invokestatic 36, 3) := by decide +kernel
theorem dX8_isValue_67 : decode cX8_isValue 67 = .ok (.ireturn, 1) := by decide +kernel
theorem dX8_set_0 : decode cX8_set 0 = .ok (.iload_n 1, 1) := by decide +kernel
theorem dX8_set_1 : decode cX8_set 1 = .ok (.iconst 0, 1) := by decide +kernel
theorem dX8_set_2 : decode cX8_set 2 = .ok (.iconst 4, 1) := by decide +kernel
theorem dX8_set_3 : decode cX8_set 3 = .ok (.invokestatic 36, 3) := by decide +kernel
theorem dX8_set_6 : decode cX8_set 6 = .ok (.ifCond .eq 11, 3) := by decide +kernel
theorem dX8_set_9 : decode cX8_set 9 = .ok (.iload_n 1, 1) := by decide +kernel
theorem dX8_set_10 : decode cX8_set 10 = .ok (.iload_n 2, 1) := by decide +kernel
theorem dX8_set_11 : decode cX8_set 11 = .ok (.invokestatic 51, 3) := by decide +kernel
theorem dX8_set_14 : decode cX8_set 14 = .ok (.ifCond .ne 6, 3) := by decide +kernel
theorem dX8_set_17 : decode cX8_set 17 = .ok (.bipush (-2), 2) := by decide +kernel
theorem dX8_set_19 : decode cX8_set 19 = .ok (.ireturn, 1) := by decide +kernel
theorem dX8_set_20 : decode cX8_set 20 = .ok (.aload_n 0, 1) := by decide +kernel
theorem dX8_set_21 : decode cX8_set 21 = .ok (.invokevirtual 48, 3) := by decide +kernel
theorem dX8_set_24 : decode cX8_set 24 = .ok (.aload_n 0, 1) := by decide +kernel
theorem dX8_set_25 : decode cX8_set 25 = .ok (.getfield 7, 3) := by decide +kernel
theorem dX8_set_28 : decode cX8_set 28 = .ok (.iload_n 1, 1) := by decide +kernel
theorem dX8_set_29 : decode cX8_set 29 = .ok (.iaload, 1) := by decide +kernel
theorem dX8_set_30 : decode cX8_set 30 = .ok (.istore_n 3, 1) := by decide +kernel
theorem dX8_set_31 : decode cX8_set 31 = .ok (.aload_n 0, 1) := by decide +kernel
theorem dX8_set_32 : decode cX8_set 32 = .ok (.getfield 7, 3) := by decide +kernel
theorem dX8_set_35 : decode cX8_set 35 = .ok (.iload_n 1, 1) := by decide +kernel
theorem dX8_set_36 : decode cX8_set 36 = .ok (.iload_n 2, 1) := by decide +kernel
theorem dX8_set_37 : decode cX8_set 37 = .ok (.iastore, 1) := by decide +kernel
theorem dX8_set_38 : decode cX8_set 38 = .ok (.iconst 0, 1) := by decide +kernel
theorem dX8_set_39 : decode cX8_set 39 = .ok (.istore 4, 2) := by decide +kernel
theorem dX8_set_41 : decode cX8_set 41 = .ok (.iload 4, 2) := by decide +kernel
theorem dX8_set_43 : decode cX8_set 43 = .ok (.aload_n 0, 1) := by decide +kernel
theorem dX8_set_44 : decode cX8_set 44 = .ok (.getfield 7, 3) := by decide +kernel
theorem dX8_set_47 : decode cX8_set 47 = .ok (.bipush 6, 2) := by decide +kernel
theorem dX8_set_49 : decode cX8_set 49 = .ok (.iaload, 1) := by decide +kernel
theorem dX8_set_50 : decode cX8_set 50 = .ok (.if_icmp .ge 48, 3) := by decide +kernel
theorem dX8_set_53 : decode cX8_set 53 = .ok (.aload_n 0, 1) := by decide +kernel
theorem dX8_set_54 : decode cX8_set 54 = .ok (.iload 4, 2) := by decide +kernel
theorem dX8_set_56 : decode cX8_set 56 = .ok (.iconst 1, 1) := by decide +kernel
theorem dX8_set_57 : decode cX8_set 57 = .ok (.aload_n 0, 1) := by decide +kernel
theorem dX8_set_58 : decode cX8_set 58 = .ok (.iload 4, 2) := by decide +kernel
theorem dX8_set_60 : decode cX8_set 60 = .ok (.iconst 1, 1) := by decide +kernel
theorem dX8_set_61 : decode cX8_set 61 = .ok (.invokevirtual 40, 3) := by decide +kernel
theorem dX8_set_64 : decode cX8_set 64 = .ok (.aload_n 0, 1) := by decide +kernel
theorem dX8_set_65 : decode cX8_set 65 = .ok (.getfield 7, 3) := by decide +kernel
theorem dX8_set_68 : decode cX8_set 68 = .ok (.iconst 1, 1) := by decide +kernel
theorem dX8_set_69 : decode cX8_set 69 = .ok (.iaload, 1) := by decide +kernel
theorem dX8_set_70 : decode cX8_set 70 = .ok (.if_icmp .le 12, 3) := by decide +kernel
theorem dX8_set_73 : decode cX8_set 73 = .ok (.aload_n 0, 1) := by decide +kernel
theorem dX8_set_74 : decode cX8_set 74 = .ok (.getfield 7, 3) := by decide +kernel
theorem dX8_set_77 : decode cX8_set 77 = .ok (.iconst 1, 1) := by decide +kernel
theorem dX8_set_78 : decode cX8_set 78 = .ok (.iaload, 1) := by decide +kernel
theorem dX8_set_79 : decode cX8_set 79 = .ok (.goto 10, 3) := by decide +kernel
theorem dX8_set_82 : decode cX8_set 82 = .ok (.aload_n 0, 1) := by decide +kernel
theorem dX8_set_83 : decode cX8_set 83 = .ok (.iload 4, 2) := by decide +kernel
theorem dX8_set_85 : decode cX8_set 85 = .ok (.iconst 1, 1) := by decide +kernel
theorem dX8_set_86 : decode cX8_set 86 = .ok (.invokevirtual 40, 3) := by decide +kernel
theorem dX8_set_89 : decode cX8_set 89 = .ok (.invokevirtual 55, 3) := by decide +kernel
theorem dX8_set_92 : decode cX8_set 92 = .ok (.iinc 4 1, 3) := by decide +kernel
theorem dX8_set_95 : decode cX8_set 95 = .ok (.goto (-54), 3) := by decide +kernel
theorem dX8_set_98 : decode cX8_set 98 = .ok (.iload_n 3, 1) := by decide +kernel
theorem dX8_set_99 : decode cX8_set 99 = .ok (.ireturn, 1) := by decide +kernel
theorem dX8_whyNotStation_0 : decode cX8_whyNotStation 0 = .ok (.iload_n 1, 1) := by decide +kernel
theorem dX8_whyNotStation_1 : decode cX8_whyNotStation 1 = .ok (.iconst 1, 1) := by decide +kernel
theorem dX8_whyNotStation_2 : decode cX8_whyNotStation 2 = .ok (.bipush 63, 2) := by decide +kernel
theorem dX8_whyNotStation_4 : decode cX8_whyNotStation 4 = .ok (.invokestatic 36, 3) := by decide +kernel
theorem dX8_whyNotStation_7 : decode cX8_whyNotStation 7 = .ok (.ifCond .ne 8, 3) := by decide +kernel
theorem dX8_whyNotStation_10 : decode cX8_whyNotStation 10 = .ok (.bipush (-2), 2) := by decide +kernel
theorem dX8_whyNotStation_12 : decode cX8_whyNotStation 12 = .ok (.goto 21, 3) := by decide +kernel
theorem dX8_whyNotStation_15 : decode cX8_whyNotStation 15 = .ok (.aload_n 0, 1) := by decide +kernel
theorem dX8_whyNotStation_16 : decode cX8_whyNotStation 16 = .ok (.getfield 7, 3) := by decide +kernel
theorem dX8_whyNotStation_19 : decode cX8_whyNotStation 19 = .ok (.bipush 6, 2) := by decide +kernel
theorem dX8_whyNotStation_21 : decode cX8_whyNotStation 21 = .ok (.iaload, 1) := by decide +kernel
theorem dX8_whyNotStation_22 : decode cX8_whyNotStation 22 = .ok (.bipush 8, 2) := by decide +kernel
theorem dX8_whyNotStation_24 : decode cX8_whyNotStation 24 = .ok (.if_icmp .ne 8, 3) := by decide +kernel
theorem dX8_whyNotStation_27 : decode cX8_whyNotStation 27 = .ok (.bipush (-4), 2) := by decide +kernel
theorem dX8_whyNotStation_29 : decode cX8_whyNotStation 29 = .ok (.goto 4, 3) := by decide +kernel
theorem dX8_whyNotStation_32 : decode cX8_whyNotStation 32 = .ok (.iconst 0, 1) := by decide +kernel
theorem dX8_whyNotStation_33 : decode cX8_whyNotStation 33 = .ok (.ireturn, 1) := by decide +kernel
theorem dX8_comes_0 : decode cX8_comes 0 = .ok (.aload_n 0, 1) := by decide +kernel
theorem dX8_comes_1 : decode cX8_comes 1 = .ok (.getfield 7, 3) := by decide +kernel
theorem dX8_comes_4 : decode cX8_comes 4 = .ok (.bipush 6, 2) := by decide +kernel
theorem dX8_comes_6 : decode cX8_comes 6 = .ok (.iaload, 1) := by decide +kernel
theorem dX8_comes_7 : decode cX8_comes 7 = .ok (.istore_n 2, 1) := by decide +kernel
theorem dX8_comes_8 : decode cX8_comes 8 = .ok (.iconst 0, 1) := by decide +kernel
theorem dX8_comes_9 : decode cX8_comes 9 = .ok (.istore_n 3, 1) := by decide +kernel
theorem dX8_comes_10 : decode cX8_comes 10 = .ok (.iload_n 3, 1) := by decide +kernel
theorem dX8_comes_11 : decode cX8_comes 11 = .ok (.bipush 40, 2) := by decide +kernel
theorem dX8_comes_13 : decode cX8_comes 13 = .ok (.if_icmp .ge 16, 3) := by decide +kernel
theorem dX8_comes_16 : decode cX8_comes 16 = .ok (.aload_n 0, 1) := by decide +kernel
theorem dX8_comes_17 : decode cX8_comes 17 = .ok (.iload_n 2, 1) := by decide +kernel
theorem dX8_comes_18 : decode cX8_comes 18 = .ok (.iload_n 3, 1) := by decide +kernel
theorem dX8_comes_19 : decode cX8_comes 19 = .ok (.iconst 0, 1) := by decide +kernel
theorem dX8_comes_20 : decode cX8_comes 20 = .ok (.invokevirtual 55, 3) := by decide +kernel
theorem dX8_comes_23 : decode cX8_comes 23 = .ok (.iinc 3 1, 3) := by decide +kernel
theorem dX8_comes_26 : decode cX8_comes 26 = .ok (.goto (-16), 3) := by decide +kernel
theorem dX8_comes_29 : decode cX8_comes 29 = .ok (.aload_n 0, 1) := by decide +kernel
theorem dX8_comes_30 : decode cX8_comes 30 = .ok (.iload_n 2, 1) := by decide +kernel
theorem dX8_comes_31 : decode cX8_comes 31 = .ok (.iconst 0, 1) := by decide +kernel
theorem dX8_comes_32 : decode cX8_comes 32 = .ok (.iload_n 1, 1) := by decide +kernel
theorem dX8_comes_33 : decode cX8_comes 33 = .ok (.invokevirtual 55, 3) := by decide +kernel
theorem dX8_comes_36 : decode cX8_comes 36 = .ok (.aload_n 0, 1) := by decide +kernel
theorem dX8_comes_37 : decode cX8_comes 37 = .ok (.iload_n 2, 1) := by decide +kernel
theorem dX8_comes_38 : decode cX8_comes 38 = .ok (.iconst 1, 1) := by decide +kernel
theorem dX8_comes_39 : decode cX8_comes 39 = .ok (.aload_n 0, 1) := by decide +kernel
theorem dX8_comes_40 : decode cX8_comes 40 = .ok (.getfield 7, 3) := by decide +kernel
theorem dX8_comes_43 : decode cX8_comes 43 = .ok (.iconst 1, 1) := by decide +kernel
theorem dX8_comes_44 : decode cX8_comes 44 = .ok (.iaload, 1) := by decide +kernel
theorem dX8_comes_45 : decode cX8_comes 45 = .ok (.invokevirtual 55, 3) := by decide +kernel
theorem dX8_comes_48 : decode cX8_comes 48 = .ok (.aload_n 0, 1) := by decide +kernel
theorem dX8_comes_49 : decode cX8_comes 49 = .ok (.iload_n 2, 1) := by decide +kernel
theorem dX8_comes_50 : decode cX8_comes 50 = .ok (.bipush 17, 2) := by decide +kernel
theorem dX8_comes_52 : decode cX8_comes 52 = .ok (.bipush (-6), 2) := by decide +kernel
theorem dX8_comes_54 : decode cX8_comes 54 = .ok (.invokevirtual 55, 3) := by decide +kernel
theorem dX8_comes_57 : decode cX8_comes 57 = .ok (.aload_n 0, 1) := by decide +kernel
theorem dX8_comes_58 : decode cX8_comes 58 = .ok (.getfield 7, 3) := by decide +kernel
theorem dX8_comes_61 : decode cX8_comes 61 = .ok (.bipush 6, 2) := by decide +kernel
theorem dX8_comes_63 : decode cX8_comes 63 = .ok (.dup2, 1) := by decide +kernel
theorem dX8_comes_64 : decode cX8_comes 64 = .ok (.iaload, 1) := by decide +kernel
theorem dX8_comes_65 : decode cX8_comes 65 = .ok (.iconst 1, 1) := by decide +kernel
theorem dX8_comes_66 : decode cX8_comes 66 = .ok (.iadd, 1) := by decide +kernel
theorem dX8_comes_67 : decode cX8_comes 67 = .ok (.iastore, 1) := by decide +kernel
theorem dX8_comes_68 : decode cX8_comes 68 = .ok (.iload_n 2, 1) := by decide +kernel
theorem dX8_comes_69 : decode cX8_comes 69 = .ok (.ireturn, 1) := by decide +kernel
theorem dX8_station_0 : decode cX8_station 0 = .ok (.aload_n 0, 1) := by decide +kernel
theorem dX8_station_1 : decode cX8_station 1 = .ok (.iload_n 1, 1) := by decide +kernel
theorem dX8_station_2 : decode cX8_station 2 = .ok (.invokevirtual 59, 3) := by decide +kernel
theorem dX8_station_5 : decode cX8_station 5 = .ok (.istore_n 2, 1) := by decide +kernel
theorem dX8_station_6 : decode cX8_station 6 = .ok (.iload_n 2, 1) := by decide +kernel
theorem dX8_station_7 : decode cX8_station 7 = .ok (.ifCond .ge 5, 3) := by decide +kernel
theorem dX8_station_10 : decode cX8_station 10 = .ok (.iload_n 2, 1) := by decide +kernel
theorem dX8_station_11 : decode cX8_station 11 = .ok (.ireturn, 1) := by decide +kernel
theorem dX8_station_12 : decode cX8_station 12 = .ok (.aload_n 0, 1) := by decide +kernel
theorem dX8_station_13 : decode cX8_station 13 = .ok (.invokevirtual 48, 3) := by decide +kernel
theorem dX8_station_16 : decode cX8_station 16 = .ok (.aload_n 0, 1) := by decide +kernel
theorem dX8_station_17 : decode cX8_station 17 = .ok (.iload_n 1, 1) := by decide +kernel
theorem dX8_station_18 : decode cX8_station 18 = .ok (.invokevirtual 63, 3) := by decide +kernel
theorem dX8_station_21 : decode cX8_station 21 = .ok (.ireturn, 1) := by decide +kernel
theorem dX8_isAt_0 : decode cX8_isAt 0 = .ok (.aload_n 0, 1) := by decide +kernel
theorem dX8_isAt_1 : decode cX8_isAt 1 = .ok (.iload_n 1, 1) := by decide +kernel
theorem dX8_isAt_2 : decode cX8_isAt 2 = .ok (.iconst 0, 1) := by decide +kernel
theorem dX8_isAt_3 : decode cX8_isAt 3 = .ok (.invokevirtual 40, 3) := by decide +kernel
theorem dX8_isAt_6 : decode cX8_isAt 6 = .ok (.iload_n 2, 1) := by decide +kernel
theorem dX8_isAt_7 : decode cX8_isAt 7 = .ok (.ishr, 1) := by decide +kernel
theorem dX8_isAt_8 : decode cX8_isAt 8 = .ok (.iconst 1, 1) := by decide +kernel
theorem dX8_isAt_9 : decode cX8_isAt 9 = .ok (.iand, 1) := by decide +kernel
theorem dX8_isAt_10 : decode cX8_isAt 10 = .ok (.iconst 1, 1) := by decide +kernel
theorem dX8_isAt_11 : decode cX8_isAt 11 = .ok (.if_icmp .ne 7, 3) := by decide +kernel
theorem dX8_isAt_14 : decode cX8_isAt 14 = .ok (.iconst 1, 1) := by decide +kernel
theorem dX8_isAt_15 : decode cX8_isAt 15 = .ok (.goto 4, 3) := by decide +kernel
theorem dX8_isAt_18 : decode cX8_isAt 18 = .ok (.iconst 0, 1) := by decide +kernel
theorem dX8_isAt_19 : decode cX8_isAt 19 = .ok (.ireturn, 1) := by decide +kernel
theorem dX8_whyNotWord_0 : decode cX8_whyNotWord 0 = .ok (.aload_n 0, 1) := by decide +kernel
theorem dX8_whyNotWord_1 : decode cX8_whyNotWord 1 = .ok (.iload_n 1, 1) := by decide +kernel
theorem dX8_whyNotWord_2 : decode cX8_whyNotWord 2 = .ok (.invokevirtual 66, 3) := by decide +kernel
theorem dX8_whyNotWord_5 : decode cX8_whyNotWord 5 = .ok (.ifCond .eq 10, 3) := by decide +kernel
theorem dX8_whyNotWord_8 : decode cX8_whyNotWord 8 = .ok (.iload_n 2, 1) := by decide +kernel
theorem dX8_whyNotWord_9 : decode cX8_whyNotWord 9 = .ok (.invokestatic 70, 3) := by decide +kernel
theorem dX8_whyNotWord_12 : decode cX8_whyNotWord 12 = .ok (.ifCond .ne 5, 3) := by decide +kernel
theorem dX8_whyNotWord_15 : decode cX8_whyNotWord 15 = .ok (.iconst (-1), 1) := by decide +kernel
theorem dX8_whyNotWord_16 : decode cX8_whyNotWord 16 = .ok (.ireturn, 1) := by decide +kernel
theorem dX8_whyNotWord_17 : decode cX8_whyNotWord 17 = .ok (.iload_n 3, 1) := by decide +kernel
theorem dX8_whyNotWord_18 : decode cX8_whyNotWord 18 = .ok (.iconst 0, 1) := by decide +kernel
theorem dX8_whyNotWord_19 : decode cX8_whyNotWord 19 = .ok (.sipush 255, 3) := by decide +kernel
theorem dX8_whyNotWord_22 : decode cX8_whyNotWord 22 = .ok (.invokestatic 36, 3) := by decide +kernel
theorem dX8_whyNotWord_25 : decode cX8_whyNotWord 25 = .ok (.ifCond .ne 8, 3) := by decide +kernel
theorem dX8_whyNotWord_28 : decode cX8_whyNotWord 28 = .ok (.bipush (-2), 2) := by decide +kernel
theorem dX8_whyNotWord_30 : decode cX8_whyNotWord 30 = .ok (.goto 33, 3) := by decide +kernel
theorem dX8_whyNotWord_33 : decode cX8_whyNotWord 33 = .ok (.aload_n 0, 1) := by decide +kernel
theorem dX8_whyNotWord_34 : decode cX8_whyNotWord 34 = .ok (.iload_n 1, 1) := by decide +kernel
theorem dX8_whyNotWord_35 : decode cX8_whyNotWord 35 = .ok (.iload_n 2, 1) := by decide +kernel
theorem dX8_whyNotWord_36 : decode cX8_whyNotWord 36 = .ok (.invokevirtual 73, 3) := by decide +kernel
theorem dX8_whyNotWord_39 : decode cX8_whyNotWord 39 = .ok (.ifCond .ne 8, 3) := by decide +kernel
theorem dX8_whyNotWord_42 : decode cX8_whyNotWord 42 = .ok (.bipush (-5), 2) := by decide +kernel
theorem dX8_whyNotWord_44 : decode cX8_whyNotWord 44 = .ok (.goto 19, 3) := by decide +kernel
theorem dX8_whyNotWord_47 : decode cX8_whyNotWord 47 = .ok (.aload_n 0, 1) := by decide +kernel
theorem dX8_whyNotWord_48 : decode cX8_whyNotWord 48 = .ok (.iload_n 1, 1) := by decide +kernel
theorem dX8_whyNotWord_49 : decode cX8_whyNotWord 49 = .ok (.iconst 4, 1) := by decide +kernel
theorem dX8_whyNotWord_50 : decode cX8_whyNotWord 50 = .ok (.invokevirtual 40, 3) := by decide +kernel
theorem dX8_whyNotWord_53 : decode cX8_whyNotWord 53 = .ok (.iconst 4, 1) := by decide +kernel
theorem dX8_whyNotWord_54 : decode cX8_whyNotWord 54 = .ok (.if_icmp .ne 8, 3) := by decide +kernel
theorem dX8_whyNotWord_57 : decode cX8_whyNotWord 57 = .ok (.bipush (-4), 2) := by decide +kernel
theorem dX8_whyNotWord_59 : decode cX8_whyNotWord 59 = .ok (.goto 4, 3) := by decide +kernel
theorem dX8_whyNotWord_62 : decode cX8_whyNotWord 62 = .ok (.iconst 0, 1) := by decide +kernel
theorem dX8_whyNotWord_63 : decode cX8_whyNotWord 63 = .ok (.ireturn, 1) := by decide +kernel
theorem dX8_gets_0 : decode cX8_gets 0 = .ok (.iconst 5, 1) := by decide +kernel
theorem dX8_gets_1 : decode cX8_gets 1 = .ok (.iconst 3, 1) := by decide +kernel
theorem dX8_gets_2 : decode cX8_gets 2 = .ok (.aload_n 0, 1) := by decide +kernel
theorem dX8_gets_3 : decode cX8_gets 3 = .ok (.iload_n 1, 1) := by decide +kernel
theorem dX8_gets_4 : decode cX8_gets 4 = .ok (.iconst 4, 1) := by decide +kernel
theorem dX8_gets_5 : decode cX8_gets 5 = .ok (.invokevirtual 40, 3) := by decide +kernel
theorem dX8_gets_8 : decode cX8_gets 8 = .ok (.imul, 1) := by decide +kernel
theorem dX8_gets_9 : decode cX8_gets 9 = .ok (.iadd, 1) := by decide +kernel
theorem dX8_gets_10 : decode cX8_gets 10 = .ok (.istore 4, 2) := by decide +kernel
theorem dX8_gets_12 : decode cX8_gets 12 = .ok (.aload_n 0, 1) := by decide +kernel
theorem dX8_gets_13 : decode cX8_gets 13 = .ok (.iload_n 1, 1) := by decide +kernel
theorem dX8_gets_14 : decode cX8_gets 14 = .ok (.iload 4, 2) := by decide +kernel
theorem dX8_gets_16 : decode cX8_gets 16 = .ok (.iload_n 3, 1) := by decide +kernel
theorem dX8_gets_17 : decode cX8_gets 17 = .ok (.invokevirtual 55, 3) := by decide +kernel
theorem dX8_gets_20 : decode cX8_gets 20 = .ok (.aload_n 0, 1) := by decide +kernel
theorem dX8_gets_21 : decode cX8_gets 21 = .ok (.iload_n 1, 1) := by decide +kernel
theorem dX8_gets_22 : decode cX8_gets 22 = .ok (.iload 4, 2) := by decide +kernel
theorem dX8_gets_24 : decode cX8_gets 24 = .ok (.iconst 1, 1) := by decide +kernel
theorem dX8_gets_25 : decode cX8_gets 25 = .ok (.iadd, 1) := by decide +kernel
theorem dX8_gets_26 : decode cX8_gets 26 = .ok (.iload_n 2, 1) := by decide +kernel
theorem dX8_gets_27 : decode cX8_gets 27 = .ok (.invokevirtual 55, 3) := by decide +kernel
theorem dX8_gets_30 : decode cX8_gets 30 = .ok (.aload_n 0, 1) := by decide +kernel
theorem dX8_gets_31 : decode cX8_gets 31 = .ok (.iload_n 1, 1) := by decide +kernel
theorem dX8_gets_32 : decode cX8_gets 32 = .ok (.iload 4, 2) := by decide +kernel
theorem dX8_gets_34 : decode cX8_gets 34 = .ok (.iconst 2, 1) := by decide +kernel
theorem dX8_gets_35 : decode cX8_gets 35 = .ok (.iadd, 1) := by decide +kernel
theorem dX8_gets_36 : decode cX8_gets 36 = .ok (.iconst 0, 1) := by decide +kernel
theorem dX8_gets_37 : decode cX8_gets 37 = .ok (.invokevirtual 55, 3) := by decide +kernel
theorem dX8_gets_40 : decode cX8_gets 40 = .ok (.aload_n 0, 1) := by decide +kernel
theorem dX8_gets_41 : decode cX8_gets 41 = .ok (.iload_n 1, 1) := by decide +kernel
theorem dX8_gets_42 : decode cX8_gets 42 = .ok (.iconst 4, 1) := by decide +kernel
theorem dX8_gets_43 : decode cX8_gets 43 = .ok (.iconst 1, 1) := by decide +kernel
theorem dX8_gets_44 : decode cX8_gets 44 = .ok (.invokevirtual 76, 3) := by decide +kernel
theorem dX8_gets_47 : decode cX8_gets 47 = .ok (.aload_n 0, 1) := by decide +kernel
theorem dX8_gets_48 : decode cX8_gets 48 = .ok (.iload_n 1, 1) := by decide +kernel
theorem dX8_gets_49 : decode cX8_gets 49 = .ok (.iconst 4, 1) := by decide +kernel
theorem dX8_gets_50 : decode cX8_gets 50 = .ok (.invokevirtual 40, 3) := by decide +kernel
theorem dX8_gets_53 : decode cX8_gets 53 = .ok (.ireturn, 1) := by decide +kernel
theorem dX8_word_0 : decode cX8_word 0 = .ok (.aload_n 0, 1) := by decide +kernel
theorem dX8_word_1 : decode cX8_word 1 = .ok (.iload_n 1, 1) := by decide +kernel
theorem dX8_word_2 : decode cX8_word 2 = .ok (.iload_n 2, 1) := by decide +kernel
theorem dX8_word_3 : decode cX8_word 3 = .ok (.iload_n 3, 1) := by decide +kernel
theorem dX8_word_4 : decode cX8_word 4 = .ok (.invokevirtual 79, 3) := by decide +kernel
theorem dX8_word_7 : decode cX8_word 7 = .ok (.istore 4, 2) := by decide +kernel
theorem dX8_word_9 : decode cX8_word 9 = .ok (.iload 4, 2) := by decide +kernel
theorem dX8_word_11 : decode cX8_word 11 = .ok (.ifCond .ge 6, 3) := by decide +kernel
theorem dX8_word_14 : decode cX8_word 14 = .ok (.iload 4, 2) := by decide +kernel
theorem dX8_word_16 : decode cX8_word 16 = .ok (.ireturn, 1) := by decide +kernel
theorem dX8_word_17 : decode cX8_word 17 = .ok (.aload_n 0, 1) := by decide +kernel
theorem dX8_word_18 : decode cX8_word 18 = .ok (.invokevirtual 48, 3) := by decide +kernel
theorem dX8_word_21 : decode cX8_word 21 = .ok (.aload_n 0, 1) := by decide +kernel
theorem dX8_word_22 : decode cX8_word 22 = .ok (.iload_n 1, 1) := by decide +kernel
theorem dX8_word_23 : decode cX8_word 23 = .ok (.iload_n 2, 1) := by decide +kernel
theorem dX8_word_24 : decode cX8_word 24 = .ok (.iload_n 3, 1) := by decide +kernel
theorem dX8_word_25 : decode cX8_word 25 = .ok (.invokevirtual 83, 3) := by decide +kernel
theorem dX8_word_28 : decode cX8_word 28 = .ok (.ireturn, 1) := by decide +kernel
theorem dX8_quiet_0 : decode cX8_quiet 0 = .ok (.aload_n 0, 1) := by decide +kernel
theorem dX8_quiet_1 : decode cX8_quiet 1 = .ok (.iload_n 1, 1) := by decide +kernel
theorem dX8_quiet_2 : decode cX8_quiet 2 = .ok (.bipush 17, 2) := by decide +kernel
theorem dX8_quiet_4 : decode cX8_quiet 4 = .ok (.bipush (-6), 2) := by decide +kernel
theorem dX8_quiet_6 : decode cX8_quiet 6 = .ok (.invokevirtual 55, 3) := by decide +kernel
theorem dX8_quiet_9 : decode cX8_quiet 9 = .ok (.aload_n 0, 1) := by decide +kernel
theorem dX8_quiet_10 : decode cX8_quiet 10 = .ok (.iload_n 1, 1) := by decide +kernel
theorem dX8_quiet_11 : decode cX8_quiet 11 = .ok (.bipush 18, 2) := by decide +kernel
theorem dX8_quiet_13 : decode cX8_quiet 13 = .ok (.iconst 0, 1) := by decide +kernel
theorem dX8_quiet_14 : decode cX8_quiet 14 = .ok (.invokevirtual 55, 3) := by decide +kernel
theorem dX8_quiet_17 : decode cX8_quiet 17 = .ok (.return_, 1) := by decide +kernel
theorem dX8_leaves_0 : decode cX8_leaves 0 = .ok (.aload_n 0, 1) := by decide +kernel
theorem dX8_leaves_1 : decode cX8_leaves 1 = .ok (.iload_n 1, 1) := by decide +kernel
theorem dX8_leaves_2 : decode cX8_leaves 2 = .ok (.invokevirtual 86, 3) := by decide +kernel
theorem dX8_leaves_5 : decode cX8_leaves 5 = .ok (.aload_n 0, 1) := by decide +kernel
theorem dX8_leaves_6 : decode cX8_leaves 6 = .ok (.iload_n 1, 1) := by decide +kernel
theorem dX8_leaves_7 : decode cX8_leaves 7 = .ok (.iconst 4, 1) := by decide +kernel
theorem dX8_leaves_8 : decode cX8_leaves 8 = .ok (.iconst (-1), 1) := by decide +kernel
theorem dX8_leaves_9 : decode cX8_leaves 9 = .ok (.invokevirtual 76, 3) := by decide +kernel
theorem dX8_leaves_12 : decode cX8_leaves 12 = .ok (.iconst 5, 1) := by decide +kernel
theorem dX8_leaves_13 : decode cX8_leaves 13 = .ok (.istore_n 2, 1) := by decide +kernel
theorem dX8_leaves_14 : decode cX8_leaves 14 = .ok (.iload_n 2, 1) := by decide +kernel
theorem dX8_leaves_15 : decode cX8_leaves 15 = .ok (.iconst 5, 1) := by decide +kernel
theorem dX8_leaves_16 : decode cX8_leaves 16 = .ok (.iconst 3, 1) := by decide +kernel
theorem dX8_leaves_17 : decode cX8_leaves 17 = .ok (.aload_n 0, 1) := by decide +kernel
theorem dX8_leaves_18 : decode cX8_leaves 18 = .ok (.iload_n 1, 1) := by decide +kernel
theorem dX8_leaves_19 : decode cX8_leaves 19 = .ok (.iconst 4, 1) := by decide +kernel
theorem dX8_leaves_20 : decode cX8_leaves 20 = .ok (.invokevirtual 40, 3) := by decide +kernel
theorem dX8_leaves_23 : decode cX8_leaves 23 = .ok (.imul, 1) := by decide +kernel
theorem dX8_leaves_24 : decode cX8_leaves 24 = .ok (.iadd, 1) := by decide +kernel
theorem dX8_leaves_25 : decode cX8_leaves 25 = .ok (.if_icmp .ge 23, 3) := by decide +kernel
theorem dX8_leaves_28 : decode cX8_leaves 28 = .ok (.aload_n 0, 1) := by decide +kernel
theorem dX8_leaves_29 : decode cX8_leaves 29 = .ok (.iload_n 1, 1) := by decide +kernel
theorem dX8_leaves_30 : decode cX8_leaves 30 = .ok (.iload_n 2, 1) := by decide +kernel
theorem dX8_leaves_31 : decode cX8_leaves 31 = .ok (.aload_n 0, 1) := by decide +kernel
theorem dX8_leaves_32 : decode cX8_leaves 32 = .ok (.iload_n 1, 1) := by decide +kernel
theorem dX8_leaves_33 : decode cX8_leaves 33 = .ok (.iload_n 2, 1) := by decide +kernel
theorem dX8_leaves_34 : decode cX8_leaves 34 = .ok (.iconst 3, 1) := by decide +kernel
theorem dX8_leaves_35 : decode cX8_leaves 35 = .ok (.iadd, 1) := by decide +kernel
theorem dX8_leaves_36 : decode cX8_leaves 36 = .ok (.invokevirtual 40, 3) := by decide +kernel
theorem dX8_leaves_39 : decode cX8_leaves 39 = .ok (.invokevirtual 55, 3) := by decide +kernel
theorem dX8_leaves_42 : decode cX8_leaves 42 = .ok (.iinc 2 1, 3) := by decide +kernel
theorem dX8_leaves_45 : decode cX8_leaves 45 = .ok (.goto (-31), 3) := by decide +kernel
theorem dX8_leaves_48 : decode cX8_leaves 48 = .ok (.return_, 1) := by decide +kernel
theorem dX8_giveUp_0 : decode cX8_giveUp 0 = .ok (.aload_n 0, 1) := by decide +kernel
theorem dX8_giveUp_1 : decode cX8_giveUp 1 = .ok (.iload_n 1, 1) := by decide +kernel
theorem dX8_giveUp_2 : decode cX8_giveUp 2 = .ok (.bipush 7, 2) := by decide +kernel
theorem dX8_giveUp_4 : decode cX8_giveUp 4 = .ok (.iconst 1, 1) := by decide +kernel
theorem dX8_giveUp_5 : decode cX8_giveUp 5 = .ok (.invokevirtual 76, 3) := by decide +kernel
theorem dX8_giveUp_8 : decode cX8_giveUp 8 = .ok (.aload_n 0, 1) := by decide +kernel
theorem dX8_giveUp_9 : decode cX8_giveUp 9 = .ok (.iload_n 1, 1) := by decide +kernel
theorem dX8_giveUp_10 : decode cX8_giveUp 10 = .ok (.bipush 22, 2) := by decide +kernel
theorem dX8_giveUp_12 : decode cX8_giveUp 12 = .ok (.iconst 1, 1) := by decide +kernel
theorem dX8_giveUp_13 : decode cX8_giveUp 13 = .ok (.invokevirtual 76, 3) := by decide +kernel
theorem dX8_giveUp_16 : decode cX8_giveUp 16 = .ok (.aload_n 0, 1) := by decide +kernel
theorem dX8_giveUp_17 : decode cX8_giveUp 17 = .ok (.iload_n 1, 1) := by decide +kernel
theorem dX8_giveUp_18 : decode cX8_giveUp 18 = .ok (.invokevirtual 86, 3) := by decide +kernel
theorem dX8_giveUp_21 : decode cX8_giveUp 21 = .ok (.aload_n 0, 1) := by decide +kernel
theorem dX8_giveUp_22 : decode cX8_giveUp 22 = .ok (.iload_n 1, 1) := by decide +kernel
theorem dX8_giveUp_23 : decode cX8_giveUp 23 = .ok (.bipush 7, 2) := by decide +kernel
theorem dX8_giveUp_25 : decode cX8_giveUp 25 = .ok (.invokevirtual 40, 3) := by decide +kernel
theorem dX8_giveUp_28 : decode cX8_giveUp 28 = .ok (.aload_n 0, 1) := by decide +kernel
theorem dX8_giveUp_29 : decode cX8_giveUp 29 = .ok (.getfield 7, 3) := by decide +kernel
theorem dX8_giveUp_32 : decode cX8_giveUp 32 = .ok (.iconst 4, 1) := by decide +kernel
theorem dX8_giveUp_33 : decode cX8_giveUp 33 = .ok (.iaload, 1) := by decide +kernel
theorem dX8_giveUp_34 : decode cX8_giveUp 34 = .ok (.if_icmp .lt 26, 3) := by decide +kernel
theorem dX8_giveUp_37 : decode cX8_giveUp 37 = .ok (.aload_n 0, 1) := by decide +kernel
theorem dX8_giveUp_38 : decode cX8_giveUp 38 = .ok (.iload_n 1, 1) := by decide +kernel
theorem dX8_giveUp_39 : decode cX8_giveUp 39 = .ok (.bipush 20, 2) := by decide +kernel
theorem dX8_giveUp_41 : decode cX8_giveUp 41 = .ok (.iconst 1, 1) := by decide +kernel
theorem dX8_giveUp_42 : decode cX8_giveUp 42 = .ok (.invokevirtual 76, 3) := by decide +kernel
theorem dX8_giveUp_45 : decode cX8_giveUp 45 = .ok (.aload_n 0, 1) := by decide +kernel
theorem dX8_giveUp_46 : decode cX8_giveUp 46 = .ok (.aload_n 0, 1) := by decide +kernel
theorem dX8_giveUp_47 : decode cX8_giveUp 47 = .ok (.iload_n 1, 1) := by decide +kernel
theorem dX8_giveUp_48 : decode cX8_giveUp 48 = .ok (.invokevirtual 90, 3) := by decide +kernel
theorem dX8_giveUp_51 : decode cX8_giveUp 51 = .ok (.iconst 3, 1) := by decide +kernel
theorem dX8_giveUp_52 : decode cX8_giveUp 52 = .ok (.invokevirtual 93, 3) := by decide +kernel
theorem dX8_giveUp_55 : decode cX8_giveUp 55 = .ok (.aload_n 0, 1) := by decide +kernel
theorem dX8_giveUp_56 : decode cX8_giveUp 56 = .ok (.iload_n 1, 1) := by decide +kernel
theorem dX8_giveUp_57 : decode cX8_giveUp 57 = .ok (.invokevirtual 97, 3) := by decide +kernel
theorem dX8_giveUp_60 : decode cX8_giveUp 60 = .ok (.return_, 1) := by decide +kernel
theorem dX8_forget_0 : decode cX8_forget 0 = .ok (.aload_n 0, 1) := by decide +kernel
theorem dX8_forget_1 : decode cX8_forget 1 = .ok (.iload_n 1, 1) := by decide +kernel
theorem dX8_forget_2 : decode cX8_forget 2 = .ok (.invokevirtual 66, 3) := by decide +kernel
theorem dX8_forget_5 : decode cX8_forget 5 = .ok (.ifCond .ne 5, 3) := by decide +kernel
theorem dX8_forget_8 : decode cX8_forget 8 = .ok (.iconst (-1), 1) := by decide +kernel
theorem dX8_forget_9 : decode cX8_forget 9 = .ok (.ireturn, 1) := by decide +kernel
theorem dX8_forget_10 : decode cX8_forget 10 = .ok (.aload_n 0, 1) := by decide +kernel
theorem dX8_forget_11 : decode cX8_forget 11 = .ok (.iload_n 1, 1) := by decide +kernel
theorem dX8_forget_12 : decode cX8_forget 12 = .ok (.iconst 4, 1) := by decide +kernel
theorem dX8_forget_13 : decode cX8_forget 13 = .ok (.invokevirtual 40, 3) := by decide +kernel
theorem dX8_forget_16 : decode cX8_forget 16 = .ok (.ifCond .ne 6, 3) := by decide +kernel
theorem dX8_forget_19 : decode cX8_forget 19 = .ok (.bipush (-5), 2) := by decide +kernel
theorem dX8_forget_21 : decode cX8_forget 21 = .ok (.ireturn, 1) := by decide +kernel
theorem dX8_forget_22 : decode cX8_forget 22 = .ok (.aload_n 0, 1) := by decide +kernel
theorem dX8_forget_23 : decode cX8_forget 23 = .ok (.invokevirtual 48, 3) := by decide +kernel
theorem dX8_forget_26 : decode cX8_forget 26 = .ok (.aload_n 0, 1) := by decide +kernel
theorem dX8_forget_27 : decode cX8_forget 27 = .ok (.iload_n 1, 1) := by decide +kernel
theorem dX8_forget_28 : decode cX8_forget 28 = .ok (.iconst 5, 1) := by decide +kernel
theorem dX8_forget_29 : decode cX8_forget 29 = .ok (.invokevirtual 40, 3) := by decide +kernel
theorem dX8_forget_32 : decode cX8_forget 32 = .ok (.istore_n 2, 1) := by decide +kernel
theorem dX8_forget_33 : decode cX8_forget 33 = .ok (.aload_n 0, 1) := by decide +kernel
theorem dX8_forget_34 : decode cX8_forget 34 = .ok (.iload_n 1, 1) := by decide +kernel
theorem dX8_forget_35 : decode cX8_forget 35 = .ok (.invokevirtual 97, 3) := by decide +kernel
theorem dX8_forget_38 : decode cX8_forget 38 = .ok (.iload_n 2, 1) := by decide +kernel
theorem dX8_forget_39 : decode cX8_forget 39 = .ok (.ireturn, 1) := by decide +kernel
theorem dX8_whyNotWire_0 : decode cX8_whyNotWire 0 = .ok (.iload_n 1, 1) := by decide +kernel
theorem dX8_whyNotWire_1 : decode cX8_whyNotWire 1 = .ok (.invokestatic 70, 3) := by decide +kernel
theorem dX8_whyNotWire_4 : decode cX8_whyNotWire 4 = .ok (.ifCond .eq 7, 3) := by decide +kernel
theorem dX8_whyNotWire_7 : decode cX8_whyNotWire 7 = .ok (.iconst 0, 1) := by decide +kernel
theorem dX8_whyNotWire_8 : decode cX8_whyNotWire 8 = .ok (.goto 4, 3) := by decide +kernel
theorem dX8_whyNotWire_11 : decode cX8_whyNotWire 11 = .ok (.iconst (-1), 1) := by decide +kernel
theorem dX8_whyNotWire_12 : decode cX8_whyNotWire 12 = .ok (.ireturn, 1) := by decide +kernel
theorem dX8_turnFault_0 : decode cX8_turnFault 0 = .ok (.aload_n 0, 1) := by decide +kernel
theorem dX8_turnFault_1 : decode cX8_turnFault 1 = .ok (.getfield 7, 3) := by decide +kernel
theorem dX8_turnFault_4 : decode cX8_turnFault 4 = .ok (.bipush 7, 2) := by decide +kernel
theorem dX8_turnFault_6 : decode cX8_turnFault 6 = .ok (.iconst 4, 1) := by decide +kernel
theorem dX8_turnFault_7 : decode cX8_turnFault 7 = .ok (.iload_n 1, 1) := by decide +kernel
theorem dX8_turnFault_8 : decode cX8_turnFault 8 = .ok (.imul, 1) := by decide +kernel
theorem dX8_turnFault_9 : decode cX8_turnFault 9 = .ok (.iadd, 1) := by decide +kernel
theorem dX8_turnFault_10 : decode cX8_turnFault 10 = .ok (.iconst 1, 1) := by decide +kernel
theorem dX8_turnFault_11 : decode cX8_turnFault 11 = .ok (.iadd, 1) := by decide +kernel
theorem dX8_turnFault_12 : decode cX8_turnFault 12 = .ok (.iconst 1, 1) := by decide +kernel
theorem dX8_turnFault_13 : decode cX8_turnFault 13 = .ok (.aload_n 0, 1) := by decide +kernel
theorem dX8_turnFault_14 : decode cX8_turnFault 14 = .ok (.iload_n 1, 1) := by decide +kernel
theorem dX8_turnFault_15 : decode cX8_turnFault 15 = .ok (.iconst 1, 1) := by decide +kernel
theorem dX8_turnFault_16 : decode cX8_turnFault 16 = .ok (.invokevirtual 100, 3) := by decide +kernel
theorem dX8_turnFault_19 : decode cX8_turnFault 19 = .ok (.isub, 1) := by decide +kernel
theorem dX8_turnFault_20 : decode cX8_turnFault 20 = .ok (.iastore, 1) := by decide +kernel
theorem dX8_turnFault_21 : decode cX8_turnFault 21 = .ok (.aload_n 0, 1) := by decide +kernel
theorem dX8_turnFault_22 : decode cX8_turnFault 22 = .ok (.iload_n 1, 1) := by decide +kernel
theorem dX8_turnFault_23 : decode cX8_turnFault 23 = .ok (.iconst 1, 1) := by decide +kernel
theorem dX8_turnFault_24 : decode cX8_turnFault 24 = .ok (.invokevirtual 100, 3) := by decide +kernel
theorem dX8_turnFault_27 : decode cX8_turnFault 27 = .ok (.ireturn, 1) := by decide +kernel
theorem dX8_stick_0 : decode cX8_stick 0 = .ok (.aload_n 0, 1) := by decide +kernel
theorem dX8_stick_1 : decode cX8_stick 1 = .ok (.iload_n 1, 1) := by decide +kernel
theorem dX8_stick_2 : decode cX8_stick 2 = .ok (.invokevirtual 103, 3) := by decide +kernel
theorem dX8_stick_5 : decode cX8_stick 5 = .ok (.istore_n 2, 1) := by decide +kernel
theorem dX8_stick_6 : decode cX8_stick 6 = .ok (.iload_n 2, 1) := by decide +kernel
theorem dX8_stick_7 : decode cX8_stick 7 = .ok (.ifCond .ge 5, 3) := by decide +kernel
theorem dX8_stick_10 : decode cX8_stick 10 = .ok (.iload_n 2, 1) := by decide +kernel
theorem dX8_stick_11 : decode cX8_stick 11 = .ok (.ireturn, 1) := by decide +kernel
theorem dX8_stick_12 : decode cX8_stick 12 = .ok (.aload_n 0, 1) := by decide +kernel
theorem dX8_stick_13 : decode cX8_stick 13 = .ok (.invokevirtual 48, 3) := by decide +kernel
theorem dX8_stick_16 : decode cX8_stick 16 = .ok (.aload_n 0, 1) := by decide +kernel
theorem dX8_stick_17 : decode cX8_stick 17 = .ok (.iload_n 1, 1) := by decide +kernel
theorem dX8_stick_18 : decode cX8_stick 18 = .ok (.invokevirtual 106, 3) := by decide +kernel
theorem dX8_stick_21 : decode cX8_stick 21 = .ok (.ireturn, 1) := by decide +kernel
theorem dX8_whyNotDoze_0 : decode cX8_whyNotDoze 0 = .ok (.aload_n 0, 1) := by decide +kernel
theorem dX8_whyNotDoze_1 : decode cX8_whyNotDoze 1 = .ok (.iload_n 1, 1) := by decide +kernel
theorem dX8_whyNotDoze_2 : decode cX8_whyNotDoze 2 = .ok (.invokevirtual 66, 3) := by decide +kernel
theorem dX8_whyNotDoze_5 : decode cX8_whyNotDoze 5 = .ok (.ifCond .eq 7, 3) := by decide +kernel
theorem dX8_whyNotDoze_8 : decode cX8_whyNotDoze 8 = .ok (.iconst 0, 1) := by decide +kernel
theorem dX8_whyNotDoze_9 : decode cX8_whyNotDoze 9 = .ok (.goto 4, 3) := by decide +kernel
theorem dX8_whyNotDoze_12 : decode cX8_whyNotDoze 12 = .ok (.iconst (-1), 1) := by decide +kernel
theorem dX8_whyNotDoze_13 : decode cX8_whyNotDoze 13 = .ok (.ireturn, 1) := by decide +kernel
theorem dX8_turnSleep_0 : decode cX8_turnSleep 0 = .ok (.aload_n 0, 1) := by decide +kernel
theorem dX8_turnSleep_1 : decode cX8_turnSleep 1 = .ok (.iload_n 1, 1) := by decide +kernel
theorem dX8_turnSleep_2 : decode cX8_turnSleep 2 = .ok (.iconst 3, 1) := by decide +kernel
theorem dX8_turnSleep_3 : decode cX8_turnSleep 3 = .ok (.iconst 1, 1) := by decide +kernel
theorem dX8_turnSleep_4 : decode cX8_turnSleep 4 = .ok (.aload_n 0, 1) := by decide +kernel
theorem dX8_turnSleep_5 : decode cX8_turnSleep 5 = .ok (.iload_n 1, 1) := by decide +kernel
theorem dX8_turnSleep_6 : decode cX8_turnSleep 6 = .ok (.iconst 3, 1) := by decide +kernel
theorem dX8_turnSleep_7 : decode cX8_turnSleep 7 = .ok (.invokevirtual 40, 3) := by decide +kernel
theorem dX8_turnSleep_10 : decode cX8_turnSleep 10 = .ok (.isub, 1) := by decide +kernel
theorem dX8_turnSleep_11 : decode cX8_turnSleep 11 = .ok (.invokevirtual 55, 3) := by decide +kernel
theorem dX8_turnSleep_14 : decode cX8_turnSleep 14 = .ok (.aload_n 0, 1) := by decide +kernel
theorem dX8_turnSleep_15 : decode cX8_turnSleep 15 = .ok (.iload_n 1, 1) := by decide +kernel
theorem dX8_turnSleep_16 : decode cX8_turnSleep 16 = .ok (.iconst 3, 1) := by decide +kernel
theorem dX8_turnSleep_17 : decode cX8_turnSleep 17 = .ok (.invokevirtual 40, 3) := by decide +kernel
theorem dX8_turnSleep_20 : decode cX8_turnSleep 20 = .ok (.iconst 1, 1) := by decide +kernel
theorem dX8_turnSleep_21 : decode cX8_turnSleep 21 = .ok (.if_icmp .ne 16, 3) := by decide +kernel
theorem dX8_turnSleep_24 : decode cX8_turnSleep 24 = .ok (.aload_n 0, 1) := by decide +kernel
theorem dX8_turnSleep_25 : decode cX8_turnSleep 25 = .ok (.iload_n 1, 1) := by decide +kernel
theorem dX8_turnSleep_26 : decode cX8_turnSleep 26 = .ok (.invokevirtual 109, 3) := by decide +kernel
theorem dX8_turnSleep_29 : decode cX8_turnSleep 29 = .ok (.ifCond .eq 8, 3) := by decide +kernel
theorem dX8_turnSleep_32 : decode cX8_turnSleep 32 = .ok (.aload_n 0, 1) := by decide +kernel
theorem dX8_turnSleep_33 : decode cX8_turnSleep 33 = .ok (.iload_n 1, 1) := by decide +kernel
theorem dX8_turnSleep_34 : decode cX8_turnSleep 34 = .ok (.invokevirtual 112, 3) := by decide +kernel
theorem dX8_turnSleep_37 : decode cX8_turnSleep 37 = .ok (.aload_n 0, 1) := by decide +kernel
theorem dX8_turnSleep_38 : decode cX8_turnSleep 38 = .ok (.iload_n 1, 1) := by decide +kernel
theorem dX8_turnSleep_39 : decode cX8_turnSleep 39 = .ok (.iconst 3, 1) := by decide +kernel
theorem dX8_turnSleep_40 : decode cX8_turnSleep 40 = .ok (.invokevirtual 40, 3) := by decide +kernel
theorem dX8_turnSleep_43 : decode cX8_turnSleep 43 = .ok (.ireturn, 1) := by decide +kernel
theorem dX8_doze_0 : decode cX8_doze 0 = .ok (.aload_n 0, 1) := by decide +kernel
theorem dX8_doze_1 : decode cX8_doze 1 = .ok (.iload_n 1, 1) := by decide +kernel
theorem dX8_doze_2 : decode cX8_doze 2 = .ok (.invokevirtual 115, 3) := by decide +kernel
theorem dX8_doze_5 : decode cX8_doze 5 = .ok (.istore_n 2, 1) := by decide +kernel
theorem dX8_doze_6 : decode cX8_doze 6 = .ok (.iload_n 2, 1) := by decide +kernel
theorem dX8_doze_7 : decode cX8_doze 7 = .ok (.ifCond .ge 5, 3) := by decide +kernel
theorem dX8_doze_10 : decode cX8_doze 10 = .ok (.iload_n 2, 1) := by decide +kernel
theorem dX8_doze_11 : decode cX8_doze 11 = .ok (.ireturn, 1) := by decide +kernel
theorem dX8_doze_12 : decode cX8_doze 12 = .ok (.aload_n 0, 1) := by decide +kernel
theorem dX8_doze_13 : decode cX8_doze 13 = .ok (.invokevirtual 48, 3) := by decide +kernel
theorem dX8_doze_16 : decode cX8_doze 16 = .ok (.aload_n 0, 1) := by decide +kernel
theorem dX8_doze_17 : decode cX8_doze 17 = .ok (.iload_n 1, 1) := by decide +kernel
theorem dX8_doze_18 : decode cX8_doze 18 = .ok (.invokevirtual 118, 3) := by decide +kernel
theorem dX8_doze_21 : decode cX8_doze 21 = .ok (.ireturn, 1) := by decide +kernel
theorem dX8_begins_0 : decode cX8_begins 0 = .ok (.aload_n 0, 1) := by decide +kernel
theorem dX8_begins_1 : decode cX8_begins 1 = .ok (.iload_n 1, 1) := by decide +kernel
theorem dX8_begins_2 : decode cX8_begins 2 = .ok (.invokevirtual 121, 3) := by decide +kernel
theorem dX8_begins_5 : decode cX8_begins 5 = .ok (.ifCond .eq 43, 3) := by decide +kernel
theorem dX8_begins_8 : decode cX8_begins 8 = .ok (.aload_n 0, 1) := by decide +kernel
theorem dX8_begins_9 : decode cX8_begins 9 = .ok (.iload_n 1, 1) := by decide +kernel
theorem dX8_begins_10 : decode cX8_begins 10 = .ok (.invokevirtual 109, 3) := by decide +kernel
theorem dX8_begins_13 : decode cX8_begins 13 = .ok (.ifCond .ne 35, 3) := by decide +kernel
theorem dX8_begins_16 : decode cX8_begins 16 = .ok (.aload_n 0, 1) := by decide +kernel
theorem dX8_begins_17 : decode cX8_begins 17 = .ok (.iload_n 1, 1) := by decide +kernel
theorem dX8_begins_18 : decode cX8_begins 18 = .ok (.iconst 4, 1) := by decide +kernel
theorem dX8_begins_19 : decode cX8_begins 19 = .ok (.invokevirtual 40, 3) := by decide +kernel
theorem dX8_begins_22 : decode cX8_begins 22 = .ok (.ifCond .le 26, 3) := by decide +kernel
theorem dX8_begins_25 : decode cX8_begins 25 = .ok (.aload_n 0, 1) := by decide +kernel
theorem dX8_begins_26 : decode cX8_begins 26 = .ok (.aload_n 0, 1) := by decide +kernel
theorem dX8_begins_27 : decode cX8_begins 27 = .ok (.iload_n 1, 1) := by decide +kernel
theorem dX8_begins_28 : decode cX8_begins 28 = .ok (.invokevirtual 90, 3) := by decide +kernel
theorem dX8_begins_31 : decode cX8_begins 31 = .ok (.iconst 0, 1) := by decide +kernel
theorem dX8_begins_32 : decode cX8_begins 32 = .ok (.invokevirtual 100, 3) := by decide +kernel
theorem dX8_begins_35 : decode cX8_begins 35 = .ok (.aload_n 0, 1) := by decide +kernel
theorem dX8_begins_36 : decode cX8_begins 36 = .ok (.getfield 7, 3) := by decide +kernel
theorem dX8_begins_39 : decode cX8_begins 39 = .ok (.iconst 0, 1) := by decide +kernel
theorem dX8_begins_40 : decode cX8_begins 40 = .ok (.iaload, 1) := by decide +kernel
theorem dX8_begins_41 : decode cX8_begins 41 = .ok (.if_icmp .lt 7, 3) := by decide +kernel
theorem dX8_begins_44 : decode cX8_begins 44 = .ok (.iconst 1, 1) := by decide +kernel
theorem dX8_begins_45 : decode cX8_begins 45 = .ok (.goto 4, 3) := by decide +kernel
theorem dX8_begins_48 : decode cX8_begins 48 = .ok (.iconst 0, 1) := by decide +kernel
theorem dX8_begins_49 : decode cX8_begins 49 = .ok (.ireturn, 1) := by decide +kernel
theorem dX8_awakeAt_0 : decode cX8_awakeAt 0 = .ok (.iconst 0, 1) := by decide +kernel
theorem dX8_awakeAt_1 : decode cX8_awakeAt 1 = .ok (.istore_n 2, 1) := by decide +kernel
theorem dX8_awakeAt_2 : decode cX8_awakeAt 2 = .ok (.iconst 0, 1) := by decide +kernel
theorem dX8_awakeAt_3 : decode cX8_awakeAt 3 = .ok (.istore_n 3, 1) := by decide +kernel
theorem dX8_awakeAt_4 : decode cX8_awakeAt 4 = .ok (.iload_n 3, 1) := by decide +kernel
theorem dX8_awakeAt_5 : decode cX8_awakeAt 5 = .ok (.aload_n 0, 1) := by decide +kernel
theorem dX8_awakeAt_6 : decode cX8_awakeAt 6 = .ok (.getfield 7, 3) := by decide +kernel
theorem dX8_awakeAt_9 : decode cX8_awakeAt 9 = .ok (.bipush 6, 2) := by decide +kernel
theorem dX8_awakeAt_11 : decode cX8_awakeAt 11 = .ok (.iaload, 1) := by decide +kernel
theorem dX8_awakeAt_12 : decode cX8_awakeAt 12 = .ok (.if_icmp .ge 36, 3) := by decide +kernel
theorem dX8_awakeAt_15 : decode cX8_awakeAt 15 = .ok (.iload_n 2, 1) := by decide +kernel
theorem dX8_awakeAt_16 : decode cX8_awakeAt 16 = .ok (.aload_n 0, 1) := by decide +kernel
theorem dX8_awakeAt_17 : decode cX8_awakeAt 17 = .ok (.iload_n 3, 1) := by decide +kernel
theorem dX8_awakeAt_18 : decode cX8_awakeAt 18 = .ok (.invokevirtual 121, 3) := by decide +kernel
theorem dX8_awakeAt_21 : decode cX8_awakeAt 21 = .ok (.ifCond .eq 18, 3) := by decide +kernel
theorem dX8_awakeAt_24 : decode cX8_awakeAt 24 = .ok (.aload_n 0, 1) := by decide +kernel
theorem dX8_awakeAt_25 : decode cX8_awakeAt 25 = .ok (.iload_n 3, 1) := by decide +kernel
theorem dX8_awakeAt_26 : decode cX8_awakeAt 26 = .ok (.iload_n 1, 1) := by decide +kernel
theorem dX8_awakeAt_27 : decode cX8_awakeAt 27 = .ok (.invokevirtual 73, 3) := by decide +kernel
theorem dX8_awakeAt_30 : decode cX8_awakeAt 30 = .ok (.ifCond .eq 9, 3) := by decide +kernel
theorem dX8_awakeAt_33 : decode cX8_awakeAt 33 = .ok (.iconst 1, 1) := by decide +kernel
theorem dX8_awakeAt_34 : decode cX8_awakeAt 34 = .ok (.iload_n 3, 1) := by decide +kernel
theorem dX8_awakeAt_35 : decode cX8_awakeAt 35 = .ok (.ishl, 1) := by decide +kernel
theorem dX8_awakeAt_36 : decode cX8_awakeAt 36 = .ok (.goto 4, 3) := by decide +kernel
theorem dX8_awakeAt_39 : decode cX8_awakeAt 39 = .ok (.iconst 0, 1) := by decide +kernel
theorem dX8_awakeAt_40 : decode cX8_awakeAt 40 = .ok (.ior, 1) := by decide +kernel
theorem dX8_awakeAt_41 : decode cX8_awakeAt 41 = .ok (.istore_n 2, 1) := by decide +kernel
theorem dX8_awakeAt_42 : decode cX8_awakeAt 42 = .ok (.iinc 3 1, 3) := by decide +kernel
theorem dX8_awakeAt_45 : decode cX8_awakeAt 45 = .ok (.goto (-41), 3) := by decide +kernel
theorem dX8_awakeAt_48 : decode cX8_awakeAt 48 = .ok (.iload_n 2, 1) := by decide +kernel
theorem dX8_awakeAt_49 : decode cX8_awakeAt 49 = .ok (.ireturn, 1) := by decide +kernel
theorem dX8_bitOf_0 : decode cX8_bitOf 0 = .ok (.aload_n 0, 1) := by decide +kernel
theorem dX8_bitOf_1 : decode cX8_bitOf 1 = .ok (.iload_n 1, 1) := by decide +kernel
theorem dX8_bitOf_2 : decode cX8_bitOf 2 = .ok (.bipush 17, 2) := by decide +kernel
theorem dX8_bitOf_4 : decode cX8_bitOf 4 = .ok (.invokevirtual 40, 3) := by decide +kernel
theorem dX8_bitOf_7 : decode cX8_bitOf 7 = .ok (.istore_n 2, 1) := by decide +kernel
theorem dX8_bitOf_8 : decode cX8_bitOf 8 = .ok (.iload_n 2, 1) := by decide +kernel
theorem dX8_bitOf_9 : decode cX8_bitOf 9 = .ok (.iconst 3, 1) := by decide +kernel
theorem dX8_bitOf_10 : decode cX8_bitOf 10 = .ok (.if_icmp .ge 13, 3) := by decide +kernel
theorem dX8_bitOf_13 : decode cX8_bitOf 13 = .ok (.iload_n 1, 1) := by decide +kernel
theorem dX8_bitOf_14 : decode cX8_bitOf 14 = .ok (.iconst 2, 1) := by decide +kernel
theorem dX8_bitOf_15 : decode cX8_bitOf 15 = .ok (.iload_n 2, 1) := by decide +kernel
theorem dX8_bitOf_16 : decode cX8_bitOf 16 = .ok (.isub, 1) := by decide +kernel
theorem dX8_bitOf_17 : decode cX8_bitOf 17 = .ok (.ishr, 1) := by decide +kernel
theorem dX8_bitOf_18 : decode cX8_bitOf 18 = .ok (.iconst 1, 1) := by decide +kernel
theorem dX8_bitOf_19 : decode cX8_bitOf 19 = .ok (.iand, 1) := by decide +kernel
theorem dX8_bitOf_20 : decode cX8_bitOf 20 = .ok (.goto 16, 3) := by decide +kernel
theorem dX8_bitOf_23 : decode cX8_bitOf 23 = .ok (.aload_n 0, 1) := by decide +kernel
theorem dX8_bitOf_24 : decode cX8_bitOf 24 = .ok (.iload_n 1, 1) := by decide +kernel
theorem dX8_bitOf_25 : decode cX8_bitOf 25 = .ok (.iconst 5, 1) := by decide +kernel
theorem dX8_bitOf_26 : decode cX8_bitOf 26 = .ok (.invokevirtual 40, 3) := by decide +kernel
theorem dX8_bitOf_29 : decode cX8_bitOf 29 = .ok (.bipush 10, 2) := by decide +kernel
theorem dX8_bitOf_31 : decode cX8_bitOf 31 = .ok (.iload_n 2, 1) := by decide +kernel
theorem dX8_bitOf_32 : decode cX8_bitOf 32 = .ok (.isub, 1) := by decide +kernel
theorem dX8_bitOf_33 : decode cX8_bitOf 33 = .ok (.ishr, 1) := by decide +kernel
theorem dX8_bitOf_34 : decode cX8_bitOf 34 = .ok (.iconst 1, 1) := by decide +kernel
theorem dX8_bitOf_35 : decode cX8_bitOf 35 = .ok (.iand, 1) := by decide +kernel
theorem dX8_bitOf_36 : decode cX8_bitOf 36 = .ok (.ireturn, 1) := by decide +kernel
theorem dX8_begin_0 : decode cX8_begin 0 = .ok (.iconst 0, 1) := by decide +kernel
theorem dX8_begin_1 : decode cX8_begin 1 = .ok (.istore_n 1, 1) := by decide +kernel
theorem dX8_begin_2 : decode cX8_begin 2 = .ok (.iload_n 1, 1) := by decide +kernel
theorem dX8_begin_3 : decode cX8_begin 3 = .ok (.aload_n 0, 1) := by decide +kernel
theorem dX8_begin_4 : decode cX8_begin 4 = .ok (.getfield 7, 3) := by decide +kernel
theorem dX8_begin_7 : decode cX8_begin 7 = .ok (.bipush 6, 2) := by decide +kernel
theorem dX8_begin_9 : decode cX8_begin 9 = .ok (.iaload, 1) := by decide +kernel
theorem dX8_begin_10 : decode cX8_begin 10 = .ok (.if_icmp .ge 41, 3) := by decide +kernel
theorem dX8_begin_13 : decode cX8_begin 13 = .ok (.aload_n 0, 1) := by decide +kernel
theorem dX8_begin_14 : decode cX8_begin 14 = .ok (.iload_n 1, 1) := by decide +kernel
theorem dX8_begin_15 : decode cX8_begin 15 = .ok (.invokevirtual 124, 3) := by decide +kernel
theorem dX8_begin_18 : decode cX8_begin 18 = .ok (.ifCond .eq 27, 3) := by decide +kernel
theorem dX8_begin_21 : decode cX8_begin 21 = .ok (.aload_n 0, 1) := by decide +kernel
theorem dX8_begin_22 : decode cX8_begin 22 = .ok (.iload_n 1, 1) := by decide +kernel
theorem dX8_begin_23 : decode cX8_begin 23 = .ok (.bipush 17, 2) := by decide +kernel
theorem dX8_begin_25 : decode cX8_begin 25 = .ok (.iconst 0, 1) := by decide +kernel
theorem dX8_begin_26 : decode cX8_begin 26 = .ok (.invokevirtual 55, 3) := by decide +kernel
theorem dX8_begin_29 : decode cX8_begin 29 = .ok (.aload_n 0, 1) := by decide +kernel
theorem dX8_begin_30 : decode cX8_begin 30 = .ok (.iload_n 1, 1) := by decide +kernel
theorem dX8_begin_31 : decode cX8_begin 31 = .ok (.bipush 18, 2) := by decide +kernel
theorem dX8_begin_33 : decode cX8_begin 33 = .ok (.aload_n 0, 1) := by decide +kernel
theorem dX8_begin_34 : decode cX8_begin 34 = .ok (.aload_n 0, 1) := by decide +kernel
theorem dX8_begin_35 : decode cX8_begin 35 = .ok (.iload_n 1, 1) := by decide +kernel
theorem dX8_begin_36 : decode cX8_begin 36 = .ok (.invokevirtual 90, 3) := by decide +kernel
theorem dX8_begin_39 : decode cX8_begin 39 = .ok (.invokevirtual 127, 3) := by decide +kernel
theorem dX8_begin_42 : decode cX8_begin 42 = .ok (.invokevirtual 55, 3) := by decide +kernel
theorem dX8_begin_45 : decode cX8_begin 45 = .ok (.iinc 1 1, 3) := by decide +kernel
theorem dX8_begin_48 : decode cX8_begin 48 = .ok (.goto (-46), 3) := by decide +kernel
theorem dX8_begin_51 : decode cX8_begin 51 = .ok (.return_, 1) := by decide +kernel
theorem dX8_pull_0 : decode cX8_pull 0 = .ok (.iconst 0, 1) := by decide +kernel
theorem dX8_pull_1 : decode cX8_pull 1 = .ok (.istore_n 1, 1) := by decide +kernel
theorem dX8_pull_2 : decode cX8_pull 2 = .ok (.iload_n 1, 1) := by decide +kernel
theorem dX8_pull_3 : decode cX8_pull 3 = .ok (.bipush 6, 2) := by decide +kernel
theorem dX8_pull_5 : decode cX8_pull 5 = .ok (.if_icmp .ge 30, 3) := by decide +kernel
theorem dX8_pull_8 : decode cX8_pull 8 = .ok (.aload_n 0, 1) := by decide +kernel
theorem dX8_pull_9 : decode cX8_pull 9 = .ok (.getfield 30, 3) := by decide +kernel
theorem dX8_pull_12 : decode cX8_pull 12 = .ok (.iload_n 1, 1) := by decide +kernel
theorem dX8_pull_13 : decode cX8_pull 13 = .ok (.aload_n 0, 1) := by decide +kernel
theorem dX8_pull_14 : decode cX8_pull 14 = .ok (.iload_n 1, 1) := by decide +kernel
theorem dX8_pull_15 : decode cX8_pull 15 = .ok (.iconst 1, 1) := by decide +kernel
theorem dX8_pull_16 : decode cX8_pull 16 = .ok (.invokevirtual 100, 3) := by decide +kernel
theorem dX8_pull_19 : decode cX8_pull 19 = .ok (.iconst 1, 1) := by decide +kernel
theorem dX8_pull_20 : decode cX8_pull 20 = .ok (.if_icmp .ne 7, 3) := by decide +kernel
theorem dX8_pull_23 : decode cX8_pull 23 = .ok (.iconst 1, 1) := by decide +kernel
theorem dX8_pull_24 : decode cX8_pull 24 = .ok (.goto 4, 3) := by decide +kernel
theorem dX8_pull_27 : decode cX8_pull 27 = .ok (.iconst 0, 1) := by decide +kernel
theorem dX8_pull_28 : decode cX8_pull 28 = .ok (.bastore, 1) := by decide +kernel
theorem dX8_pull_29 : decode cX8_pull 29 = .ok (.iinc 1 1, 3) := by decide +kernel
theorem dX8_pull_32 : decode cX8_pull 32 = .ok (.goto (-30), 3) := by decide +kernel
theorem dX8_pull_35 : decode cX8_pull 35 = .ok (.iconst 0, 1) := by decide +kernel
theorem dX8_pull_36 : decode cX8_pull 36 = .ok (.istore_n 1, 1) := by decide +kernel
theorem dX8_pull_37 : decode cX8_pull 37 = .ok (.iload_n 1, 1) := by decide +kernel
theorem dX8_pull_38 : decode cX8_pull 38 = .ok (.aload_n 0, 1) := by decide +kernel
theorem dX8_pull_39 : decode cX8_pull 39 = .ok (.getfield 7, 3) := by decide +kernel
theorem dX8_pull_42 : decode cX8_pull 42 = .ok (.bipush 6, 2) := by decide +kernel
theorem dX8_pull_44 : decode cX8_pull 44 = .ok (.iaload, 1) := by decide +kernel
theorem dX8_pull_45 : decode cX8_pull 45 = .ok (.if_icmp .ge 36, 3) := by decide +kernel
theorem dX8_pull_48 : decode cX8_pull 48 = .ok (.aload_n 0, 1) := by decide +kernel
theorem dX8_pull_49 : decode cX8_pull 49 = .ok (.iload_n 1, 1) := by decide +kernel
theorem dX8_pull_50 : decode cX8_pull 50 = .ok (.invokevirtual 109, 3) := by decide +kernel
theorem dX8_pull_53 : decode cX8_pull 53 = .ok (.ifCond .eq 22, 3) := by decide +kernel
theorem dX8_pull_56 : decode cX8_pull 56 = .ok (.aload_n 0, 1) := by decide +kernel
theorem dX8_pull_57 : decode cX8_pull 57 = .ok (.iload_n 1, 1) := by decide +kernel
theorem dX8_pull_58 : decode cX8_pull 58 = .ok (.invokevirtual 130, 3) := by decide +kernel
theorem dX8_pull_61 : decode cX8_pull 61 = .ok (.ifCond .ne 14, 3) := by decide +kernel
theorem dX8_pull_64 : decode cX8_pull 64 = .ok (.aload_n 0, 1) := by decide +kernel
theorem dX8_pull_65 : decode cX8_pull 65 = .ok (.getfield 30, 3) := by decide +kernel
theorem dX8_pull_68 : decode cX8_pull 68 = .ok (.aload_n 0, 1) := by decide +kernel
theorem dX8_pull_69 : decode cX8_pull 69 = .ok (.iload_n 1, 1) := by decide +kernel
theorem dX8_pull_70 : decode cX8_pull 70 = .ok (.invokevirtual 90, 3) := by decide +kernel
theorem dX8_pull_73 : decode cX8_pull 73 = .ok (.iconst 1, 1) := by decide +kernel
theorem dX8_pull_74 : decode cX8_pull 74 = .ok (.bastore, 1) := by decide +kernel
theorem dX8_pull_75 : decode cX8_pull 75 = .ok (.iinc 1 1, 3) := by decide +kernel
theorem dX8_pull_78 : decode cX8_pull 78 = .ok (.goto (-41), 3) := by decide +kernel
theorem dX8_pull_81 : decode cX8_pull 81 = .ok (.return_, 1) := by decide +kernel
theorem dX8_allAwake_0 : decode cX8_allAwake 0 = .ok (.iconst 1, 1) := by decide +kernel
theorem dX8_allAwake_1 : decode cX8_allAwake 1 = .ok (.istore_n 2, 1) := by decide +kernel
theorem dX8_allAwake_2 : decode cX8_allAwake 2 = .ok (.iconst 0, 1) := by decide +kernel
theorem dX8_allAwake_3 : decode cX8_allAwake 3 = .ok (.istore_n 3, 1) := by decide +kernel
theorem dX8_allAwake_4 : decode cX8_allAwake 4 = .ok (.iload_n 3, 1) := by decide +kernel
theorem dX8_allAwake_5 : decode cX8_allAwake 5 = .ok (.aload_n 0, 1) := by decide +kernel
theorem dX8_allAwake_6 : decode cX8_allAwake 6 = .ok (.getfield 7, 3) := by decide +kernel
theorem dX8_allAwake_9 : decode cX8_allAwake 9 = .ok (.bipush 6, 2) := by decide +kernel
theorem dX8_allAwake_11 : decode cX8_allAwake 11 = .ok (.iaload, 1) := by decide +kernel
theorem dX8_allAwake_12 : decode cX8_allAwake 12 = .ok (.if_icmp .ge 35, 3) := by decide +kernel
theorem dX8_allAwake_15 : decode cX8_allAwake 15 = .ok (.iload_n 2, 1) := by decide +kernel
theorem dX8_allAwake_16 : decode cX8_allAwake 16 = .ok (.ifCond .eq 23, 3) := by decide +kernel
theorem dX8_allAwake_19 : decode cX8_allAwake 19 = .ok (.iload_n 1, 1) := by decide +kernel
theorem dX8_allAwake_20 : decode cX8_allAwake 20 = .ok (.iload_n 3, 1) := by decide +kernel
theorem dX8_allAwake_21 : decode cX8_allAwake 21 = .ok (.ishr, 1) := by decide +kernel
theorem dX8_allAwake_22 : decode cX8_allAwake 22 = .ok (.iconst 1, 1) := by decide +kernel
theorem dX8_allAwake_23 : decode cX8_allAwake 23 = .ok (.iand, 1) := by decide +kernel
theorem dX8_allAwake_24 : decode cX8_allAwake 24 = .ok (.ifCond .eq 11, 3) := by decide +kernel
theorem dX8_allAwake_27 : decode cX8_allAwake 27 = .ok (.aload_n 0, 1) := by decide +kernel
theorem dX8_allAwake_28 : decode cX8_allAwake 28 = .ok (.iload_n 3, 1) := by decide +kernel
theorem dX8_allAwake_29 : decode cX8_allAwake 29 = .ok (.invokevirtual 121, 3) := by decide +kernel
theorem dX8_allAwake_32 : decode cX8_allAwake 32 = .ok (.ifCond .eq 7, 3) := by decide +kernel
theorem dX8_allAwake_35 : decode cX8_allAwake 35 = .ok (.iconst 1, 1) := by decide +kernel
theorem dX8_allAwake_36 : decode cX8_allAwake 36 = .ok (.goto 4, 3) := by decide +kernel
theorem dX8_allAwake_39 : decode cX8_allAwake 39 = .ok (.iconst 0, 1) := by decide +kernel
theorem dX8_allAwake_40 : decode cX8_allAwake 40 = .ok (.istore_n 2, 1) := by decide +kernel
theorem dX8_allAwake_41 : decode cX8_allAwake 41 = .ok (.iinc 3 1, 3) := by decide +kernel
theorem dX8_allAwake_44 : decode cX8_allAwake 44 = .ok (.goto (-40), 3) := by decide +kernel
theorem dX8_allAwake_47 : decode cX8_allAwake 47 = .ok (.iload_n 2, 1) := by decide +kernel
theorem dX8_allAwake_48 : decode cX8_allAwake 48 = .ok (.ireturn, 1) := by decide +kernel
theorem dX8_hears_0 : decode cX8_hears 0 = .ok (.aload_n 0, 1) := by decide +kernel
theorem dX8_hears_1 : decode cX8_hears 1 = .ok (.iload_n 1, 1) := by decide +kernel
theorem dX8_hears_2 : decode cX8_hears 2 = .ok (.bipush 21, 2) := by decide +kernel
theorem dX8_hears_4 : decode cX8_hears 4 = .ok (.iconst 1, 1) := by decide +kernel
theorem dX8_hears_5 : decode cX8_hears 5 = .ok (.invokevirtual 76, 3) := by decide +kernel
theorem dX8_hears_8 : decode cX8_hears 8 = .ok (.aload_n 0, 1) := by decide +kernel
theorem dX8_hears_9 : decode cX8_hears 9 = .ok (.iload_n 1, 1) := by decide +kernel
theorem dX8_hears_10 : decode cX8_hears 10 = .ok (.bipush 23, 2) := by decide +kernel
theorem dX8_hears_12 : decode cX8_hears 12 = .ok (.aload_n 0, 1) := by decide +kernel
theorem dX8_hears_13 : decode cX8_hears 13 = .ok (.iload_n 1, 1) := by decide +kernel
theorem dX8_hears_14 : decode cX8_hears 14 = .ok (.bipush 23, 2) := by decide +kernel
theorem dX8_hears_16 : decode cX8_hears 16 = .ok (.invokevirtual 40, 3) := by decide +kernel
theorem dX8_hears_19 : decode cX8_hears 19 = .ok (.iconst 4, 1) := by decide +kernel
theorem dX8_hears_20 : decode cX8_hears 20 = .ok (.if_icmp .ge 7, 3) := by decide +kernel
theorem dX8_hears_23 : decode cX8_hears 23 = .ok (.iconst 1, 1) := by decide +kernel
theorem dX8_hears_24 : decode cX8_hears 24 = .ok (.goto 4, 3) := by decide +kernel
theorem dX8_hears_27 : decode cX8_hears 27 = .ok (.iconst 0, 1) := by decide +kernel
theorem dX8_hears_28 : decode cX8_hears 28 = .ok (.invokevirtual 76, 3) := by decide +kernel
theorem dX8_hears_31 : decode cX8_hears 31 = .ok (.bipush 24, 2) := by decide +kernel
theorem dX8_hears_33 : decode cX8_hears 33 = .ok (.iconst 4, 1) := by decide +kernel
theorem dX8_hears_34 : decode cX8_hears 34 = .ok (.aload_n 0, 1) := by decide +kernel
theorem dX8_hears_35 : decode cX8_hears 35 = .ok (.iload_n 1, 1) := by decide +kernel
theorem dX8_hears_36 : decode cX8_hears 36 = .ok (.bipush 23, 2) := by decide +kernel
theorem dX8_hears_38 : decode cX8_hears 38 = .ok (.invokevirtual 40, 3) := by decide +kernel
theorem dX8_hears_41 : decode cX8_hears 41 = .ok (.imul, 1) := by decide +kernel
theorem dX8_hears_42 : decode cX8_hears 42 = .ok (.iadd, 1) := by decide +kernel
theorem dX8_hears_43 : decode cX8_hears 43 = .ok (.iconst 1, 1) := by decide +kernel
theorem dX8_hears_44 : decode cX8_hears 44 = .ok (.isub, 1) := by decide +kernel
theorem dX8_hears_45 : decode cX8_hears 45 = .ok (.istore_n 3, 1) := by decide +kernel
theorem dX8_hears_46 : decode cX8_hears 46 = .ok (.iload_n 3, 1) := by decide +kernel
theorem dX8_hears_47 : decode cX8_hears 47 = .ok (.bipush 28, 2) := by decide +kernel
theorem dX8_hears_49 : decode cX8_hears 49 = .ok (.if_icmp .lt 23, 3) := by decide +kernel
theorem dX8_hears_52 : decode cX8_hears 52 = .ok (.aload_n 0, 1) := by decide +kernel
theorem dX8_hears_53 : decode cX8_hears 53 = .ok (.iload_n 1, 1) := by decide +kernel
theorem dX8_hears_54 : decode cX8_hears 54 = .ok (.iload_n 3, 1) := by decide +kernel
theorem dX8_hears_55 : decode cX8_hears 55 = .ok (.aload_n 0, 1) := by decide +kernel
theorem dX8_hears_56 : decode cX8_hears 56 = .ok (.iload_n 1, 1) := by decide +kernel
theorem dX8_hears_57 : decode cX8_hears 57 = .ok (.iload_n 3, 1) := by decide +kernel
theorem dX8_hears_58 : decode cX8_hears 58 = .ok (.iconst 4, 1) := by decide +kernel
theorem dX8_hears_59 : decode cX8_hears 59 = .ok (.isub, 1) := by decide +kernel
theorem dX8_hears_60 : decode cX8_hears 60 = .ok (.invokevirtual 40, 3) := by decide +kernel
theorem dX8_hears_63 : decode cX8_hears 63 = .ok (.invokevirtual 55, 3) := by decide +kernel
theorem dX8_hears_66 : decode cX8_hears 66 = .ok (.iinc 3 (-1), 3) := by decide +kernel
theorem dX8_hears_69 : decode cX8_hears 69 = .ok (.goto (-23), 3) := by decide +kernel
theorem dX8_hears_72 : decode cX8_hears 72 = .ok (.aload_n 0, 1) := by decide +kernel
theorem dX8_hears_73 : decode cX8_hears 73 = .ok (.iload_n 1, 1) := by decide +kernel
theorem dX8_hears_74 : decode cX8_hears 74 = .ok (.bipush 24, 2) := by decide +kernel
theorem dX8_hears_76 : decode cX8_hears 76 = .ok (.aload_n 0, 1) := by decide +kernel
theorem dX8_hears_77 : decode cX8_hears 77 = .ok (.iload_n 2, 1) := by decide +kernel
theorem dX8_hears_78 : decode cX8_hears 78 = .ok (.iconst 5, 1) := by decide +kernel
theorem dX8_hears_79 : decode cX8_hears 79 = .ok (.invokevirtual 40, 3) := by decide +kernel
theorem dX8_hears_82 : decode cX8_hears 82 = .ok (.invokevirtual 55, 3) := by decide +kernel
theorem dX8_hears_85 : decode cX8_hears 85 = .ok (.aload_n 0, 1) := by decide +kernel
theorem dX8_hears_86 : decode cX8_hears 86 = .ok (.iload_n 1, 1) := by decide +kernel
theorem dX8_hears_87 : decode cX8_hears 87 = .ok (.bipush 25, 2) := by decide +kernel
theorem dX8_hears_89 : decode cX8_hears 89 = .ok (.iload_n 2, 1) := by decide +kernel
theorem dX8_hears_90 : decode cX8_hears 90 = .ok (.invokevirtual 55, 3) := by decide +kernel
theorem dX8_hears_93 : decode cX8_hears 93 = .ok (.aload_n 0, 1) := by decide +kernel
theorem dX8_hears_94 : decode cX8_hears 94 = .ok (.iload_n 1, 1) := by decide +kernel
theorem dX8_hears_95 : decode cX8_hears 95 = .ok (.bipush 26, 2) := by decide +kernel
theorem dX8_hears_97 : decode cX8_hears 97 = .ok (.aload_n 0, 1) := by decide +kernel
theorem dX8_hears_98 : decode cX8_hears 98 = .ok (.iload_n 2, 1) := by decide +kernel
theorem dX8_hears_99 : decode cX8_hears 99 = .ok (.invokevirtual 90, 3) := by decide +kernel
theorem dX8_hears_102 : decode cX8_hears 102 = .ok (.invokevirtual 55, 3) := by decide +kernel
theorem dX8_hears_105 : decode cX8_hears 105 = .ok (.aload_n 0, 1) := by decide +kernel
theorem dX8_hears_106 : decode cX8_hears 106 = .ok (.iload_n 1, 1) := by decide +kernel
theorem dX8_hears_107 : decode cX8_hears 107 = .ok (.bipush 27, 2) := by decide +kernel
theorem dX8_hears_109 : decode cX8_hears 109 = .ok (.aload_n 0, 1) := by decide +kernel
theorem dX8_hears_110 : decode cX8_hears 110 = .ok (.getfield 7, 3) := by decide +kernel
theorem dX8_hears_113 : decode cX8_hears 113 = .ok (.iconst 5, 1) := by decide +kernel
theorem dX8_hears_114 : decode cX8_hears 114 = .ok (.iaload, 1) := by decide +kernel
theorem dX8_hears_115 : decode cX8_hears 115 = .ok (.invokevirtual 55, 3) := by decide +kernel
theorem dX8_hears_118 : decode cX8_hears 118 = .ok (.return_, 1) := by decide +kernel
theorem dX8_goesOn_0 : decode cX8_goesOn 0 = .ok (.aload_n 0, 1) := by decide +kernel
theorem dX8_goesOn_1 : decode cX8_goesOn 1 = .ok (.iload_n 1, 1) := by decide +kernel
theorem dX8_goesOn_2 : decode cX8_goesOn 2 = .ok (.bipush 17, 2) := by decide +kernel
theorem dX8_goesOn_4 : decode cX8_goesOn 4 = .ok (.invokevirtual 40, 3) := by decide +kernel
theorem dX8_goesOn_7 : decode cX8_goesOn 7 = .ok (.bipush 10, 2) := by decide +kernel
theorem dX8_goesOn_9 : decode cX8_goesOn 9 = .ok (.if_icmp .ne 7, 3) := by decide +kernel
theorem dX8_goesOn_12 : decode cX8_goesOn 12 = .ok (.iconst 1, 1) := by decide +kernel
theorem dX8_goesOn_13 : decode cX8_goesOn 13 = .ok (.goto 4, 3) := by decide +kernel
theorem dX8_goesOn_16 : decode cX8_goesOn 16 = .ok (.iconst 0, 1) := by decide +kernel
theorem dX8_goesOn_17 : decode cX8_goesOn 17 = .ok (.istore_n 2, 1) := by decide +kernel
theorem dX8_goesOn_18 : decode cX8_goesOn 18 = .ok (.aload_n 0, 1) := by decide +kernel
theorem dX8_goesOn_19 : decode cX8_goesOn 19 = .ok (.iload_n 1, 1) := by decide +kernel
theorem dX8_goesOn_20 : decode cX8_goesOn 20 = .ok (.invokevirtual 130, 3) := by decide +kernel
theorem dX8_goesOn_23 : decode cX8_goesOn 23 = .ok (.iconst 1, 1) := by decide +kernel
theorem dX8_goesOn_24 : decode cX8_goesOn 24 = .ok (.if_icmp .ne 16, 3) := by decide +kernel
theorem dX8_goesOn_27 : decode cX8_goesOn 27 = .ok (.aload_n 0, 1) := by decide +kernel
theorem dX8_goesOn_28 : decode cX8_goesOn 28 = .ok (.getfield 30, 3) := by decide +kernel
theorem dX8_goesOn_31 : decode cX8_goesOn 31 = .ok (.aload_n 0, 1) := by decide +kernel
theorem dX8_goesOn_32 : decode cX8_goesOn 32 = .ok (.iload_n 1, 1) := by decide +kernel
theorem dX8_goesOn_33 : decode cX8_goesOn 33 = .ok (.invokevirtual 90, 3) := by decide +kernel
theorem dX8_goesOn_36 : decode cX8_goesOn 36 = .ok (.baload, 1) := by decide +kernel
theorem dX8_goesOn_37 : decode cX8_goesOn 37 = .ok (.ifCond .ne 21, 3) := by decide +kernel
theorem dX8_goesOn_40 : decode cX8_goesOn 40 = .ok (.iload_n 2, 1) := by decide +kernel
theorem dX8_goesOn_41 : decode cX8_goesOn 41 = .ok (.ifCond .eq 24, 3) := by decide +kernel
theorem dX8_goesOn_44 : decode cX8_goesOn 44 = .ok (.aload_n 0, 1) := by decide +kernel
theorem dX8_goesOn_45 : decode cX8_goesOn 45 = .ok (.aload_n 0, 1) := by decide +kernel
theorem dX8_goesOn_46 : decode cX8_goesOn 46 = .ok (.iload_n 1, 1) := by decide +kernel
theorem dX8_goesOn_47 : decode cX8_goesOn 47 = .ok (.bipush 18, 2) := by decide +kernel
theorem dX8_goesOn_49 : decode cX8_goesOn 49 = .ok (.invokevirtual 40, 3) := by decide +kernel
theorem dX8_goesOn_52 : decode cX8_goesOn 52 = .ok (.invokevirtual 133, 3) := by decide +kernel
theorem dX8_goesOn_55 : decode cX8_goesOn 55 = .ok (.ifCond .ne 10, 3) := by decide +kernel
theorem dX8_goesOn_58 : decode cX8_goesOn 58 = .ok (.aload_n 0, 1) := by decide +kernel
theorem dX8_goesOn_59 : decode cX8_goesOn 59 = .ok (.iload_n 1, 1) := by decide +kernel
theorem dX8_goesOn_60 : decode cX8_goesOn 60 = .ok (.invokevirtual 112, 3) := by decide +kernel
theorem dX8_goesOn_63 : decode cX8_goesOn 63 = .ok (.iconst 0, 1) := by decide +kernel
theorem dX8_goesOn_64 : decode cX8_goesOn 64 = .ok (.ireturn, 1) := by decide +kernel
theorem dX8_goesOn_65 : decode cX8_goesOn 65 = .ok (.iload_n 2, 1) := by decide +kernel
theorem dX8_goesOn_66 : decode cX8_goesOn 66 = .ok (.ifCond .ne 13, 3) := by decide +kernel
theorem dX8_goesOn_69 : decode cX8_goesOn 69 = .ok (.aload_n 0, 1) := by decide +kernel
theorem dX8_goesOn_70 : decode cX8_goesOn 70 = .ok (.iload_n 1, 1) := by decide +kernel
theorem dX8_goesOn_71 : decode cX8_goesOn 71 = .ok (.bipush 17, 2) := by decide +kernel
theorem dX8_goesOn_73 : decode cX8_goesOn 73 = .ok (.iconst 1, 1) := by decide +kernel
theorem dX8_goesOn_74 : decode cX8_goesOn 74 = .ok (.invokevirtual 76, 3) := by decide +kernel
theorem dX8_goesOn_77 : decode cX8_goesOn 77 = .ok (.iconst 0, 1) := by decide +kernel
theorem dX8_goesOn_78 : decode cX8_goesOn 78 = .ok (.ireturn, 1) := by decide +kernel
theorem dX8_goesOn_79 : decode cX8_goesOn 79 = .ok (.iconst 0, 1) := by decide +kernel
theorem dX8_goesOn_80 : decode cX8_goesOn 80 = .ok (.istore_n 3, 1) := by decide +kernel
theorem dX8_goesOn_81 : decode cX8_goesOn 81 = .ok (.iload_n 3, 1) := by decide +kernel
theorem dX8_goesOn_82 : decode cX8_goesOn 82 = .ok (.aload_n 0, 1) := by decide +kernel
theorem dX8_goesOn_83 : decode cX8_goesOn 83 = .ok (.getfield 7, 3) := by decide +kernel
theorem dX8_goesOn_86 : decode cX8_goesOn 86 = .ok (.bipush 6, 2) := by decide +kernel
theorem dX8_goesOn_88 : decode cX8_goesOn 88 = .ok (.iaload, 1) := by decide +kernel
theorem dX8_goesOn_89 : decode cX8_goesOn 89 = .ok (.if_icmp .ge 35, 3) := by decide +kernel
theorem dX8_goesOn_92 : decode cX8_goesOn 92 = .ok (.iload_n 3, 1) := by decide +kernel
theorem dX8_goesOn_93 : decode cX8_goesOn 93 = .ok (.iload_n 1, 1) := by decide +kernel
theorem dX8_goesOn_94 : decode cX8_goesOn 94 = .ok (.if_icmp .eq 24, 3) := by decide +kernel
theorem dX8_goesOn_97 : decode cX8_goesOn 97 = .ok (.aload_n 0, 1) := by decide +kernel
theorem dX8_goesOn_98 : decode cX8_goesOn 98 = .ok (.iload_n 1, 1) := by decide +kernel
theorem dX8_goesOn_99 : decode cX8_goesOn 99 = .ok (.bipush 18, 2) := by decide +kernel
theorem dX8_goesOn_101 : decode cX8_goesOn 101 = .ok (.invokevirtual 40, 3) := by decide +kernel
theorem dX8_goesOn_104 : decode cX8_goesOn 104 = .ok (.iload_n 3, 1) := by decide +kernel
theorem dX8_goesOn_105 : decode cX8_goesOn 105 = .ok (.ishr, 1) := by decide +kernel
theorem dX8_goesOn_106 : decode cX8_goesOn 106 = .ok (.iconst 1, 1) := by decide +kernel
theorem dX8_goesOn_107 : decode cX8_goesOn 107 = .ok (.iand, 1) := by decide +kernel
theorem dX8_goesOn_108 : decode cX8_goesOn 108 = .ok (.iconst 1, 1) := by decide +kernel
theorem dX8_goesOn_109 : decode cX8_goesOn 109 = .ok (.if_icmp .ne 9, 3) := by decide +kernel
theorem dX8_goesOn_112 : decode cX8_goesOn 112 = .ok (.aload_n 0, 1) := by decide +kernel
theorem dX8_goesOn_113 : decode cX8_goesOn 113 = .ok (.iload_n 3, 1) := by decide +kernel
theorem dX8_goesOn_114 : decode cX8_goesOn 114 = .ok (.iload_n 1, 1) := by decide +kernel
theorem dX8_goesOn_115 : decode cX8_goesOn 115 = .ok (.invokevirtual 136, 3) := by decide +kernel
theorem dX8_goesOn_118 : decode cX8_goesOn 118 = .ok (.iinc 3 1, 3) := by decide +kernel
theorem dX8_goesOn_121 : decode cX8_goesOn 121 = .ok (.goto (-40), 3) := by decide +kernel
theorem dX8_goesOn_124 : decode cX8_goesOn 124 = .ok (.aload_n 0, 1) := by decide +kernel
theorem dX8_goesOn_125 : decode cX8_goesOn 125 = .ok (.iload_n 1, 1) := by decide +kernel
theorem dX8_goesOn_126 : decode cX8_goesOn 126 = .ok (.bipush 19, 2) := by decide +kernel
theorem dX8_goesOn_128 : decode cX8_goesOn 128 = .ok (.iconst 1, 1) := by decide +kernel
theorem dX8_goesOn_129 : decode cX8_goesOn 129 = .ok (.invokevirtual 76, 3) := by decide +kernel
theorem dX8_goesOn_132 : decode cX8_goesOn 132 = .ok (.aload_n 0, 1) := by decide +kernel
theorem dX8_goesOn_133 : decode cX8_goesOn 133 = .ok (.aload_n 0, 1) := by decide +kernel
theorem dX8_goesOn_134 : decode cX8_goesOn 134 = .ok (.iload_n 1, 1) := by decide +kernel
theorem dX8_goesOn_135 : decode cX8_goesOn 135 = .ok (.invokevirtual 90, 3) := by decide +kernel
theorem dX8_goesOn_138 : decode cX8_goesOn 138 = .ok (.iconst 2, 1) := by decide +kernel
theorem dX8_goesOn_139 : decode cX8_goesOn 139 = .ok (.invokevirtual 93, 3) := by decide +kernel
theorem dX8_goesOn_142 : decode cX8_goesOn 142 = .ok (.aload_n 0, 1) := by decide +kernel
theorem dX8_goesOn_143 : decode cX8_goesOn 143 = .ok (.iload_n 1, 1) := by decide +kernel
theorem dX8_goesOn_144 : decode cX8_goesOn 144 = .ok (.invokevirtual 97, 3) := by decide +kernel
theorem dX8_goesOn_147 : decode cX8_goesOn 147 = .ok (.iconst 1, 1) := by decide +kernel
theorem dX8_goesOn_148 : decode cX8_goesOn 148 = .ok (.ireturn, 1) := by decide +kernel
theorem dX8_charge_0 : decode cX8_charge 0 = .ok (.iconst 0, 1) := by decide +kernel
theorem dX8_charge_1 : decode cX8_charge 1 = .ok (.istore_n 2, 1) := by decide +kernel
theorem dX8_charge_2 : decode cX8_charge 2 = .ok (.iconst 0, 1) := by decide +kernel
theorem dX8_charge_3 : decode cX8_charge 3 = .ok (.istore_n 3, 1) := by decide +kernel
theorem dX8_charge_4 : decode cX8_charge 4 = .ok (.iload_n 3, 1) := by decide +kernel
theorem dX8_charge_5 : decode cX8_charge 5 = .ok (.bipush 6, 2) := by decide +kernel
theorem dX8_charge_7 : decode cX8_charge 7 = .ok (.if_icmp .ge 35, 3) := by decide +kernel
theorem dX8_charge_10 : decode cX8_charge 10 = .ok (.iload_n 2, 1) := by decide +kernel
theorem dX8_charge_11 : decode cX8_charge 11 = .ok (.aload_n 0, 1) := by decide +kernel
theorem dX8_charge_12 : decode cX8_charge 12 = .ok (.iload_n 1, 1) := by decide +kernel
theorem dX8_charge_13 : decode cX8_charge 13 = .ok (.iload_n 3, 1) := by decide +kernel
theorem dX8_charge_14 : decode cX8_charge 14 = .ok (.invokevirtual 73, 3) := by decide +kernel
theorem dX8_charge_17 : decode cX8_charge 17 = .ok (.ifCond .eq 16, 3) := by decide +kernel
theorem dX8_charge_20 : decode cX8_charge 20 = .ok (.aload_n 0, 1) := by decide +kernel
theorem dX8_charge_21 : decode cX8_charge 21 = .ok (.getfield 30, 3) := by decide +kernel
theorem dX8_charge_24 : decode cX8_charge 24 = .ok (.iload_n 3, 1) := by decide +kernel
theorem dX8_charge_25 : decode cX8_charge 25 = .ok (.baload, 1) := by decide +kernel
theorem dX8_charge_26 : decode cX8_charge 26 = .ok (.ifCond .ne 7, 3) := by decide +kernel
theorem dX8_charge_29 : decode cX8_charge 29 = .ok (.iconst 1, 1) := by decide +kernel
theorem dX8_charge_30 : decode cX8_charge 30 = .ok (.goto 4, 3) := by decide +kernel
theorem dX8_charge_33 : decode cX8_charge 33 = .ok (.iconst 0, 1) := by decide +kernel
theorem dX8_charge_34 : decode cX8_charge 34 = .ok (.iadd, 1) := by decide +kernel
theorem dX8_charge_35 : decode cX8_charge 35 = .ok (.istore_n 2, 1) := by decide +kernel
theorem dX8_charge_36 : decode cX8_charge 36 = .ok (.iinc 3 1, 3) := by decide +kernel
theorem dX8_charge_39 : decode cX8_charge 39 = .ok (.goto (-35), 3) := by decide +kernel
theorem dX8_charge_42 : decode cX8_charge 42 = .ok (.aload_n 0, 1) := by decide +kernel
theorem dX8_charge_43 : decode cX8_charge 43 = .ok (.iload_n 1, 1) := by decide +kernel
theorem dX8_charge_44 : decode cX8_charge 44 = .ok (.iconst 1, 1) := by decide +kernel
theorem dX8_charge_45 : decode cX8_charge 45 = .ok (.invokevirtual 40, 3) := by decide +kernel
theorem dX8_charge_48 : decode cX8_charge 48 = .ok (.aload_n 0, 1) := by decide +kernel
theorem dX8_charge_49 : decode cX8_charge 49 = .ok (.getfield 7, 3) := by decide +kernel
theorem dX8_charge_52 : decode cX8_charge 52 = .ok (.iconst 3, 1) := by decide +kernel
theorem dX8_charge_53 : decode cX8_charge 53 = .ok (.iaload, 1) := by decide +kernel
theorem dX8_charge_54 : decode cX8_charge 54 = .ok (.iload_n 2, 1) := by decide +kernel
theorem dX8_charge_55 : decode cX8_charge 55 = .ok (.imul, 1) := by decide +kernel
theorem dX8_charge_56 : decode cX8_charge 56 = .ok (.iadd, 1) := by decide +kernel
theorem dX8_charge_57 : decode cX8_charge 57 = .ok (.aload_n 0, 1) := by decide +kernel
theorem dX8_charge_58 : decode cX8_charge 58 = .ok (.iload_n 1, 1) := by decide +kernel
theorem dX8_charge_59 : decode cX8_charge 59 = .ok (.invokevirtual 121, 3) := by decide +kernel
theorem dX8_charge_62 : decode cX8_charge 62 = .ok (.ifCond .eq 12, 3) := by decide +kernel
theorem dX8_charge_65 : decode cX8_charge 65 = .ok (.aload_n 0, 1) := by decide +kernel
theorem dX8_charge_66 : decode cX8_charge 66 = .ok (.getfield 7, 3) := by decide +kernel
theorem dX8_charge_69 : decode cX8_charge 69 = .ok (.iconst 2, 1) := by decide +kernel
theorem dX8_charge_70 : decode cX8_charge 70 = .ok (.iaload, 1) := by decide +kernel
theorem dX8_charge_71 : decode cX8_charge 71 = .ok (.goto 4, 3) := by decide +kernel
theorem dX8_charge_74 : decode cX8_charge 74 = .ok (.iconst 0, 1) := by decide +kernel
theorem dX8_charge_75 : decode cX8_charge 75 = .ok (.isub, 1) := by decide +kernel
theorem dX8_charge_76 : decode cX8_charge 76 = .ok (.istore_n 3, 1) := by decide +kernel
theorem dX8_charge_77 : decode cX8_charge 77 = .ok (.aload_n 0, 1) := by decide +kernel
theorem dX8_charge_78 : decode cX8_charge 78 = .ok (.iload_n 1, 1) := by decide +kernel
theorem dX8_charge_79 : decode cX8_charge 79 = .ok (.iconst 1, 1) := by decide +kernel
theorem dX8_charge_80 : decode cX8_charge 80 = .ok (.iload_n 3, 1) := by decide +kernel
theorem dX8_charge_81 : decode cX8_charge 81 = .ok (.aload_n 0, 1) := by decide +kernel
theorem dX8_charge_82 : decode cX8_charge 82 = .ok (.getfield 7, 3) := by decide +kernel
theorem dX8_charge_85 : decode cX8_charge 85 = .ok (.iconst 1, 1) := by decide +kernel
theorem dX8_charge_86 : decode cX8_charge 86 = .ok (.iaload, 1) := by decide +kernel
theorem dX8_charge_87 : decode cX8_charge 87 = .ok (.if_icmp .le 12, 3) := by decide +kernel
theorem dX8_charge_90 : decode cX8_charge 90 = .ok (.aload_n 0, 1) := by decide +kernel
theorem dX8_charge_91 : decode cX8_charge 91 = .ok (.getfield 7, 3) := by decide +kernel
theorem dX8_charge_94 : decode cX8_charge 94 = .ok (.iconst 1, 1) := by decide +kernel
theorem dX8_charge_95 : decode cX8_charge 95 = .ok (.iaload, 1) := by decide +kernel
theorem dX8_charge_96 : decode cX8_charge 96 = .ok (.goto 12, 3) := by decide +kernel
theorem dX8_charge_99 : decode cX8_charge 99 = .ok (.iload_n 3, 1) := by decide +kernel
theorem dX8_charge_100 : decode cX8_charge 100 = .ok (.ifCond .ge 7, 3) := by decide +kernel
theorem dX8_charge_103 : decode cX8_charge 103 = .ok (.iconst 0, 1) := by decide +kernel
theorem dX8_charge_104 : decode cX8_charge 104 = .ok (.goto 4, 3) := by decide +kernel
theorem dX8_charge_107 : decode cX8_charge 107 = .ok (.iload_n 3, 1) := by decide +kernel
theorem dX8_charge_108 : decode cX8_charge 108 = .ok (.invokevirtual 55, 3) := by decide +kernel
theorem dX8_charge_111 : decode cX8_charge 111 = .ok (.iload_n 3, 1) := by decide +kernel
theorem dX8_charge_112 : decode cX8_charge 112 = .ok (.ifCond .ge 23, 3) := by decide +kernel
theorem dX8_charge_115 : decode cX8_charge 115 = .ok (.aload_n 0, 1) := by decide +kernel
theorem dX8_charge_116 : decode cX8_charge 116 = .ok (.iload_n 1, 1) := by decide +kernel
theorem dX8_charge_117 : decode cX8_charge 117 = .ok (.iconst 2, 1) := by decide +kernel
theorem dX8_charge_118 : decode cX8_charge 118 = .ok (.iconst 1, 1) := by decide +kernel
theorem dX8_charge_119 : decode cX8_charge 119 = .ok (.invokevirtual 55, 3) := by decide +kernel
theorem dX8_charge_122 : decode cX8_charge 122 = .ok (.aload_n 0, 1) := by decide +kernel
theorem dX8_charge_123 : decode cX8_charge 123 = .ok (.iload_n 1, 1) := by decide +kernel
theorem dX8_charge_124 : decode cX8_charge 124 = .ok (.invokevirtual 109, 3) := by decide +kernel
theorem dX8_charge_127 : decode cX8_charge 127 = .ok (.ifCond .eq 8, 3) := by decide +kernel
theorem dX8_charge_130 : decode cX8_charge 130 = .ok (.aload_n 0, 1) := by decide +kernel
theorem dX8_charge_131 : decode cX8_charge 131 = .ok (.iload_n 1, 1) := by decide +kernel
theorem dX8_charge_132 : decode cX8_charge 132 = .ok (.invokevirtual 112, 3) := by decide +kernel
theorem dX8_charge_135 : decode cX8_charge 135 = .ok (.aload_n 0, 1) := by decide +kernel
theorem dX8_charge_136 : decode cX8_charge 136 = .ok (.iload_n 1, 1) := by decide +kernel
theorem dX8_charge_137 : decode cX8_charge 137 = .ok (.iconst 2, 1) := by decide +kernel
theorem dX8_charge_138 : decode cX8_charge 138 = .ok (.invokevirtual 40, 3) := by decide +kernel
theorem dX8_charge_141 : decode cX8_charge 141 = .ok (.iconst 1, 1) := by decide +kernel
theorem dX8_charge_142 : decode cX8_charge 142 = .ok (.if_icmp .ne 36, 3) := by decide +kernel
theorem dX8_charge_145 : decode cX8_charge 145 = .ok (.aload_n 0, 1) := by decide +kernel
theorem dX8_charge_146 : decode cX8_charge 146 = .ok (.iload_n 1, 1) := by decide +kernel
theorem dX8_charge_147 : decode cX8_charge 147 = .ok (.iconst 3, 1) := by decide +kernel
theorem dX8_charge_148 : decode cX8_charge 148 = .ok (.invokevirtual 40, 3) := by decide +kernel
theorem dX8_charge_151 : decode cX8_charge 151 = .ok (.ifCond .ne 27, 3) := by decide +kernel
theorem dX8_charge_154 : decode cX8_charge 154 = .ok (.aload_n 0, 1) := by decide +kernel
theorem dX8_charge_155 : decode cX8_charge 155 = .ok (.iload_n 1, 1) := by decide +kernel
theorem dX8_charge_156 : decode cX8_charge 156 = .ok (.iconst 1, 1) := by decide +kernel
theorem dX8_charge_157 : decode cX8_charge 157 = .ok (.invokevirtual 40, 3) := by decide +kernel
theorem dX8_charge_160 : decode cX8_charge 160 = .ok (.aload_n 0, 1) := by decide +kernel
theorem dX8_charge_161 : decode cX8_charge 161 = .ok (.getfield 7, 3) := by decide +kernel
theorem dX8_charge_164 : decode cX8_charge 164 = .ok (.iconst 1, 1) := by decide +kernel
theorem dX8_charge_165 : decode cX8_charge 165 = .ok (.iaload, 1) := by decide +kernel
theorem dX8_charge_166 : decode cX8_charge 166 = .ok (.iconst 2, 1) := by decide +kernel
theorem dX8_charge_167 : decode cX8_charge 167 = .ok (.idiv, 1) := by decide +kernel
theorem dX8_charge_168 : decode cX8_charge 168 = .ok (.if_icmp .lt 10, 3) := by decide +kernel
theorem dX8_charge_171 : decode cX8_charge 171 = .ok (.aload_n 0, 1) := by decide +kernel
theorem dX8_charge_172 : decode cX8_charge 172 = .ok (.iload_n 1, 1) := by decide +kernel
theorem dX8_charge_173 : decode cX8_charge 173 = .ok (.iconst 2, 1) := by decide +kernel
theorem dX8_charge_174 : decode cX8_charge 174 = .ok (.iconst 0, 1) := by decide +kernel
theorem dX8_charge_175 : decode cX8_charge 175 = .ok (.invokevirtual 55, 3) := by decide +kernel
theorem dX8_charge_178 : decode cX8_charge 178 = .ok (.return_, 1) := by decide +kernel
theorem dX8_beat_0 : decode cX8_beat 0 = .ok (.iconst 0, 1) := by decide +kernel
theorem dX8_beat_1 : decode cX8_beat 1 = .ok (.istore_n 1, 1) := by decide +kernel
theorem dX8_beat_2 : decode cX8_beat 2 = .ok (.aload_n 0, 1) := by decide +kernel
theorem dX8_beat_3 : decode cX8_beat 3 = .ok (.invokevirtual 139, 3) := by decide +kernel
theorem dX8_beat_6 : decode cX8_beat 6 = .ok (.aload_n 0, 1) := by decide +kernel
theorem dX8_beat_7 : decode cX8_beat 7 = .ok (.invokevirtual 142, 3) := by decide +kernel
theorem dX8_beat_10 : decode cX8_beat 10 = .ok (.iconst 0, 1) := by decide +kernel
theorem dX8_beat_11 : decode cX8_beat 11 = .ok (.istore_n 2, 1) := by decide +kernel
theorem dX8_beat_12 : decode cX8_beat 12 = .ok (.iload_n 2, 1) := by decide +kernel
theorem dX8_beat_13 : decode cX8_beat 13 = .ok (.aload_n 0, 1) := by decide +kernel
theorem dX8_beat_14 : decode cX8_beat 14 = .ok (.getfield 7, 3) := by decide +kernel
theorem dX8_beat_17 : decode cX8_beat 17 = .ok (.bipush 6, 2) := by decide +kernel
theorem dX8_beat_19 : decode cX8_beat 19 = .ok (.iaload, 1) := by decide +kernel
theorem dX8_beat_20 : decode cX8_beat 20 = .ok (.if_icmp .ge 33, 3) := by decide +kernel
theorem dX8_beat_23 : decode cX8_beat 23 = .ok (.iload_n 1, 1) := by decide +kernel
theorem dX8_beat_24 : decode cX8_beat 24 = .ok (.aload_n 0, 1) := by decide +kernel
theorem dX8_beat_25 : decode cX8_beat 25 = .ok (.iload_n 2, 1) := by decide +kernel
theorem dX8_beat_26 : decode cX8_beat 26 = .ok (.invokevirtual 109, 3) := by decide +kernel
theorem dX8_beat_29 : decode cX8_beat 29 = .ok (.ifCond .eq 15, 3) := by decide +kernel
theorem dX8_beat_32 : decode cX8_beat 32 = .ok (.aload_n 0, 1) := by decide +kernel
theorem dX8_beat_33 : decode cX8_beat 33 = .ok (.iload_n 2, 1) := by decide +kernel
theorem dX8_beat_34 : decode cX8_beat 34 = .ok (.invokevirtual 145, 3) := by decide +kernel
theorem dX8_beat_37 : decode cX8_beat 37 = .ok (.ifCond .eq 7, 3) := by decide +kernel
theorem dX8_beat_40 : decode cX8_beat 40 = .ok (.iconst 1, 1) := by decide +kernel
theorem dX8_beat_41 : decode cX8_beat 41 = .ok (.goto 4, 3) := by decide +kernel
theorem dX8_beat_44 : decode cX8_beat 44 = .ok (.iconst 0, 1) := by decide +kernel
theorem dX8_beat_45 : decode cX8_beat 45 = .ok (.iadd, 1) := by decide +kernel
theorem dX8_beat_46 : decode cX8_beat 46 = .ok (.istore_n 1, 1) := by decide +kernel
theorem dX8_beat_47 : decode cX8_beat 47 = .ok (.iinc 2 1, 3) := by decide +kernel
theorem dX8_beat_50 : decode cX8_beat 50 = .ok (.goto (-38), 3) := by decide +kernel
theorem dX8_beat_53 : decode cX8_beat 53 = .ok (.iconst 0, 1) := by decide +kernel
theorem dX8_beat_54 : decode cX8_beat 54 = .ok (.istore_n 2, 1) := by decide +kernel
theorem dX8_beat_55 : decode cX8_beat 55 = .ok (.iload_n 2, 1) := by decide +kernel
theorem dX8_beat_56 : decode cX8_beat 56 = .ok (.aload_n 0, 1) := by decide +kernel
theorem dX8_beat_57 : decode cX8_beat 57 = .ok (.getfield 7, 3) := by decide +kernel
theorem dX8_beat_60 : decode cX8_beat 60 = .ok (.bipush 6, 2) := by decide +kernel
theorem dX8_beat_62 : decode cX8_beat 62 = .ok (.iaload, 1) := by decide +kernel
theorem dX8_beat_63 : decode cX8_beat 63 = .ok (.if_icmp .ge 14, 3) := by decide +kernel
theorem dX8_beat_66 : decode cX8_beat 66 = .ok (.aload_n 0, 1) := by decide +kernel
theorem dX8_beat_67 : decode cX8_beat 67 = .ok (.iload_n 2, 1) := by decide +kernel
theorem dX8_beat_68 : decode cX8_beat 68 = .ok (.invokevirtual 148, 3) := by decide +kernel
theorem dX8_beat_71 : decode cX8_beat 71 = .ok (.iinc 2 1, 3) := by decide +kernel
theorem dX8_beat_74 : decode cX8_beat 74 = .ok (.goto (-19), 3) := by decide +kernel
theorem dX8_beat_77 : decode cX8_beat 77 = .ok (.iconst 0, 1) := by decide +kernel
theorem dX8_beat_78 : decode cX8_beat 78 = .ok (.istore_n 2, 1) := by decide +kernel
theorem dX8_beat_79 : decode cX8_beat 79 = .ok (.iload_n 2, 1) := by decide +kernel
theorem dX8_beat_80 : decode cX8_beat 80 = .ok (.bipush 6, 2) := by decide +kernel
theorem dX8_beat_82 : decode cX8_beat 82 = .ok (.if_icmp .ge 63, 3) := by decide +kernel
theorem dX8_beat_85 : decode cX8_beat 85 = .ok (.aload_n 0, 1) := by decide +kernel
theorem dX8_beat_86 : decode cX8_beat 86 = .ok (.iload_n 2, 1) := by decide +kernel
theorem dX8_beat_87 : decode cX8_beat 87 = .ok (.iconst 0, 1) := by decide +kernel
theorem dX8_beat_88 : decode cX8_beat 88 = .ok (.invokevirtual 100, 3) := by decide +kernel
theorem dX8_beat_91 : decode cX8_beat 91 = .ok (.sipush 999, 3) := by decide +kernel
theorem dX8_beat_94 : decode cX8_beat 94 = .ok (.if_icmp .ge 14, 3) := by decide +kernel
theorem dX8_beat_97 : decode cX8_beat 97 = .ok (.aload_n 0, 1) := by decide +kernel
theorem dX8_beat_98 : decode cX8_beat 98 = .ok (.iload_n 2, 1) := by decide +kernel
theorem dX8_beat_99 : decode cX8_beat 99 = .ok (.iconst 0, 1) := by decide +kernel
theorem dX8_beat_100 : decode cX8_beat 100 = .ok (.invokevirtual 100, 3) := by decide +kernel
theorem dX8_beat_103 : decode cX8_beat 103 = .ok (.iconst 1, 1) := by decide +kernel
theorem dX8_beat_104 : decode cX8_beat 104 = .ok (.iadd, 1) := by decide +kernel
theorem dX8_beat_105 : decode cX8_beat 105 = .ok (.goto 6, 3) := by decide +kernel
theorem dX8_beat_108 : decode cX8_beat 108 = .ok (.sipush 999, 3) := by decide +kernel
theorem dX8_beat_111 : decode cX8_beat 111 = .ok (.istore_n 3, 1) := by decide +kernel
theorem dX8_beat_112 : decode cX8_beat 112 = .ok (.aload_n 0, 1) := by decide +kernel
theorem dX8_beat_113 : decode cX8_beat 113 = .ok (.getfield 7, 3) := by decide +kernel
theorem dX8_beat_116 : decode cX8_beat 116 = .ok (.bipush 7, 2) := by decide +kernel
theorem dX8_beat_118 : decode cX8_beat 118 = .ok (.iconst 4, 1) := by decide +kernel
theorem dX8_beat_119 : decode cX8_beat 119 = .ok (.iload_n 2, 1) := by decide +kernel
theorem dX8_beat_120 : decode cX8_beat 120 = .ok (.imul, 1) := by decide +kernel
theorem dX8_beat_121 : decode cX8_beat 121 = .ok (.iadd, 1) := by decide +kernel
theorem dX8_beat_122 : decode cX8_beat 122 = .ok (.iconst 0, 1) := by decide +kernel
theorem dX8_beat_123 : decode cX8_beat 123 = .ok (.iadd, 1) := by decide +kernel
theorem dX8_beat_124 : decode cX8_beat 124 = .ok (.aload_n 0, 1) := by decide +kernel
theorem dX8_beat_125 : decode cX8_beat 125 = .ok (.getfield 30, 3) := by decide +kernel
theorem dX8_beat_128 : decode cX8_beat 128 = .ok (.iload_n 2, 1) := by decide +kernel
theorem dX8_beat_129 : decode cX8_beat 129 = .ok (.baload, 1) := by decide +kernel
theorem dX8_beat_130 : decode cX8_beat 130 = .ok (.ifCond .eq 7, 3) := by decide +kernel
theorem dX8_beat_133 : decode cX8_beat 133 = .ok (.iconst 0, 1) := by decide +kernel
theorem dX8_beat_134 : decode cX8_beat 134 = .ok (.goto 4, 3) := by decide +kernel
theorem dX8_beat_137 : decode cX8_beat 137 = .ok (.iload_n 3, 1) := by decide +kernel
theorem dX8_beat_138 : decode cX8_beat 138 = .ok (.iastore, 1) := by decide +kernel
theorem dX8_beat_139 : decode cX8_beat 139 = .ok (.iinc 2 1, 3) := by decide +kernel
theorem dX8_beat_142 : decode cX8_beat 142 = .ok (.goto (-63), 3) := by decide +kernel
theorem dX8_beat_145 : decode cX8_beat 145 = .ok (.aload_n 0, 1) := by decide +kernel
theorem dX8_beat_146 : decode cX8_beat 146 = .ok (.getfield 7, 3) := by decide +kernel
theorem dX8_beat_149 : decode cX8_beat 149 = .ok (.iconst 5, 1) := by decide +kernel
theorem dX8_beat_150 : decode cX8_beat 150 = .ok (.dup2, 1) := by decide +kernel
theorem dX8_beat_151 : decode cX8_beat 151 = .ok (.iaload, 1) := by decide +kernel
theorem dX8_beat_152 : decode cX8_beat 152 = .ok (.iconst 1, 1) := by decide +kernel
theorem dX8_beat_153 : decode cX8_beat 153 = .ok (.iadd, 1) := by decide +kernel
theorem dX8_beat_154 : decode cX8_beat 154 = .ok (.iastore, 1) := by decide +kernel
theorem dX8_beat_155 : decode cX8_beat 155 = .ok (.iload_n 1, 1) := by decide +kernel
theorem dX8_beat_156 : decode cX8_beat 156 = .ok (.ireturn, 1) := by decide +kernel
theorem dX8_whyNotPass_0 : decode cX8_whyNotPass 0 = .ok (.iload_n 1, 1) := by decide +kernel
theorem dX8_whyNotPass_1 : decode cX8_whyNotPass 1 = .ok (.iconst 1, 1) := by decide +kernel
theorem dX8_whyNotPass_2 : decode cX8_whyNotPass 2 = .ok (.sipush 999, 3) := by decide +kernel
theorem dX8_whyNotPass_5 : decode cX8_whyNotPass 5 = .ok (.invokestatic 36, 3) := by decide +kernel
theorem dX8_whyNotPass_8 : decode cX8_whyNotPass 8 = .ok (.ifCond .ne 8, 3) := by decide +kernel
theorem dX8_whyNotPass_11 : decode cX8_whyNotPass 11 = .ok (.bipush (-2), 2) := by decide +kernel
theorem dX8_whyNotPass_13 : decode cX8_whyNotPass 13 = .ok (.goto 22, 3) := by decide +kernel
theorem dX8_whyNotPass_16 : decode cX8_whyNotPass 16 = .ok (.aload_n 0, 1) := by decide +kernel
theorem dX8_whyNotPass_17 : decode cX8_whyNotPass 17 = .ok (.getfield 7, 3) := by decide +kernel
theorem dX8_whyNotPass_20 : decode cX8_whyNotPass 20 = .ok (.iconst 5, 1) := by decide +kernel
theorem dX8_whyNotPass_21 : decode cX8_whyNotPass 21 = .ok (.iaload, 1) := by decide +kernel
theorem dX8_whyNotPass_22 : decode cX8_whyNotPass 22 = .ok (.iload_n 1, 1) := by decide +kernel
theorem dX8_whyNotPass_23 : decode cX8_whyNotPass 23 = .ok (.iadd, 1) := by decide +kernel
theorem dX8_whyNotPass_24 : decode cX8_whyNotPass 24 = .ok (.ldc 151, 2) := by decide +kernel
theorem dX8_whyNotPass_26 : decode cX8_whyNotPass 26 = .ok (.if_icmp .le 8, 3) := by decide +kernel
theorem dX8_whyNotPass_29 : decode cX8_whyNotPass 29 = .ok (.bipush (-5), 2) := by decide +kernel
theorem dX8_whyNotPass_31 : decode cX8_whyNotPass 31 = .ok (.goto 4, 3) := by decide +kernel
theorem dX8_whyNotPass_34 : decode cX8_whyNotPass 34 = .ok (.iconst 0, 1) := by decide +kernel
theorem dX8_whyNotPass_35 : decode cX8_whyNotPass 35 = .ok (.ireturn, 1) := by decide +kernel
theorem dX8_beats_0 : decode cX8_beats 0 = .ok (.iconst 0, 1) := by decide +kernel
theorem dX8_beats_1 : decode cX8_beats 1 = .ok (.istore_n 2, 1) := by decide +kernel
theorem dX8_beats_2 : decode cX8_beats 2 = .ok (.iconst 0, 1) := by decide +kernel
theorem dX8_beats_3 : decode cX8_beats 3 = .ok (.istore_n 3, 1) := by decide +kernel
theorem dX8_beats_4 : decode cX8_beats 4 = .ok (.iload_n 3, 1) := by decide +kernel
theorem dX8_beats_5 : decode cX8_beats 5 = .ok (.iload_n 1, 1) := by decide +kernel
theorem dX8_beats_6 : decode cX8_beats 6 = .ok (.if_icmp .ge 16, 3) := by decide +kernel
theorem dX8_beats_9 : decode cX8_beats 9 = .ok (.iload_n 2, 1) := by decide +kernel
theorem dX8_beats_10 : decode cX8_beats 10 = .ok (.aload_n 0, 1) := by decide +kernel
theorem dX8_beats_11 : decode cX8_beats 11 = .ok (.invokevirtual 152, 3) := by decide +kernel
theorem dX8_beats_14 : decode cX8_beats 14 = .ok (.iadd, 1) := by decide +kernel
theorem dX8_beats_15 : decode cX8_beats 15 = .ok (.istore_n 2, 1) := by decide +kernel
theorem dX8_beats_16 : decode cX8_beats 16 = .ok (.iinc 3 1, 3) := by decide +kernel
theorem dX8_beats_19 : decode cX8_beats 19 = .ok (.goto (-15), 3) := by decide +kernel
theorem dX8_beats_22 : decode cX8_beats 22 = .ok (.iload_n 2, 1) := by decide +kernel
theorem dX8_beats_23 : decode cX8_beats 23 = .ok (.ireturn, 1) := by decide +kernel
theorem dX8_pass_0 : decode cX8_pass 0 = .ok (.aload_n 0, 1) := by decide +kernel
theorem dX8_pass_1 : decode cX8_pass 1 = .ok (.iload_n 1, 1) := by decide +kernel
theorem dX8_pass_2 : decode cX8_pass 2 = .ok (.invokevirtual 156, 3) := by decide +kernel
theorem dX8_pass_5 : decode cX8_pass 5 = .ok (.istore_n 2, 1) := by decide +kernel
theorem dX8_pass_6 : decode cX8_pass 6 = .ok (.iload_n 2, 1) := by decide +kernel
theorem dX8_pass_7 : decode cX8_pass 7 = .ok (.ifCond .ge 5, 3) := by decide +kernel
theorem dX8_pass_10 : decode cX8_pass 10 = .ok (.iload_n 2, 1) := by decide +kernel
theorem dX8_pass_11 : decode cX8_pass 11 = .ok (.ireturn, 1) := by decide +kernel
theorem dX8_pass_12 : decode cX8_pass 12 = .ok (.aload_n 0, 1) := by decide +kernel
theorem dX8_pass_13 : decode cX8_pass 13 = .ok (.invokevirtual 48, 3) := by decide +kernel
theorem dX8_pass_16 : decode cX8_pass 16 = .ok (.aload_n 0, 1) := by decide +kernel
theorem dX8_pass_17 : decode cX8_pass 17 = .ok (.iload_n 1, 1) := by decide +kernel
theorem dX8_pass_18 : decode cX8_pass 18 = .ok (.invokevirtual 159, 3) := by decide +kernel
theorem dX8_pass_21 : decode cX8_pass 21 = .ok (.ireturn, 1) := by decide +kernel
theorem dX8_waiting_0 : decode cX8_waiting 0 = .ok (.iconst 0, 1) := by decide +kernel
theorem dX8_waiting_1 : decode cX8_waiting 1 = .ok (.istore_n 2, 1) := by decide +kernel
theorem dX8_waiting_2 : decode cX8_waiting 2 = .ok (.iconst 0, 1) := by decide +kernel
theorem dX8_waiting_3 : decode cX8_waiting 3 = .ok (.istore_n 3, 1) := by decide +kernel
theorem dX8_waiting_4 : decode cX8_waiting 4 = .ok (.iload_n 3, 1) := by decide +kernel
theorem dX8_waiting_5 : decode cX8_waiting 5 = .ok (.aload_n 0, 1) := by decide +kernel
theorem dX8_waiting_6 : decode cX8_waiting 6 = .ok (.getfield 7, 3) := by decide +kernel
theorem dX8_waiting_9 : decode cX8_waiting 9 = .ok (.bipush 6, 2) := by decide +kernel
theorem dX8_waiting_11 : decode cX8_waiting 11 = .ok (.iaload, 1) := by decide +kernel
theorem dX8_waiting_12 : decode cX8_waiting 12 = .ok (.if_icmp .ge 54, 3) := by decide +kernel
theorem dX8_waiting_15 : decode cX8_waiting 15 = .ok (.iconst 0, 1) := by decide +kernel
theorem dX8_waiting_16 : decode cX8_waiting 16 = .ok (.istore 4, 2) := by decide +kernel
theorem dX8_waiting_18 : decode cX8_waiting 18 = .ok (.iload 4, 2) := by decide +kernel
theorem dX8_waiting_20 : decode cX8_waiting 20 = .ok (.aload_n 0, 1) := by decide +kernel
theorem dX8_waiting_21 : decode cX8_waiting 21 = .ok (.iload_n 3, 1) := by decide +kernel
theorem dX8_waiting_22 : decode cX8_waiting 22 = .ok (.iconst 4, 1) := by decide +kernel
theorem dX8_waiting_23 : decode cX8_waiting 23 = .ok (.invokevirtual 40, 3) := by decide +kernel
theorem dX8_waiting_26 : decode cX8_waiting 26 = .ok (.if_icmp .ge 34, 3) := by decide +kernel
theorem dX8_waiting_29 : decode cX8_waiting 29 = .ok (.iload_n 2, 1) := by decide +kernel
theorem dX8_waiting_30 : decode cX8_waiting 30 = .ok (.aload_n 0, 1) := by decide +kernel
theorem dX8_waiting_31 : decode cX8_waiting 31 = .ok (.iload_n 3, 1) := by decide +kernel
theorem dX8_waiting_32 : decode cX8_waiting 32 = .ok (.iconst 5, 1) := by decide +kernel
theorem dX8_waiting_33 : decode cX8_waiting 33 = .ok (.iconst 3, 1) := by decide +kernel
theorem dX8_waiting_34 : decode cX8_waiting 34 = .ok (.iload 4, 2) := by decide +kernel
theorem dX8_waiting_36 : decode cX8_waiting 36 = .ok (.imul, 1) := by decide +kernel
theorem dX8_waiting_37 : decode cX8_waiting 37 = .ok (.iadd, 1) := by decide +kernel
theorem dX8_waiting_38 : decode cX8_waiting 38 = .ok (.iconst 1, 1) := by decide +kernel
theorem dX8_waiting_39 : decode cX8_waiting 39 = .ok (.iadd, 1) := by decide +kernel
theorem dX8_waiting_40 : decode cX8_waiting 40 = .ok (.invokevirtual 40, 3) := by decide +kernel
theorem dX8_waiting_43 : decode cX8_waiting 43 = .ok (.iload_n 1, 1) := by decide +kernel
theorem dX8_waiting_44 : decode cX8_waiting 44 = .ok (.if_icmp .ne 7, 3) := by decide +kernel
theorem dX8_waiting_47 : decode cX8_waiting 47 = .ok (.iconst 1, 1) := by decide +kernel
theorem dX8_waiting_48 : decode cX8_waiting 48 = .ok (.goto 4, 3) := by decide +kernel
theorem dX8_waiting_51 : decode cX8_waiting 51 = .ok (.iconst 0, 1) := by decide +kernel
theorem dX8_waiting_52 : decode cX8_waiting 52 = .ok (.iadd, 1) := by decide +kernel
theorem dX8_waiting_53 : decode cX8_waiting 53 = .ok (.istore_n 2, 1) := by decide +kernel
theorem dX8_waiting_54 : decode cX8_waiting 54 = .ok (.iinc 4 1, 3) := by decide +kernel
theorem dX8_waiting_57 : decode cX8_waiting 57 = .ok (.goto (-39), 3) := by decide +kernel
theorem dX8_waiting_60 : decode cX8_waiting 60 = .ok (.iinc 3 1, 3) := by decide +kernel
theorem dX8_waiting_63 : decode cX8_waiting 63 = .ok (.goto (-59), 3) := by decide +kernel
theorem dX8_waiting_66 : decode cX8_waiting 66 = .ok (.iload_n 2, 1) := by decide +kernel
theorem dX8_waiting_67 : decode cX8_waiting 67 = .ok (.ireturn, 1) := by decide +kernel
theorem dX8_stationsAt_0 : decode cX8_stationsAt 0 = .ok (.iconst 0, 1) := by decide +kernel
theorem dX8_stationsAt_1 : decode cX8_stationsAt 1 = .ok (.istore_n 2, 1) := by decide +kernel
theorem dX8_stationsAt_2 : decode cX8_stationsAt 2 = .ok (.iconst 0, 1) := by decide +kernel
theorem dX8_stationsAt_3 : decode cX8_stationsAt 3 = .ok (.istore_n 3, 1) := by decide +kernel
theorem dX8_stationsAt_4 : decode cX8_stationsAt 4 = .ok (.iload_n 3, 1) := by decide +kernel
theorem dX8_stationsAt_5 : decode cX8_stationsAt 5 = .ok (.aload_n 0, 1) := by decide +kernel
theorem dX8_stationsAt_6 : decode cX8_stationsAt 6 = .ok (.getfield 7, 3) := by decide +kernel
theorem dX8_stationsAt_9 : decode cX8_stationsAt 9 = .ok (.bipush 6, 2) := by decide +kernel
theorem dX8_stationsAt_11 : decode cX8_stationsAt 11 = .ok (.iaload, 1) := by decide +kernel
theorem dX8_stationsAt_12 : decode cX8_stationsAt 12 = .ok (.if_icmp .ge 28, 3) := by decide +kernel
theorem dX8_stationsAt_15 : decode cX8_stationsAt 15 = .ok (.iload_n 2, 1) := by decide +kernel
theorem dX8_stationsAt_16 : decode cX8_stationsAt 16 = .ok (.aload_n 0, 1) := by decide +kernel
theorem dX8_stationsAt_17 : decode cX8_stationsAt 17 = .ok (.iload_n 3, 1) := by decide +kernel
theorem dX8_stationsAt_18 : decode cX8_stationsAt 18 = .ok (.iload_n 1, 1) := by decide +kernel
theorem dX8_stationsAt_19 : decode cX8_stationsAt 19 = .ok (.invokevirtual 73, 3) := by decide +kernel
theorem dX8_stationsAt_22 : decode cX8_stationsAt 22 = .ok (.ifCond .eq 9, 3) := by decide +kernel
theorem dX8_stationsAt_25 : decode cX8_stationsAt 25 = .ok (.iconst 1, 1) := by decide +kernel
theorem dX8_stationsAt_26 : decode cX8_stationsAt 26 = .ok (.iload_n 3, 1) := by decide +kernel
theorem dX8_stationsAt_27 : decode cX8_stationsAt 27 = .ok (.ishl, 1) := by decide +kernel
theorem dX8_stationsAt_28 : decode cX8_stationsAt 28 = .ok (.goto 4, 3) := by decide +kernel
theorem dX8_stationsAt_31 : decode cX8_stationsAt 31 = .ok (.iconst 0, 1) := by decide +kernel
theorem dX8_stationsAt_32 : decode cX8_stationsAt 32 = .ok (.ior, 1) := by decide +kernel
theorem dX8_stationsAt_33 : decode cX8_stationsAt 33 = .ok (.istore_n 2, 1) := by decide +kernel
theorem dX8_stationsAt_34 : decode cX8_stationsAt 34 = .ok (.iinc 3 1, 3) := by decide +kernel
theorem dX8_stationsAt_37 : decode cX8_stationsAt 37 = .ok (.goto (-33), 3) := by decide +kernel
theorem dX8_stationsAt_40 : decode cX8_stationsAt 40 = .ok (.iload_n 2, 1) := by decide +kernel
theorem dX8_stationsAt_41 : decode cX8_stationsAt 41 = .ok (.ireturn, 1) := by decide +kernel
theorem dX8_speakersOn_0 : decode cX8_speakersOn 0 = .ok (.iconst 0, 1) := by decide +kernel
theorem dX8_speakersOn_1 : decode cX8_speakersOn 1 = .ok (.istore_n 2, 1) := by decide +kernel
theorem dX8_speakersOn_2 : decode cX8_speakersOn 2 = .ok (.iconst 0, 1) := by decide +kernel
theorem dX8_speakersOn_3 : decode cX8_speakersOn 3 = .ok (.istore_n 3, 1) := by decide +kernel
theorem dX8_speakersOn_4 : decode cX8_speakersOn 4 = .ok (.iload_n 3, 1) := by decide +kernel
theorem dX8_speakersOn_5 : decode cX8_speakersOn 5 = .ok (.aload_n 0, 1) := by decide +kernel
theorem dX8_speakersOn_6 : decode cX8_speakersOn 6 = .ok (.getfield 7, 3) := by decide +kernel
theorem dX8_speakersOn_9 : decode cX8_speakersOn 9 = .ok (.bipush 6, 2) := by decide +kernel
theorem dX8_speakersOn_11 : decode cX8_speakersOn 11 = .ok (.iaload, 1) := by decide +kernel
theorem dX8_speakersOn_12 : decode cX8_speakersOn 12 = .ok (.if_icmp .ge 36, 3) := by decide +kernel
theorem dX8_speakersOn_15 : decode cX8_speakersOn 15 = .ok (.iload_n 2, 1) := by decide +kernel
theorem dX8_speakersOn_16 : decode cX8_speakersOn 16 = .ok (.aload_n 0, 1) := by decide +kernel
theorem dX8_speakersOn_17 : decode cX8_speakersOn 17 = .ok (.iload_n 3, 1) := by decide +kernel
theorem dX8_speakersOn_18 : decode cX8_speakersOn 18 = .ok (.invokevirtual 109, 3) := by decide +kernel
theorem dX8_speakersOn_21 : decode cX8_speakersOn 21 = .ok (.ifCond .eq 18, 3) := by decide +kernel
theorem dX8_speakersOn_24 : decode cX8_speakersOn 24 = .ok (.aload_n 0, 1) := by decide +kernel
theorem dX8_speakersOn_25 : decode cX8_speakersOn 25 = .ok (.iload_n 3, 1) := by decide +kernel
theorem dX8_speakersOn_26 : decode cX8_speakersOn 26 = .ok (.invokevirtual 90, 3) := by decide +kernel
theorem dX8_speakersOn_29 : decode cX8_speakersOn 29 = .ok (.iload_n 1, 1) := by decide +kernel
theorem dX8_speakersOn_30 : decode cX8_speakersOn 30 = .ok (.if_icmp .ne 9, 3) := by decide +kernel
theorem dX8_speakersOn_33 : decode cX8_speakersOn 33 = .ok (.iconst 1, 1) := by decide +kernel
theorem dX8_speakersOn_34 : decode cX8_speakersOn 34 = .ok (.iload_n 3, 1) := by decide +kernel
theorem dX8_speakersOn_35 : decode cX8_speakersOn 35 = .ok (.ishl, 1) := by decide +kernel
theorem dX8_speakersOn_36 : decode cX8_speakersOn 36 = .ok (.goto 4, 3) := by decide +kernel
theorem dX8_speakersOn_39 : decode cX8_speakersOn 39 = .ok (.iconst 0, 1) := by decide +kernel
theorem dX8_speakersOn_40 : decode cX8_speakersOn 40 = .ok (.ior, 1) := by decide +kernel
theorem dX8_speakersOn_41 : decode cX8_speakersOn 41 = .ok (.istore_n 2, 1) := by decide +kernel
theorem dX8_speakersOn_42 : decode cX8_speakersOn 42 = .ok (.iinc 3 1, 3) := by decide +kernel
theorem dX8_speakersOn_45 : decode cX8_speakersOn 45 = .ok (.goto (-41), 3) := by decide +kernel
theorem dX8_speakersOn_48 : decode cX8_speakersOn 48 = .ok (.iload_n 2, 1) := by decide +kernel
theorem dX8_speakersOn_49 : decode cX8_speakersOn 49 = .ok (.ireturn, 1) := by decide +kernel
theorem dX8_ofWire_0 : decode cX8_ofWire 0 = .ok (.iload_n 1, 1) := by decide +kernel
theorem dX8_ofWire_1 : decode cX8_ofWire 1 = .ok (.invokestatic 70, 3) := by decide +kernel
theorem dX8_ofWire_4 : decode cX8_ofWire 4 = .ok (.ifCond .ne 5, 3) := by decide +kernel
theorem dX8_ofWire_7 : decode cX8_ofWire 7 = .ok (.iconst (-1), 1) := by decide +kernel
theorem dX8_ofWire_8 : decode cX8_ofWire 8 = .ok (.ireturn, 1) := by decide +kernel
theorem dX8_ofWire_9 : decode cX8_ofWire 9 = .ok (.iload_n 2, 1) := by decide +kernel
theorem dX8_ofWire_10 : decode cX8_ofWire 10 = .ok (.tableswitch 76 0 6 #[42, 42, 49, 55, 61, 67, 67], 42) := by decide +kernel
theorem dX8_ofWire_52 : decode cX8_ofWire 52 = .ok (.aload_n 0, 1) := by decide +kernel
theorem dX8_ofWire_53 : decode cX8_ofWire 53 = .ok (.iload_n 1, 1) := by decide +kernel
theorem dX8_ofWire_54 : decode cX8_ofWire 54 = .ok (.iload_n 2, 1) := by decide +kernel
theorem dX8_ofWire_55 : decode cX8_ofWire 55 = .ok (.invokevirtual 100, 3) := by decide +kernel
theorem dX8_ofWire_58 : decode cX8_ofWire 58 = .ok (.ireturn, 1) := by decide +kernel
theorem dX8_ofWire_59 : decode cX8_ofWire 59 = .ok (.aload_n 0, 1) := by decide +kernel
theorem dX8_ofWire_60 : decode cX8_ofWire 60 = .ok (.iload_n 1, 1) := by decide +kernel
theorem dX8_ofWire_61 : decode cX8_ofWire 61 = .ok (.invokevirtual 162, 3) := by decide +kernel
theorem dX8_ofWire_64 : decode cX8_ofWire 64 = .ok (.ireturn, 1) := by decide +kernel
theorem dX8_ofWire_65 : decode cX8_ofWire 65 = .ok (.aload_n 0, 1) := by decide +kernel
theorem dX8_ofWire_66 : decode cX8_ofWire 66 = .ok (.iload_n 1, 1) := by decide +kernel
theorem dX8_ofWire_67 : decode cX8_ofWire 67 = .ok (.invokevirtual 165, 3) := by decide +kernel
theorem dX8_ofWire_70 : decode cX8_ofWire 70 = .ok (.ireturn, 1) := by decide +kernel
theorem dX8_ofWire_71 : decode cX8_ofWire 71 = .ok (.aload_n 0, 1) := by decide +kernel
theorem dX8_ofWire_72 : decode cX8_ofWire 72 = .ok (.iload_n 1, 1) := by decide +kernel
theorem dX8_ofWire_73 : decode cX8_ofWire 73 = .ok (.invokevirtual 168, 3) := by decide +kernel
theorem dX8_ofWire_76 : decode cX8_ofWire 76 = .ok (.ireturn, 1) := by decide +kernel
theorem dX8_ofWire_77 : decode cX8_ofWire 77 = .ok (.aload_n 0, 1) := by decide +kernel
theorem dX8_ofWire_78 : decode cX8_ofWire 78 = .ok (.iload_n 1, 1) := by decide +kernel
theorem dX8_ofWire_79 : decode cX8_ofWire 79 = .ok (.iload_n 2, 1) := by decide +kernel
theorem dX8_ofWire_80 : decode cX8_ofWire 80 = .ok (.iconst 3, 1) := by decide +kernel
theorem dX8_ofWire_81 : decode cX8_ofWire 81 = .ok (.isub, 1) := by decide +kernel
theorem dX8_ofWire_82 : decode cX8_ofWire 82 = .ok (.invokevirtual 100, 3) := by decide +kernel
theorem dX8_ofWire_85 : decode cX8_ofWire 85 = .ok (.ireturn, 1) := by decide +kernel
theorem dX8_ofWire_86 : decode cX8_ofWire 86 = .ok (.bipush (-2), 2) := by decide +kernel
theorem dX8_ofWire_88 : decode cX8_ofWire 88 = .ok (.ireturn, 1) := by decide +kernel
theorem dX8_of_0 : decode cX8_of 0 = .ok (.aload_n 0, 1) := by decide +kernel
theorem dX8_of_1 : decode cX8_of 1 = .ok (.iload_n 1, 1) := by decide +kernel
theorem dX8_of_2 : decode cX8_of 2 = .ok (.invokevirtual 66, 3) := by decide +kernel
theorem dX8_of_5 : decode cX8_of 5 = .ok (.ifCond .ne 5, 3) := by decide +kernel
theorem dX8_of_8 : decode cX8_of 8 = .ok (.iconst (-1), 1) := by decide +kernel
theorem dX8_of_9 : decode cX8_of 9 = .ok (.ireturn, 1) := by decide +kernel
theorem dX8_of_10 : decode cX8_of 10 = .ok (.iload_n 2, 1) := by decide +kernel
theorem dX8_of_11 : decode cX8_of 11 = .ok (.tableswitch 136 0 9 #[53, 53, 60, 81, 88, 96, 104, 112, 120, 128], 53) := by decide +kernel
theorem dX8_of_64 : decode cX8_of 64 = .ok (.aload_n 0, 1) := by decide +kernel
theorem dX8_of_65 : decode cX8_of 65 = .ok (.iload_n 1, 1) := by decide +kernel
theorem dX8_of_66 : decode cX8_of 66 = .ok (.iload_n 2, 1) := by decide +kernel
theorem dX8_of_67 : decode cX8_of 67 = .ok (.invokevirtual 40, 3) := by decide +kernel
theorem dX8_of_70 : decode cX8_of 70 = .ok (.ireturn, 1) := by decide +kernel
theorem dX8_of_71 : decode cX8_of 71 = .ok (.aload_n 0, 1) := by decide +kernel
theorem dX8_of_72 : decode cX8_of 72 = .ok (.iload_n 1, 1) := by decide +kernel
theorem dX8_of_73 : decode cX8_of 73 = .ok (.iconst 3, 1) := by decide +kernel
theorem dX8_of_74 : decode cX8_of 74 = .ok (.invokevirtual 40, 3) := by decide +kernel
theorem dX8_of_77 : decode cX8_of 77 = .ok (.iconst 1, 1) := by decide +kernel
theorem dX8_of_78 : decode cX8_of 78 = .ok (.if_icmp .ne 7, 3) := by decide +kernel
theorem dX8_of_81 : decode cX8_of 81 = .ok (.iconst 2, 1) := by decide +kernel
theorem dX8_of_82 : decode cX8_of 82 = .ok (.goto 9, 3) := by decide +kernel
theorem dX8_of_85 : decode cX8_of 85 = .ok (.aload_n 0, 1) := by decide +kernel
theorem dX8_of_86 : decode cX8_of 86 = .ok (.iload_n 1, 1) := by decide +kernel
theorem dX8_of_87 : decode cX8_of 87 = .ok (.iconst 2, 1) := by decide +kernel
theorem dX8_of_88 : decode cX8_of 88 = .ok (.invokevirtual 40, 3) := by decide +kernel
theorem dX8_of_91 : decode cX8_of 91 = .ok (.ireturn, 1) := by decide +kernel
theorem dX8_of_92 : decode cX8_of 92 = .ok (.aload_n 0, 1) := by decide +kernel
theorem dX8_of_93 : decode cX8_of 93 = .ok (.iload_n 1, 1) := by decide +kernel
theorem dX8_of_94 : decode cX8_of 94 = .ok (.iconst 4, 1) := by decide +kernel
theorem dX8_of_95 : decode cX8_of 95 = .ok (.invokevirtual 40, 3) := by decide +kernel
theorem dX8_of_98 : decode cX8_of 98 = .ok (.ireturn, 1) := by decide +kernel
theorem dX8_of_99 : decode cX8_of 99 = .ok (.aload_n 0, 1) := by decide +kernel
theorem dX8_of_100 : decode cX8_of 100 = .ok (.iload_n 1, 1) := by decide +kernel
theorem dX8_of_101 : decode cX8_of 101 = .ok (.bipush 17, 2) := by decide +kernel
theorem dX8_of_103 : decode cX8_of 103 = .ok (.invokevirtual 40, 3) := by decide +kernel
theorem dX8_of_106 : decode cX8_of 106 = .ok (.ireturn, 1) := by decide +kernel
theorem dX8_of_107 : decode cX8_of 107 = .ok (.aload_n 0, 1) := by decide +kernel
theorem dX8_of_108 : decode cX8_of 108 = .ok (.iload_n 1, 1) := by decide +kernel
theorem dX8_of_109 : decode cX8_of 109 = .ok (.bipush 18, 2) := by decide +kernel
theorem dX8_of_111 : decode cX8_of 111 = .ok (.invokevirtual 40, 3) := by decide +kernel
theorem dX8_of_114 : decode cX8_of 114 = .ok (.ireturn, 1) := by decide +kernel
theorem dX8_of_115 : decode cX8_of 115 = .ok (.aload_n 0, 1) := by decide +kernel
theorem dX8_of_116 : decode cX8_of 116 = .ok (.iload_n 1, 1) := by decide +kernel
theorem dX8_of_117 : decode cX8_of 117 = .ok (.bipush 19, 2) := by decide +kernel
theorem dX8_of_119 : decode cX8_of 119 = .ok (.invokevirtual 40, 3) := by decide +kernel
theorem dX8_of_122 : decode cX8_of 122 = .ok (.ireturn, 1) := by decide +kernel
theorem dX8_of_123 : decode cX8_of 123 = .ok (.aload_n 0, 1) := by decide +kernel
theorem dX8_of_124 : decode cX8_of 124 = .ok (.iload_n 1, 1) := by decide +kernel
theorem dX8_of_125 : decode cX8_of 125 = .ok (.bipush 20, 2) := by decide +kernel
theorem dX8_of_127 : decode cX8_of 127 = .ok (.invokevirtual 40, 3) := by decide +kernel
theorem dX8_of_130 : decode cX8_of 130 = .ok (.ireturn, 1) := by decide +kernel
theorem dX8_of_131 : decode cX8_of 131 = .ok (.aload_n 0, 1) := by decide +kernel
theorem dX8_of_132 : decode cX8_of 132 = .ok (.iload_n 1, 1) := by decide +kernel
theorem dX8_of_133 : decode cX8_of 133 = .ok (.bipush 21, 2) := by decide +kernel
theorem dX8_of_135 : decode cX8_of 135 = .ok (.invokevirtual 40, 3) := by decide +kernel
theorem dX8_of_138 : decode cX8_of 138 = .ok (.ireturn, 1) := by decide +kernel
theorem dX8_of_139 : decode cX8_of 139 = .ok (.aload_n 0, 1) := by decide +kernel
theorem dX8_of_140 : decode cX8_of 140 = .ok (.iload_n 1, 1) := by decide +kernel
theorem dX8_of_141 : decode cX8_of 141 = .ok (.bipush 22, 2) := by decide +kernel
theorem dX8_of_143 : decode cX8_of 143 = .ok (.invokevirtual 40, 3) := by decide +kernel
theorem dX8_of_146 : decode cX8_of 146 = .ok (.ireturn, 1) := by decide +kernel
theorem dX8_of_147 : decode cX8_of 147 = .ok (.bipush (-2), 2) := by decide +kernel
theorem dX8_of_149 : decode cX8_of 149 = .ok (.ireturn, 1) := by decide +kernel
theorem dX8_row_0 : decode cX8_row 0 = .ok (.aload_n 0, 1) := by decide +kernel
theorem dX8_row_1 : decode cX8_row 1 = .ok (.iload_n 1, 1) := by decide +kernel
theorem dX8_row_2 : decode cX8_row 2 = .ok (.invokevirtual 66, 3) := by decide +kernel
theorem dX8_row_5 : decode cX8_row 5 = .ok (.ifCond .eq 19, 3) := by decide +kernel
theorem dX8_row_8 : decode cX8_row 8 = .ok (.iload_n 2, 1) := by decide +kernel
theorem dX8_row_9 : decode cX8_row 9 = .ok (.iconst 0, 1) := by decide +kernel
theorem dX8_row_10 : decode cX8_row 10 = .ok (.aload_n 0, 1) := by decide +kernel
theorem dX8_row_11 : decode cX8_row 11 = .ok (.iload_n 1, 1) := by decide +kernel
theorem dX8_row_12 : decode cX8_row 12 = .ok (.iconst 4, 1) := by decide +kernel
theorem dX8_row_13 : decode cX8_row 13 = .ok (.invokevirtual 40, 3) := by decide +kernel
theorem dX8_row_16 : decode cX8_row 16 = .ok (.iconst 1, 1) := by decide +kernel
theorem dX8_row_17 : decode cX8_row 17 = .ok (.isub, 1) := by decide +kernel
theorem dX8_row_18 : decode cX8_row 18 = .ok (.invokestatic 36, 3) := by decide +kernel
theorem dX8_row_21 : decode cX8_row 21 = .ok (.ifCond .ne 5, 3) := by decide +kernel
theorem dX8_row_24 : decode cX8_row 24 = .ok (.iconst (-1), 1) := by decide +kernel
theorem dX8_row_25 : decode cX8_row 25 = .ok (.ireturn, 1) := by decide +kernel
theorem dX8_row_26 : decode cX8_row 26 = .ok (.iload_n 3, 1) := by decide +kernel
theorem dX8_row_27 : decode cX8_row 27 = .ok (.iconst 0, 1) := by decide +kernel
theorem dX8_row_28 : decode cX8_row 28 = .ok (.iconst 2, 1) := by decide +kernel
theorem dX8_row_29 : decode cX8_row 29 = .ok (.invokestatic 36, 3) := by decide +kernel
theorem dX8_row_32 : decode cX8_row 32 = .ok (.ifCond .eq 18, 3) := by decide +kernel
theorem dX8_row_35 : decode cX8_row 35 = .ok (.aload_n 0, 1) := by decide +kernel
theorem dX8_row_36 : decode cX8_row 36 = .ok (.iload_n 1, 1) := by decide +kernel
theorem dX8_row_37 : decode cX8_row 37 = .ok (.iconst 5, 1) := by decide +kernel
theorem dX8_row_38 : decode cX8_row 38 = .ok (.iconst 3, 1) := by decide +kernel
theorem dX8_row_39 : decode cX8_row 39 = .ok (.iload_n 2, 1) := by decide +kernel
theorem dX8_row_40 : decode cX8_row 40 = .ok (.imul, 1) := by decide +kernel
theorem dX8_row_41 : decode cX8_row 41 = .ok (.iadd, 1) := by decide +kernel
theorem dX8_row_42 : decode cX8_row 42 = .ok (.iload_n 3, 1) := by decide +kernel
theorem dX8_row_43 : decode cX8_row 43 = .ok (.iadd, 1) := by decide +kernel
theorem dX8_row_44 : decode cX8_row 44 = .ok (.invokevirtual 40, 3) := by decide +kernel
theorem dX8_row_47 : decode cX8_row 47 = .ok (.goto 5, 3) := by decide +kernel
theorem dX8_row_50 : decode cX8_row 50 = .ok (.bipush (-2), 2) := by decide +kernel
theorem dX8_row_52 : decode cX8_row 52 = .ok (.ireturn, 1) := by decide +kernel
theorem dX8_heard_0 : decode cX8_heard 0 = .ok (.aload_n 0, 1) := by decide +kernel
theorem dX8_heard_1 : decode cX8_heard 1 = .ok (.iload_n 1, 1) := by decide +kernel
theorem dX8_heard_2 : decode cX8_heard 2 = .ok (.invokevirtual 66, 3) := by decide +kernel
theorem dX8_heard_5 : decode cX8_heard 5 = .ok (.ifCond .eq 20, 3) := by decide +kernel
theorem dX8_heard_8 : decode cX8_heard 8 = .ok (.iload_n 2, 1) := by decide +kernel
theorem dX8_heard_9 : decode cX8_heard 9 = .ok (.iconst 0, 1) := by decide +kernel
theorem dX8_heard_10 : decode cX8_heard 10 = .ok (.aload_n 0, 1) := by decide +kernel
theorem dX8_heard_11 : decode cX8_heard 11 = .ok (.iload_n 1, 1) := by decide +kernel
theorem dX8_heard_12 : decode cX8_heard 12 = .ok (.bipush 23, 2) := by decide +kernel
theorem dX8_heard_14 : decode cX8_heard 14 = .ok (.invokevirtual 40, 3) := by decide +kernel
theorem dX8_heard_17 : decode cX8_heard 17 = .ok (.iconst 1, 1) := by decide +kernel
theorem dX8_heard_18 : decode cX8_heard 18 = .ok (.isub, 1) := by decide +kernel
theorem dX8_heard_19 : decode cX8_heard 19 = .ok (.invokestatic 36, 3) := by decide +kernel
theorem dX8_heard_22 : decode cX8_heard 22 = .ok (.ifCond .ne 5, 3) := by decide +kernel
theorem dX8_heard_25 : decode cX8_heard 25 = .ok (.iconst (-1), 1) := by decide +kernel
theorem dX8_heard_26 : decode cX8_heard 26 = .ok (.ireturn, 1) := by decide +kernel
theorem dX8_heard_27 : decode cX8_heard 27 = .ok (.iload_n 3, 1) := by decide +kernel
theorem dX8_heard_28 : decode cX8_heard 28 = .ok (.iconst 0, 1) := by decide +kernel
theorem dX8_heard_29 : decode cX8_heard 29 = .ok (.iconst 3, 1) := by decide +kernel
theorem dX8_heard_30 : decode cX8_heard 30 = .ok (.invokestatic 36, 3) := by decide +kernel
theorem dX8_heard_33 : decode cX8_heard 33 = .ok (.ifCond .eq 19, 3) := by decide +kernel
theorem dX8_heard_36 : decode cX8_heard 36 = .ok (.aload_n 0, 1) := by decide +kernel
theorem dX8_heard_37 : decode cX8_heard 37 = .ok (.iload_n 1, 1) := by decide +kernel
theorem dX8_heard_38 : decode cX8_heard 38 = .ok (.bipush 24, 2) := by decide +kernel
theorem dX8_heard_40 : decode cX8_heard 40 = .ok (.iconst 4, 1) := by decide +kernel
theorem dX8_heard_41 : decode cX8_heard 41 = .ok (.iload_n 2, 1) := by decide +kernel
theorem dX8_heard_42 : decode cX8_heard 42 = .ok (.imul, 1) := by decide +kernel
theorem dX8_heard_43 : decode cX8_heard 43 = .ok (.iadd, 1) := by decide +kernel
theorem dX8_heard_44 : decode cX8_heard 44 = .ok (.iload_n 3, 1) := by decide +kernel
theorem dX8_heard_45 : decode cX8_heard 45 = .ok (.iadd, 1) := by decide +kernel
theorem dX8_heard_46 : decode cX8_heard 46 = .ok (.invokevirtual 40, 3) := by decide +kernel
theorem dX8_heard_49 : decode cX8_heard 49 = .ok (.goto 5, 3) := by decide +kernel
theorem dX8_heard_52 : decode cX8_heard 52 = .ok (.bipush (-2), 2) := by decide +kernel
theorem dX8_heard_54 : decode cX8_heard 54 = .ok (.ireturn, 1) := by decide +kernel
theorem dX8_sum_0 : decode cX8_sum 0 = .ok (.iconst 0, 1) := by decide +kernel
theorem dX8_sum_1 : decode cX8_sum 1 = .ok (.istore_n 2, 1) := by decide +kernel
theorem dX8_sum_2 : decode cX8_sum 2 = .ok (.iconst 0, 1) := by decide +kernel
theorem dX8_sum_3 : decode cX8_sum 3 = .ok (.istore_n 3, 1) := by decide +kernel
theorem dX8_sum_4 : decode cX8_sum 4 = .ok (.iload_n 3, 1) := by decide +kernel
theorem dX8_sum_5 : decode cX8_sum 5 = .ok (.aload_n 0, 1) := by decide +kernel
theorem dX8_sum_6 : decode cX8_sum 6 = .ok (.getfield 7, 3) := by decide +kernel
theorem dX8_sum_9 : decode cX8_sum 9 = .ok (.bipush 6, 2) := by decide +kernel
theorem dX8_sum_11 : decode cX8_sum 11 = .ok (.iaload, 1) := by decide +kernel
theorem dX8_sum_12 : decode cX8_sum 12 = .ok (.if_icmp .ge 18, 3) := by decide +kernel
theorem dX8_sum_15 : decode cX8_sum 15 = .ok (.iload_n 2, 1) := by decide +kernel
theorem dX8_sum_16 : decode cX8_sum 16 = .ok (.aload_n 0, 1) := by decide +kernel
theorem dX8_sum_17 : decode cX8_sum 17 = .ok (.iload_n 3, 1) := by decide +kernel
theorem dX8_sum_18 : decode cX8_sum 18 = .ok (.iload_n 1, 1) := by decide +kernel
theorem dX8_sum_19 : decode cX8_sum 19 = .ok (.invokevirtual 40, 3) := by decide +kernel
theorem dX8_sum_22 : decode cX8_sum 22 = .ok (.iadd, 1) := by decide +kernel
theorem dX8_sum_23 : decode cX8_sum 23 = .ok (.istore_n 2, 1) := by decide +kernel
theorem dX8_sum_24 : decode cX8_sum 24 = .ok (.iinc 3 1, 3) := by decide +kernel
theorem dX8_sum_27 : decode cX8_sum 27 = .ok (.goto (-23), 3) := by decide +kernel
theorem dX8_sum_30 : decode cX8_sum 30 = .ok (.iload_n 2, 1) := by decide +kernel
theorem dX8_sum_31 : decode cX8_sum 31 = .ok (.ireturn, 1) := by decide +kernel
theorem dX8_speakers_0 : decode cX8_speakers 0 = .ok (.iconst 0, 1) := by decide +kernel
theorem dX8_speakers_1 : decode cX8_speakers 1 = .ok (.istore_n 1, 1) := by decide +kernel
theorem dX8_speakers_2 : decode cX8_speakers 2 = .ok (.iconst 0, 1) := by decide +kernel
theorem dX8_speakers_3 : decode cX8_speakers 3 = .ok (.istore_n 2, 1) := by decide +kernel
theorem dX8_speakers_4 : decode cX8_speakers 4 = .ok (.iload_n 2, 1) := by decide +kernel
theorem dX8_speakers_5 : decode cX8_speakers 5 = .ok (.aload_n 0, 1) := by decide +kernel
theorem dX8_speakers_6 : decode cX8_speakers 6 = .ok (.getfield 7, 3) := by decide +kernel
theorem dX8_speakers_9 : decode cX8_speakers 9 = .ok (.bipush 6, 2) := by decide +kernel
theorem dX8_speakers_11 : decode cX8_speakers 11 = .ok (.iaload, 1) := by decide +kernel
theorem dX8_speakers_12 : decode cX8_speakers 12 = .ok (.if_icmp .ge 27, 3) := by decide +kernel
theorem dX8_speakers_15 : decode cX8_speakers 15 = .ok (.iload_n 1, 1) := by decide +kernel
theorem dX8_speakers_16 : decode cX8_speakers 16 = .ok (.aload_n 0, 1) := by decide +kernel
theorem dX8_speakers_17 : decode cX8_speakers 17 = .ok (.iload_n 2, 1) := by decide +kernel
theorem dX8_speakers_18 : decode cX8_speakers 18 = .ok (.invokevirtual 109, 3) := by decide +kernel
theorem dX8_speakers_21 : decode cX8_speakers 21 = .ok (.ifCond .eq 9, 3) := by decide +kernel
theorem dX8_speakers_24 : decode cX8_speakers 24 = .ok (.iconst 1, 1) := by decide +kernel
theorem dX8_speakers_25 : decode cX8_speakers 25 = .ok (.iload_n 2, 1) := by decide +kernel
theorem dX8_speakers_26 : decode cX8_speakers 26 = .ok (.ishl, 1) := by decide +kernel
theorem dX8_speakers_27 : decode cX8_speakers 27 = .ok (.goto 4, 3) := by decide +kernel
theorem dX8_speakers_30 : decode cX8_speakers 30 = .ok (.iconst 0, 1) := by decide +kernel
theorem dX8_speakers_31 : decode cX8_speakers 31 = .ok (.ior, 1) := by decide +kernel
theorem dX8_speakers_32 : decode cX8_speakers 32 = .ok (.istore_n 1, 1) := by decide +kernel
theorem dX8_speakers_33 : decode cX8_speakers 33 = .ok (.iinc 2 1, 3) := by decide +kernel
theorem dX8_speakers_36 : decode cX8_speakers 36 = .ok (.goto (-32), 3) := by decide +kernel
theorem dX8_speakers_39 : decode cX8_speakers 39 = .ok (.iload_n 1, 1) := by decide +kernel
theorem dX8_speakers_40 : decode cX8_speakers 40 = .ok (.ireturn, 1) := by decide +kernel
theorem dX8_awake_0 : decode cX8_awake 0 = .ok (.iconst 0, 1) := by decide +kernel
theorem dX8_awake_1 : decode cX8_awake 1 = .ok (.istore_n 1, 1) := by decide +kernel
theorem dX8_awake_2 : decode cX8_awake 2 = .ok (.iconst 0, 1) := by decide +kernel
theorem dX8_awake_3 : decode cX8_awake 3 = .ok (.istore_n 2, 1) := by decide +kernel
theorem dX8_awake_4 : decode cX8_awake 4 = .ok (.iload_n 2, 1) := by decide +kernel
theorem dX8_awake_5 : decode cX8_awake 5 = .ok (.aload_n 0, 1) := by decide +kernel
theorem dX8_awake_6 : decode cX8_awake 6 = .ok (.getfield 7, 3) := by decide +kernel
theorem dX8_awake_9 : decode cX8_awake 9 = .ok (.bipush 6, 2) := by decide +kernel
theorem dX8_awake_11 : decode cX8_awake 11 = .ok (.iaload, 1) := by decide +kernel
theorem dX8_awake_12 : decode cX8_awake 12 = .ok (.if_icmp .ge 27, 3) := by decide +kernel
theorem dX8_awake_15 : decode cX8_awake 15 = .ok (.iload_n 1, 1) := by decide +kernel
theorem dX8_awake_16 : decode cX8_awake 16 = .ok (.aload_n 0, 1) := by decide +kernel
theorem dX8_awake_17 : decode cX8_awake 17 = .ok (.iload_n 2, 1) := by decide +kernel
theorem dX8_awake_18 : decode cX8_awake 18 = .ok (.invokevirtual 121, 3) := by decide +kernel
theorem dX8_awake_21 : decode cX8_awake 21 = .ok (.ifCond .eq 9, 3) := by decide +kernel
theorem dX8_awake_24 : decode cX8_awake 24 = .ok (.iconst 1, 1) := by decide +kernel
theorem dX8_awake_25 : decode cX8_awake 25 = .ok (.iload_n 2, 1) := by decide +kernel
theorem dX8_awake_26 : decode cX8_awake 26 = .ok (.ishl, 1) := by decide +kernel
theorem dX8_awake_27 : decode cX8_awake 27 = .ok (.goto 4, 3) := by decide +kernel
theorem dX8_awake_30 : decode cX8_awake 30 = .ok (.iconst 0, 1) := by decide +kernel
theorem dX8_awake_31 : decode cX8_awake 31 = .ok (.ior, 1) := by decide +kernel
theorem dX8_awake_32 : decode cX8_awake 32 = .ok (.istore_n 1, 1) := by decide +kernel
theorem dX8_awake_33 : decode cX8_awake 33 = .ok (.iinc 2 1, 3) := by decide +kernel
theorem dX8_awake_36 : decode cX8_awake 36 = .ok (.goto (-32), 3) := by decide +kernel
theorem dX8_awake_39 : decode cX8_awake 39 = .ok (.iload_n 1, 1) := by decide +kernel
theorem dX8_awake_40 : decode cX8_awake 40 = .ok (.ireturn, 1) := by decide +kernel
theorem dX8_faults_0 : decode cX8_faults 0 = .ok (.iconst 0, 1) := by decide +kernel
theorem dX8_faults_1 : decode cX8_faults 1 = .ok (.istore_n 1, 1) := by decide +kernel
theorem dX8_faults_2 : decode cX8_faults 2 = .ok (.iconst 0, 1) := by decide +kernel
theorem dX8_faults_3 : decode cX8_faults 3 = .ok (.istore_n 2, 1) := by decide +kernel
theorem dX8_faults_4 : decode cX8_faults 4 = .ok (.iload_n 2, 1) := by decide +kernel
theorem dX8_faults_5 : decode cX8_faults 5 = .ok (.bipush 6, 2) := by decide +kernel
theorem dX8_faults_7 : decode cX8_faults 7 = .ok (.if_icmp .ge 20, 3) := by decide +kernel
theorem dX8_faults_10 : decode cX8_faults 10 = .ok (.iload_n 1, 1) := by decide +kernel
theorem dX8_faults_11 : decode cX8_faults 11 = .ok (.aload_n 0, 1) := by decide +kernel
theorem dX8_faults_12 : decode cX8_faults 12 = .ok (.iload_n 2, 1) := by decide +kernel
theorem dX8_faults_13 : decode cX8_faults 13 = .ok (.iconst 1, 1) := by decide +kernel
theorem dX8_faults_14 : decode cX8_faults 14 = .ok (.invokevirtual 100, 3) := by decide +kernel
theorem dX8_faults_17 : decode cX8_faults 17 = .ok (.iload_n 2, 1) := by decide +kernel
theorem dX8_faults_18 : decode cX8_faults 18 = .ok (.ishl, 1) := by decide +kernel
theorem dX8_faults_19 : decode cX8_faults 19 = .ok (.ior, 1) := by decide +kernel
theorem dX8_faults_20 : decode cX8_faults 20 = .ok (.istore_n 1, 1) := by decide +kernel
theorem dX8_faults_21 : decode cX8_faults 21 = .ok (.iinc 2 1, 3) := by decide +kernel
theorem dX8_faults_24 : decode cX8_faults 24 = .ok (.goto (-20), 3) := by decide +kernel
theorem dX8_faults_27 : decode cX8_faults 27 = .ok (.iload_n 1, 1) := by decide +kernel
theorem dX8_faults_28 : decode cX8_faults 28 = .ok (.ireturn, 1) := by decide +kernel
theorem dX8_count_0 : decode cX8_count 0 = .ok (.iload_n 1, 1) := by decide +kernel
theorem dX8_count_1 : decode cX8_count 1 = .ok (.tableswitch 166 0 16 #[83, 90, 98, 103, 108, 114, 121, 128, 135, 140, 146, 146, 146, 146, 146, 156, 161], 83) := by decide +kernel
theorem dX8_count_84 : decode cX8_count 84 = .ok (.aload_n 0, 1) := by decide +kernel
theorem dX8_count_85 : decode cX8_count 85 = .ok (.getfield 7, 3) := by decide +kernel
theorem dX8_count_88 : decode cX8_count 88 = .ok (.iconst 5, 1) := by decide +kernel
theorem dX8_count_89 : decode cX8_count 89 = .ok (.iaload, 1) := by decide +kernel
theorem dX8_count_90 : decode cX8_count 90 = .ok (.ireturn, 1) := by decide +kernel
theorem dX8_count_91 : decode cX8_count 91 = .ok (.aload_n 0, 1) := by decide +kernel
theorem dX8_count_92 : decode cX8_count 92 = .ok (.getfield 7, 3) := by decide +kernel
theorem dX8_count_95 : decode cX8_count 95 = .ok (.bipush 6, 2) := by decide +kernel
theorem dX8_count_97 : decode cX8_count 97 = .ok (.iaload, 1) := by decide +kernel
theorem dX8_count_98 : decode cX8_count 98 = .ok (.ireturn, 1) := by decide +kernel
theorem dX8_count_99 : decode cX8_count 99 = .ok (.aload_n 0, 1) := by decide +kernel
theorem dX8_count_100 : decode cX8_count 100 = .ok (.invokevirtual 171, 3) := by decide +kernel
theorem dX8_count_103 : decode cX8_count 103 = .ok (.ireturn, 1) := by decide +kernel
theorem dX8_count_104 : decode cX8_count 104 = .ok (.aload_n 0, 1) := by decide +kernel
theorem dX8_count_105 : decode cX8_count 105 = .ok (.invokevirtual 174, 3) := by decide +kernel
theorem dX8_count_108 : decode cX8_count 108 = .ok (.ireturn, 1) := by decide +kernel
theorem dX8_count_109 : decode cX8_count 109 = .ok (.aload_n 0, 1) := by decide +kernel
theorem dX8_count_110 : decode cX8_count 110 = .ok (.iconst 4, 1) := by decide +kernel
theorem dX8_count_111 : decode cX8_count 111 = .ok (.invokevirtual 177, 3) := by decide +kernel
theorem dX8_count_114 : decode cX8_count 114 = .ok (.ireturn, 1) := by decide +kernel
theorem dX8_count_115 : decode cX8_count 115 = .ok (.aload_n 0, 1) := by decide +kernel
theorem dX8_count_116 : decode cX8_count 116 = .ok (.bipush 19, 2) := by decide +kernel
theorem dX8_count_118 : decode cX8_count 118 = .ok (.invokevirtual 177, 3) := by decide +kernel
theorem dX8_count_121 : decode cX8_count 121 = .ok (.ireturn, 1) := by decide +kernel
theorem dX8_count_122 : decode cX8_count 122 = .ok (.aload_n 0, 1) := by decide +kernel
theorem dX8_count_123 : decode cX8_count 123 = .ok (.bipush 20, 2) := by decide +kernel
theorem dX8_count_125 : decode cX8_count 125 = .ok (.invokevirtual 177, 3) := by decide +kernel
theorem dX8_count_128 : decode cX8_count 128 = .ok (.ireturn, 1) := by decide +kernel
theorem dX8_count_129 : decode cX8_count 129 = .ok (.aload_n 0, 1) := by decide +kernel
theorem dX8_count_130 : decode cX8_count 130 = .ok (.bipush 22, 2) := by decide +kernel
theorem dX8_count_132 : decode cX8_count 132 = .ok (.invokevirtual 177, 3) := by decide +kernel
theorem dX8_count_135 : decode cX8_count 135 = .ok (.ireturn, 1) := by decide +kernel
theorem dX8_count_136 : decode cX8_count 136 = .ok (.aload_n 0, 1) := by decide +kernel
theorem dX8_count_137 : decode cX8_count 137 = .ok (.invokevirtual 180, 3) := by decide +kernel
theorem dX8_count_140 : decode cX8_count 140 = .ok (.ireturn, 1) := by decide +kernel
theorem dX8_count_141 : decode cX8_count 141 = .ok (.aload_n 0, 1) := by decide +kernel
theorem dX8_count_142 : decode cX8_count 142 = .ok (.iconst 1, 1) := by decide +kernel
theorem dX8_count_143 : decode cX8_count 143 = .ok (.invokevirtual 177, 3) := by decide +kernel
theorem dX8_count_146 : decode cX8_count 146 = .ok (.ireturn, 1) := by decide +kernel
theorem dX8_count_147 : decode cX8_count 147 = .ok (.aload_n 0, 1) := by decide +kernel
theorem dX8_count_148 : decode cX8_count 148 = .ok (.getfield 7, 3) := by decide +kernel
theorem dX8_count_151 : decode cX8_count 151 = .ok (.iload_n 1, 1) := by decide +kernel
theorem dX8_count_152 : decode cX8_count 152 = .ok (.bipush 10, 2) := by decide +kernel
theorem dX8_count_154 : decode cX8_count 154 = .ok (.isub, 1) := by decide +kernel
theorem dX8_count_155 : decode cX8_count 155 = .ok (.iaload, 1) := by decide +kernel
theorem dX8_count_156 : decode cX8_count 156 = .ok (.ireturn, 1) := by decide +kernel
theorem dX8_count_157 : decode cX8_count 157 = .ok (.aload_n 0, 1) := by decide +kernel
theorem dX8_count_158 : decode cX8_count 158 = .ok (.getfield 183, 3) := by decide +kernel
theorem dX8_count_161 : decode cX8_count 161 = .ok (.ireturn, 1) := by decide +kernel
theorem dX8_count_162 : decode cX8_count 162 = .ok (.aload_n 0, 1) := by decide +kernel
theorem dX8_count_163 : decode cX8_count 163 = .ok (.getfield 44, 3) := by decide +kernel
theorem dX8_count_166 : decode cX8_count 166 = .ok (.ireturn, 1) := by decide +kernel
theorem dX8_count_167 : decode cX8_count 167 = .ok (.bipush (-2), 2) := by decide +kernel
theorem dX8_count_169 : decode cX8_count 169 = .ok (.ireturn, 1) := by decide +kernel
theorem dX8_why_0 : decode cX8_why 0 = .ok (.aload_n 0, 1) := by decide +kernel
theorem dX8_why_1 : decode cX8_why 1 = .ok (.iload_n 1, 1) := by decide +kernel
theorem dX8_why_2 : decode cX8_why 2 = .ok (.invokevirtual 66, 3) := by decide +kernel
theorem dX8_why_5 : decode cX8_why 5 = .ok (.ifCond .ne 5, 3) := by decide +kernel
theorem dX8_why_8 : decode cX8_why 8 = .ok (.iconst (-1), 1) := by decide +kernel
theorem dX8_why_9 : decode cX8_why 9 = .ok (.ireturn, 1) := by decide +kernel
theorem dX8_why_10 : decode cX8_why 10 = .ok (.aload_n 0, 1) := by decide +kernel
theorem dX8_why_11 : decode cX8_why 11 = .ok (.iload_n 1, 1) := by decide +kernel
theorem dX8_why_12 : decode cX8_why 12 = .ok (.invokevirtual 109, 3) := by decide +kernel
theorem dX8_why_15 : decode cX8_why 15 = .ok (.ifCond .eq 5, 3) := by decide +kernel
theorem dX8_why_18 : decode cX8_why 18 = .ok (.iconst 1, 1) := by decide +kernel
theorem dX8_why_19 : decode cX8_why 19 = .ok (.ireturn, 1) := by decide +kernel
theorem dX8_why_20 : decode cX8_why 20 = .ok (.aload_n 0, 1) := by decide +kernel
theorem dX8_why_21 : decode cX8_why 21 = .ok (.iload_n 1, 1) := by decide +kernel
theorem dX8_why_22 : decode cX8_why 22 = .ok (.invokevirtual 121, 3) := by decide +kernel
theorem dX8_why_25 : decode cX8_why 25 = .ok (.ifCond .ne 19, 3) := by decide +kernel
theorem dX8_why_28 : decode cX8_why 28 = .ok (.aload_n 0, 1) := by decide +kernel
theorem dX8_why_29 : decode cX8_why 29 = .ok (.iload_n 1, 1) := by decide +kernel
theorem dX8_why_30 : decode cX8_why 30 = .ok (.iconst 3, 1) := by decide +kernel
theorem dX8_why_31 : decode cX8_why 31 = .ok (.invokevirtual 40, 3) := by decide +kernel
theorem dX8_why_34 : decode cX8_why 34 = .ok (.iconst 1, 1) := by decide +kernel
theorem dX8_why_35 : decode cX8_why 35 = .ok (.if_icmp .ne 7, 3) := by decide +kernel
theorem dX8_why_38 : decode cX8_why 38 = .ok (.iconst 2, 1) := by decide +kernel
theorem dX8_why_39 : decode cX8_why 39 = .ok (.goto 4, 3) := by decide +kernel
theorem dX8_why_42 : decode cX8_why 42 = .ok (.iconst 3, 1) := by decide +kernel
theorem dX8_why_43 : decode cX8_why 43 = .ok (.ireturn, 1) := by decide +kernel
theorem dX8_why_44 : decode cX8_why 44 = .ok (.aload_n 0, 1) := by decide +kernel
theorem dX8_why_45 : decode cX8_why 45 = .ok (.iload_n 1, 1) := by decide +kernel
theorem dX8_why_46 : decode cX8_why 46 = .ok (.iconst 4, 1) := by decide +kernel
theorem dX8_why_47 : decode cX8_why 47 = .ok (.invokevirtual 40, 3) := by decide +kernel
theorem dX8_why_50 : decode cX8_why 50 = .ok (.ifCond .ne 5, 3) := by decide +kernel
theorem dX8_why_53 : decode cX8_why 53 = .ok (.iconst 4, 1) := by decide +kernel
theorem dX8_why_54 : decode cX8_why 54 = .ok (.ireturn, 1) := by decide +kernel
theorem dX8_why_55 : decode cX8_why 55 = .ok (.aload_n 0, 1) := by decide +kernel
theorem dX8_why_56 : decode cX8_why 56 = .ok (.aload_n 0, 1) := by decide +kernel
theorem dX8_why_57 : decode cX8_why 57 = .ok (.iload_n 1, 1) := by decide +kernel
theorem dX8_why_58 : decode cX8_why 58 = .ok (.invokevirtual 90, 3) := by decide +kernel
theorem dX8_why_61 : decode cX8_why 61 = .ok (.iconst 0, 1) := by decide +kernel
theorem dX8_why_62 : decode cX8_why 62 = .ok (.invokevirtual 100, 3) := by decide +kernel
theorem dX8_why_65 : decode cX8_why 65 = .ok (.aload_n 0, 1) := by decide +kernel
theorem dX8_why_66 : decode cX8_why 66 = .ok (.getfield 7, 3) := by decide +kernel
theorem dX8_why_69 : decode cX8_why 69 = .ok (.iconst 0, 1) := by decide +kernel
theorem dX8_why_70 : decode cX8_why 70 = .ok (.iaload, 1) := by decide +kernel
theorem dX8_why_71 : decode cX8_why 71 = .ok (.if_icmp .lt 7, 3) := by decide +kernel
theorem dX8_why_74 : decode cX8_why 74 = .ok (.iconst 0, 1) := by decide +kernel
theorem dX8_why_75 : decode cX8_why 75 = .ok (.goto 23, 3) := by decide +kernel
theorem dX8_why_78 : decode cX8_why 78 = .ok (.aload_n 0, 1) := by decide +kernel
theorem dX8_why_79 : decode cX8_why 79 = .ok (.aload_n 0, 1) := by decide +kernel
theorem dX8_why_80 : decode cX8_why 80 = .ok (.iload_n 1, 1) := by decide +kernel
theorem dX8_why_81 : decode cX8_why 81 = .ok (.invokevirtual 90, 3) := by decide +kernel
theorem dX8_why_84 : decode cX8_why 84 = .ok (.iconst 1, 1) := by decide +kernel
theorem dX8_why_85 : decode cX8_why 85 = .ok (.invokevirtual 100, 3) := by decide +kernel
theorem dX8_why_88 : decode cX8_why 88 = .ok (.iconst 1, 1) := by decide +kernel
theorem dX8_why_89 : decode cX8_why 89 = .ok (.if_icmp .ne 7, 3) := by decide +kernel
theorem dX8_why_92 : decode cX8_why 92 = .ok (.iconst 5, 1) := by decide +kernel
theorem dX8_why_93 : decode cX8_why 93 = .ok (.goto 5, 3) := by decide +kernel
theorem dX8_why_96 : decode cX8_why 96 = .ok (.bipush 6, 2) := by decide +kernel
theorem dX8_why_98 : decode cX8_why 98 = .ok (.ireturn, 1) := by decide +kernel
theorem dX8_endsIn_0 : decode cX8_endsIn 0 = .ok (.aload_n 0, 1) := by decide +kernel
theorem dX8_endsIn_1 : decode cX8_endsIn 1 = .ok (.iload_n 1, 1) := by decide +kernel
theorem dX8_endsIn_2 : decode cX8_endsIn 2 = .ok (.invokevirtual 66, 3) := by decide +kernel
theorem dX8_endsIn_5 : decode cX8_endsIn 5 = .ok (.ifCond .ne 5, 3) := by decide +kernel
theorem dX8_endsIn_8 : decode cX8_endsIn 8 = .ok (.iconst (-1), 1) := by decide +kernel
theorem dX8_endsIn_9 : decode cX8_endsIn 9 = .ok (.ireturn, 1) := by decide +kernel
theorem dX8_endsIn_10 : decode cX8_endsIn 10 = .ok (.iload_n 2, 1) := by decide +kernel
theorem dX8_endsIn_11 : decode cX8_endsIn 11 = .ok (.iconst 0, 1) := by decide +kernel
theorem dX8_endsIn_12 : decode cX8_endsIn 12 = .ok (.iconst 1, 1) := by decide +kernel
theorem dX8_endsIn_13 : decode cX8_endsIn 13 = .ok (.invokestatic 36, 3) := by decide +kernel
theorem dX8_endsIn_16 : decode cX8_endsIn 16 = .ok (.ifCond .ne 6, 3) := by decide +kernel
theorem dX8_endsIn_19 : decode cX8_endsIn 19 = .ok (.bipush (-2), 2) := by decide +kernel
theorem dX8_endsIn_21 : decode cX8_endsIn 21 = .ok (.ireturn, 1) := by decide +kernel
theorem dX8_endsIn_22 : decode cX8_endsIn 22 = .ok (.aload_n 0, 1) := by decide +kernel
theorem dX8_endsIn_23 : decode cX8_endsIn 23 = .ok (.iload_n 1, 1) := by decide +kernel
theorem dX8_endsIn_24 : decode cX8_endsIn 24 = .ok (.iconst 4, 1) := by decide +kernel
theorem dX8_endsIn_25 : decode cX8_endsIn 25 = .ok (.invokevirtual 40, 3) := by decide +kernel
theorem dX8_endsIn_28 : decode cX8_endsIn 28 = .ok (.ifCond .ne 6, 3) := by decide +kernel
theorem dX8_endsIn_31 : decode cX8_endsIn 31 = .ok (.bipush (-5), 2) := by decide +kernel
theorem dX8_endsIn_33 : decode cX8_endsIn 33 = .ok (.ireturn, 1) := by decide +kernel
theorem dX8_endsIn_34 : decode cX8_endsIn 34 = .ok (.aload_n 0, 1) := by decide +kernel
theorem dX8_endsIn_35 : decode cX8_endsIn 35 = .ok (.invokevirtual 186, 3) := by decide +kernel
theorem dX8_endsIn_38 : decode cX8_endsIn 38 = .ok (.aload_n 0, 1) := by decide +kernel
theorem dX8_endsIn_39 : decode cX8_endsIn 39 = .ok (.iload_n 1, 1) := by decide +kernel
theorem dX8_endsIn_40 : decode cX8_endsIn 40 = .ok (.iconst 4, 1) := by decide +kernel
theorem dX8_endsIn_41 : decode cX8_endsIn 41 = .ok (.invokevirtual 40, 3) := by decide +kernel
theorem dX8_endsIn_44 : decode cX8_endsIn 44 = .ok (.istore_n 3, 1) := by decide +kernel
theorem dX8_endsIn_45 : decode cX8_endsIn 45 = .ok (.aload_n 0, 1) := by decide +kernel
theorem dX8_endsIn_46 : decode cX8_endsIn 46 = .ok (.iload_n 1, 1) := by decide +kernel
theorem dX8_endsIn_47 : decode cX8_endsIn 47 = .ok (.bipush 19, 2) := by decide +kernel
theorem dX8_endsIn_49 : decode cX8_endsIn 49 = .ok (.invokevirtual 40, 3) := by decide +kernel
theorem dX8_endsIn_52 : decode cX8_endsIn 52 = .ok (.istore 4, 2) := by decide +kernel
theorem dX8_endsIn_54 : decode cX8_endsIn 54 = .ok (.iconst 0, 1) := by decide +kernel
theorem dX8_endsIn_55 : decode cX8_endsIn 55 = .ok (.istore 5, 2) := by decide +kernel
theorem dX8_endsIn_57 : decode cX8_endsIn 57 = .ok (.iload 5, 2) := by decide +kernel
theorem dX8_endsIn_59 : decode cX8_endsIn 59 = .ok (.sipush 600, 3) := by decide +kernel
theorem dX8_endsIn_62 : decode cX8_endsIn 62 = .ok (.if_icmp .gt 24, 3) := by decide +kernel
theorem dX8_endsIn_65 : decode cX8_endsIn 65 = .ok (.aload_n 0, 1) := by decide +kernel
theorem dX8_endsIn_66 : decode cX8_endsIn 66 = .ok (.iload_n 1, 1) := by decide +kernel
theorem dX8_endsIn_67 : decode cX8_endsIn 67 = .ok (.iconst 4, 1) := by decide +kernel
theorem dX8_endsIn_68 : decode cX8_endsIn 68 = .ok (.invokevirtual 40, 3) := by decide +kernel
theorem dX8_endsIn_71 : decode cX8_endsIn 71 = .ok (.iload_n 3, 1) := by decide +kernel
theorem dX8_endsIn_72 : decode cX8_endsIn 72 = .ok (.if_icmp .ne 14, 3) := by decide +kernel
theorem dX8_endsIn_75 : decode cX8_endsIn 75 = .ok (.aload_n 0, 1) := by decide +kernel
theorem dX8_endsIn_76 : decode cX8_endsIn 76 = .ok (.invokevirtual 152, 3) := by decide +kernel
theorem dX8_endsIn_79 : decode cX8_endsIn 79 = .ok (.pop, 1) := by decide +kernel
theorem dX8_endsIn_80 : decode cX8_endsIn 80 = .ok (.iinc 5 1, 3) := by decide +kernel
theorem dX8_endsIn_83 : decode cX8_endsIn 83 = .ok (.goto (-26), 3) := by decide +kernel
theorem dX8_endsIn_86 : decode cX8_endsIn 86 = .ok (.iload_n 2, 1) := by decide +kernel
theorem dX8_endsIn_87 : decode cX8_endsIn 87 = .ok (.ifCond .ne 8, 3) := by decide +kernel
theorem dX8_endsIn_90 : decode cX8_endsIn 90 = .ok (.iload 5, 2) := by decide +kernel
theorem dX8_endsIn_92 : decode cX8_endsIn 92 = .ok (.goto 20, 3) := by decide +kernel
theorem dX8_endsIn_95 : decode cX8_endsIn 95 = .ok (.aload_n 0, 1) := by decide +kernel
theorem dX8_endsIn_96 : decode cX8_endsIn 96 = .ok (.iload_n 1, 1) := by decide +kernel
theorem dX8_endsIn_97 : decode cX8_endsIn 97 = .ok (.bipush 19, 2) := by decide +kernel
theorem dX8_endsIn_99 : decode cX8_endsIn 99 = .ok (.invokevirtual 40, 3) := by decide +kernel
theorem dX8_endsIn_102 : decode cX8_endsIn 102 = .ok (.iload 4, 2) := by decide +kernel
theorem dX8_endsIn_104 : decode cX8_endsIn 104 = .ok (.if_icmp .le 7, 3) := by decide +kernel
theorem dX8_endsIn_107 : decode cX8_endsIn 107 = .ok (.iconst 1, 1) := by decide +kernel
theorem dX8_endsIn_108 : decode cX8_endsIn 108 = .ok (.goto 4, 3) := by decide +kernel
theorem dX8_endsIn_111 : decode cX8_endsIn 111 = .ok (.iconst 2, 1) := by decide +kernel
theorem dX8_endsIn_112 : decode cX8_endsIn 112 = .ok (.istore 6, 2) := by decide +kernel
theorem dX8_endsIn_114 : decode cX8_endsIn 114 = .ok (.aload_n 0, 1) := by decide +kernel
theorem dX8_endsIn_115 : decode cX8_endsIn 115 = .ok (.invokevirtual 189, 3) := by decide +kernel
theorem dX8_endsIn_118 : decode cX8_endsIn 118 = .ok (.iload 5, 2) := by decide +kernel
theorem dX8_endsIn_120 : decode cX8_endsIn 120 = .ok (.sipush 600, 3) := by decide +kernel
theorem dX8_endsIn_123 : decode cX8_endsIn 123 = .ok (.if_icmp .le 8, 3) := by decide +kernel
theorem dX8_endsIn_126 : decode cX8_endsIn 126 = .ok (.bipush (-6), 2) := by decide +kernel
theorem dX8_endsIn_128 : decode cX8_endsIn 128 = .ok (.goto 5, 3) := by decide +kernel
theorem dX8_endsIn_131 : decode cX8_endsIn 131 = .ok (.iload 6, 2) := by decide +kernel
theorem dX8_endsIn_133 : decode cX8_endsIn 133 = .ok (.ireturn, 1) := by decide +kernel
theorem dX8_quietIn_0 : decode cX8_quietIn 0 = .ok (.aload_n 0, 1) := by decide +kernel
theorem dX8_quietIn_1 : decode cX8_quietIn 1 = .ok (.invokevirtual 186, 3) := by decide +kernel
theorem dX8_quietIn_4 : decode cX8_quietIn 4 = .ok (.iconst 0, 1) := by decide +kernel
theorem dX8_quietIn_5 : decode cX8_quietIn 5 = .ok (.istore_n 1, 1) := by decide +kernel
theorem dX8_quietIn_6 : decode cX8_quietIn 6 = .ok (.iload_n 1, 1) := by decide +kernel
theorem dX8_quietIn_7 : decode cX8_quietIn 7 = .ok (.sipush 900, 3) := by decide +kernel
theorem dX8_quietIn_10 : decode cX8_quietIn 10 = .ok (.if_icmp .gt 22, 3) := by decide +kernel
theorem dX8_quietIn_13 : decode cX8_quietIn 13 = .ok (.aload_n 0, 1) := by decide +kernel
theorem dX8_quietIn_14 : decode cX8_quietIn 14 = .ok (.iconst 4, 1) := by decide +kernel
theorem dX8_quietIn_15 : decode cX8_quietIn 15 = .ok (.invokevirtual 177, 3) := by decide +kernel
theorem dX8_quietIn_18 : decode cX8_quietIn 18 = .ok (.ifCond .le 14, 3) := by decide +kernel
theorem dX8_quietIn_21 : decode cX8_quietIn 21 = .ok (.aload_n 0, 1) := by decide +kernel
theorem dX8_quietIn_22 : decode cX8_quietIn 22 = .ok (.invokevirtual 152, 3) := by decide +kernel
theorem dX8_quietIn_25 : decode cX8_quietIn 25 = .ok (.pop, 1) := by decide +kernel
theorem dX8_quietIn_26 : decode cX8_quietIn 26 = .ok (.iinc 1 1, 3) := by decide +kernel
theorem dX8_quietIn_29 : decode cX8_quietIn 29 = .ok (.goto (-23), 3) := by decide +kernel
theorem dX8_quietIn_32 : decode cX8_quietIn 32 = .ok (.aload_n 0, 1) := by decide +kernel
theorem dX8_quietIn_33 : decode cX8_quietIn 33 = .ok (.invokevirtual 189, 3) := by decide +kernel
theorem dX8_quietIn_36 : decode cX8_quietIn 36 = .ok (.iload_n 1, 1) := by decide +kernel
theorem dX8_quietIn_37 : decode cX8_quietIn 37 = .ok (.sipush 900, 3) := by decide +kernel
theorem dX8_quietIn_40 : decode cX8_quietIn 40 = .ok (.if_icmp .le 8, 3) := by decide +kernel
theorem dX8_quietIn_43 : decode cX8_quietIn 43 = .ok (.bipush (-6), 2) := by decide +kernel
theorem dX8_quietIn_45 : decode cX8_quietIn 45 = .ok (.goto 4, 3) := by decide +kernel
theorem dX8_quietIn_48 : decode cX8_quietIn 48 = .ok (.iload_n 1, 1) := by decide +kernel
theorem dX8_quietIn_49 : decode cX8_quietIn 49 = .ok (.ireturn, 1) := by decide +kernel
theorem dX8_bestRest_0 : decode cX8_bestRest 0 = .ok (.iload_n 1, 1) := by decide +kernel
theorem dX8_bestRest_1 : decode cX8_bestRest 1 = .ok (.iconst 1, 1) := by decide +kernel
theorem dX8_bestRest_2 : decode cX8_bestRest 2 = .ok (.sipush 200, 3) := by decide +kernel
theorem dX8_bestRest_5 : decode cX8_bestRest 5 = .ok (.invokestatic 36, 3) := by decide +kernel
theorem dX8_bestRest_8 : decode cX8_bestRest 8 = .ok (.ifCond .eq 12, 3) := by decide +kernel
theorem dX8_bestRest_11 : decode cX8_bestRest 11 = .ok (.iload_n 2, 1) := by decide +kernel
theorem dX8_bestRest_12 : decode cX8_bestRest 12 = .ok (.iconst 0, 1) := by decide +kernel
theorem dX8_bestRest_13 : decode cX8_bestRest 13 = .ok (.iconst 1, 1) := by decide +kernel
theorem dX8_bestRest_14 : decode cX8_bestRest 14 = .ok (.invokestatic 36, 3) := by decide +kernel
theorem dX8_bestRest_17 : decode cX8_bestRest 17 = .ok (.ifCond .ne 6, 3) := by decide +kernel
theorem dX8_bestRest_20 : decode cX8_bestRest 20 = .ok (.bipush (-2), 2) := by decide +kernel
theorem dX8_bestRest_22 : decode cX8_bestRest 22 = .ok (.ireturn, 1) := by decide +kernel
theorem dX8_bestRest_23 : decode cX8_bestRest 23 = .ok (.iconst 0, 1) := by decide +kernel
theorem dX8_bestRest_24 : decode cX8_bestRest 24 = .ok (.istore_n 3, 1) := by decide +kernel
theorem dX8_bestRest_25 : decode cX8_bestRest 25 = .ok (.iconst 0, 1) := by decide +kernel
theorem dX8_bestRest_26 : decode cX8_bestRest 26 = .ok (.istore 4, 2) := by decide +kernel
theorem dX8_bestRest_28 : decode cX8_bestRest 28 = .ok (.iconst 1, 1) := by decide +kernel
theorem dX8_bestRest_29 : decode cX8_bestRest 29 = .ok (.istore 5, 2) := by decide +kernel
theorem dX8_bestRest_31 : decode cX8_bestRest 31 = .ok (.iload 5, 2) := by decide +kernel
theorem dX8_bestRest_33 : decode cX8_bestRest 33 = .ok (.bipush 20, 2) := by decide +kernel
theorem dX8_bestRest_35 : decode cX8_bestRest 35 = .ok (.if_icmp .gt 62, 3) := by decide +kernel
theorem dX8_bestRest_38 : decode cX8_bestRest 38 = .ok (.aload_n 0, 1) := by decide +kernel
theorem dX8_bestRest_39 : decode cX8_bestRest 39 = .ok (.invokevirtual 186, 3) := by decide +kernel
theorem dX8_bestRest_42 : decode cX8_bestRest 42 = .ok (.aload_n 0, 1) := by decide +kernel
theorem dX8_bestRest_43 : decode cX8_bestRest 43 = .ok (.getfield 7, 3) := by decide +kernel
theorem dX8_bestRest_46 : decode cX8_bestRest 46 = .ok (.iconst 0, 1) := by decide +kernel
theorem dX8_bestRest_47 : decode cX8_bestRest 47 = .ok (.iload 5, 2) := by decide +kernel
theorem dX8_bestRest_49 : decode cX8_bestRest 49 = .ok (.iastore, 1) := by decide +kernel
theorem dX8_bestRest_50 : decode cX8_bestRest 50 = .ok (.aload_n 0, 1) := by decide +kernel
theorem dX8_bestRest_51 : decode cX8_bestRest 51 = .ok (.iload_n 1, 1) := by decide +kernel
theorem dX8_bestRest_52 : decode cX8_bestRest 52 = .ok (.invokevirtual 159, 3) := by decide +kernel
theorem dX8_bestRest_55 : decode cX8_bestRest 55 = .ok (.istore 6, 2) := by decide +kernel
theorem dX8_bestRest_57 : decode cX8_bestRest 57 = .ok (.aload_n 0, 1) := by decide +kernel
theorem dX8_bestRest_58 : decode cX8_bestRest 58 = .ok (.invokevirtual 189, 3) := by decide +kernel
theorem dX8_bestRest_61 : decode cX8_bestRest 61 = .ok (.iload 6, 2) := by decide +kernel
theorem dX8_bestRest_63 : decode cX8_bestRest 63 = .ok (.iload 4, 2) := by decide +kernel
theorem dX8_bestRest_65 : decode cX8_bestRest 65 = .ok (.if_icmp .lt 8, 3) := by decide +kernel
theorem dX8_bestRest_68 : decode cX8_bestRest 68 = .ok (.iload 5, 2) := by decide +kernel
theorem dX8_bestRest_70 : decode cX8_bestRest 70 = .ok (.goto 4, 3) := by decide +kernel
theorem dX8_bestRest_73 : decode cX8_bestRest 73 = .ok (.iload_n 3, 1) := by decide +kernel
theorem dX8_bestRest_74 : decode cX8_bestRest 74 = .ok (.istore_n 3, 1) := by decide +kernel
theorem dX8_bestRest_75 : decode cX8_bestRest 75 = .ok (.iload 6, 2) := by decide +kernel
theorem dX8_bestRest_77 : decode cX8_bestRest 77 = .ok (.iload 4, 2) := by decide +kernel
theorem dX8_bestRest_79 : decode cX8_bestRest 79 = .ok (.if_icmp .lt 8, 3) := by decide +kernel
theorem dX8_bestRest_82 : decode cX8_bestRest 82 = .ok (.iload 6, 2) := by decide +kernel
theorem dX8_bestRest_84 : decode cX8_bestRest 84 = .ok (.goto 5, 3) := by decide +kernel
theorem dX8_bestRest_87 : decode cX8_bestRest 87 = .ok (.iload 4, 2) := by decide +kernel
theorem dX8_bestRest_89 : decode cX8_bestRest 89 = .ok (.istore 4, 2) := by decide +kernel
theorem dX8_bestRest_91 : decode cX8_bestRest 91 = .ok (.iinc 5 1, 3) := by decide +kernel
theorem dX8_bestRest_94 : decode cX8_bestRest 94 = .ok (.goto (-63), 3) := by decide +kernel
theorem dX8_bestRest_97 : decode cX8_bestRest 97 = .ok (.iload_n 2, 1) := by decide +kernel
theorem dX8_bestRest_98 : decode cX8_bestRest 98 = .ok (.ifCond .ne 7, 3) := by decide +kernel
theorem dX8_bestRest_101 : decode cX8_bestRest 101 = .ok (.iload_n 3, 1) := by decide +kernel
theorem dX8_bestRest_102 : decode cX8_bestRest 102 = .ok (.goto 5, 3) := by decide +kernel
theorem dX8_bestRest_105 : decode cX8_bestRest 105 = .ok (.iload 4, 2) := by decide +kernel
theorem dX8_bestRest_107 : decode cX8_bestRest 107 = .ok (.ireturn, 1) := by decide +kernel
theorem dX8_busiest_0 : decode cX8_busiest 0 = .ok (.bipush (-6), 2) := by decide +kernel
theorem dX8_busiest_2 : decode cX8_busiest 2 = .ok (.istore_n 1, 1) := by decide +kernel
theorem dX8_busiest_3 : decode cX8_busiest 3 = .ok (.iconst 0, 1) := by decide +kernel
theorem dX8_busiest_4 : decode cX8_busiest 4 = .ok (.istore_n 2, 1) := by decide +kernel
theorem dX8_busiest_5 : decode cX8_busiest 5 = .ok (.iconst 0, 1) := by decide +kernel
theorem dX8_busiest_6 : decode cX8_busiest 6 = .ok (.istore_n 3, 1) := by decide +kernel
theorem dX8_busiest_7 : decode cX8_busiest 7 = .ok (.iload_n 3, 1) := by decide +kernel
theorem dX8_busiest_8 : decode cX8_busiest 8 = .ok (.bipush 6, 2) := by decide +kernel
theorem dX8_busiest_10 : decode cX8_busiest 10 = .ok (.if_icmp .ge 41, 3) := by decide +kernel
theorem dX8_busiest_13 : decode cX8_busiest 13 = .ok (.aload_n 0, 1) := by decide +kernel
theorem dX8_busiest_14 : decode cX8_busiest 14 = .ok (.iload_n 3, 1) := by decide +kernel
theorem dX8_busiest_15 : decode cX8_busiest 15 = .ok (.invokevirtual 168, 3) := by decide +kernel
theorem dX8_busiest_18 : decode cX8_busiest 18 = .ok (.istore 4, 2) := by decide +kernel
theorem dX8_busiest_20 : decode cX8_busiest 20 = .ok (.iload 4, 2) := by decide +kernel
theorem dX8_busiest_22 : decode cX8_busiest 22 = .ok (.iload_n 2, 1) := by decide +kernel
theorem dX8_busiest_23 : decode cX8_busiest 23 = .ok (.if_icmp .le 7, 3) := by decide +kernel
theorem dX8_busiest_26 : decode cX8_busiest 26 = .ok (.iload_n 3, 1) := by decide +kernel
theorem dX8_busiest_27 : decode cX8_busiest 27 = .ok (.goto 4, 3) := by decide +kernel
theorem dX8_busiest_30 : decode cX8_busiest 30 = .ok (.iload_n 1, 1) := by decide +kernel
theorem dX8_busiest_31 : decode cX8_busiest 31 = .ok (.istore_n 1, 1) := by decide +kernel
theorem dX8_busiest_32 : decode cX8_busiest 32 = .ok (.iload 4, 2) := by decide +kernel
theorem dX8_busiest_34 : decode cX8_busiest 34 = .ok (.iload_n 2, 1) := by decide +kernel
theorem dX8_busiest_35 : decode cX8_busiest 35 = .ok (.if_icmp .le 8, 3) := by decide +kernel
theorem dX8_busiest_38 : decode cX8_busiest 38 = .ok (.iload 4, 2) := by decide +kernel
theorem dX8_busiest_40 : decode cX8_busiest 40 = .ok (.goto 4, 3) := by decide +kernel
theorem dX8_busiest_43 : decode cX8_busiest 43 = .ok (.iload_n 2, 1) := by decide +kernel
theorem dX8_busiest_44 : decode cX8_busiest 44 = .ok (.istore_n 2, 1) := by decide +kernel
theorem dX8_busiest_45 : decode cX8_busiest 45 = .ok (.iinc 3 1, 3) := by decide +kernel
theorem dX8_busiest_48 : decode cX8_busiest 48 = .ok (.goto (-41), 3) := by decide +kernel
theorem dX8_busiest_51 : decode cX8_busiest 51 = .ok (.iload_n 1, 1) := by decide +kernel
theorem dX8_busiest_52 : decode cX8_busiest 52 = .ok (.ireturn, 1) := by decide +kernel
theorem dX8_sleepsIn_0 : decode cX8_sleepsIn 0 = .ok (.aload_n 0, 1) := by decide +kernel
theorem dX8_sleepsIn_1 : decode cX8_sleepsIn 1 = .ok (.iload_n 1, 1) := by decide +kernel
theorem dX8_sleepsIn_2 : decode cX8_sleepsIn 2 = .ok (.invokevirtual 66, 3) := by decide +kernel
theorem dX8_sleepsIn_5 : decode cX8_sleepsIn 5 = .ok (.ifCond .ne 5, 3) := by decide +kernel
theorem dX8_sleepsIn_8 : decode cX8_sleepsIn 8 = .ok (.iconst (-1), 1) := by decide +kernel
theorem dX8_sleepsIn_9 : decode cX8_sleepsIn 9 = .ok (.ireturn, 1) := by decide +kernel
theorem dX8_sleepsIn_10 : decode cX8_sleepsIn 10 = .ok (.aload_n 0, 1) := by decide +kernel
theorem dX8_sleepsIn_11 : decode cX8_sleepsIn 11 = .ok (.invokevirtual 186, 3) := by decide +kernel
theorem dX8_sleepsIn_14 : decode cX8_sleepsIn 14 = .ok (.iconst 0, 1) := by decide +kernel
theorem dX8_sleepsIn_15 : decode cX8_sleepsIn 15 = .ok (.istore_n 2, 1) := by decide +kernel
theorem dX8_sleepsIn_16 : decode cX8_sleepsIn 16 = .ok (.iload_n 2, 1) := by decide +kernel
theorem dX8_sleepsIn_17 : decode cX8_sleepsIn 17 = .ok (.sipush 600, 3) := by decide +kernel
theorem dX8_sleepsIn_20 : decode cX8_sleepsIn 20 = .ok (.if_icmp .gt 23, 3) := by decide +kernel
theorem dX8_sleepsIn_23 : decode cX8_sleepsIn 23 = .ok (.aload_n 0, 1) := by decide +kernel
theorem dX8_sleepsIn_24 : decode cX8_sleepsIn 24 = .ok (.iload_n 1, 1) := by decide +kernel
theorem dX8_sleepsIn_25 : decode cX8_sleepsIn 25 = .ok (.iconst 2, 1) := by decide +kernel
theorem dX8_sleepsIn_26 : decode cX8_sleepsIn 26 = .ok (.invokevirtual 40, 3) := by decide +kernel
theorem dX8_sleepsIn_29 : decode cX8_sleepsIn 29 = .ok (.ifCond .ne 14, 3) := by decide +kernel
theorem dX8_sleepsIn_32 : decode cX8_sleepsIn 32 = .ok (.aload_n 0, 1) := by decide +kernel
theorem dX8_sleepsIn_33 : decode cX8_sleepsIn 33 = .ok (.invokevirtual 152, 3) := by decide +kernel
theorem dX8_sleepsIn_36 : decode cX8_sleepsIn 36 = .ok (.pop, 1) := by decide +kernel
theorem dX8_sleepsIn_37 : decode cX8_sleepsIn 37 = .ok (.iinc 2 1, 3) := by decide +kernel
theorem dX8_sleepsIn_40 : decode cX8_sleepsIn 40 = .ok (.goto (-24), 3) := by decide +kernel
theorem dX8_sleepsIn_43 : decode cX8_sleepsIn 43 = .ok (.aload_n 0, 1) := by decide +kernel
theorem dX8_sleepsIn_44 : decode cX8_sleepsIn 44 = .ok (.invokevirtual 189, 3) := by decide +kernel
theorem dX8_sleepsIn_47 : decode cX8_sleepsIn 47 = .ok (.iload_n 2, 1) := by decide +kernel
theorem dX8_sleepsIn_48 : decode cX8_sleepsIn 48 = .ok (.sipush 600, 3) := by decide +kernel
theorem dX8_sleepsIn_51 : decode cX8_sleepsIn 51 = .ok (.if_icmp .le 8, 3) := by decide +kernel
theorem dX8_sleepsIn_54 : decode cX8_sleepsIn 54 = .ok (.bipush (-6), 2) := by decide +kernel
theorem dX8_sleepsIn_56 : decode cX8_sleepsIn 56 = .ok (.goto 4, 3) := by decide +kernel
theorem dX8_sleepsIn_59 : decode cX8_sleepsIn 59 = .ok (.iload_n 2, 1) := by decide +kernel
theorem dX8_sleepsIn_60 : decode cX8_sleepsIn 60 = .ok (.ireturn, 1) := by decide +kernel
theorem dX8_letter_0 : decode cX8_letter 0 = .ok (.aload_n 0, 1) := by decide +kernel
theorem dX8_letter_1 : decode cX8_letter 1 = .ok (.getfield 192, 3) := by decide +kernel
theorem dX8_letter_4 : decode cX8_letter 4 = .ok (.aload_n 0, 1) := by decide +kernel
theorem dX8_letter_5 : decode cX8_letter 5 = .ok (.getfield 183, 3) := by decide +kernel
theorem dX8_letter_8 : decode cX8_letter 8 = .ok (.if_icmp .ge 15, 3) := by decide +kernel
theorem dX8_letter_11 : decode cX8_letter 11 = .ok (.aload_n 0, 1) := by decide +kernel
theorem dX8_letter_12 : decode cX8_letter 12 = .ok (.getfield 26, 3) := by decide +kernel
theorem dX8_letter_15 : decode cX8_letter 15 = .ok (.aload_n 0, 1) := by decide +kernel
theorem dX8_letter_16 : decode cX8_letter 16 = .ok (.getfield 192, 3) := by decide +kernel
theorem dX8_letter_19 : decode cX8_letter 19 = .ok (.caload, 1) := by decide +kernel
theorem dX8_letter_20 : decode cX8_letter 20 = .ok (.goto 5, 3) := by decide +kernel
theorem dX8_letter_23 : decode cX8_letter 23 = .ok (.bipush (-6), 2) := by decide +kernel
theorem dX8_letter_25 : decode cX8_letter 25 = .ok (.ireturn, 1) := by decide +kernel
theorem dX8_wants_0 : decode cX8_wants 0 = .ok (.aload_n 0, 1) := by decide +kernel
theorem dX8_wants_1 : decode cX8_wants 1 = .ok (.getfield 195, 3) := by decide +kernel
theorem dX8_wants_4 : decode cX8_wants 4 = .ok (.bipush (-6), 2) := by decide +kernel
theorem dX8_wants_6 : decode cX8_wants 6 = .ok (.if_icmp .ne 30, 3) := by decide +kernel
theorem dX8_wants_9 : decode cX8_wants 9 = .ok (.aload_n 0, 1) := by decide +kernel
theorem dX8_wants_10 : decode cX8_wants 10 = .ok (.iload_n 1, 1) := by decide +kernel
theorem dX8_wants_11 : decode cX8_wants 11 = .ok (.ifCond .eq 8, 3) := by decide +kernel
theorem dX8_wants_14 : decode cX8_wants 14 = .ok (.bipush (-6), 2) := by decide +kernel
theorem dX8_wants_16 : decode cX8_wants 16 = .ok (.goto 7, 3) := by decide +kernel
theorem dX8_wants_19 : decode cX8_wants 19 = .ok (.aload_n 0, 1) := by decide +kernel
theorem dX8_wants_20 : decode cX8_wants 20 = .ok (.getfield 192, 3) := by decide +kernel
theorem dX8_wants_23 : decode cX8_wants 23 = .ok (.putfield 195, 3) := by decide +kernel
theorem dX8_wants_26 : decode cX8_wants 26 = .ok (.aload_n 0, 1) := by decide +kernel
theorem dX8_wants_27 : decode cX8_wants 27 = .ok (.dup, 1) := by decide +kernel
theorem dX8_wants_28 : decode cX8_wants 28 = .ok (.getfield 192, 3) := by decide +kernel
theorem dX8_wants_31 : decode cX8_wants 31 = .ok (.iconst 1, 1) := by decide +kernel
theorem dX8_wants_32 : decode cX8_wants 32 = .ok (.iadd, 1) := by decide +kernel
theorem dX8_wants_33 : decode cX8_wants 33 = .ok (.putfield 192, 3) := by decide +kernel
theorem dX8_wants_36 : decode cX8_wants 36 = .ok (.return_, 1) := by decide +kernel
theorem dX8_digit_0 : decode cX8_digit 0 = .ok (.aload_n 0, 1) := by decide +kernel
theorem dX8_digit_1 : decode cX8_digit 1 = .ok (.invokevirtual 198, 3) := by decide +kernel
theorem dX8_digit_4 : decode cX8_digit 4 = .ok (.bipush 48, 2) := by decide +kernel
theorem dX8_digit_6 : decode cX8_digit 6 = .ok (.isub, 1) := by decide +kernel
theorem dX8_digit_7 : decode cX8_digit 7 = .ok (.istore_n 1, 1) := by decide +kernel
theorem dX8_digit_8 : decode cX8_digit 8 = .ok (.aload_n 0, 1) := by decide +kernel
theorem dX8_digit_9 : decode cX8_digit 9 = .ok (.iload_n 1, 1) := by decide +kernel
theorem dX8_digit_10 : decode cX8_digit 10 = .ok (.iconst 0, 1) := by decide +kernel
theorem dX8_digit_11 : decode cX8_digit 11 = .ok (.bipush 9, 2) := by decide +kernel
theorem dX8_digit_13 : decode cX8_digit 13 = .ok (.invokestatic 36, 3) := by decide +kernel
theorem dX8_digit_16 : decode cX8_digit 16 = .ok (.invokevirtual 201, 3) := by decide +kernel
theorem dX8_digit_19 : decode cX8_digit 19 = .ok (.iload_n 1, 1) := by decide +kernel
theorem dX8_digit_20 : decode cX8_digit 20 = .ok (.ireturn, 1) := by decide +kernel
theorem dX8_wireRead_0 : decode cX8_wireRead 0 = .ok (.aload_n 0, 1) := by decide +kernel
theorem dX8_wireRead_1 : decode cX8_wireRead 1 = .ok (.invokevirtual 198, 3) := by decide +kernel
theorem dX8_wireRead_4 : decode cX8_wireRead 4 = .ok (.bipush 97, 2) := by decide +kernel
theorem dX8_wireRead_6 : decode cX8_wireRead 6 = .ok (.isub, 1) := by decide +kernel
theorem dX8_wireRead_7 : decode cX8_wireRead 7 = .ok (.istore_n 1, 1) := by decide +kernel
theorem dX8_wireRead_8 : decode cX8_wireRead 8 = .ok (.aload_n 0, 1) := by decide +kernel
theorem dX8_wireRead_9 : decode cX8_wireRead 9 = .ok (.iload_n 1, 1) := by decide +kernel
theorem dX8_wireRead_10 : decode cX8_wireRead 10 = .ok (.invokestatic 70, 3) := by decide +kernel
theorem dX8_wireRead_13 : decode cX8_wireRead 13 = .ok (.invokevirtual 201, 3) := by decide +kernel
theorem dX8_wireRead_16 : decode cX8_wireRead 16 = .ok (.iload_n 1, 1) := by decide +kernel
theorem dX8_wireRead_17 : decode cX8_wireRead 17 = .ok (.ireturn, 1) := by decide +kernel
theorem dX8_number_0 : decode cX8_number 0 = .ok (.aload_n 0, 1) := by decide +kernel
theorem dX8_number_1 : decode cX8_number 1 = .ok (.invokevirtual 205, 3) := by decide +kernel
theorem dX8_number_4 : decode cX8_number 4 = .ok (.istore_n 1, 1) := by decide +kernel
theorem dX8_number_5 : decode cX8_number 5 = .ok (.aload_n 0, 1) := by decide +kernel
theorem dX8_number_6 : decode cX8_number 6 = .ok (.invokevirtual 198, 3) := by decide +kernel
theorem dX8_number_9 : decode cX8_number 9 = .ok (.bipush 48, 2) := by decide +kernel
theorem dX8_number_11 : decode cX8_number 11 = .ok (.isub, 1) := by decide +kernel
theorem dX8_number_12 : decode cX8_number 12 = .ok (.istore_n 2, 1) := by decide +kernel
theorem dX8_number_13 : decode cX8_number 13 = .ok (.aload_n 0, 1) := by decide +kernel
theorem dX8_number_14 : decode cX8_number 14 = .ok (.getfield 195, 3) := by decide +kernel
theorem dX8_number_17 : decode cX8_number 17 = .ok (.bipush (-6), 2) := by decide +kernel
theorem dX8_number_19 : decode cX8_number 19 = .ok (.if_icmp .ne 57, 3) := by decide +kernel
theorem dX8_number_22 : decode cX8_number 22 = .ok (.iload_n 1, 1) := by decide +kernel
theorem dX8_number_23 : decode cX8_number 23 = .ok (.ifCond .le 53, 3) := by decide +kernel
theorem dX8_number_26 : decode cX8_number 26 = .ok (.iload_n 2, 1) := by decide +kernel
theorem dX8_number_27 : decode cX8_number 27 = .ok (.iconst 0, 1) := by decide +kernel
theorem dX8_number_28 : decode cX8_number 28 = .ok (.bipush 9, 2) := by decide +kernel
theorem dX8_number_30 : decode cX8_number 30 = .ok (.invokestatic 36, 3) := by decide +kernel
theorem dX8_number_33 : decode cX8_number 33 = .ok (.ifCond .eq 43, 3) := by decide +kernel
theorem dX8_number_36 : decode cX8_number 36 = .ok (.bipush 10, 2) := by decide +kernel
theorem dX8_number_38 : decode cX8_number 38 = .ok (.iload_n 1, 1) := by decide +kernel
theorem dX8_number_39 : decode cX8_number 39 = .ok (.imul, 1) := by decide +kernel
theorem dX8_number_40 : decode cX8_number 40 = .ok (.iload_n 2, 1) := by decide +kernel
theorem dX8_number_41 : decode cX8_number 41 = .ok (.iadd, 1) := by decide +kernel
theorem dX8_number_42 : decode cX8_number 42 = .ok (.sipush 999, 3) := by decide +kernel
theorem dX8_number_45 : decode cX8_number 45 = .ok (.if_icmp .gt 31, 3) := by decide +kernel
theorem dX8_number_48 : decode cX8_number 48 = .ok (.bipush 10, 2) := by decide +kernel
theorem dX8_number_50 : decode cX8_number 50 = .ok (.iload_n 1, 1) := by decide +kernel
theorem dX8_number_51 : decode cX8_number 51 = .ok (.imul, 1) := by decide +kernel
theorem dX8_number_52 : decode cX8_number 52 = .ok (.iload_n 2, 1) := by decide +kernel
theorem dX8_number_53 : decode cX8_number 53 = .ok (.iadd, 1) := by decide +kernel
theorem dX8_number_54 : decode cX8_number 54 = .ok (.istore_n 1, 1) := by decide +kernel
theorem dX8_number_55 : decode cX8_number 55 = .ok (.aload_n 0, 1) := by decide +kernel
theorem dX8_number_56 : decode cX8_number 56 = .ok (.dup, 1) := by decide +kernel
theorem dX8_number_57 : decode cX8_number 57 = .ok (.getfield 192, 3) := by decide +kernel
theorem dX8_number_60 : decode cX8_number 60 = .ok (.iconst 1, 1) := by decide +kernel
theorem dX8_number_61 : decode cX8_number 61 = .ok (.iadd, 1) := by decide +kernel
theorem dX8_number_62 : decode cX8_number 62 = .ok (.putfield 192, 3) := by decide +kernel
theorem dX8_number_65 : decode cX8_number 65 = .ok (.aload_n 0, 1) := by decide +kernel
theorem dX8_number_66 : decode cX8_number 66 = .ok (.invokevirtual 198, 3) := by decide +kernel
theorem dX8_number_69 : decode cX8_number 69 = .ok (.bipush 48, 2) := by decide +kernel
theorem dX8_number_71 : decode cX8_number 71 = .ok (.isub, 1) := by decide +kernel
theorem dX8_number_72 : decode cX8_number 72 = .ok (.istore_n 2, 1) := by decide +kernel
theorem dX8_number_73 : decode cX8_number 73 = .ok (.goto (-60), 3) := by decide +kernel
theorem dX8_number_76 : decode cX8_number 76 = .ok (.iload_n 1, 1) := by decide +kernel
theorem dX8_number_77 : decode cX8_number 77 = .ok (.ireturn, 1) := by decide +kernel
theorem dX8_wiresRead_0 : decode cX8_wiresRead 0 = .ok (.iconst 1, 1) := by decide +kernel
theorem dX8_wiresRead_1 : decode cX8_wiresRead 1 = .ok (.aload_n 0, 1) := by decide +kernel
theorem dX8_wiresRead_2 : decode cX8_wiresRead 2 = .ok (.invokevirtual 208, 3) := by decide +kernel
theorem dX8_wiresRead_5 : decode cX8_wiresRead 5 = .ok (.ishl, 1) := by decide +kernel
theorem dX8_wiresRead_6 : decode cX8_wiresRead 6 = .ok (.istore_n 1, 1) := by decide +kernel
theorem dX8_wiresRead_7 : decode cX8_wiresRead 7 = .ok (.aload_n 0, 1) := by decide +kernel
theorem dX8_wiresRead_8 : decode cX8_wiresRead 8 = .ok (.getfield 195, 3) := by decide +kernel
theorem dX8_wiresRead_11 : decode cX8_wiresRead 11 = .ok (.bipush (-6), 2) := by decide +kernel
theorem dX8_wiresRead_13 : decode cX8_wiresRead 13 = .ok (.if_icmp .ne 55, 3) := by decide +kernel
theorem dX8_wiresRead_16 : decode cX8_wiresRead 16 = .ok (.aload_n 0, 1) := by decide +kernel
theorem dX8_wiresRead_17 : decode cX8_wiresRead 17 = .ok (.invokevirtual 198, 3) := by decide +kernel
theorem dX8_wiresRead_20 : decode cX8_wiresRead 20 = .ok (.bipush 97, 2) := by decide +kernel
theorem dX8_wiresRead_22 : decode cX8_wiresRead 22 = .ok (.isub, 1) := by decide +kernel
theorem dX8_wiresRead_23 : decode cX8_wiresRead 23 = .ok (.invokestatic 70, 3) := by decide +kernel
theorem dX8_wiresRead_26 : decode cX8_wiresRead 26 = .ok (.ifCond .eq 42, 3) := by decide +kernel
theorem dX8_wiresRead_29 : decode cX8_wiresRead 29 = .ok (.iload_n 1, 1) := by decide +kernel
theorem dX8_wiresRead_30 : decode cX8_wiresRead 30 = .ok (.aload_n 0, 1) := by decide +kernel
theorem dX8_wiresRead_31 : decode cX8_wiresRead 31 = .ok (.invokevirtual 198, 3) := by decide +kernel
theorem dX8_wiresRead_34 : decode cX8_wiresRead 34 = .ok (.bipush 97, 2) := by decide +kernel
theorem dX8_wiresRead_36 : decode cX8_wiresRead 36 = .ok (.isub, 1) := by decide +kernel
theorem dX8_wiresRead_37 : decode cX8_wiresRead 37 = .ok (.ishr, 1) := by decide +kernel
theorem dX8_wiresRead_38 : decode cX8_wiresRead 38 = .ok (.iconst 1, 1) := by decide +kernel
theorem dX8_wiresRead_39 : decode cX8_wiresRead 39 = .ok (.iand, 1) := by decide +kernel
theorem dX8_wiresRead_40 : decode cX8_wiresRead 40 = .ok (.ifCond .ne 28, 3) := by decide +kernel
theorem dX8_wiresRead_43 : decode cX8_wiresRead 43 = .ok (.iload_n 1, 1) := by decide +kernel
theorem dX8_wiresRead_44 : decode cX8_wiresRead 44 = .ok (.iconst 1, 1) := by decide +kernel
theorem dX8_wiresRead_45 : decode cX8_wiresRead 45 = .ok (.aload_n 0, 1) := by decide +kernel
theorem dX8_wiresRead_46 : decode cX8_wiresRead 46 = .ok (.invokevirtual 198, 3) := by decide +kernel
theorem dX8_wiresRead_49 : decode cX8_wiresRead 49 = .ok (.bipush 97, 2) := by decide +kernel
theorem dX8_wiresRead_51 : decode cX8_wiresRead 51 = .ok (.isub, 1) := by decide +kernel
theorem dX8_wiresRead_52 : decode cX8_wiresRead 52 = .ok (.ishl, 1) := by decide +kernel
theorem dX8_wiresRead_53 : decode cX8_wiresRead 53 = .ok (.ior, 1) := by decide +kernel
theorem dX8_wiresRead_54 : decode cX8_wiresRead 54 = .ok (.istore_n 1, 1) := by decide +kernel
theorem dX8_wiresRead_55 : decode cX8_wiresRead 55 = .ok (.aload_n 0, 1) := by decide +kernel
theorem dX8_wiresRead_56 : decode cX8_wiresRead 56 = .ok (.dup, 1) := by decide +kernel
theorem dX8_wiresRead_57 : decode cX8_wiresRead 57 = .ok (.getfield 192, 3) := by decide +kernel
theorem dX8_wiresRead_60 : decode cX8_wiresRead 60 = .ok (.iconst 1, 1) := by decide +kernel
theorem dX8_wiresRead_61 : decode cX8_wiresRead 61 = .ok (.iadd, 1) := by decide +kernel
theorem dX8_wiresRead_62 : decode cX8_wiresRead 62 = .ok (.putfield 192, 3) := by decide +kernel
theorem dX8_wiresRead_65 : decode cX8_wiresRead 65 = .ok (.goto (-58), 3) := by decide +kernel
theorem dX8_wiresRead_68 : decode cX8_wiresRead 68 = .ok (.iload_n 1, 1) := by decide +kernel
theorem dX8_wiresRead_69 : decode cX8_wiresRead 69 = .ok (.ireturn, 1) := by decide +kernel
theorem dX8_readOrder_0 : decode cX8_readOrder 0 = .ok (.iconst 4, 1) := by decide +kernel
theorem dX8_readOrder_1 : decode cX8_readOrder 1 = .ok (.aload_n 0, 1) := by decide +kernel
theorem dX8_readOrder_2 : decode cX8_readOrder 2 = .ok (.getfield 211, 3) := by decide +kernel
theorem dX8_readOrder_5 : decode cX8_readOrder 5 = .ok (.imul, 1) := by decide +kernel
theorem dX8_readOrder_6 : decode cX8_readOrder 6 = .ok (.istore_n 1, 1) := by decide +kernel
theorem dX8_readOrder_7 : decode cX8_readOrder 7 = .ok (.aload_n 0, 1) := by decide +kernel
theorem dX8_readOrder_8 : decode cX8_readOrder 8 = .ok (.invokevirtual 198, 3) := by decide +kernel
theorem dX8_readOrder_11 : decode cX8_readOrder 11 = .ok (.istore_n 2, 1) := by decide +kernel
theorem dX8_readOrder_12 : decode cX8_readOrder 12 = .ok (.aload_n 0, 1) := by decide +kernel
theorem dX8_readOrder_13 : decode cX8_readOrder 13 = .ok (.getfield 33, 3) := by decide +kernel
theorem dX8_readOrder_16 : decode cX8_readOrder 16 = .ok (.iload_n 1, 1) := by decide +kernel
theorem dX8_readOrder_17 : decode cX8_readOrder 17 = .ok (.iload_n 2, 1) := by decide +kernel
theorem dX8_readOrder_18 : decode cX8_readOrder 18 = .ok (.iastore, 1) := by decide +kernel
theorem dX8_readOrder_19 : decode cX8_readOrder 19 = .ok (.aload_n 0, 1) := by decide +kernel
theorem dX8_readOrder_20 : decode cX8_readOrder 20 = .ok (.iload_n 2, 1) := by decide +kernel
theorem dX8_readOrder_21 : decode cX8_readOrder 21 = .ok (.bipush 115, 2) := by decide +kernel
theorem dX8_readOrder_23 : decode cX8_readOrder 23 = .ok (.if_icmp .eq 27, 3) := by decide +kernel
theorem dX8_readOrder_26 : decode cX8_readOrder 26 = .ok (.iload_n 2, 1) := by decide +kernel
theorem dX8_readOrder_27 : decode cX8_readOrder 27 = .ok (.bipush 119, 2) := by decide +kernel
theorem dX8_readOrder_29 : decode cX8_readOrder 29 = .ok (.if_icmp .eq 21, 3) := by decide +kernel
theorem dX8_readOrder_32 : decode cX8_readOrder 32 = .ok (.iload_n 2, 1) := by decide +kernel
theorem dX8_readOrder_33 : decode cX8_readOrder 33 = .ok (.bipush 33, 2) := by decide +kernel
theorem dX8_readOrder_35 : decode cX8_readOrder 35 = .ok (.if_icmp .eq 15, 3) := by decide +kernel
theorem dX8_readOrder_38 : decode cX8_readOrder 38 = .ok (.iload_n 2, 1) := by decide +kernel
theorem dX8_readOrder_39 : decode cX8_readOrder 39 = .ok (.bipush 122, 2) := by decide +kernel
theorem dX8_readOrder_41 : decode cX8_readOrder 41 = .ok (.if_icmp .eq 9, 3) := by decide +kernel
theorem dX8_readOrder_44 : decode cX8_readOrder 44 = .ok (.iload_n 2, 1) := by decide +kernel
theorem dX8_readOrder_45 : decode cX8_readOrder 45 = .ok (.bipush 98, 2) := by decide +kernel
theorem dX8_readOrder_47 : decode cX8_readOrder 47 = .ok (.if_icmp .ne 7, 3) := by decide +kernel
theorem dX8_readOrder_50 : decode cX8_readOrder 50 = .ok (.iconst 1, 1) := by decide +kernel
theorem dX8_readOrder_51 : decode cX8_readOrder 51 = .ok (.goto 4, 3) := by decide +kernel
theorem dX8_readOrder_54 : decode cX8_readOrder 54 = .ok (.iconst 0, 1) := by decide +kernel
theorem dX8_readOrder_55 : decode cX8_readOrder 55 = .ok (.invokevirtual 201, 3) := by decide +kernel
theorem dX8_readOrder_58 : decode cX8_readOrder 58 = .ok (.iload_n 2, 1) := by decide +kernel
theorem dX8_readOrder_59 : decode cX8_readOrder 59 = .ok (.lookupswitch 143 #[(33, 113), (115, 41), (119, 56), (122, 128)], 41) := by decide +kernel
theorem dX8_readOrder_100 : decode cX8_readOrder 100 = .ok (.aload_n 0, 1) := by decide +kernel
theorem dX8_readOrder_101 : decode cX8_readOrder 101 = .ok (.getfield 33, 3) := by decide +kernel
theorem dX8_readOrder_104 : decode cX8_readOrder 104 = .ok (.iload_n 1, 1) := by decide +kernel
theorem dX8_readOrder_105 : decode cX8_readOrder 105 = .ok (.iconst 1, 1) := by decide +kernel
theorem dX8_readOrder_106 : decode cX8_readOrder 106 = .ok (.iadd, 1) := by decide +kernel
theorem dX8_readOrder_107 : decode cX8_readOrder 107 = .ok (.aload_n 0, 1) := by decide +kernel
theorem dX8_readOrder_108 : decode cX8_readOrder 108 = .ok (.invokevirtual 214, 3) := by decide +kernel
theorem dX8_readOrder_111 : decode cX8_readOrder 111 = .ok (.iastore, 1) := by decide +kernel
theorem dX8_readOrder_112 : decode cX8_readOrder 112 = .ok (.goto 102, 3) := by decide +kernel
theorem dX8_readOrder_115 : decode cX8_readOrder 115 = .ok (.aload_n 0, 1) := by decide +kernel
theorem dX8_readOrder_116 : decode cX8_readOrder 116 = .ok (.getfield 33, 3) := by decide +kernel
theorem dX8_readOrder_119 : decode cX8_readOrder 119 = .ok (.iload_n 1, 1) := by decide +kernel
theorem dX8_readOrder_120 : decode cX8_readOrder 120 = .ok (.iconst 1, 1) := by decide +kernel
theorem dX8_readOrder_121 : decode cX8_readOrder 121 = .ok (.iadd, 1) := by decide +kernel
theorem dX8_readOrder_122 : decode cX8_readOrder 122 = .ok (.aload_n 0, 1) := by decide +kernel
theorem dX8_readOrder_123 : decode cX8_readOrder 123 = .ok (.invokevirtual 205, 3) := by decide +kernel
theorem dX8_readOrder_126 : decode cX8_readOrder 126 = .ok (.iastore, 1) := by decide +kernel
theorem dX8_readOrder_127 : decode cX8_readOrder 127 = .ok (.aload_n 0, 1) := by decide +kernel
theorem dX8_readOrder_128 : decode cX8_readOrder 128 = .ok (.getfield 33, 3) := by decide +kernel
theorem dX8_readOrder_131 : decode cX8_readOrder 131 = .ok (.iload_n 1, 1) := by decide +kernel
theorem dX8_readOrder_132 : decode cX8_readOrder 132 = .ok (.iconst 2, 1) := by decide +kernel
theorem dX8_readOrder_133 : decode cX8_readOrder 133 = .ok (.iadd, 1) := by decide +kernel
theorem dX8_readOrder_134 : decode cX8_readOrder 134 = .ok (.aload_n 0, 1) := by decide +kernel
theorem dX8_readOrder_135 : decode cX8_readOrder 135 = .ok (.invokevirtual 208, 3) := by decide +kernel
theorem dX8_readOrder_138 : decode cX8_readOrder 138 = .ok (.iastore, 1) := by decide +kernel
theorem dX8_readOrder_139 : decode cX8_readOrder 139 = .ok (.aload_n 0, 1) := by decide +kernel
theorem dX8_readOrder_140 : decode cX8_readOrder 140 = .ok (.aload_n 0, 1) := by decide +kernel
theorem dX8_readOrder_141 : decode cX8_readOrder 141 = .ok (.invokevirtual 198, 3) := by decide +kernel
theorem dX8_readOrder_144 : decode cX8_readOrder 144 = .ok (.bipush 61, 2) := by decide +kernel
theorem dX8_readOrder_146 : decode cX8_readOrder 146 = .ok (.if_icmp .ne 7, 3) := by decide +kernel
theorem dX8_readOrder_149 : decode cX8_readOrder 149 = .ok (.iconst 1, 1) := by decide +kernel
theorem dX8_readOrder_150 : decode cX8_readOrder 150 = .ok (.goto 4, 3) := by decide +kernel
theorem dX8_readOrder_153 : decode cX8_readOrder 153 = .ok (.iconst 0, 1) := by decide +kernel
theorem dX8_readOrder_154 : decode cX8_readOrder 154 = .ok (.invokevirtual 201, 3) := by decide +kernel
theorem dX8_readOrder_157 : decode cX8_readOrder 157 = .ok (.aload_n 0, 1) := by decide +kernel
theorem dX8_readOrder_158 : decode cX8_readOrder 158 = .ok (.getfield 33, 3) := by decide +kernel
theorem dX8_readOrder_161 : decode cX8_readOrder 161 = .ok (.iload_n 1, 1) := by decide +kernel
theorem dX8_readOrder_162 : decode cX8_readOrder 162 = .ok (.iconst 3, 1) := by decide +kernel
theorem dX8_readOrder_163 : decode cX8_readOrder 163 = .ok (.iadd, 1) := by decide +kernel
theorem dX8_readOrder_164 : decode cX8_readOrder 164 = .ok (.aload_n 0, 1) := by decide +kernel
theorem dX8_readOrder_165 : decode cX8_readOrder 165 = .ok (.invokevirtual 217, 3) := by decide +kernel
theorem dX8_readOrder_168 : decode cX8_readOrder 168 = .ok (.iastore, 1) := by decide +kernel
theorem dX8_readOrder_169 : decode cX8_readOrder 169 = .ok (.goto 45, 3) := by decide +kernel
theorem dX8_readOrder_172 : decode cX8_readOrder 172 = .ok (.aload_n 0, 1) := by decide +kernel
theorem dX8_readOrder_173 : decode cX8_readOrder 173 = .ok (.getfield 33, 3) := by decide +kernel
theorem dX8_readOrder_176 : decode cX8_readOrder 176 = .ok (.iload_n 1, 1) := by decide +kernel
theorem dX8_readOrder_177 : decode cX8_readOrder 177 = .ok (.iconst 1, 1) := by decide +kernel
theorem dX8_readOrder_178 : decode cX8_readOrder 178 = .ok (.iadd, 1) := by decide +kernel
theorem dX8_readOrder_179 : decode cX8_readOrder 179 = .ok (.aload_n 0, 1) := by decide +kernel
theorem dX8_readOrder_180 : decode cX8_readOrder 180 = .ok (.invokevirtual 208, 3) := by decide +kernel
theorem dX8_readOrder_183 : decode cX8_readOrder 183 = .ok (.iastore, 1) := by decide +kernel
theorem dX8_readOrder_184 : decode cX8_readOrder 184 = .ok (.goto 30, 3) := by decide +kernel
theorem dX8_readOrder_187 : decode cX8_readOrder 187 = .ok (.aload_n 0, 1) := by decide +kernel
theorem dX8_readOrder_188 : decode cX8_readOrder 188 = .ok (.getfield 33, 3) := by decide +kernel
theorem dX8_readOrder_191 : decode cX8_readOrder 191 = .ok (.iload_n 1, 1) := by decide +kernel
theorem dX8_readOrder_192 : decode cX8_readOrder 192 = .ok (.iconst 1, 1) := by decide +kernel
theorem dX8_readOrder_193 : decode cX8_readOrder 193 = .ok (.iadd, 1) := by decide +kernel
theorem dX8_readOrder_194 : decode cX8_readOrder 194 = .ok (.aload_n 0, 1) := by decide +kernel
theorem dX8_readOrder_195 : decode cX8_readOrder 195 = .ok (.invokevirtual 205, 3) := by decide +kernel
theorem dX8_readOrder_198 : decode cX8_readOrder 198 = .ok (.iastore, 1) := by decide +kernel
theorem dX8_readOrder_199 : decode cX8_readOrder 199 = .ok (.goto 15, 3) := by decide +kernel
theorem dX8_readOrder_202 : decode cX8_readOrder 202 = .ok (.aload_n 0, 1) := by decide +kernel
theorem dX8_readOrder_203 : decode cX8_readOrder 203 = .ok (.getfield 33, 3) := by decide +kernel
theorem dX8_readOrder_206 : decode cX8_readOrder 206 = .ok (.iload_n 1, 1) := by decide +kernel
theorem dX8_readOrder_207 : decode cX8_readOrder 207 = .ok (.iconst 1, 1) := by decide +kernel
theorem dX8_readOrder_208 : decode cX8_readOrder 208 = .ok (.iadd, 1) := by decide +kernel
theorem dX8_readOrder_209 : decode cX8_readOrder 209 = .ok (.aload_n 0, 1) := by decide +kernel
theorem dX8_readOrder_210 : decode cX8_readOrder 210 = .ok (.invokevirtual 217, 3) := by decide +kernel
theorem dX8_readOrder_213 : decode cX8_readOrder 213 = .ok (.iastore, 1) := by decide +kernel
theorem dX8_readOrder_214 : decode cX8_readOrder 214 = .ok (.aload_n 0, 1) := by decide +kernel
theorem dX8_readOrder_215 : decode cX8_readOrder 215 = .ok (.dup, 1) := by decide +kernel
theorem dX8_readOrder_216 : decode cX8_readOrder 216 = .ok (.getfield 211, 3) := by decide +kernel
theorem dX8_readOrder_219 : decode cX8_readOrder 219 = .ok (.iconst 1, 1) := by decide +kernel
theorem dX8_readOrder_220 : decode cX8_readOrder 220 = .ok (.iadd, 1) := by decide +kernel
theorem dX8_readOrder_221 : decode cX8_readOrder 221 = .ok (.putfield 211, 3) := by decide +kernel
theorem dX8_readOrder_224 : decode cX8_readOrder 224 = .ok (.return_, 1) := by decide +kernel
theorem dX8_readPad_0 : decode cX8_readPad 0 = .ok (.aload_n 0, 1) := by decide +kernel
theorem dX8_readPad_1 : decode cX8_readPad 1 = .ok (.iconst 0, 1) := by decide +kernel
theorem dX8_readPad_2 : decode cX8_readPad 2 = .ok (.putfield 211, 3) := by decide +kernel
theorem dX8_readPad_5 : decode cX8_readPad 5 = .ok (.aload_n 0, 1) := by decide +kernel
theorem dX8_readPad_6 : decode cX8_readPad 6 = .ok (.iconst 0, 1) := by decide +kernel
theorem dX8_readPad_7 : decode cX8_readPad 7 = .ok (.putfield 192, 3) := by decide +kernel
theorem dX8_readPad_10 : decode cX8_readPad 10 = .ok (.aload_n 0, 1) := by decide +kernel
theorem dX8_readPad_11 : decode cX8_readPad 11 = .ok (.bipush (-6), 2) := by decide +kernel
theorem dX8_readPad_13 : decode cX8_readPad 13 = .ok (.putfield 195, 3) := by decide +kernel
theorem dX8_readPad_16 : decode cX8_readPad 16 = .ok (.iconst 1, 1) := by decide +kernel
theorem dX8_readPad_17 : decode cX8_readPad 17 = .ok (.istore_n 1, 1) := by decide +kernel
theorem dX8_readPad_18 : decode cX8_readPad 18 = .ok (.iload_n 1, 1) := by decide +kernel
theorem dX8_readPad_19 : decode cX8_readPad 19 = .ok (.ifCond .eq 73, 3) := by decide +kernel
theorem dX8_readPad_22 : decode cX8_readPad 22 = .ok (.aload_n 0, 1) := by decide +kernel
theorem dX8_readPad_23 : decode cX8_readPad 23 = .ok (.invokevirtual 220, 3) := by decide +kernel
theorem dX8_readPad_26 : decode cX8_readPad 26 = .ok (.aload_n 0, 1) := by decide +kernel
theorem dX8_readPad_27 : decode cX8_readPad 27 = .ok (.getfield 195, 3) := by decide +kernel
theorem dX8_readPad_30 : decode cX8_readPad 30 = .ok (.bipush (-6), 2) := by decide +kernel
theorem dX8_readPad_32 : decode cX8_readPad 32 = .ok (.if_icmp .ne 18, 3) := by decide +kernel
theorem dX8_readPad_35 : decode cX8_readPad 35 = .ok (.aload_n 0, 1) := by decide +kernel
theorem dX8_readPad_36 : decode cX8_readPad 36 = .ok (.getfield 192, 3) := by decide +kernel
theorem dX8_readPad_39 : decode cX8_readPad 39 = .ok (.aload_n 0, 1) := by decide +kernel
theorem dX8_readPad_40 : decode cX8_readPad 40 = .ok (.getfield 183, 3) := by decide +kernel
theorem dX8_readPad_43 : decode cX8_readPad 43 = .ok (.if_icmp .ge 7, 3) := by decide +kernel
theorem dX8_readPad_46 : decode cX8_readPad 46 = .ok (.iconst 1, 1) := by decide +kernel
theorem dX8_readPad_47 : decode cX8_readPad 47 = .ok (.goto 4, 3) := by decide +kernel
theorem dX8_readPad_50 : decode cX8_readPad 50 = .ok (.iconst 0, 1) := by decide +kernel
theorem dX8_readPad_51 : decode cX8_readPad 51 = .ok (.istore_n 1, 1) := by decide +kernel
theorem dX8_readPad_52 : decode cX8_readPad 52 = .ok (.iload_n 1, 1) := by decide +kernel
theorem dX8_readPad_53 : decode cX8_readPad 53 = .ok (.ifCond .eq (-35), 3) := by decide +kernel
theorem dX8_readPad_56 : decode cX8_readPad 56 = .ok (.aload_n 0, 1) := by decide +kernel
theorem dX8_readPad_57 : decode cX8_readPad 57 = .ok (.aload_n 0, 1) := by decide +kernel
theorem dX8_readPad_58 : decode cX8_readPad 58 = .ok (.invokevirtual 198, 3) := by decide +kernel
theorem dX8_readPad_61 : decode cX8_readPad 61 = .ok (.bipush 59, 2) := by decide +kernel
theorem dX8_readPad_63 : decode cX8_readPad 63 = .ok (.if_icmp .ne 7, 3) := by decide +kernel
theorem dX8_readPad_66 : decode cX8_readPad 66 = .ok (.iconst 1, 1) := by decide +kernel
theorem dX8_readPad_67 : decode cX8_readPad 67 = .ok (.goto 4, 3) := by decide +kernel
theorem dX8_readPad_70 : decode cX8_readPad 70 = .ok (.iconst 0, 1) := by decide +kernel
theorem dX8_readPad_71 : decode cX8_readPad 71 = .ok (.invokevirtual 201, 3) := by decide +kernel
theorem dX8_readPad_74 : decode cX8_readPad 74 = .ok (.aload_n 0, 1) := by decide +kernel
theorem dX8_readPad_75 : decode cX8_readPad 75 = .ok (.getfield 195, 3) := by decide +kernel
theorem dX8_readPad_78 : decode cX8_readPad 78 = .ok (.bipush (-6), 2) := by decide +kernel
theorem dX8_readPad_80 : decode cX8_readPad 80 = .ok (.if_icmp .ne 7, 3) := by decide +kernel
theorem dX8_readPad_83 : decode cX8_readPad 83 = .ok (.iconst 1, 1) := by decide +kernel
theorem dX8_readPad_84 : decode cX8_readPad 84 = .ok (.goto 4, 3) := by decide +kernel
theorem dX8_readPad_87 : decode cX8_readPad 87 = .ok (.iconst 0, 1) := by decide +kernel
theorem dX8_readPad_88 : decode cX8_readPad 88 = .ok (.istore_n 1, 1) := by decide +kernel
theorem dX8_readPad_89 : decode cX8_readPad 89 = .ok (.goto (-71), 3) := by decide +kernel
theorem dX8_readPad_92 : decode cX8_readPad 92 = .ok (.aload_n 0, 1) := by decide +kernel
theorem dX8_readPad_93 : decode cX8_readPad 93 = .ok (.getfield 195, 3) := by decide +kernel
theorem dX8_readPad_96 : decode cX8_readPad 96 = .ok (.ireturn, 1) := by decide +kernel
theorem dX8_fault_0 : decode cX8_fault 0 = .ok (.aload_n 0, 1) := by decide +kernel
theorem dX8_fault_1 : decode cX8_fault 1 = .ok (.invokevirtual 223, 3) := by decide +kernel
theorem dX8_fault_4 : decode cX8_fault 4 = .ok (.ireturn, 1) := by decide +kernel
theorem dX8_whyNot_0 : decode cX8_whyNot 0 = .ok (.aload_n 0, 1) := by decide +kernel
theorem dX8_whyNot_1 : decode cX8_whyNot 1 = .ok (.getfield 33, 3) := by decide +kernel
theorem dX8_whyNot_4 : decode cX8_whyNot 4 = .ok (.iload_n 1, 1) := by decide +kernel
theorem dX8_whyNot_5 : decode cX8_whyNot 5 = .ok (.iconst 1, 1) := by decide +kernel
theorem dX8_whyNot_6 : decode cX8_whyNot 6 = .ok (.iadd, 1) := by decide +kernel
theorem dX8_whyNot_7 : decode cX8_whyNot 7 = .ok (.iaload, 1) := by decide +kernel
theorem dX8_whyNot_8 : decode cX8_whyNot 8 = .ok (.istore_n 2, 1) := by decide +kernel
theorem dX8_whyNot_9 : decode cX8_whyNot 9 = .ok (.aload_n 0, 1) := by decide +kernel
theorem dX8_whyNot_10 : decode cX8_whyNot 10 = .ok (.getfield 33, 3) := by decide +kernel
theorem dX8_whyNot_13 : decode cX8_whyNot 13 = .ok (.iload_n 1, 1) := by decide +kernel
theorem dX8_whyNot_14 : decode cX8_whyNot 14 = .ok (.iaload, 1) := by decide +kernel
theorem dX8_whyNot_15 : decode cX8_whyNot 15 = .ok (.lookupswitch 81 #[(33, 69), (115, 41), (119, 47), (122, 75)], 41) := by decide +kernel
theorem dX8_whyNot_56 : decode cX8_whyNot 56 = .ok (.aload_n 0, 1) := by decide +kernel
theorem dX8_whyNot_57 : decode cX8_whyNot 57 = .ok (.iload_n 2, 1) := by decide +kernel
theorem dX8_whyNot_58 : decode cX8_whyNot 58 = .ok (.invokevirtual 59, 3) := by decide +kernel
theorem dX8_whyNot_61 : decode cX8_whyNot 61 = .ok (.ireturn, 1) := by decide +kernel
theorem dX8_whyNot_62 : decode cX8_whyNot 62 = .ok (.aload_n 0, 1) := by decide +kernel
theorem dX8_whyNot_63 : decode cX8_whyNot 63 = .ok (.iload_n 2, 1) := by decide +kernel
theorem dX8_whyNot_64 : decode cX8_whyNot 64 = .ok (.aload_n 0, 1) := by decide +kernel
theorem dX8_whyNot_65 : decode cX8_whyNot 65 = .ok (.getfield 33, 3) := by decide +kernel
theorem dX8_whyNot_68 : decode cX8_whyNot 68 = .ok (.iload_n 1, 1) := by decide +kernel
theorem dX8_whyNot_69 : decode cX8_whyNot 69 = .ok (.iconst 2, 1) := by decide +kernel
theorem dX8_whyNot_70 : decode cX8_whyNot 70 = .ok (.iadd, 1) := by decide +kernel
theorem dX8_whyNot_71 : decode cX8_whyNot 71 = .ok (.iaload, 1) := by decide +kernel
theorem dX8_whyNot_72 : decode cX8_whyNot 72 = .ok (.aload_n 0, 1) := by decide +kernel
theorem dX8_whyNot_73 : decode cX8_whyNot 73 = .ok (.getfield 33, 3) := by decide +kernel
theorem dX8_whyNot_76 : decode cX8_whyNot 76 = .ok (.iload_n 1, 1) := by decide +kernel
theorem dX8_whyNot_77 : decode cX8_whyNot 77 = .ok (.iconst 3, 1) := by decide +kernel
theorem dX8_whyNot_78 : decode cX8_whyNot 78 = .ok (.iadd, 1) := by decide +kernel
theorem dX8_whyNot_79 : decode cX8_whyNot 79 = .ok (.iaload, 1) := by decide +kernel
theorem dX8_whyNot_80 : decode cX8_whyNot 80 = .ok (.invokevirtual 79, 3) := by decide +kernel
theorem dX8_whyNot_83 : decode cX8_whyNot 83 = .ok (.ireturn, 1) := by decide +kernel
theorem dX8_whyNot_84 : decode cX8_whyNot 84 = .ok (.aload_n 0, 1) := by decide +kernel
theorem dX8_whyNot_85 : decode cX8_whyNot 85 = .ok (.iload_n 2, 1) := by decide +kernel
theorem dX8_whyNot_86 : decode cX8_whyNot 86 = .ok (.invokevirtual 103, 3) := by decide +kernel
theorem dX8_whyNot_89 : decode cX8_whyNot 89 = .ok (.ireturn, 1) := by decide +kernel
theorem dX8_whyNot_90 : decode cX8_whyNot 90 = .ok (.aload_n 0, 1) := by decide +kernel
theorem dX8_whyNot_91 : decode cX8_whyNot 91 = .ok (.iload_n 2, 1) := by decide +kernel
theorem dX8_whyNot_92 : decode cX8_whyNot 92 = .ok (.invokevirtual 115, 3) := by decide +kernel
theorem dX8_whyNot_95 : decode cX8_whyNot 95 = .ok (.ireturn, 1) := by decide +kernel
theorem dX8_whyNot_96 : decode cX8_whyNot 96 = .ok (.aload_n 0, 1) := by decide +kernel
theorem dX8_whyNot_97 : decode cX8_whyNot 97 = .ok (.iload_n 2, 1) := by decide +kernel
theorem dX8_whyNot_98 : decode cX8_whyNot 98 = .ok (.invokevirtual 156, 3) := by decide +kernel
theorem dX8_whyNot_101 : decode cX8_whyNot 101 = .ok (.ireturn, 1) := by decide +kernel
theorem dX8_does_0 : decode cX8_does 0 = .ok (.aload_n 0, 1) := by decide +kernel
theorem dX8_does_1 : decode cX8_does 1 = .ok (.getfield 33, 3) := by decide +kernel
theorem dX8_does_4 : decode cX8_does 4 = .ok (.iload_n 1, 1) := by decide +kernel
theorem dX8_does_5 : decode cX8_does 5 = .ok (.iconst 1, 1) := by decide +kernel
theorem dX8_does_6 : decode cX8_does 6 = .ok (.iadd, 1) := by decide +kernel
theorem dX8_does_7 : decode cX8_does 7 = .ok (.iaload, 1) := by decide +kernel
theorem dX8_does_8 : decode cX8_does 8 = .ok (.istore_n 2, 1) := by decide +kernel
theorem dX8_does_9 : decode cX8_does 9 = .ok (.aload_n 0, 1) := by decide +kernel
theorem dX8_does_10 : decode cX8_does 10 = .ok (.getfield 33, 3) := by decide +kernel
theorem dX8_does_13 : decode cX8_does 13 = .ok (.iload_n 1, 1) := by decide +kernel
theorem dX8_does_14 : decode cX8_does 14 = .ok (.iaload, 1) := by decide +kernel
theorem dX8_does_15 : decode cX8_does 15 = .ok (.lookupswitch 93 #[(33, 75), (115, 41), (119, 50), (122, 84)], 41) := by decide +kernel
theorem dX8_does_56 : decode cX8_does 56 = .ok (.aload_n 0, 1) := by decide +kernel
theorem dX8_does_57 : decode cX8_does 57 = .ok (.iload_n 2, 1) := by decide +kernel
theorem dX8_does_58 : decode cX8_does 58 = .ok (.invokevirtual 63, 3) := by decide +kernel
theorem dX8_does_61 : decode cX8_does 61 = .ok (.pop, 1) := by decide +kernel
theorem dX8_does_62 : decode cX8_does 62 = .ok (.goto 52, 3) := by decide +kernel
theorem dX8_does_65 : decode cX8_does 65 = .ok (.aload_n 0, 1) := by decide +kernel
theorem dX8_does_66 : decode cX8_does 66 = .ok (.iload_n 2, 1) := by decide +kernel
theorem dX8_does_67 : decode cX8_does 67 = .ok (.aload_n 0, 1) := by decide +kernel
theorem dX8_does_68 : decode cX8_does 68 = .ok (.getfield 33, 3) := by decide +kernel
theorem dX8_does_71 : decode cX8_does 71 = .ok (.iload_n 1, 1) := by decide +kernel
theorem dX8_does_72 : decode cX8_does 72 = .ok (.iconst 2, 1) := by decide +kernel
theorem dX8_does_73 : decode cX8_does 73 = .ok (.iadd, 1) := by decide +kernel
theorem dX8_does_74 : decode cX8_does 74 = .ok (.iaload, 1) := by decide +kernel
theorem dX8_does_75 : decode cX8_does 75 = .ok (.aload_n 0, 1) := by decide +kernel
theorem dX8_does_76 : decode cX8_does 76 = .ok (.getfield 33, 3) := by decide +kernel
theorem dX8_does_79 : decode cX8_does 79 = .ok (.iload_n 1, 1) := by decide +kernel
theorem dX8_does_80 : decode cX8_does 80 = .ok (.iconst 3, 1) := by decide +kernel
theorem dX8_does_81 : decode cX8_does 81 = .ok (.iadd, 1) := by decide +kernel
theorem dX8_does_82 : decode cX8_does 82 = .ok (.iaload, 1) := by decide +kernel
theorem dX8_does_83 : decode cX8_does 83 = .ok (.invokevirtual 83, 3) := by decide +kernel
theorem dX8_does_86 : decode cX8_does 86 = .ok (.pop, 1) := by decide +kernel
theorem dX8_does_87 : decode cX8_does 87 = .ok (.goto 27, 3) := by decide +kernel
theorem dX8_does_90 : decode cX8_does 90 = .ok (.aload_n 0, 1) := by decide +kernel
theorem dX8_does_91 : decode cX8_does 91 = .ok (.iload_n 2, 1) := by decide +kernel
theorem dX8_does_92 : decode cX8_does 92 = .ok (.invokevirtual 106, 3) := by decide +kernel
theorem dX8_does_95 : decode cX8_does 95 = .ok (.pop, 1) := by decide +kernel
theorem dX8_does_96 : decode cX8_does 96 = .ok (.goto 18, 3) := by decide +kernel
theorem dX8_does_99 : decode cX8_does 99 = .ok (.aload_n 0, 1) := by decide +kernel
theorem dX8_does_100 : decode cX8_does 100 = .ok (.iload_n 2, 1) := by decide +kernel
theorem dX8_does_101 : decode cX8_does 101 = .ok (.invokevirtual 118, 3) := by decide +kernel
theorem dX8_does_104 : decode cX8_does 104 = .ok (.pop, 1) := by decide +kernel
theorem dX8_does_105 : decode cX8_does 105 = .ok (.goto 9, 3) := by decide +kernel
theorem dX8_does_108 : decode cX8_does 108 = .ok (.aload_n 0, 1) := by decide +kernel
theorem dX8_does_109 : decode cX8_does 109 = .ok (.iload_n 2, 1) := by decide +kernel
theorem dX8_does_110 : decode cX8_does 110 = .ok (.invokevirtual 159, 3) := by decide +kernel
theorem dX8_does_113 : decode cX8_does 113 = .ok (.pop, 1) := by decide +kernel
theorem dX8_does_114 : decode cX8_does 114 = .ok (.return_, 1) := by decide +kernel
theorem dX8_carryOut_0 : decode cX8_carryOut 0 = .ok (.aload_n 0, 1) := by decide +kernel
theorem dX8_carryOut_1 : decode cX8_carryOut 1 = .ok (.invokevirtual 223, 3) := by decide +kernel
theorem dX8_carryOut_4 : decode cX8_carryOut 4 = .ok (.bipush (-6), 2) := by decide +kernel
theorem dX8_carryOut_6 : decode cX8_carryOut 6 = .ok (.if_icmp .eq 6, 3) := by decide +kernel
theorem dX8_carryOut_9 : decode cX8_carryOut 9 = .ok (.bipush (-3), 2) := by decide +kernel
theorem dX8_carryOut_11 : decode cX8_carryOut 11 = .ok (.ireturn, 1) := by decide +kernel
theorem dX8_carryOut_12 : decode cX8_carryOut 12 = .ok (.aload_n 0, 1) := by decide +kernel
theorem dX8_carryOut_13 : decode cX8_carryOut 13 = .ok (.invokevirtual 48, 3) := by decide +kernel
theorem dX8_carryOut_16 : decode cX8_carryOut 16 = .ok (.iconst 0, 1) := by decide +kernel
theorem dX8_carryOut_17 : decode cX8_carryOut 17 = .ok (.istore_n 1, 1) := by decide +kernel
theorem dX8_carryOut_18 : decode cX8_carryOut 18 = .ok (.iload_n 1, 1) := by decide +kernel
theorem dX8_carryOut_19 : decode cX8_carryOut 19 = .ok (.aload_n 0, 1) := by decide +kernel
theorem dX8_carryOut_20 : decode cX8_carryOut 20 = .ok (.getfield 211, 3) := by decide +kernel
theorem dX8_carryOut_23 : decode cX8_carryOut 23 = .ok (.if_icmp .ge 26, 3) := by decide +kernel
theorem dX8_carryOut_26 : decode cX8_carryOut 26 = .ok (.aload_n 0, 1) := by decide +kernel
theorem dX8_carryOut_27 : decode cX8_carryOut 27 = .ok (.iconst 4, 1) := by decide +kernel
theorem dX8_carryOut_28 : decode cX8_carryOut 28 = .ok (.iload_n 1, 1) := by decide +kernel
theorem dX8_carryOut_29 : decode cX8_carryOut 29 = .ok (.imul, 1) := by decide +kernel
theorem dX8_carryOut_30 : decode cX8_carryOut 30 = .ok (.invokevirtual 226, 3) := by decide +kernel
theorem dX8_carryOut_33 : decode cX8_carryOut 33 = .ok (.ifCond .ne 16, 3) := by decide +kernel
theorem dX8_carryOut_36 : decode cX8_carryOut 36 = .ok (.aload_n 0, 1) := by decide +kernel
theorem dX8_carryOut_37 : decode cX8_carryOut 37 = .ok (.iconst 4, 1) := by decide +kernel
theorem dX8_carryOut_38 : decode cX8_carryOut 38 = .ok (.iload_n 1, 1) := by decide +kernel
theorem dX8_carryOut_39 : decode cX8_carryOut 39 = .ok (.imul, 1) := by decide +kernel
theorem dX8_carryOut_40 : decode cX8_carryOut 40 = .ok (.invokevirtual 229, 3) := by decide +kernel
theorem dX8_carryOut_43 : decode cX8_carryOut 43 = .ok (.iinc 1 1, 3) := by decide +kernel
theorem dX8_carryOut_46 : decode cX8_carryOut 46 = .ok (.goto (-28), 3) := by decide +kernel
theorem dX8_carryOut_49 : decode cX8_carryOut 49 = .ok (.aload_n 0, 1) := by decide +kernel
theorem dX8_carryOut_50 : decode cX8_carryOut 50 = .ok (.iconst 0, 1) := by decide +kernel
theorem dX8_carryOut_51 : decode cX8_carryOut 51 = .ok (.putfield 183, 3) := by decide +kernel
theorem dX8_carryOut_54 : decode cX8_carryOut 54 = .ok (.iload_n 1, 1) := by decide +kernel
theorem dX8_carryOut_55 : decode cX8_carryOut 55 = .ok (.ireturn, 1) := by decide +kernel
theorem dX8_put_0 : decode cX8_put 0 = .ok (.iconst 0, 1) := by decide +kernel
theorem dX8_put_1 : decode cX8_put 1 = .ok (.istore_n 3, 1) := by decide +kernel
theorem dX8_put_2 : decode cX8_put 2 = .ok (.lload_n 1, 1) := by decide +kernel
theorem dX8_put_3 : decode cX8_put 3 = .ok (.lstore 4, 2) := by decide +kernel
theorem dX8_put_5 : decode cX8_put 5 = .ok (.iconst 1, 1) := by decide +kernel
theorem dX8_put_6 : decode cX8_put 6 = .ok (.istore 6, 2) := by decide +kernel
theorem dX8_put_8 : decode cX8_put 8 = .ok (.lload 4, 2) := by decide +kernel
theorem dX8_put_10 : decode cX8_put 10 = .ok (.lconst 0, 1) := by decide +kernel
theorem dX8_put_11 : decode cX8_put 11 = .ok (.lcmp, 1) := by decide +kernel
theorem dX8_put_12 : decode cX8_put 12 = .ok (.ifCond .eq 37, 3) := by decide +kernel
theorem dX8_put_15 : decode cX8_put 15 = .ok (.iload 6, 2) := by decide +kernel
theorem dX8_put_17 : decode cX8_put 17 = .ok (.ifCond .eq 32, 3) := by decide +kernel
theorem dX8_put_20 : decode cX8_put 20 = .ok (.lload 4, 2) := by decide +kernel
theorem dX8_put_22 : decode cX8_put 22 = .ok (.ldc2_w 232, 3) := by decide +kernel
theorem dX8_put_25 : decode cX8_put 25 = .ok (.land, 1) := by decide +kernel
theorem dX8_put_26 : decode cX8_put 26 = .ok (.l2i, 1) := by decide +kernel
theorem dX8_put_27 : decode cX8_put 27 = .ok (.bipush 33, 2) := by decide +kernel
theorem dX8_put_29 : decode cX8_put 29 = .ok (.bipush 126, 2) := by decide +kernel
theorem dX8_put_31 : decode cX8_put 31 = .ok (.invokestatic 36, 3) := by decide +kernel
theorem dX8_put_34 : decode cX8_put 34 = .ok (.istore 6, 2) := by decide +kernel
theorem dX8_put_36 : decode cX8_put 36 = .ok (.lload 4, 2) := by decide +kernel
theorem dX8_put_38 : decode cX8_put 38 = .ok (.bipush 8, 2) := by decide +kernel
theorem dX8_put_40 : decode cX8_put 40 = .ok (.lushr, 1) := by decide +kernel
theorem dX8_put_41 : decode cX8_put 41 = .ok (.lstore 4, 2) := by decide +kernel
theorem dX8_put_43 : decode cX8_put 43 = .ok (.iinc 3 1, 3) := by decide +kernel
theorem dX8_put_46 : decode cX8_put 46 = .ok (.goto (-38), 3) := by decide +kernel
theorem dX8_put_49 : decode cX8_put 49 = .ok (.iload_n 3, 1) := by decide +kernel
theorem dX8_put_50 : decode cX8_put 50 = .ok (.ifCond .eq 8, 3) := by decide +kernel
theorem dX8_put_53 : decode cX8_put 53 = .ok (.iload 6, 2) := by decide +kernel
theorem dX8_put_55 : decode cX8_put 55 = .ok (.ifCond .ne 6, 3) := by decide +kernel
theorem dX8_put_58 : decode cX8_put 58 = .ok (.bipush (-2), 2) := by decide +kernel
theorem dX8_put_60 : decode cX8_put 60 = .ok (.ireturn, 1) := by decide +kernel
theorem dX8_put_61 : decode cX8_put 61 = .ok (.aload_n 0, 1) := by decide +kernel
theorem dX8_put_62 : decode cX8_put 62 = .ok (.getfield 183, 3) := by decide +kernel
theorem dX8_put_65 : decode cX8_put 65 = .ok (.iload_n 3, 1) := by decide +kernel
theorem dX8_put_66 : decode cX8_put 66 = .ok (.iadd, 1) := by decide +kernel
theorem dX8_put_67 : decode cX8_put 67 = .ok (.bipush 80, 2) := by decide +kernel
theorem dX8_put_69 : decode cX8_put 69 = .ok (.if_icmp .le 6, 3) := by decide +kernel
theorem dX8_put_72 : decode cX8_put 72 = .ok (.bipush (-4), 2) := by decide +kernel
theorem dX8_put_74 : decode cX8_put 74 = .ok (.ireturn, 1) := by decide +kernel
theorem dX8_put_75 : decode cX8_put 75 = .ok (.iload_n 3, 1) := by decide +kernel
theorem dX8_put_76 : decode cX8_put 76 = .ok (.iconst 1, 1) := by decide +kernel
theorem dX8_put_77 : decode cX8_put 77 = .ok (.isub, 1) := by decide +kernel
theorem dX8_put_78 : decode cX8_put 78 = .ok (.istore 7, 2) := by decide +kernel
theorem dX8_put_80 : decode cX8_put 80 = .ok (.iload 7, 2) := by decide +kernel
theorem dX8_put_82 : decode cX8_put 82 = .ok (.ifCond .lt 41, 3) := by decide +kernel
theorem dX8_put_85 : decode cX8_put 85 = .ok (.aload_n 0, 1) := by decide +kernel
theorem dX8_put_86 : decode cX8_put 86 = .ok (.getfield 26, 3) := by decide +kernel
theorem dX8_put_89 : decode cX8_put 89 = .ok (.aload_n 0, 1) := by decide +kernel
theorem dX8_put_90 : decode cX8_put 90 = .ok (.getfield 183, 3) := by decide +kernel
theorem dX8_put_93 : decode cX8_put 93 = .ok (.lload_n 1, 1) := by decide +kernel
theorem dX8_put_94 : decode cX8_put 94 = .ok (.bipush 8, 2) := by decide +kernel
theorem dX8_put_96 : decode cX8_put 96 = .ok (.iload 7, 2) := by decide +kernel
theorem dX8_put_98 : decode cX8_put 98 = .ok (.imul, 1) := by decide +kernel
theorem dX8_put_99 : decode cX8_put 99 = .ok (.lushr, 1) := by decide +kernel
theorem dX8_put_100 : decode cX8_put 100 = .ok (.ldc2_w 232, 3) := by decide +kernel
theorem dX8_put_103 : decode cX8_put 103 = .ok (.land, 1) := by decide +kernel
theorem dX8_put_104 : decode cX8_put 104 = .ok (.l2i, 1) := by decide +kernel
theorem dX8_put_105 : decode cX8_put 105 = .ok (.i2c, 1) := by decide +kernel
theorem dX8_put_106 : decode cX8_put 106 = .ok (.castore, 1) := by decide +kernel
theorem dX8_put_107 : decode cX8_put 107 = .ok (.aload_n 0, 1) := by decide +kernel
theorem dX8_put_108 : decode cX8_put 108 = .ok (.dup, 1) := by decide +kernel
theorem dX8_put_109 : decode cX8_put 109 = .ok (.getfield 183, 3) := by decide +kernel
theorem dX8_put_112 : decode cX8_put 112 = .ok (.iconst 1, 1) := by decide +kernel
theorem dX8_put_113 : decode cX8_put 113 = .ok (.iadd, 1) := by decide +kernel
theorem dX8_put_114 : decode cX8_put 114 = .ok (.putfield 183, 3) := by decide +kernel
theorem dX8_put_117 : decode cX8_put 117 = .ok (.iinc 7 (-1), 3) := by decide +kernel
theorem dX8_put_120 : decode cX8_put 120 = .ok (.goto (-40), 3) := by decide +kernel
theorem dX8_put_123 : decode cX8_put 123 = .ok (.aload_n 0, 1) := by decide +kernel
theorem dX8_put_124 : decode cX8_put 124 = .ok (.getfield 183, 3) := by decide +kernel
theorem dX8_put_127 : decode cX8_put 127 = .ok (.ireturn, 1) := by decide +kernel
theorem dX8_wipe_0 : decode cX8_wipe 0 = .ok (.aload_n 0, 1) := by decide +kernel
theorem dX8_wipe_1 : decode cX8_wipe 1 = .ok (.getfield 183, 3) := by decide +kernel
theorem dX8_wipe_4 : decode cX8_wipe 4 = .ok (.istore_n 1, 1) := by decide +kernel
theorem dX8_wipe_5 : decode cX8_wipe 5 = .ok (.aload_n 0, 1) := by decide +kernel
theorem dX8_wipe_6 : decode cX8_wipe 6 = .ok (.iconst 0, 1) := by decide +kernel
theorem dX8_wipe_7 : decode cX8_wipe 7 = .ok (.putfield 183, 3) := by decide +kernel
theorem dX8_wipe_10 : decode cX8_wipe 10 = .ok (.iload_n 1, 1) := by decide +kernel
theorem dX8_wipe_11 : decode cX8_wipe 11 = .ok (.ireturn, 1) := by decide +kernel
theorem dJ6_bitCount_0f7a4_0 : decode cJ6_bitCount_0f7a4 0 = .ok (.iload_n 0, 1) := by decide +kernel
theorem dJ6_bitCount_0f7a4_1 : decode cJ6_bitCount_0f7a4 1 = .ok (.iload_n 0, 1) := by decide +kernel
theorem dJ6_bitCount_0f7a4_2 : decode cJ6_bitCount_0f7a4 2 = .ok (.iconst 1, 1) := by decide +kernel
theorem dJ6_bitCount_0f7a4_3 : decode cJ6_bitCount_0f7a4 3 = .ok (.iushr, 1) := by decide +kernel
theorem dJ6_bitCount_0f7a4_4 : decode cJ6_bitCount_0f7a4 4 = .ok (.ldc_w 265, 3) := by decide +kernel
theorem dJ6_bitCount_0f7a4_7 : decode cJ6_bitCount_0f7a4 7 = .ok (.iand, 1) := by decide +kernel
theorem dJ6_bitCount_0f7a4_8 : decode cJ6_bitCount_0f7a4 8 = .ok (.isub, 1) := by decide +kernel
theorem dJ6_bitCount_0f7a4_9 : decode cJ6_bitCount_0f7a4 9 = .ok (.istore_n 0, 1) := by decide +kernel
theorem dJ6_bitCount_0f7a4_10 : decode cJ6_bitCount_0f7a4 10 = .ok (.iload_n 0, 1) := by decide +kernel
theorem dJ6_bitCount_0f7a4_11 : decode cJ6_bitCount_0f7a4 11 = .ok (.ldc_w 266, 3) := by decide +kernel
theorem dJ6_bitCount_0f7a4_14 : decode cJ6_bitCount_0f7a4 14 = .ok (.iand, 1) := by decide +kernel
theorem dJ6_bitCount_0f7a4_15 : decode cJ6_bitCount_0f7a4 15 = .ok (.iload_n 0, 1) := by decide +kernel
theorem dJ6_bitCount_0f7a4_16 : decode cJ6_bitCount_0f7a4 16 = .ok (.iconst 2, 1) := by decide +kernel
theorem dJ6_bitCount_0f7a4_17 : decode cJ6_bitCount_0f7a4 17 = .ok (.iushr, 1) := by decide +kernel
theorem dJ6_bitCount_0f7a4_18 : decode cJ6_bitCount_0f7a4 18 = .ok (.ldc_w 266, 3) := by decide +kernel
theorem dJ6_bitCount_0f7a4_21 : decode cJ6_bitCount_0f7a4 21 = .ok (.iand, 1) := by decide +kernel
theorem dJ6_bitCount_0f7a4_22 : decode cJ6_bitCount_0f7a4 22 = .ok (.iadd, 1) := by decide +kernel
theorem dJ6_bitCount_0f7a4_23 : decode cJ6_bitCount_0f7a4 23 = .ok (.istore_n 0, 1) := by decide +kernel
theorem dJ6_bitCount_0f7a4_24 : decode cJ6_bitCount_0f7a4 24 = .ok (.iload_n 0, 1) := by decide +kernel
theorem dJ6_bitCount_0f7a4_25 : decode cJ6_bitCount_0f7a4 25 = .ok (.iload_n 0, 1) := by decide +kernel
theorem dJ6_bitCount_0f7a4_26 : decode cJ6_bitCount_0f7a4 26 = .ok (.iconst 4, 1) := by decide +kernel
theorem dJ6_bitCount_0f7a4_27 : decode cJ6_bitCount_0f7a4 27 = .ok (.iushr, 1) := by decide +kernel
theorem dJ6_bitCount_0f7a4_28 : decode cJ6_bitCount_0f7a4 28 = .ok (.iadd, 1) := by decide +kernel
theorem dJ6_bitCount_0f7a4_29 : decode cJ6_bitCount_0f7a4 29 = .ok (.ldc_w 267, 3) := by decide +kernel
theorem dJ6_bitCount_0f7a4_32 : decode cJ6_bitCount_0f7a4 32 = .ok (.iand, 1) := by decide +kernel
theorem dJ6_bitCount_0f7a4_33 : decode cJ6_bitCount_0f7a4 33 = .ok (.istore_n 0, 1) := by decide +kernel
theorem dJ6_bitCount_0f7a4_34 : decode cJ6_bitCount_0f7a4 34 = .ok (.iload_n 0, 1) := by decide +kernel
theorem dJ6_bitCount_0f7a4_35 : decode cJ6_bitCount_0f7a4 35 = .ok (.iload_n 0, 1) := by decide +kernel
theorem dJ6_bitCount_0f7a4_36 : decode cJ6_bitCount_0f7a4 36 = .ok (.bipush 8, 2) := by decide +kernel
theorem dJ6_bitCount_0f7a4_38 : decode cJ6_bitCount_0f7a4 38 = .ok (.iushr, 1) := by decide +kernel
theorem dJ6_bitCount_0f7a4_39 : decode cJ6_bitCount_0f7a4 39 = .ok (.iadd, 1) := by decide +kernel
theorem dJ6_bitCount_0f7a4_40 : decode cJ6_bitCount_0f7a4 40 = .ok (.istore_n 0, 1) := by decide +kernel
theorem dJ6_bitCount_0f7a4_41 : decode cJ6_bitCount_0f7a4 41 = .ok (.iload_n 0, 1) := by decide +kernel
theorem dJ6_bitCount_0f7a4_42 : decode cJ6_bitCount_0f7a4 42 = .ok (.iload_n 0, 1) := by decide +kernel
theorem dJ6_bitCount_0f7a4_43 : decode cJ6_bitCount_0f7a4 43 = .ok (.bipush 16, 2) := by decide +kernel
theorem dJ6_bitCount_0f7a4_45 : decode cJ6_bitCount_0f7a4 45 = .ok (.iushr, 1) := by decide +kernel
theorem dJ6_bitCount_0f7a4_46 : decode cJ6_bitCount_0f7a4 46 = .ok (.iadd, 1) := by decide +kernel
theorem dJ6_bitCount_0f7a4_47 : decode cJ6_bitCount_0f7a4 47 = .ok (.istore_n 0, 1) := by decide +kernel
theorem dJ6_bitCount_0f7a4_48 : decode cJ6_bitCount_0f7a4 48 = .ok (.iload_n 0, 1) := by decide +kernel
theorem dJ6_bitCount_0f7a4_49 : decode cJ6_bitCount_0f7a4 49 = .ok (.bipush 63, 2) := by decide +kernel
theorem dJ6_bitCount_0f7a4_51 : decode cJ6_bitCount_0f7a4 51 = .ok (.iand, 1) := by decide +kernel
theorem dJ6_bitCount_0f7a4_52 : decode cJ6_bitCount_0f7a4 52 = .ok (.ireturn, 1) := by decide +kernel
theorem dJ9_max_7cf53_0 : decode cJ9_max_7cf53 0 = .ok (.iload_n 0, 1) := by decide +kernel
theorem dJ9_max_7cf53_1 : decode cJ9_max_7cf53 1 = .ok (.iload_n 1, 1) := by decide +kernel
theorem dJ9_max_7cf53_2 : decode cJ9_max_7cf53 2 = .ok (.if_icmp .lt 7, 3) := by decide +kernel
theorem dJ9_max_7cf53_5 : decode cJ9_max_7cf53 5 = .ok (.iload_n 0, 1) := by decide +kernel
theorem dJ9_max_7cf53_6 : decode cJ9_max_7cf53 6 = .ok (.goto 4, 3) := by decide +kernel
theorem dJ9_max_7cf53_9 : decode cJ9_max_7cf53 9 = .ok (.iload_n 1, 1) := by decide +kernel
theorem dJ9_max_7cf53_10 : decode cJ9_max_7cf53 10 = .ok (.ireturn, 1) := by decide +kernel
theorem dJ9_min_7cf53_0 : decode cJ9_min_7cf53 0 = .ok (.iload_n 0, 1) := by decide +kernel
theorem dJ9_min_7cf53_1 : decode cJ9_min_7cf53 1 = .ok (.iload_n 1, 1) := by decide +kernel
theorem dJ9_min_7cf53_2 : decode cJ9_min_7cf53 2 = .ok (.if_icmp .gt 7, 3) := by decide +kernel
theorem dJ9_min_7cf53_5 : decode cJ9_min_7cf53 5 = .ok (.iload_n 0, 1) := by decide +kernel
theorem dJ9_min_7cf53_6 : decode cJ9_min_7cf53 6 = .ok (.goto 4, 3) := by decide +kernel
theorem dJ9_min_7cf53_9 : decode cJ9_min_7cf53 9 = .ok (.iload_n 1, 1) := by decide +kernel
theorem dJ9_min_7cf53_10 : decode cJ9_min_7cf53 10 = .ok (.ireturn, 1) := by decide +kernel
theorem dL_law_0 : decode cL_law 0 = .ok (.new 7, 3) := by decide +kernel
theorem dL_law_3 : decode cL_law 3 = .ok (.dup, 1) := by decide +kernel
theorem dL_law_4 : decode cL_law 4 = .ok (.invokespecial 9, 3) := by decide +kernel
theorem dL_law_7 : decode cL_law 7 = .ok (.astore_n 1, 1) := by decide +kernel
theorem dL_law_8 : decode cL_law 8 = .ok (.new 10, 3) := by decide +kernel
theorem dL_law_11 : decode cL_law 11 = .ok (.dup, 1) := by decide +kernel
theorem dL_law_12 : decode cL_law 12 = .ok (.invokespecial 12, 3) := by decide +kernel
theorem dL_law_15 : decode cL_law 15 = .ok (.astore_n 2, 1) := by decide +kernel
theorem dL_law_16 : decode cL_law 16 = .ok (.iconst 0, 1) := by decide +kernel
theorem dL_law_17 : decode cL_law 17 = .ok (.istore_n 3, 1) := by decide +kernel
theorem dL_law_18 : decode cL_law 18 = .ok (.iload_n 3, 1) := by decide +kernel
theorem dL_law_19 : decode cL_law 19 = .ok (.aload_n 0, 1) := by decide +kernel
theorem dL_law_20 : decode cL_law 20 = .ok (.arraylength, 1) := by decide +kernel
theorem dL_law_21 : decode cL_law 21 = .ok (.iconst 4, 1) := by decide +kernel
theorem dL_law_22 : decode cL_law 22 = .ok (.isub, 1) := by decide +kernel
theorem dL_law_23 : decode cL_law 23 = .ok (.if_icmp .gt 786, 3) := by decide +kernel
theorem dL_law_26 : decode cL_law 26 = .ok (.aload_n 0, 1) := by decide +kernel
theorem dL_law_27 : decode cL_law 27 = .ok (.iload_n 3, 1) := by decide +kernel
theorem dL_law_28 : decode cL_law 28 = .ok (.iaload, 1) := by decide +kernel
theorem dL_law_29 : decode cL_law 29 = .ok (.bipush 31, 2) := by decide +kernel
theorem dL_law_31 : decode cL_law 31 = .ok (.iand, 1) := by decide +kernel
theorem dL_law_32 : decode cL_law 32 = .ok (.tableswitch 771 0 24 #[116, 149, 172, 215, 238, 261, 284, 307, 340, 373, 416, 459, 482, 505, 538, 551, 584, 597, 620, 673, 686, 699, 712, 725, 748], 116) := by decide +kernel
theorem dL_law_148 : decode cL_law 148 = .ok (.aload_n 1, 1) := by decide +kernel
theorem dL_law_149 : decode cL_law 149 = .ok (.aload_n 0, 1) := by decide +kernel
theorem dL_law_150 : decode cL_law 150 = .ok (.iload_n 3, 1) := by decide +kernel
theorem dL_law_151 : decode cL_law 151 = .ok (.iconst 1, 1) := by decide +kernel
theorem dL_law_152 : decode cL_law 152 = .ok (.iadd, 1) := by decide +kernel
theorem dL_law_153 : decode cL_law 153 = .ok (.iaload, 1) := by decide +kernel
theorem dL_law_154 : decode cL_law 154 = .ok (.aload_n 0, 1) := by decide +kernel
theorem dL_law_155 : decode cL_law 155 = .ok (.iload_n 3, 1) := by decide +kernel
theorem dL_law_156 : decode cL_law 156 = .ok (.iconst 2, 1) := by decide +kernel
theorem dL_law_157 : decode cL_law 157 = .ok (.iadd, 1) := by decide +kernel
theorem dL_law_158 : decode cL_law 158 = .ok (.iaload, 1) := by decide +kernel
theorem dL_law_159 : decode cL_law 159 = .ok (.invokevirtual 13, 3) := by decide +kernel
theorem dL_law_162 : decode cL_law 162 = .ok (.aload_n 2, 1) := by decide +kernel
theorem dL_law_163 : decode cL_law 163 = .ok (.aload_n 0, 1) := by decide +kernel
theorem dL_law_164 : decode cL_law 164 = .ok (.iload_n 3, 1) := by decide +kernel
theorem dL_law_165 : decode cL_law 165 = .ok (.iconst 1, 1) := by decide +kernel
theorem dL_law_166 : decode cL_law 166 = .ok (.iadd, 1) := by decide +kernel
theorem dL_law_167 : decode cL_law 167 = .ok (.iaload, 1) := by decide +kernel
theorem dL_law_168 : decode cL_law 168 = .ok (.aload_n 0, 1) := by decide +kernel
theorem dL_law_169 : decode cL_law 169 = .ok (.iload_n 3, 1) := by decide +kernel
theorem dL_law_170 : decode cL_law 170 = .ok (.iconst 2, 1) := by decide +kernel
theorem dL_law_171 : decode cL_law 171 = .ok (.iadd, 1) := by decide +kernel
theorem dL_law_172 : decode cL_law 172 = .ok (.iaload, 1) := by decide +kernel
theorem dL_law_173 : decode cL_law 173 = .ok (.invokevirtual 17, 3) := by decide +kernel
theorem dL_law_176 : decode cL_law 176 = .ok (.if_icmp .eq 627, 3) := by decide +kernel
theorem dL_law_179 : decode cL_law 179 = .ok (.iconst 0, 1) := by decide +kernel
theorem dL_law_180 : decode cL_law 180 = .ok (.ireturn, 1) := by decide +kernel
theorem dL_law_181 : decode cL_law 181 = .ok (.aload_n 1, 1) := by decide +kernel
theorem dL_law_182 : decode cL_law 182 = .ok (.aload_n 0, 1) := by decide +kernel
theorem dL_law_183 : decode cL_law 183 = .ok (.iload_n 3, 1) := by decide +kernel
theorem dL_law_184 : decode cL_law 184 = .ok (.iconst 1, 1) := by decide +kernel
theorem dL_law_185 : decode cL_law 185 = .ok (.iadd, 1) := by decide +kernel
theorem dL_law_186 : decode cL_law 186 = .ok (.iaload, 1) := by decide +kernel
theorem dL_law_187 : decode cL_law 187 = .ok (.invokevirtual 18, 3) := by decide +kernel
theorem dL_law_190 : decode cL_law 190 = .ok (.aload_n 2, 1) := by decide +kernel
theorem dL_law_191 : decode cL_law 191 = .ok (.aload_n 0, 1) := by decide +kernel
theorem dL_law_192 : decode cL_law 192 = .ok (.iload_n 3, 1) := by decide +kernel
theorem dL_law_193 : decode cL_law 193 = .ok (.iconst 1, 1) := by decide +kernel
theorem dL_law_194 : decode cL_law 194 = .ok (.iadd, 1) := by decide +kernel
theorem dL_law_195 : decode cL_law 195 = .ok (.iaload, 1) := by decide +kernel
theorem dL_law_196 : decode cL_law 196 = .ok (.invokevirtual 22, 3) := by decide +kernel
theorem dL_law_199 : decode cL_law 199 = .ok (.if_icmp .eq 604, 3) := by decide +kernel
theorem dL_law_202 : decode cL_law 202 = .ok (.iconst 0, 1) := by decide +kernel
theorem dL_law_203 : decode cL_law 203 = .ok (.ireturn, 1) := by decide +kernel
theorem dL_law_204 : decode cL_law 204 = .ok (.aload_n 1, 1) := by decide +kernel
theorem dL_law_205 : decode cL_law 205 = .ok (.aload_n 0, 1) := by decide +kernel
theorem dL_law_206 : decode cL_law 206 = .ok (.iload_n 3, 1) := by decide +kernel
theorem dL_law_207 : decode cL_law 207 = .ok (.iconst 1, 1) := by decide +kernel
theorem dL_law_208 : decode cL_law 208 = .ok (.iadd, 1) := by decide +kernel
theorem dL_law_209 : decode cL_law 209 = .ok (.iaload, 1) := by decide +kernel
theorem dL_law_210 : decode cL_law 210 = .ok (.aload_n 0, 1) := by decide +kernel
theorem dL_law_211 : decode cL_law 211 = .ok (.iload_n 3, 1) := by decide +kernel
theorem dL_law_212 : decode cL_law 212 = .ok (.iconst 2, 1) := by decide +kernel
theorem dL_law_213 : decode cL_law 213 = .ok (.iadd, 1) := by decide +kernel
theorem dL_law_214 : decode cL_law 214 = .ok (.iaload, 1) := by decide +kernel
theorem dL_law_215 : decode cL_law 215 = .ok (.aload_n 0, 1) := by decide +kernel
theorem dL_law_216 : decode cL_law 216 = .ok (.iload_n 3, 1) := by decide +kernel
theorem dL_law_217 : decode cL_law 217 = .ok (.iconst 3, 1) := by decide +kernel
theorem dL_law_218 : decode cL_law 218 = .ok (.iadd, 1) := by decide +kernel
theorem dL_law_219 : decode cL_law 219 = .ok (.iaload, 1) := by decide +kernel
theorem dL_law_220 : decode cL_law 220 = .ok (.invokevirtual 23, 3) := by decide +kernel
theorem dL_law_223 : decode cL_law 223 = .ok (.aload_n 2, 1) := by decide +kernel
theorem dL_law_224 : decode cL_law 224 = .ok (.aload_n 0, 1) := by decide +kernel
theorem dL_law_225 : decode cL_law 225 = .ok (.iload_n 3, 1) := by decide +kernel
theorem dL_law_226 : decode cL_law 226 = .ok (.iconst 1, 1) := by decide +kernel
theorem dL_law_227 : decode cL_law 227 = .ok (.iadd, 1) := by decide +kernel
theorem dL_law_228 : decode cL_law 228 = .ok (.iaload, 1) := by decide +kernel
theorem dL_law_229 : decode cL_law 229 = .ok (.aload_n 0, 1) := by decide +kernel
theorem dL_law_230 : decode cL_law 230 = .ok (.iload_n 3, 1) := by decide +kernel
theorem dL_law_231 : decode cL_law 231 = .ok (.iconst 2, 1) := by decide +kernel
theorem dL_law_232 : decode cL_law 232 = .ok (.iadd, 1) := by decide +kernel
theorem dL_law_233 : decode cL_law 233 = .ok (.iaload, 1) := by decide +kernel
theorem dL_law_234 : decode cL_law 234 = .ok (.aload_n 0, 1) := by decide +kernel
theorem dL_law_235 : decode cL_law 235 = .ok (.iload_n 3, 1) := by decide +kernel
theorem dL_law_236 : decode cL_law 236 = .ok (.iconst 3, 1) := by decide +kernel
theorem dL_law_237 : decode cL_law 237 = .ok (.iadd, 1) := by decide +kernel
theorem dL_law_238 : decode cL_law 238 = .ok (.iaload, 1) := by decide +kernel
theorem dL_law_239 : decode cL_law 239 = .ok (.invokevirtual 27, 3) := by decide +kernel
theorem dL_law_242 : decode cL_law 242 = .ok (.if_icmp .eq 561, 3) := by decide +kernel
theorem dL_law_245 : decode cL_law 245 = .ok (.iconst 0, 1) := by decide +kernel
theorem dL_law_246 : decode cL_law 246 = .ok (.ireturn, 1) := by decide +kernel
theorem dL_law_247 : decode cL_law 247 = .ok (.aload_n 1, 1) := by decide +kernel
theorem dL_law_248 : decode cL_law 248 = .ok (.aload_n 0, 1) := by decide +kernel
theorem dL_law_249 : decode cL_law 249 = .ok (.iload_n 3, 1) := by decide +kernel
theorem dL_law_250 : decode cL_law 250 = .ok (.iconst 1, 1) := by decide +kernel
theorem dL_law_251 : decode cL_law 251 = .ok (.iadd, 1) := by decide +kernel
theorem dL_law_252 : decode cL_law 252 = .ok (.iaload, 1) := by decide +kernel
theorem dL_law_253 : decode cL_law 253 = .ok (.invokevirtual 28, 3) := by decide +kernel
theorem dL_law_256 : decode cL_law 256 = .ok (.aload_n 2, 1) := by decide +kernel
theorem dL_law_257 : decode cL_law 257 = .ok (.aload_n 0, 1) := by decide +kernel
theorem dL_law_258 : decode cL_law 258 = .ok (.iload_n 3, 1) := by decide +kernel
theorem dL_law_259 : decode cL_law 259 = .ok (.iconst 1, 1) := by decide +kernel
theorem dL_law_260 : decode cL_law 260 = .ok (.iadd, 1) := by decide +kernel
theorem dL_law_261 : decode cL_law 261 = .ok (.iaload, 1) := by decide +kernel
theorem dL_law_262 : decode cL_law 262 = .ok (.invokevirtual 31, 3) := by decide +kernel
theorem dL_law_265 : decode cL_law 265 = .ok (.if_icmp .eq 538, 3) := by decide +kernel
theorem dL_law_268 : decode cL_law 268 = .ok (.iconst 0, 1) := by decide +kernel
theorem dL_law_269 : decode cL_law 269 = .ok (.ireturn, 1) := by decide +kernel
theorem dL_law_270 : decode cL_law 270 = .ok (.aload_n 1, 1) := by decide +kernel
theorem dL_law_271 : decode cL_law 271 = .ok (.aload_n 0, 1) := by decide +kernel
theorem dL_law_272 : decode cL_law 272 = .ok (.iload_n 3, 1) := by decide +kernel
theorem dL_law_273 : decode cL_law 273 = .ok (.iconst 1, 1) := by decide +kernel
theorem dL_law_274 : decode cL_law 274 = .ok (.iadd, 1) := by decide +kernel
theorem dL_law_275 : decode cL_law 275 = .ok (.iaload, 1) := by decide +kernel
theorem dL_law_276 : decode cL_law 276 = .ok (.invokevirtual 32, 3) := by decide +kernel
theorem dL_law_279 : decode cL_law 279 = .ok (.aload_n 2, 1) := by decide +kernel
theorem dL_law_280 : decode cL_law 280 = .ok (.aload_n 0, 1) := by decide +kernel
theorem dL_law_281 : decode cL_law 281 = .ok (.iload_n 3, 1) := by decide +kernel
theorem dL_law_282 : decode cL_law 282 = .ok (.iconst 1, 1) := by decide +kernel
theorem dL_law_283 : decode cL_law 283 = .ok (.iadd, 1) := by decide +kernel
theorem dL_law_284 : decode cL_law 284 = .ok (.iaload, 1) := by decide +kernel
theorem dL_law_285 : decode cL_law 285 = .ok (.invokevirtual 35, 3) := by decide +kernel
theorem dL_law_288 : decode cL_law 288 = .ok (.if_icmp .eq 515, 3) := by decide +kernel
theorem dL_law_291 : decode cL_law 291 = .ok (.iconst 0, 1) := by decide +kernel
theorem dL_law_292 : decode cL_law 292 = .ok (.ireturn, 1) := by decide +kernel
theorem dL_law_293 : decode cL_law 293 = .ok (.aload_n 1, 1) := by decide +kernel
theorem dL_law_294 : decode cL_law 294 = .ok (.aload_n 0, 1) := by decide +kernel
theorem dL_law_295 : decode cL_law 295 = .ok (.iload_n 3, 1) := by decide +kernel
theorem dL_law_296 : decode cL_law 296 = .ok (.iconst 1, 1) := by decide +kernel
theorem dL_law_297 : decode cL_law 297 = .ok (.iadd, 1) := by decide +kernel
theorem dL_law_298 : decode cL_law 298 = .ok (.iaload, 1) := by decide +kernel
theorem dL_law_299 : decode cL_law 299 = .ok (.invokevirtual 36, 3) := by decide +kernel
theorem dL_law_302 : decode cL_law 302 = .ok (.aload_n 2, 1) := by decide +kernel
theorem dL_law_303 : decode cL_law 303 = .ok (.aload_n 0, 1) := by decide +kernel
theorem dL_law_304 : decode cL_law 304 = .ok (.iload_n 3, 1) := by decide +kernel
theorem dL_law_305 : decode cL_law 305 = .ok (.iconst 1, 1) := by decide +kernel
theorem dL_law_306 : decode cL_law 306 = .ok (.iadd, 1) := by decide +kernel
theorem dL_law_307 : decode cL_law 307 = .ok (.iaload, 1) := by decide +kernel
theorem dL_law_308 : decode cL_law 308 = .ok (.invokevirtual 39, 3) := by decide +kernel
theorem dL_law_311 : decode cL_law 311 = .ok (.if_icmp .eq 492, 3) := by decide +kernel
theorem dL_law_314 : decode cL_law 314 = .ok (.iconst 0, 1) := by decide +kernel
theorem dL_law_315 : decode cL_law 315 = .ok (.ireturn, 1) := by decide +kernel
theorem dL_law_316 : decode cL_law 316 = .ok (.aload_n 1, 1) := by decide +kernel
theorem dL_law_317 : decode cL_law 317 = .ok (.aload_n 0, 1) := by decide +kernel
theorem dL_law_318 : decode cL_law 318 = .ok (.iload_n 3, 1) := by decide +kernel
theorem dL_law_319 : decode cL_law 319 = .ok (.iconst 1, 1) := by decide +kernel
theorem dL_law_320 : decode cL_law 320 = .ok (.iadd, 1) := by decide +kernel
theorem dL_law_321 : decode cL_law 321 = .ok (.iaload, 1) := by decide +kernel
theorem dL_law_322 : decode cL_law 322 = .ok (.invokevirtual 40, 3) := by decide +kernel
theorem dL_law_325 : decode cL_law 325 = .ok (.aload_n 2, 1) := by decide +kernel
theorem dL_law_326 : decode cL_law 326 = .ok (.aload_n 0, 1) := by decide +kernel
theorem dL_law_327 : decode cL_law 327 = .ok (.iload_n 3, 1) := by decide +kernel
theorem dL_law_328 : decode cL_law 328 = .ok (.iconst 1, 1) := by decide +kernel
theorem dL_law_329 : decode cL_law 329 = .ok (.iadd, 1) := by decide +kernel
theorem dL_law_330 : decode cL_law 330 = .ok (.iaload, 1) := by decide +kernel
theorem dL_law_331 : decode cL_law 331 = .ok (.invokevirtual 43, 3) := by decide +kernel
theorem dL_law_334 : decode cL_law 334 = .ok (.if_icmp .eq 469, 3) := by decide +kernel
theorem dL_law_337 : decode cL_law 337 = .ok (.iconst 0, 1) := by decide +kernel
theorem dL_law_338 : decode cL_law 338 = .ok (.ireturn, 1) := by decide +kernel
theorem dL_law_339 : decode cL_law 339 = .ok (.aload_n 1, 1) := by decide +kernel
theorem dL_law_340 : decode cL_law 340 = .ok (.aload_n 0, 1) := by decide +kernel
theorem dL_law_341 : decode cL_law 341 = .ok (.iload_n 3, 1) := by decide +kernel
theorem dL_law_342 : decode cL_law 342 = .ok (.iconst 1, 1) := by decide +kernel
theorem dL_law_343 : decode cL_law 343 = .ok (.iadd, 1) := by decide +kernel
theorem dL_law_344 : decode cL_law 344 = .ok (.iaload, 1) := by decide +kernel
theorem dL_law_345 : decode cL_law 345 = .ok (.aload_n 0, 1) := by decide +kernel
theorem dL_law_346 : decode cL_law 346 = .ok (.iload_n 3, 1) := by decide +kernel
theorem dL_law_347 : decode cL_law 347 = .ok (.iconst 2, 1) := by decide +kernel
theorem dL_law_348 : decode cL_law 348 = .ok (.iadd, 1) := by decide +kernel
theorem dL_law_349 : decode cL_law 349 = .ok (.iaload, 1) := by decide +kernel
theorem dL_law_350 : decode cL_law 350 = .ok (.invokevirtual 44, 3) := by decide +kernel
theorem dL_law_353 : decode cL_law 353 = .ok (.aload_n 2, 1) := by decide +kernel
theorem dL_law_354 : decode cL_law 354 = .ok (.aload_n 0, 1) := by decide +kernel
theorem dL_law_355 : decode cL_law 355 = .ok (.iload_n 3, 1) := by decide +kernel
theorem dL_law_356 : decode cL_law 356 = .ok (.iconst 1, 1) := by decide +kernel
theorem dL_law_357 : decode cL_law 357 = .ok (.iadd, 1) := by decide +kernel
theorem dL_law_358 : decode cL_law 358 = .ok (.iaload, 1) := by decide +kernel
theorem dL_law_359 : decode cL_law 359 = .ok (.aload_n 0, 1) := by decide +kernel
theorem dL_law_360 : decode cL_law 360 = .ok (.iload_n 3, 1) := by decide +kernel
theorem dL_law_361 : decode cL_law 361 = .ok (.iconst 2, 1) := by decide +kernel
theorem dL_law_362 : decode cL_law 362 = .ok (.iadd, 1) := by decide +kernel
theorem dL_law_363 : decode cL_law 363 = .ok (.iaload, 1) := by decide +kernel
theorem dL_law_364 : decode cL_law 364 = .ok (.invokevirtual 47, 3) := by decide +kernel
theorem dL_law_367 : decode cL_law 367 = .ok (.if_icmp .eq 436, 3) := by decide +kernel
theorem dL_law_370 : decode cL_law 370 = .ok (.iconst 0, 1) := by decide +kernel
theorem dL_law_371 : decode cL_law 371 = .ok (.ireturn, 1) := by decide +kernel
theorem dL_law_372 : decode cL_law 372 = .ok (.aload_n 1, 1) := by decide +kernel
theorem dL_law_373 : decode cL_law 373 = .ok (.aload_n 0, 1) := by decide +kernel
theorem dL_law_374 : decode cL_law 374 = .ok (.iload_n 3, 1) := by decide +kernel
theorem dL_law_375 : decode cL_law 375 = .ok (.iconst 1, 1) := by decide +kernel
theorem dL_law_376 : decode cL_law 376 = .ok (.iadd, 1) := by decide +kernel
theorem dL_law_377 : decode cL_law 377 = .ok (.iaload, 1) := by decide +kernel
theorem dL_law_378 : decode cL_law 378 = .ok (.aload_n 0, 1) := by decide +kernel
theorem dL_law_379 : decode cL_law 379 = .ok (.iload_n 3, 1) := by decide +kernel
theorem dL_law_380 : decode cL_law 380 = .ok (.iconst 2, 1) := by decide +kernel
theorem dL_law_381 : decode cL_law 381 = .ok (.iadd, 1) := by decide +kernel
theorem dL_law_382 : decode cL_law 382 = .ok (.iaload, 1) := by decide +kernel
theorem dL_law_383 : decode cL_law 383 = .ok (.invokevirtual 48, 3) := by decide +kernel
theorem dL_law_386 : decode cL_law 386 = .ok (.aload_n 2, 1) := by decide +kernel
theorem dL_law_387 : decode cL_law 387 = .ok (.aload_n 0, 1) := by decide +kernel
theorem dL_law_388 : decode cL_law 388 = .ok (.iload_n 3, 1) := by decide +kernel
theorem dL_law_389 : decode cL_law 389 = .ok (.iconst 1, 1) := by decide +kernel
theorem dL_law_390 : decode cL_law 390 = .ok (.iadd, 1) := by decide +kernel
theorem dL_law_391 : decode cL_law 391 = .ok (.iaload, 1) := by decide +kernel
theorem dL_law_392 : decode cL_law 392 = .ok (.aload_n 0, 1) := by decide +kernel
theorem dL_law_393 : decode cL_law 393 = .ok (.iload_n 3, 1) := by decide +kernel
theorem dL_law_394 : decode cL_law 394 = .ok (.iconst 2, 1) := by decide +kernel
theorem dL_law_395 : decode cL_law 395 = .ok (.iadd, 1) := by decide +kernel
theorem dL_law_396 : decode cL_law 396 = .ok (.iaload, 1) := by decide +kernel
theorem dL_law_397 : decode cL_law 397 = .ok (.invokevirtual 51, 3) := by decide +kernel
theorem dL_law_400 : decode cL_law 400 = .ok (.if_icmp .eq 403, 3) := by decide +kernel
theorem dL_law_403 : decode cL_law 403 = .ok (.iconst 0, 1) := by decide +kernel
theorem dL_law_404 : decode cL_law 404 = .ok (.ireturn, 1) := by decide +kernel
theorem dL_law_405 : decode cL_law 405 = .ok (.aload_n 1, 1) := by decide +kernel
theorem dL_law_406 : decode cL_law 406 = .ok (.aload_n 0, 1) := by decide +kernel
theorem dL_law_407 : decode cL_law 407 = .ok (.iload_n 3, 1) := by decide +kernel
theorem dL_law_408 : decode cL_law 408 = .ok (.iconst 1, 1) := by decide +kernel
theorem dL_law_409 : decode cL_law 409 = .ok (.iadd, 1) := by decide +kernel
theorem dL_law_410 : decode cL_law 410 = .ok (.iaload, 1) := by decide +kernel
theorem dL_law_411 : decode cL_law 411 = .ok (.aload_n 0, 1) := by decide +kernel
theorem dL_law_412 : decode cL_law 412 = .ok (.iload_n 3, 1) := by decide +kernel
theorem dL_law_413 : decode cL_law 413 = .ok (.iconst 2, 1) := by decide +kernel
theorem dL_law_414 : decode cL_law 414 = .ok (.iadd, 1) := by decide +kernel
theorem dL_law_415 : decode cL_law 415 = .ok (.iaload, 1) := by decide +kernel
theorem dL_law_416 : decode cL_law 416 = .ok (.aload_n 0, 1) := by decide +kernel
theorem dL_law_417 : decode cL_law 417 = .ok (.iload_n 3, 1) := by decide +kernel
theorem dL_law_418 : decode cL_law 418 = .ok (.iconst 3, 1) := by decide +kernel
theorem dL_law_419 : decode cL_law 419 = .ok (.iadd, 1) := by decide +kernel
theorem dL_law_420 : decode cL_law 420 = .ok (.iaload, 1) := by decide +kernel
theorem dL_law_421 : decode cL_law 421 = .ok (.invokevirtual 52, 3) := by decide +kernel
theorem dL_law_424 : decode cL_law 424 = .ok (.aload_n 2, 1) := by decide +kernel
theorem dL_law_425 : decode cL_law 425 = .ok (.aload_n 0, 1) := by decide +kernel
theorem dL_law_426 : decode cL_law 426 = .ok (.iload_n 3, 1) := by decide +kernel
theorem dL_law_427 : decode cL_law 427 = .ok (.iconst 1, 1) := by decide +kernel
theorem dL_law_428 : decode cL_law 428 = .ok (.iadd, 1) := by decide +kernel
theorem dL_law_429 : decode cL_law 429 = .ok (.iaload, 1) := by decide +kernel
theorem dL_law_430 : decode cL_law 430 = .ok (.aload_n 0, 1) := by decide +kernel
theorem dL_law_431 : decode cL_law 431 = .ok (.iload_n 3, 1) := by decide +kernel
theorem dL_law_432 : decode cL_law 432 = .ok (.iconst 2, 1) := by decide +kernel
theorem dL_law_433 : decode cL_law 433 = .ok (.iadd, 1) := by decide +kernel
theorem dL_law_434 : decode cL_law 434 = .ok (.iaload, 1) := by decide +kernel
theorem dL_law_435 : decode cL_law 435 = .ok (.aload_n 0, 1) := by decide +kernel
theorem dL_law_436 : decode cL_law 436 = .ok (.iload_n 3, 1) := by decide +kernel
theorem dL_law_437 : decode cL_law 437 = .ok (.iconst 3, 1) := by decide +kernel
theorem dL_law_438 : decode cL_law 438 = .ok (.iadd, 1) := by decide +kernel
theorem dL_law_439 : decode cL_law 439 = .ok (.iaload, 1) := by decide +kernel
theorem dL_law_440 : decode cL_law 440 = .ok (.invokevirtual 55, 3) := by decide +kernel
theorem dL_law_443 : decode cL_law 443 = .ok (.if_icmp .eq 360, 3) := by decide +kernel
theorem dL_law_446 : decode cL_law 446 = .ok (.iconst 0, 1) := by decide +kernel
theorem dL_law_447 : decode cL_law 447 = .ok (.ireturn, 1) := by decide +kernel
theorem dL_law_448 : decode cL_law 448 = .ok (.aload_n 1, 1) := by decide +kernel
theorem dL_law_449 : decode cL_law 449 = .ok (.aload_n 0, 1) := by decide +kernel
theorem dL_law_450 : decode cL_law 450 = .ok (.iload_n 3, 1) := by decide +kernel
theorem dL_law_451 : decode cL_law 451 = .ok (.iconst 1, 1) := by decide +kernel
theorem dL_law_452 : decode cL_law 452 = .ok (.iadd, 1) := by decide +kernel
theorem dL_law_453 : decode cL_law 453 = .ok (.iaload, 1) := by decide +kernel
theorem dL_law_454 : decode cL_law 454 = .ok (.aload_n 0, 1) := by decide +kernel
theorem dL_law_455 : decode cL_law 455 = .ok (.iload_n 3, 1) := by decide +kernel
theorem dL_law_456 : decode cL_law 456 = .ok (.iconst 2, 1) := by decide +kernel
theorem dL_law_457 : decode cL_law 457 = .ok (.iadd, 1) := by decide +kernel
theorem dL_law_458 : decode cL_law 458 = .ok (.iaload, 1) := by decide +kernel
theorem dL_law_459 : decode cL_law 459 = .ok (.aload_n 0, 1) := by decide +kernel
theorem dL_law_460 : decode cL_law 460 = .ok (.iload_n 3, 1) := by decide +kernel
theorem dL_law_461 : decode cL_law 461 = .ok (.iconst 3, 1) := by decide +kernel
theorem dL_law_462 : decode cL_law 462 = .ok (.iadd, 1) := by decide +kernel
theorem dL_law_463 : decode cL_law 463 = .ok (.iaload, 1) := by decide +kernel
theorem dL_law_464 : decode cL_law 464 = .ok (.invokevirtual 56, 3) := by decide +kernel
theorem dL_law_467 : decode cL_law 467 = .ok (.aload_n 2, 1) := by decide +kernel
theorem dL_law_468 : decode cL_law 468 = .ok (.aload_n 0, 1) := by decide +kernel
theorem dL_law_469 : decode cL_law 469 = .ok (.iload_n 3, 1) := by decide +kernel
theorem dL_law_470 : decode cL_law 470 = .ok (.iconst 1, 1) := by decide +kernel
theorem dL_law_471 : decode cL_law 471 = .ok (.iadd, 1) := by decide +kernel
theorem dL_law_472 : decode cL_law 472 = .ok (.iaload, 1) := by decide +kernel
theorem dL_law_473 : decode cL_law 473 = .ok (.aload_n 0, 1) := by decide +kernel
theorem dL_law_474 : decode cL_law 474 = .ok (.iload_n 3, 1) := by decide +kernel
theorem dL_law_475 : decode cL_law 475 = .ok (.iconst 2, 1) := by decide +kernel
theorem dL_law_476 : decode cL_law 476 = .ok (.iadd, 1) := by decide +kernel
theorem dL_law_477 : decode cL_law 477 = .ok (.iaload, 1) := by decide +kernel
theorem dL_law_478 : decode cL_law 478 = .ok (.aload_n 0, 1) := by decide +kernel
theorem dL_law_479 : decode cL_law 479 = .ok (.iload_n 3, 1) := by decide +kernel
theorem dL_law_480 : decode cL_law 480 = .ok (.iconst 3, 1) := by decide +kernel
theorem dL_law_481 : decode cL_law 481 = .ok (.iadd, 1) := by decide +kernel
theorem dL_law_482 : decode cL_law 482 = .ok (.iaload, 1) := by decide +kernel
theorem dL_law_483 : decode cL_law 483 = .ok (.invokevirtual 59, 3) := by decide +kernel
theorem dL_law_486 : decode cL_law 486 = .ok (.if_icmp .eq 317, 3) := by decide +kernel
theorem dL_law_489 : decode cL_law 489 = .ok (.iconst 0, 1) := by decide +kernel
theorem dL_law_490 : decode cL_law 490 = .ok (.ireturn, 1) := by decide +kernel
theorem dL_law_491 : decode cL_law 491 = .ok (.aload_n 1, 1) := by decide +kernel
theorem dL_law_492 : decode cL_law 492 = .ok (.aload_n 0, 1) := by decide +kernel
theorem dL_law_493 : decode cL_law 493 = .ok (.iload_n 3, 1) := by decide +kernel
theorem dL_law_494 : decode cL_law 494 = .ok (.iconst 1, 1) := by decide +kernel
theorem dL_law_495 : decode cL_law 495 = .ok (.iadd, 1) := by decide +kernel
theorem dL_law_496 : decode cL_law 496 = .ok (.iaload, 1) := by decide +kernel
theorem dL_law_497 : decode cL_law 497 = .ok (.invokevirtual 60, 3) := by decide +kernel
theorem dL_law_500 : decode cL_law 500 = .ok (.aload_n 2, 1) := by decide +kernel
theorem dL_law_501 : decode cL_law 501 = .ok (.aload_n 0, 1) := by decide +kernel
theorem dL_law_502 : decode cL_law 502 = .ok (.iload_n 3, 1) := by decide +kernel
theorem dL_law_503 : decode cL_law 503 = .ok (.iconst 1, 1) := by decide +kernel
theorem dL_law_504 : decode cL_law 504 = .ok (.iadd, 1) := by decide +kernel
theorem dL_law_505 : decode cL_law 505 = .ok (.iaload, 1) := by decide +kernel
theorem dL_law_506 : decode cL_law 506 = .ok (.invokevirtual 63, 3) := by decide +kernel
theorem dL_law_509 : decode cL_law 509 = .ok (.if_icmp .eq 294, 3) := by decide +kernel
theorem dL_law_512 : decode cL_law 512 = .ok (.iconst 0, 1) := by decide +kernel
theorem dL_law_513 : decode cL_law 513 = .ok (.ireturn, 1) := by decide +kernel
theorem dL_law_514 : decode cL_law 514 = .ok (.aload_n 1, 1) := by decide +kernel
theorem dL_law_515 : decode cL_law 515 = .ok (.aload_n 0, 1) := by decide +kernel
theorem dL_law_516 : decode cL_law 516 = .ok (.iload_n 3, 1) := by decide +kernel
theorem dL_law_517 : decode cL_law 517 = .ok (.iconst 1, 1) := by decide +kernel
theorem dL_law_518 : decode cL_law 518 = .ok (.iadd, 1) := by decide +kernel
theorem dL_law_519 : decode cL_law 519 = .ok (.iaload, 1) := by decide +kernel
theorem dL_law_520 : decode cL_law 520 = .ok (.invokevirtual 64, 3) := by decide +kernel
theorem dL_law_523 : decode cL_law 523 = .ok (.aload_n 2, 1) := by decide +kernel
theorem dL_law_524 : decode cL_law 524 = .ok (.aload_n 0, 1) := by decide +kernel
theorem dL_law_525 : decode cL_law 525 = .ok (.iload_n 3, 1) := by decide +kernel
theorem dL_law_526 : decode cL_law 526 = .ok (.iconst 1, 1) := by decide +kernel
theorem dL_law_527 : decode cL_law 527 = .ok (.iadd, 1) := by decide +kernel
theorem dL_law_528 : decode cL_law 528 = .ok (.iaload, 1) := by decide +kernel
theorem dL_law_529 : decode cL_law 529 = .ok (.invokevirtual 67, 3) := by decide +kernel
theorem dL_law_532 : decode cL_law 532 = .ok (.if_icmp .eq 271, 3) := by decide +kernel
theorem dL_law_535 : decode cL_law 535 = .ok (.iconst 0, 1) := by decide +kernel
theorem dL_law_536 : decode cL_law 536 = .ok (.ireturn, 1) := by decide +kernel
theorem dL_law_537 : decode cL_law 537 = .ok (.aload_n 1, 1) := by decide +kernel
theorem dL_law_538 : decode cL_law 538 = .ok (.aload_n 0, 1) := by decide +kernel
theorem dL_law_539 : decode cL_law 539 = .ok (.iload_n 3, 1) := by decide +kernel
theorem dL_law_540 : decode cL_law 540 = .ok (.iconst 1, 1) := by decide +kernel
theorem dL_law_541 : decode cL_law 541 = .ok (.iadd, 1) := by decide +kernel
theorem dL_law_542 : decode cL_law 542 = .ok (.iaload, 1) := by decide +kernel
theorem dL_law_543 : decode cL_law 543 = .ok (.aload_n 0, 1) := by decide +kernel
theorem dL_law_544 : decode cL_law 544 = .ok (.iload_n 3, 1) := by decide +kernel
theorem dL_law_545 : decode cL_law 545 = .ok (.iconst 2, 1) := by decide +kernel
theorem dL_law_546 : decode cL_law 546 = .ok (.iadd, 1) := by decide +kernel
theorem dL_law_547 : decode cL_law 547 = .ok (.iaload, 1) := by decide +kernel
theorem dL_law_548 : decode cL_law 548 = .ok (.invokevirtual 68, 3) := by decide +kernel
theorem dL_law_551 : decode cL_law 551 = .ok (.aload_n 2, 1) := by decide +kernel
theorem dL_law_552 : decode cL_law 552 = .ok (.aload_n 0, 1) := by decide +kernel
theorem dL_law_553 : decode cL_law 553 = .ok (.iload_n 3, 1) := by decide +kernel
theorem dL_law_554 : decode cL_law 554 = .ok (.iconst 1, 1) := by decide +kernel
theorem dL_law_555 : decode cL_law 555 = .ok (.iadd, 1) := by decide +kernel
theorem dL_law_556 : decode cL_law 556 = .ok (.iaload, 1) := by decide +kernel
theorem dL_law_557 : decode cL_law 557 = .ok (.aload_n 0, 1) := by decide +kernel
theorem dL_law_558 : decode cL_law 558 = .ok (.iload_n 3, 1) := by decide +kernel
theorem dL_law_559 : decode cL_law 559 = .ok (.iconst 2, 1) := by decide +kernel
theorem dL_law_560 : decode cL_law 560 = .ok (.iadd, 1) := by decide +kernel
theorem dL_law_561 : decode cL_law 561 = .ok (.iaload, 1) := by decide +kernel
theorem dL_law_562 : decode cL_law 562 = .ok (.invokevirtual 71, 3) := by decide +kernel
theorem dL_law_565 : decode cL_law 565 = .ok (.if_icmp .eq 238, 3) := by decide +kernel
theorem dL_law_568 : decode cL_law 568 = .ok (.iconst 0, 1) := by decide +kernel
theorem dL_law_569 : decode cL_law 569 = .ok (.ireturn, 1) := by decide +kernel
theorem dL_law_570 : decode cL_law 570 = .ok (.aload_n 1, 1) := by decide +kernel
theorem dL_law_571 : decode cL_law 571 = .ok (.invokevirtual 72, 3) := by decide +kernel
theorem dL_law_574 : decode cL_law 574 = .ok (.aload_n 2, 1) := by decide +kernel
theorem dL_law_575 : decode cL_law 575 = .ok (.invokevirtual 76, 3) := by decide +kernel
theorem dL_law_578 : decode cL_law 578 = .ok (.if_icmp .eq 225, 3) := by decide +kernel
theorem dL_law_581 : decode cL_law 581 = .ok (.iconst 0, 1) := by decide +kernel
theorem dL_law_582 : decode cL_law 582 = .ok (.ireturn, 1) := by decide +kernel
theorem dL_law_583 : decode cL_law 583 = .ok (.aload_n 1, 1) := by decide +kernel
theorem dL_law_584 : decode cL_law 584 = .ok (.aload_n 0, 1) := by decide +kernel
theorem dL_law_585 : decode cL_law 585 = .ok (.iload_n 3, 1) := by decide +kernel
theorem dL_law_586 : decode cL_law 586 = .ok (.iconst 1, 1) := by decide +kernel
theorem dL_law_587 : decode cL_law 587 = .ok (.iadd, 1) := by decide +kernel
theorem dL_law_588 : decode cL_law 588 = .ok (.iaload, 1) := by decide +kernel
theorem dL_law_589 : decode cL_law 589 = .ok (.aload_n 0, 1) := by decide +kernel
theorem dL_law_590 : decode cL_law 590 = .ok (.iload_n 3, 1) := by decide +kernel
theorem dL_law_591 : decode cL_law 591 = .ok (.iconst 2, 1) := by decide +kernel
theorem dL_law_592 : decode cL_law 592 = .ok (.iadd, 1) := by decide +kernel
theorem dL_law_593 : decode cL_law 593 = .ok (.iaload, 1) := by decide +kernel
theorem dL_law_594 : decode cL_law 594 = .ok (.invokevirtual 77, 3) := by decide +kernel
theorem dL_law_597 : decode cL_law 597 = .ok (.aload_n 2, 1) := by decide +kernel
theorem dL_law_598 : decode cL_law 598 = .ok (.aload_n 0, 1) := by decide +kernel
theorem dL_law_599 : decode cL_law 599 = .ok (.iload_n 3, 1) := by decide +kernel
theorem dL_law_600 : decode cL_law 600 = .ok (.iconst 1, 1) := by decide +kernel
theorem dL_law_601 : decode cL_law 601 = .ok (.iadd, 1) := by decide +kernel
theorem dL_law_602 : decode cL_law 602 = .ok (.iaload, 1) := by decide +kernel
theorem dL_law_603 : decode cL_law 603 = .ok (.aload_n 0, 1) := by decide +kernel
theorem dL_law_604 : decode cL_law 604 = .ok (.iload_n 3, 1) := by decide +kernel
theorem dL_law_605 : decode cL_law 605 = .ok (.iconst 2, 1) := by decide +kernel
theorem dL_law_606 : decode cL_law 606 = .ok (.iadd, 1) := by decide +kernel
theorem dL_law_607 : decode cL_law 607 = .ok (.iaload, 1) := by decide +kernel
theorem dL_law_608 : decode cL_law 608 = .ok (.invokevirtual 80, 3) := by decide +kernel
theorem dL_law_611 : decode cL_law 611 = .ok (.if_icmp .eq 192, 3) := by decide +kernel
theorem dL_law_614 : decode cL_law 614 = .ok (.iconst 0, 1) := by decide +kernel
theorem dL_law_615 : decode cL_law 615 = .ok (.ireturn, 1) := by decide +kernel
theorem dL_law_616 : decode cL_law 616 = .ok (.aload_n 1, 1) := by decide +kernel
theorem dL_law_617 : decode cL_law 617 = .ok (.invokevirtual 81, 3) := by decide +kernel
theorem dL_law_620 : decode cL_law 620 = .ok (.aload_n 2, 1) := by decide +kernel
theorem dL_law_621 : decode cL_law 621 = .ok (.invokevirtual 84, 3) := by decide +kernel
theorem dL_law_624 : decode cL_law 624 = .ok (.if_icmp .eq 179, 3) := by decide +kernel
theorem dL_law_627 : decode cL_law 627 = .ok (.iconst 0, 1) := by decide +kernel
theorem dL_law_628 : decode cL_law 628 = .ok (.ireturn, 1) := by decide +kernel
theorem dL_law_629 : decode cL_law 629 = .ok (.aload_n 1, 1) := by decide +kernel
theorem dL_law_630 : decode cL_law 630 = .ok (.aload_n 0, 1) := by decide +kernel
theorem dL_law_631 : decode cL_law 631 = .ok (.iload_n 3, 1) := by decide +kernel
theorem dL_law_632 : decode cL_law 632 = .ok (.iconst 1, 1) := by decide +kernel
theorem dL_law_633 : decode cL_law 633 = .ok (.iadd, 1) := by decide +kernel
theorem dL_law_634 : decode cL_law 634 = .ok (.iaload, 1) := by decide +kernel
theorem dL_law_635 : decode cL_law 635 = .ok (.invokevirtual 85, 3) := by decide +kernel
theorem dL_law_638 : decode cL_law 638 = .ok (.aload_n 2, 1) := by decide +kernel
theorem dL_law_639 : decode cL_law 639 = .ok (.aload_n 0, 1) := by decide +kernel
theorem dL_law_640 : decode cL_law 640 = .ok (.iload_n 3, 1) := by decide +kernel
theorem dL_law_641 : decode cL_law 641 = .ok (.iconst 1, 1) := by decide +kernel
theorem dL_law_642 : decode cL_law 642 = .ok (.iadd, 1) := by decide +kernel
theorem dL_law_643 : decode cL_law 643 = .ok (.iaload, 1) := by decide +kernel
theorem dL_law_644 : decode cL_law 644 = .ok (.invokevirtual 88, 3) := by decide +kernel
theorem dL_law_647 : decode cL_law 647 = .ok (.if_icmp .eq 156, 3) := by decide +kernel
theorem dL_law_650 : decode cL_law 650 = .ok (.iconst 0, 1) := by decide +kernel
theorem dL_law_651 : decode cL_law 651 = .ok (.ireturn, 1) := by decide +kernel
theorem dL_law_652 : decode cL_law 652 = .ok (.aload_n 1, 1) := by decide +kernel
theorem dL_law_653 : decode cL_law 653 = .ok (.aload_n 0, 1) := by decide +kernel
theorem dL_law_654 : decode cL_law 654 = .ok (.iload_n 3, 1) := by decide +kernel
theorem dL_law_655 : decode cL_law 655 = .ok (.iconst 1, 1) := by decide +kernel
theorem dL_law_656 : decode cL_law 656 = .ok (.iadd, 1) := by decide +kernel
theorem dL_law_657 : decode cL_law 657 = .ok (.iaload, 1) := by decide +kernel
theorem dL_law_658 : decode cL_law 658 = .ok (.i2l, 1) := by decide +kernel
theorem dL_law_659 : decode cL_law 659 = .ok (.bipush 32, 2) := by decide +kernel
theorem dL_law_661 : decode cL_law 661 = .ok (.lshl, 1) := by decide +kernel
theorem dL_law_662 : decode cL_law 662 = .ok (.aload_n 0, 1) := by decide +kernel
theorem dL_law_663 : decode cL_law 663 = .ok (.iload_n 3, 1) := by decide +kernel
theorem dL_law_664 : decode cL_law 664 = .ok (.iconst 2, 1) := by decide +kernel
theorem dL_law_665 : decode cL_law 665 = .ok (.iadd, 1) := by decide +kernel
theorem dL_law_666 : decode cL_law 666 = .ok (.iaload, 1) := by decide +kernel
theorem dL_law_667 : decode cL_law 667 = .ok (.i2l, 1) := by decide +kernel
theorem dL_law_668 : decode cL_law 668 = .ok (.ldc2_w 89, 3) := by decide +kernel
theorem dL_law_671 : decode cL_law 671 = .ok (.land, 1) := by decide +kernel
theorem dL_law_672 : decode cL_law 672 = .ok (.lor, 1) := by decide +kernel
theorem dL_law_673 : decode cL_law 673 = .ok (.invokevirtual 91, 3) := by decide +kernel
theorem dL_law_676 : decode cL_law 676 = .ok (.aload_n 2, 1) := by decide +kernel
theorem dL_law_677 : decode cL_law 677 = .ok (.aload_n 0, 1) := by decide +kernel
theorem dL_law_678 : decode cL_law 678 = .ok (.iload_n 3, 1) := by decide +kernel
theorem dL_law_679 : decode cL_law 679 = .ok (.iconst 1, 1) := by decide +kernel
theorem dL_law_680 : decode cL_law 680 = .ok (.iadd, 1) := by decide +kernel
theorem dL_law_681 : decode cL_law 681 = .ok (.iaload, 1) := by decide +kernel
theorem dL_law_682 : decode cL_law 682 = .ok (.i2l, 1) := by decide +kernel
theorem dL_law_683 : decode cL_law 683 = .ok (.bipush 32, 2) := by decide +kernel
theorem dL_law_685 : decode cL_law 685 = .ok (.lshl, 1) := by decide +kernel
theorem dL_law_686 : decode cL_law 686 = .ok (.aload_n 0, 1) := by decide +kernel
theorem dL_law_687 : decode cL_law 687 = .ok (.iload_n 3, 1) := by decide +kernel
theorem dL_law_688 : decode cL_law 688 = .ok (.iconst 2, 1) := by decide +kernel
theorem dL_law_689 : decode cL_law 689 = .ok (.iadd, 1) := by decide +kernel
theorem dL_law_690 : decode cL_law 690 = .ok (.iaload, 1) := by decide +kernel
theorem dL_law_691 : decode cL_law 691 = .ok (.i2l, 1) := by decide +kernel
theorem dL_law_692 : decode cL_law 692 = .ok (.ldc2_w 89, 3) := by decide +kernel
theorem dL_law_695 : decode cL_law 695 = .ok (.land, 1) := by decide +kernel
theorem dL_law_696 : decode cL_law 696 = .ok (.lor, 1) := by decide +kernel
theorem dL_law_697 : decode cL_law 697 = .ok (.invokevirtual 95, 3) := by decide +kernel
theorem dL_law_700 : decode cL_law 700 = .ok (.if_icmp .eq 103, 3) := by decide +kernel
theorem dL_law_703 : decode cL_law 703 = .ok (.iconst 0, 1) := by decide +kernel
theorem dL_law_704 : decode cL_law 704 = .ok (.ireturn, 1) := by decide +kernel
theorem dL_law_705 : decode cL_law 705 = .ok (.aload_n 1, 1) := by decide +kernel
theorem dL_law_706 : decode cL_law 706 = .ok (.invokevirtual 96, 3) := by decide +kernel
theorem dL_law_709 : decode cL_law 709 = .ok (.aload_n 2, 1) := by decide +kernel
theorem dL_law_710 : decode cL_law 710 = .ok (.invokevirtual 99, 3) := by decide +kernel
theorem dL_law_713 : decode cL_law 713 = .ok (.if_icmp .eq 90, 3) := by decide +kernel
theorem dL_law_716 : decode cL_law 716 = .ok (.iconst 0, 1) := by decide +kernel
theorem dL_law_717 : decode cL_law 717 = .ok (.ireturn, 1) := by decide +kernel
theorem dL_law_718 : decode cL_law 718 = .ok (.aload_n 1, 1) := by decide +kernel
theorem dL_law_719 : decode cL_law 719 = .ok (.invokevirtual 100, 3) := by decide +kernel
theorem dL_law_722 : decode cL_law 722 = .ok (.aload_n 2, 1) := by decide +kernel
theorem dL_law_723 : decode cL_law 723 = .ok (.invokevirtual 103, 3) := by decide +kernel
theorem dL_law_726 : decode cL_law 726 = .ok (.if_icmp .eq 77, 3) := by decide +kernel
theorem dL_law_729 : decode cL_law 729 = .ok (.iconst 0, 1) := by decide +kernel
theorem dL_law_730 : decode cL_law 730 = .ok (.ireturn, 1) := by decide +kernel
theorem dL_law_731 : decode cL_law 731 = .ok (.aload_n 1, 1) := by decide +kernel
theorem dL_law_732 : decode cL_law 732 = .ok (.invokevirtual 104, 3) := by decide +kernel
theorem dL_law_735 : decode cL_law 735 = .ok (.aload_n 2, 1) := by decide +kernel
theorem dL_law_736 : decode cL_law 736 = .ok (.invokevirtual 107, 3) := by decide +kernel
theorem dL_law_739 : decode cL_law 739 = .ok (.if_icmp .eq 64, 3) := by decide +kernel
theorem dL_law_742 : decode cL_law 742 = .ok (.iconst 0, 1) := by decide +kernel
theorem dL_law_743 : decode cL_law 743 = .ok (.ireturn, 1) := by decide +kernel
theorem dL_law_744 : decode cL_law 744 = .ok (.aload_n 1, 1) := by decide +kernel
theorem dL_law_745 : decode cL_law 745 = .ok (.invokevirtual 108, 3) := by decide +kernel
theorem dL_law_748 : decode cL_law 748 = .ok (.aload_n 2, 1) := by decide +kernel
theorem dL_law_749 : decode cL_law 749 = .ok (.invokevirtual 111, 3) := by decide +kernel
theorem dL_law_752 : decode cL_law 752 = .ok (.if_icmp .eq 51, 3) := by decide +kernel
theorem dL_law_755 : decode cL_law 755 = .ok (.iconst 0, 1) := by decide +kernel
theorem dL_law_756 : decode cL_law 756 = .ok (.ireturn, 1) := by decide +kernel
theorem dL_law_757 : decode cL_law 757 = .ok (.aload_n 1, 1) := by decide +kernel
theorem dL_law_758 : decode cL_law 758 = .ok (.aload_n 0, 1) := by decide +kernel
theorem dL_law_759 : decode cL_law 759 = .ok (.iload_n 3, 1) := by decide +kernel
theorem dL_law_760 : decode cL_law 760 = .ok (.iconst 1, 1) := by decide +kernel
theorem dL_law_761 : decode cL_law 761 = .ok (.iadd, 1) := by decide +kernel
theorem dL_law_762 : decode cL_law 762 = .ok (.iaload, 1) := by decide +kernel
theorem dL_law_763 : decode cL_law 763 = .ok (.invokevirtual 112, 3) := by decide +kernel
theorem dL_law_766 : decode cL_law 766 = .ok (.aload_n 2, 1) := by decide +kernel
theorem dL_law_767 : decode cL_law 767 = .ok (.aload_n 0, 1) := by decide +kernel
theorem dL_law_768 : decode cL_law 768 = .ok (.iload_n 3, 1) := by decide +kernel
theorem dL_law_769 : decode cL_law 769 = .ok (.iconst 1, 1) := by decide +kernel
theorem dL_law_770 : decode cL_law 770 = .ok (.iadd, 1) := by decide +kernel
theorem dL_law_771 : decode cL_law 771 = .ok (.iaload, 1) := by decide +kernel
theorem dL_law_772 : decode cL_law 772 = .ok (.invokevirtual 115, 3) := by decide +kernel
theorem dL_law_775 : decode cL_law 775 = .ok (.if_icmp .eq 28, 3) := by decide +kernel
theorem dL_law_778 : decode cL_law 778 = .ok (.iconst 0, 1) := by decide +kernel
theorem dL_law_779 : decode cL_law 779 = .ok (.ireturn, 1) := by decide +kernel
theorem dL_law_780 : decode cL_law 780 = .ok (.aload_n 1, 1) := by decide +kernel
theorem dL_law_781 : decode cL_law 781 = .ok (.aload_n 0, 1) := by decide +kernel
theorem dL_law_782 : decode cL_law 782 = .ok (.iload_n 3, 1) := by decide +kernel
theorem dL_law_783 : decode cL_law 783 = .ok (.iconst 1, 1) := by decide +kernel
theorem dL_law_784 : decode cL_law 784 = .ok (.iadd, 1) := by decide +kernel
theorem dL_law_785 : decode cL_law 785 = .ok (.iaload, 1) := by decide +kernel
theorem dL_law_786 : decode cL_law 786 = .ok (.invokevirtual 116, 3) := by decide +kernel
theorem dL_law_789 : decode cL_law 789 = .ok (.aload_n 2, 1) := by decide +kernel
theorem dL_law_790 : decode cL_law 790 = .ok (.aload_n 0, 1) := by decide +kernel
theorem dL_law_791 : decode cL_law 791 = .ok (.iload_n 3, 1) := by decide +kernel
theorem dL_law_792 : decode cL_law 792 = .ok (.iconst 1, 1) := by decide +kernel
theorem dL_law_793 : decode cL_law 793 = .ok (.iadd, 1) := by decide +kernel
theorem dL_law_794 : decode cL_law 794 = .ok (.iaload, 1) := by decide +kernel
theorem dL_law_795 : decode cL_law 795 = .ok (.invokevirtual 119, 3) := by decide +kernel
theorem dL_law_798 : decode cL_law 798 = .ok (.if_icmp .eq 5, 3) := by decide +kernel
theorem dL_law_801 : decode cL_law 801 = .ok (.iconst 0, 1) := by decide +kernel
theorem dL_law_802 : decode cL_law 802 = .ok (.ireturn, 1) := by decide +kernel
theorem dL_law_803 : decode cL_law 803 = .ok (.iinc 3 4, 3) := by decide +kernel
theorem dL_law_806 : decode cL_law 806 = .ok (.goto (-788), 3) := by decide +kernel
theorem dL_law_809 : decode cL_law 809 = .ok (.iconst 1, 1) := by decide +kernel
theorem dL_law_810 : decode cL_law 810 = .ok (.ireturn, 1) := by decide +kernel
end
section
/-! A pure memory: kinds, lengths, references and numbers by address; addresses from a base on, one behind the other -/
abbrev Mm : Type := Nat → Nat → Int32
abbrev Sp : Type := (Nat → Nat) × (Nat → Nat) × (Nat → Nat → Option Nat) × Nat
def tg (σ : Sp) : Nat → Nat := σ.1
def ln (σ : Sp) : Nat → Nat := σ.2.1
def rf (σ : Sp) : Nat → Nat → Option Nat := σ.2.2.1
def nn (σ : Sp) : Nat := σ.2.2.2
/-- launch, base, class numbers, the array classes' numbers, the static rows' addresses, the script -/
abbrev Cx : Type := Launch × Nat × va_G × (ClassId × ClassId × ClassId × ClassId × ClassId) × (Nat × Nat × Nat) × (Nat × Nat × (Nat → Int32))
def cxL (X : Cx) : Launch := X.1
def cxB (X : Cx) : Nat := X.2.1
def cxD (X : Cx) : va_G := X.2.2.1
def cxC (X : Cx) : ClassId × ClassId × ClassId × ClassId × ClassId := X.2.2.2.1
def cxT (X : Cx) : Nat × Nat × Nat := X.2.2.2.2.1
def cxS (X : Cx) : Nat × Nat × (Nat → Int32) := X.2.2.2.2.2
/-- which fields of a class are references -/
def pw_fl : Nat → List Bool
  | 0 => [true, true, true, true, true, false, false, false]
  | 1 => [true, false, false]
  | 2 => [true, false]
  | 3 => [true, false]
  | 4 => [true, false, false, false, false, false, false]
  | 5 => [true, true, true, false]
  | 6 => [false, true, true, false, false, false, false, false, false, false, false, false, false, false, false]
  | 7 => [true, true, true, true, true, true]
  | 8 => [true, true, false, true, true, true, true, false, true, true, false, false, false]
  | _ => []
def pw_R : Nat → String
  | 0 => RX0
  | 1 => RX1
  | 2 => RX2
  | 3 => RX3
  | 4 => RX4
  | 5 => RX5
  | 6 => RX6
  | 7 => RX7
  | _ => RX8
def pw_T : Nat → u_T
  | 0 => TX0
  | 1 => TX1
  | 2 => TX2
  | 3 => TX3
  | 4 => TX4
  | 5 => TX5
  | 6 => TX6
  | 7 => TX7
  | _ => TX8
def pw_ty : Nat → Nat → FieldType
  | 0 => tyX0
  | 1 => tyX1
  | 2 => tyX2
  | 3 => tyX3
  | 4 => tyX4
  | 5 => tyX5
  | 6 => tyX6
  | 7 => tyX7
  | _ => tyX8
def pw_N : Nat → Nat
  | 0 => 8
  | 1 => 3
  | 2 => 2
  | 3 => 2
  | 4 => 7
  | 5 => 4
  | 6 => 15
  | 7 => 6
  | _ => 13
theorem pw_nine {P : Nat → Prop} (h0 : P 0) (h1 : P 1) (h2 : P 2) (h3 : P 3) (h4 : P 4) (h5 : P 5) (h6 : P 6) (h7 : P 7) (h8 : P 8) : ∀ c, c < 9 → P c := by
  intro c hc
  match c, hc with
  | 0, _ => exact h0
  | 1, _ => exact h1
  | 2, _ => exact h2
  | 3, _ => exact h3
  | 4, _ => exact h4
  | 5, _ => exact h5
  | 6, _ => exact h6
  | 7, _ => exact h7
  | 8, _ => exact h8
theorem pw_cl : ∀ c, c < 9 → vwCl[c]? = some (pw_R c, pw_T c, pw_N c) := pw_nine rfl rfl rfl rfl rfl rfl rfl rfl rfl
theorem pw_hty : ∀ c, c < 9 → ∀ k, k < pw_N c → parseFieldDescriptor (pw_T c k).2.2.1 = some (pw_ty c k) := pw_nine tyX0_ok tyX1_ok tyX2_ok tyX3_ok tyX4_ok tyX5_ok tyX6_ok tyX7_ok tyX8_ok
theorem pw_hnm : ∀ c, c < 9 → ∀ a, a < pw_N c → ∀ b, b < pw_N c → a ≠ b → (pw_T c a).2.1 ≠ (pw_T c b).2.1 := pw_nine nmX0 nmX1 nmX2 nmX3 nmX4 nmX5 nmX6 nmX7 nmX8
theorem pw_flN : ∀ c, c < 9 → (pw_fl c).length = pw_N c := pw_nine rfl rfl rfl rfl rfl rfl rfl rfl rfl
def pw_fv (c : Nat) (r : Nat → Option Nat) (f : Nat → Int32) : List Value := (pw_fl c).zipIdx.map (fun q => if q.1 = true then va_rf (r q.2) else .int (f q.2))
theorem pw_fv_len (c : Nat) (r : Nat → Option Nat) (f : Nat → Int32) : (pw_fv c r f).length = (pw_fl c).length := by simp [pw_fv]
theorem pw_fv_get (c : Nat) (r : Nat → Option Nat) (f : Nat → Int32) (k : Nat) : (pw_fv c r f)[k]? = (pw_fl c)[k]?.map (fun b => if b = true then va_rf (r k) else .int (f k)) := by
  simp [pw_fv, List.getElem?_map, List.getElem?_zipIdx]
  cases (pw_fl c)[k]? <;> rfl
theorem pw_fv_I {c k : Nat} (h : (pw_fl c)[k]? = some false) (r : Nat → Option Nat) (f : Nat → Int32) : (pw_fv c r f)[k]? = some (.int (f k)) := by rw [pw_fv_get, h]; rfl
theorem pw_fv_R {c k : Nat} (h : (pw_fl c)[k]? = some true) (r : Nat → Option Nat) (f : Nat → Int32) : (pw_fv c r f)[k]? = some (va_rf (r k)) := by rw [pw_fv_get, h]; rfl
theorem pw_fv_setI {c k : Nat} (h : (pw_fl c)[k]? = some false) (r : Nat → Option Nat) (f : Nat → Int32) (x : Int32) : (pw_fv c r f).set k (.int x) = pw_fv c r (upd f k x) := by
  apply List.ext_getElem?
  intro j
  by_cases hj : j = k
  · subst hj
    have hl : j < (pw_fv c r f).length := by rw [pw_fv_len]; exact (List.getElem?_eq_some_iff.mp h).1
    rw [List.getElem?_set_self hl, pw_fv_I h]
    simp [upd]
  · rw [List.getElem?_set_ne (Ne.symm hj), pw_fv_get, pw_fv_get]
    simp [upd, hj]
theorem pw_fv_setR {c k : Nat} (h : (pw_fl c)[k]? = some true) (r : Nat → Option Nat) (f : Nat → Int32) (v : Option Nat) : (pw_fv c r f).set k (va_rf v) = pw_fv c (va_up r k v) f := by
  apply List.ext_getElem?
  intro j
  by_cases hj : j = k
  · subst hj
    have hl : j < (pw_fv c r f).length := by rw [pw_fv_len]; exact (List.getElem?_eq_some_iff.mp h).1
    rw [List.getElem?_set_self hl, pw_fv_R h]
    simp [va_up]
  · rw [List.getElem?_set_ne (Ne.symm hj), pw_fv_get, pw_fv_get]
    simp [va_up, hj]
/-- a cell out of the pure memory: kinds 1 to 9 objects, 10 char, 11 int, 12 boolean, 13 Bus, 14 Station rows -/
def pw_ce (X : Cx) (σ : Sp) (μ : Mm) (a : Nat) : va_E :=
  if tg σ a = 10 then .inl ((cxC X).1, (ln σ a, .inl (μ a)))
  else if tg σ a = 11 then .inl ((cxC X).2.1, (ln σ a, .inl (μ a)))
  else if tg σ a = 12 then .inl ((cxC X).2.2.1, (ln σ a, .inl (μ a)))
  else if tg σ a = 13 then .inl ((cxC X).2.2.2.1, (ln σ a, .inr (.inr (.inr (.inr (rf σ a))))))
  else if tg σ a = 14 then .inl ((cxC X).2.2.2.2, (ln σ a, .inr (.inr (.inr (.inr (rf σ a))))))
  else .inr (tg σ a - 1, pw_fv (tg σ a - 1) (rf σ a) (μ a))
theorem pw_ce_o {X : Cx} {σ : Sp} {μ : Mm} {a c : Nat} (h : tg σ a = c + 1) (hc : c < 9) : pw_ce X σ μ a = .inr (c, pw_fv c (rf σ a) (μ a)) := by
  unfold pw_ce
  rw [h, if_neg (by omega), if_neg (by omega), if_neg (by omega), if_neg (by omega), if_neg (by omega)]
  rfl
theorem pw_ce_C {X : Cx} {σ : Sp} {μ : Mm} {a : Nat} (h : tg σ a = 10) : pw_ce X σ μ a = .inl ((cxC X).1, (ln σ a, .inl (μ a))) := by unfold pw_ce; rw [if_pos h]
theorem pw_ce_I {X : Cx} {σ : Sp} {μ : Mm} {a : Nat} (h : tg σ a = 11) : pw_ce X σ μ a = .inl ((cxC X).2.1, (ln σ a, .inl (μ a))) := by unfold pw_ce; rw [if_neg (by omega), if_pos h]
theorem pw_ce_Z {X : Cx} {σ : Sp} {μ : Mm} {a : Nat} (h : tg σ a = 12) : pw_ce X σ μ a = .inl ((cxC X).2.2.1, (ln σ a, .inl (μ a))) := by unfold pw_ce; rw [if_neg (by omega), if_neg (by omega), if_pos h]
theorem pw_ce_B {X : Cx} {σ : Sp} {μ : Mm} {a : Nat} (h : tg σ a = 13) : pw_ce X σ μ a = .inl ((cxC X).2.2.2.1, (ln σ a, .inr (.inr (.inr (.inr (rf σ a)))))) := by unfold pw_ce; rw [if_neg (by omega), if_neg (by omega), if_neg (by omega), if_pos h]
theorem pw_ce_S {X : Cx} {σ : Sp} {μ : Mm} {a : Nat} (h : tg σ a = 14) : pw_ce X σ μ a = .inl ((cxC X).2.2.2.2, (ln σ a, .inr (.inr (.inr (.inr (rf σ a)))))) := by unfold pw_ce; rw [if_neg (by omega), if_neg (by omega), if_neg (by omega), if_neg (by omega), if_pos h]
/-- writes of the pure memory -/
def wr (μ : Mm) (a k : Nat) (x : Int32) : Mm := fun b => if b = a then upd (μ a) k x else μ b
def wR (σ : Sp) (a k : Nat) (v : Option Nat) : Sp := (tg σ, ln σ, (fun b => if b = a then va_up (rf σ a) k v else rf σ b), nn σ)
def wC (μ : Mm) (a : Nat) (f : Nat → Int32) : Mm := fun b => if b = a then f else μ b
def wN (σ : Sp) (B t l : Nat) : Sp := (va_up (tg σ) (B + nn σ) t, va_up (ln σ) (B + nn σ) l, va_up (rf σ) (B + nn σ) (fun _ => none), nn σ + 1)
theorem wr_eq_wC (μ : Mm) (a k : Nat) (x : Int32) : wr μ a k x = wC μ a (upd (μ a) k x) := rfl
theorem wC_self (μ : Mm) (a : Nat) (f : Nat → Int32) : wC μ a f a = f := by simp [wC]
theorem wC_ne (μ : Mm) {a b : Nat} (f : Nat → Int32) (h : b ≠ a) : wC μ a f b = μ b := by simp [wC, h]
/-- the world as the kit's list -/
def pw_ws (X : Cx) (σ : Sp) (μ : Mm) : va_W := (List.range (nn σ)).map (fun k => (cxB X + k, pw_ce X σ μ (cxB X + k)))
theorem pw_ws_at {X : Cx} {σ : Sp} {μ : Mm} {a : Nat} (h1 : cxB X ≤ a) (h2 : a < cxB X + nn σ) : (pw_ws X σ μ)[a - cxB X]? = some (a, pw_ce X σ μ a) := by
  unfold pw_ws
  rw [List.getElem?_map, List.getElem?_range (by omega)]
  simp only [Option.map_some]
  rw [Nat.add_sub_cancel' h1]
theorem pw_ws_len (X : Cx) (σ : Sp) (μ : Mm) : (pw_ws X σ μ).length = nn σ := by simp [pw_ws]
theorem pw_ws_get {X : Cx} {σ : Sp} {μ : Mm} {k : Nat} {q : Nat × va_E} (h : (pw_ws X σ μ)[k]? = some q) : k < nn σ ∧ q = (cxB X + k, pw_ce X σ μ (cxB X + k)) := by
  have hk : k < nn σ := by rw [← pw_ws_len X σ μ]; exact (List.getElem?_eq_some_iff.mp h).1
  refine ⟨hk, ?_⟩
  have h2 := pw_ws_at (X := X) (σ := σ) (μ := μ) (a := cxB X + k) (by omega) (by omega)
  rw [show cxB X + k - cxB X = k by omega, h] at h2
  exact Option.some.inj h2
theorem pw_D (X : Cx) (σ : Sp) (μ : Mm) : va_D (fun q => cxB X ≤ q) (pw_ws X σ μ) := by
  refine ⟨fun i j p q hi hj hpq => ?_, fun k q hk => ?_⟩
  · obtain ⟨-, rfl⟩ := pw_ws_get hi
    obtain ⟨-, rfl⟩ := pw_ws_get hj
    have : cxB X + i = cxB X + j := hpq
    omega
  · obtain ⟨-, rfl⟩ := pw_ws_get hk
    show cxB X ≤ cxB X + k
    omega
theorem pw_ws_set {X : Cx} {σ σ' : Sp} {μ μ' : Mm} {a : Nat} {e : va_E} (h1 : cxB X ≤ a) (h2 : a < cxB X + nn σ) (hn : nn σ' = nn σ) (he : pw_ce X σ' μ' a = e) (ho : ∀ b, b ≠ a → pw_ce X σ' μ' b = pw_ce X σ μ b) : (pw_ws X σ μ).set (a - cxB X) (a, e) = pw_ws X σ' μ' := by
  apply List.ext_getElem?
  intro j
  by_cases hj : j < nn σ
  · have e1 := pw_ws_at (X := X) (σ := σ) (μ := μ) (a := cxB X + j) (by omega) (by omega)
    have e2 := pw_ws_at (X := X) (σ := σ') (μ := μ') (a := cxB X + j) (by omega) (by omega)
    rw [show cxB X + j - cxB X = j by omega] at e1 e2
    by_cases hja : j = a - cxB X
    · subst hja
      rw [List.getElem?_set_self (by rw [pw_ws_len]; exact hj), e2, show cxB X + (a - cxB X) = a by omega, he]
    · rw [List.getElem?_set_ne (Ne.symm hja), e1, e2, ho _ (by omega)]
  · rw [List.getElem?_eq_none (by rw [List.length_set, pw_ws_len]; omega), List.getElem?_eq_none (by rw [pw_ws_len]; omega)]
theorem pw_ws_push {X : Cx} {σ σ' : Sp} {μ μ' : Mm} {a : Nat} {e : va_E} (ha : a = cxB X + nn σ) (hn : nn σ' = nn σ + 1) (he : pw_ce X σ' μ' a = e) (ho : ∀ b, b ≠ a → pw_ce X σ' μ' b = pw_ce X σ μ b) : pw_ws X σ μ ++ [(a, e)] = pw_ws X σ' μ' := by
  subst ha
  apply List.ext_getElem?
  intro j
  by_cases hj : j < nn σ
  · have e1 := pw_ws_at (X := X) (σ := σ) (μ := μ) (a := cxB X + j) (by omega) (by omega)
    have e2 := pw_ws_at (X := X) (σ := σ') (μ := μ') (a := cxB X + j) (by omega) (by omega)
    rw [show cxB X + j - cxB X = j by omega] at e1 e2
    rw [List.getElem?_append_left (by rw [pw_ws_len]; exact hj), e1, e2, ho _ (by omega)]
  · rw [List.getElem?_append_right (by rw [pw_ws_len]; omega), pw_ws_len]
    by_cases hj2 : j = nn σ
    · subst hj2
      have e2 := pw_ws_at (X := X) (σ := σ') (μ := μ') (a := cxB X + nn σ) (by omega) (by omega)
      rw [show cxB X + nn σ - cxB X = nn σ by omega] at e2
      rw [e2, he, Nat.sub_self]
      rfl
    · rw [List.getElem?_eq_none (by simp; omega), List.getElem?_eq_none (by rw [pw_ws_len]; omega)]
/-- boolean fields hold 0 or 1 -/
def pw_bo (σ : Sp) (μ : Mm) : Prop := ∀ a, tg σ a = 7 → (μ a 5 = 0 ∨ μ a 5 = 1) ∧ (μ a 6 = 0 ∨ μ a 6 = 1)
/-- the heap holds the pure memory -/
def HP (X : Cx) (σ : Sp) (μ : Mm) (H : Heap) : Prop := va_P (cxD X) vwCl (pw_ws X σ μ) H ∧ H.size = cxB X + nn σ ∧ (∀ a, tg σ a ≠ 0 → cxB X ≤ a ∧ a < cxB X + nn σ) ∧ pw_bo σ μ
def pw_tys (X : Cx) : List (ClassId × FieldType) := [((cxC X).1, .char), ((cxC X).2.1, .int), ((cxC X).2.2.1, .boolean), ((cxC X).2.2.2.1, .object RX0), ((cxC X).2.2.2.2, .object RX6)]
def pw_AF : Nat → Int32 := fun j => [3, 40, 1, 1, 4].getD j 0
def pw_LO : Nat → Int32 := fun j => [1, 2, 0, 0, 1].getD j 0
def pw_GR : Nat → Int32 := fun j => [20, 99, 9, 9, 9].getD j 0
/-- words of links between nest mates, and of a cast -/
def pw_nest : List Cond := [.fieldLinkNest RX0 9 RX7 "AT_FIRST" "[I" RX7, .fieldLinkNest RX0 59 RX7 "LOWEST" "[I" RX7, .fieldLinkNest RX0 62 RX7 "GREATEST" "[I" RX7,
  .methodLinkNest RX6 11 yX5_init RX7, .methodLinkNest RX6 20 yX2_init RX7, .methodLinkNest RX7 32 yX3_init RX7, .methodLinkNest RX0 41 yX7_copyNumbers RX7, .methodLinkNest RX5 21 yX7_copyNumbers RX7,
  .methodLinkNest RX2 15 yX7_copyNumbers RX7, .methodLinkNest RX0 84 yX7_isWire RX7, .methodLinkNest RX4 54 yX7_isWire RX7, .castable "[I" "java/lang/Cloneable"]
theorem pw_nest_in : ∀ w ∈ pw_nest, w ∈ tables_1 := by decide +kernel
theorem pw_nest_on : ∀ w ∈ pw_nest, w.onTables = true := by decide +kernel
def pw_kind : Cond → Bool
  | .fieldLinkNest _ _ _ _ _ _ => true
  | .methodLinkNest _ _ _ _ => true
  | .castable _ _ => true
  | _ => false
theorem pw_nest_kind : ∀ w ∈ pw_nest, pw_kind w = true := by decide +kernel
theorem pw_warm {w : Cond} (hk : pw_kind w = true) {s U : State} (hW : s.WarmedH U.vm) (h : va_Nw w s) : va_Nw w U := by
  cases w with
  | fieldLinkNest a i b n d h' => exact va_Nw.warmF hW h
  | methodLinkNest a i x h' => exact va_Nw.warmM hW h
  | castable a b => exact va_Nw.warmC hW h
  | _ => cases hk
/-- a static row of five numbers -/
def pw_SA (c : ClassId) (t : Nat) (f : Nat → Int32) (H : Heap) : Prop := ∃ cell : Cell, H[t]? = some cell ∧ cell.cls = c ∧ cell.slots = (arrV c 5 (fun j => .int (f j))).slots ∧ cell.vm.isStatics = false ∧ cell.vm ≠ .unknown
/-- what a method's start says of the tables, of what stands below the base -/
def SX (X : Cx) (s : State) : Prop := va_K (cxD X) vwCl (pw_tys X) s ∧ (∀ w ∈ pw_nest, va_Nw w s) ∧ va_AO RX0 s ∧ va_AO RX6 s ∧
  (va_Z RX7 "AT_FIRST" "[I" (.ref (cxT X).1) (fun q => cxB X ≤ q) s s.heap ∧ va_Z RX7 "LOWEST" "[I" (.ref (cxT X).2.1) (fun q => cxB X ≤ q) s s.heap ∧ va_Z RX7 "GREATEST" "[I" (.ref (cxT X).2.2) (fun q => cxB X ≤ q) s s.heap) ∧
  (pw_SA (cxC X).2.1 (cxT X).1 pw_AF s.heap ∧ pw_SA (cxC X).2.1 (cxT X).2.1 pw_LO s.heap ∧ pw_SA (cxC X).2.1 (cxT X).2.2 pw_GR s.heap) ∧
  ((cxT X).1 < cxB X ∧ (cxT X).2.1 < cxB X ∧ (cxT X).2.2 < cxB X) ∧ va_X (cxS X).1 (cxS X).2.1 (cxS X).2.2 s s.heap ∧ (cxS X).1 < cxB X ∧ cxB X ≤ s.heap.size
theorem SX.moved {X : Cx} {s U : State} {H : Heap} {locs : List Loc} (h : SX X s) (hS : va_S (fun q => cxB X ≤ q) s.heap H locs) (hU : U.heap = H) (hW : s.WarmedH U.vm) : SX X U := by
  subst hU
  obtain ⟨hK, hN, hB, hSt, ⟨z1, z2, z3⟩, ⟨p1, p2, p3⟩, ⟨b1, b2, b3⟩, hX, b4, b5⟩ := h
  have hq : ∀ a : Nat, a < s.heap.size → ¬ cxB X ≤ a → U.heap[a]? = s.heap[a]? := hS.2.1
  have hq2 : ∀ {c : ClassId} {t : Nat} {f : Nat → Int32}, t < cxB X → pw_SA c t f s.heap → pw_SA c t f U.heap := by
    intro c t f ht hP
    obtain ⟨cell, h1, h2⟩ := hP
    exact ⟨cell, by rw [hq t (by omega) (by omega)]; exact h1, h2⟩
  exact ⟨hK.moved hW.alike, fun w hw => pw_warm (pw_nest_kind w hw) hW (hN w hw), hB.moved hW.alike, hSt.moved hW.alike, ⟨(z1.kept hq).moved hW.alike, (z2.kept hq).moved hW.alike, (z3.kept hq).moved hW.alike⟩,
    ⟨hq2 b1 p1, hq2 b2 p2, hq2 b3 p3⟩, ⟨b1, b2, b3⟩, (hX.kept (hq _ (by omega) (by omega))).moved hW.alike, b4, Nat.le_trans b5 hS.1⟩
end
section
/-! The walk over the pure memory: a row an instruction -/
def pw_Tb : List Cond := lw_tbl.filter goodWord
/-- name, code, locals, answer, frames, locals' words, cells and slots of a method -/
abbrev Mt : Type := MethodName × ByteArray × Nat × Option FieldType × Nat × Nat × Nat × Nat
def mY (M : Mt) : MethodName := M.1
def mB (M : Mt) : ByteArray := M.2.1
def mL (M : Mt) : Nat := M.2.2.1
def mRet (M : Mt) : Option FieldType := M.2.2.2.1
def mF (M : Mt) : Nat := M.2.2.2.2.1
def mLo (M : Mt) : Nat := M.2.2.2.2.2.1
def mCe (M : Mt) : Nat := M.2.2.2.2.2.2.1
def mSl (M : Mt) : Nat := M.2.2.2.2.2.2.2
def mRm (M : Mt) : Room := { frames := mF M, cells := mCe M, slots := mSl M, locals := mLo M }
def mWs (M : Mt) : List Cond := Cond.code (mY M) (mB M) (mL M) (mRet M) :: pw_Tb
def Bd (M : Mt) (p : Program) (R : Room) (s : State) (m : MethodId) (args : Array Value) (meth : Method) (c : Code) : Prop :=
  p.tables.exec = Jvm.exec ∧ c.code = mB M ∧ meth.sig.returnType = mRet M ∧ c.maxLocals = mL M ∧ s.vm.findClass (mY M).cls = some m.cls ∧ (∀ w ∈ pw_Tb, w.before args s = true) ∧ meth.locks = false ∧ ((mY M).name = "<init>" → meth.name = "<init>") ∧ mF M ≤ R.frames ∧ mLo M ≤ R.locals
def pw_L (ar : Array Slot) (n : Nat) (ls : List (Option Value)) : Prop := ar.size = n ∧ lv_wf ar ∧ ∀ (i : Nat) (v : Value), ls[i]? = some (some v) → ar[i]? = some (.val v)
def pw_ret (M : Mt) (pc : Nat) (r : Option Value) : Prop :=
  (r = none ∧ mRet M = none ∧ decode (mB M) pc = .ok (.return_, 1)) ∨ (∃ (x : Int32) (ty : FieldType), r = some (.int x) ∧ mRet M = some ty ∧ narrow ty (.int x) = .int x ∧ decode (mB M) pc = .ok (.ireturn, 1)) ∨
  (∃ (v : Value) (C : String), r = some v ∧ (v = .null ∨ ∃ a, v = .ref a) ∧ mRet M = some (.object C) ∧ decode (mB M) pc = .ok (.areturn, 1))
/-- from here the method comes to its end, with Q -/
def PW (X : Cx) (M : Mt) (b1 b2 : Nat) (pc : Nat) (ls : List (Option Value)) (st : List Value) (σ : Sp) (μ : Mm) (Q : Option Value → Sp → Mm → Prop) : Prop :=
  ∀ (p : Program) (e : Env) (R : Room) (s : State) (m : MethodId) (args : Array Value) (below : List Frame) (meth : Method) (c : Code) (H : Heap) (locs : List Loc) (cells slots : Nat) (ar : Array Slot) (Z : State → Prop),
    Bd M p R s m args meth c → SX X s → HP X σ μ H → va_S (fun q => cxB X ≤ q) s.heap H locs → pw_L ar (mL M) ls → cells + b1 ≤ R.cells → slots + b2 ≤ R.slots →
    (∀ (H' : Heap) (locs' : List Loc) (cells' slots' : Nat) (ar' : Array Slot) (pc' : Nat) (r : Option Value) (σ' : Sp) (μ' : Mm), Q r σ' μ' → pw_ret M pc' r → HP X σ' μ' H' → va_S (fun q => cxB X ≤ q) s.heap H' locs' → cells' ≤ R.cells → slots' ≤ R.slots → W p (cxL X) e R s m args below meth c H' locs' cells' slots' Z (F0 m pc' ar' r.toList)) →
    W p (cxL X) e R s m args below meth c H locs cells slots Z (F0 m pc ar st)
def CT (X : Cx) (M : Mt) (av : List Value) (σ : Sp) (μ : Mm) (Q : Option Value → Sp → Mm → Prop) : Prop :=
  Met (cxL X) (mY M) (mWs M) (mRm M) (va_Pc av (fun U => SX X U ∧ HP X σ μ U.heap)) (fun _ st o t => (∃ (r : Option Value) (σ' : Sp) (μ' : Mm), o = .returned r ∧ Q r σ' μ' ∧ HP X σ' μ' t.heap) ∧ va_F (fun q => cxB X ≤ q) st t) (mCe M) (mSl M) (fun q => cxB X ≤ q)
def LI (Q : Int32 → Sp → Mm → Prop) : Option Value → Sp → Mm → Prop := fun r σ μ => ∃ x : Int32, r = some (.int x) ∧ Q x σ μ
def LV (Q : Sp → Mm → Prop) : Option Value → Sp → Mm → Prop := fun r σ μ => r = none ∧ Q σ μ
def LR (Q : Option Nat → Sp → Mm → Prop) : Option Value → Sp → Mm → Prop := fun r σ μ => ∃ o : Option Nat, r = some (va_rf o) ∧ Q o σ μ
abbrev CTi (X : Cx) (M : Mt) (av : List Value) (σ : Sp) (μ : Mm) (Q : Int32 → Sp → Mm → Prop) : Prop := CT X M av σ μ (LI Q)
abbrev CTv (X : Cx) (M : Mt) (av : List Value) (σ : Sp) (μ : Mm) (Q : Sp → Mm → Prop) : Prop := CT X M av σ μ (LV Q)
abbrev CTr (X : Cx) (M : Mt) (av : List Value) (σ : Sp) (μ : Mm) (Q : Option Nat → Sp → Mm → Prop) : Prop := CT X M av σ μ (LR Q)
section PWR
variable {X : Cx} {M : Mt} {b1 b2 pc : Nat} {ls : List (Option Value)} {st : List Value} {σ : Sp} {μ : Mm} {Q : Option Value → Sp → Mm → Prop}
theorem pw_mono {Q' : Option Value → Sp → Mm → Prop} (hQ : ∀ r σ' μ', Q r σ' μ' → Q' r σ' μ') (k : PW X M b1 b2 pc ls st σ μ Q) : PW X M b1 b2 pc ls st σ μ Q' :=
  fun p e R s m args below meth c H locs cells slots ar Z B S P F L c1 c2 K => k p e R s m args below meth c H locs cells slots ar Z B S P F L c1 c2 (fun H' locs' cells' slots' ar' pc' r σ' μ' q => K H' locs' cells' slots' ar' pc' r σ' μ' (hQ r σ' μ' q))
theorem pw_inv (k : pw_bo σ μ → (∀ a, tg σ a ≠ 0 → cxB X ≤ a ∧ a < cxB X + nn σ) → PW X M b1 b2 pc ls st σ μ Q) : PW X M b1 b2 pc ls st σ μ Q :=
  fun p e R s m args below meth c H locs cells slots ar Z B S P F L c1 c2 K => k P.2.2.2 P.2.2.1 p e R s m args below meth c H locs cells slots ar Z B S P F L c1 c2 K
theorem pw_bud {b1' b2' : Nat} (h1 : b1' ≤ b1) (h2 : b2' ≤ b2) (k : PW X M b1' b2' pc ls st σ μ Q) : PW X M b1 b2 pc ls st σ μ Q :=
  fun p e R s m args below meth c H locs cells slots ar Z B S P F L c1 c2 K => k p e R s m args below meth c H locs cells slots ar Z B S P F L (by omega) (by omega) K
theorem pw_iconst {n : Int} {v : Int32} (d : decode (mB M) pc = .ok (.iconst n, 1)) (hv : Int32.ofInt n = v) (k : PW X M b1 b2 (pc + 1) ls (.int v :: st) σ μ Q) : PW X M b1 b2 pc ls st σ μ Q :=
  fun p e R s m args below meth c H locs cells slots ar Z B S P F L c1 c2 K => lv_iconst B.1 B.2.1 d hv (k p e R s m args below meth c H locs cells slots ar Z B S P F L c1 c2 K)
theorem pw_bipush {n : Int} {v : Int32} (d : decode (mB M) pc = .ok (.bipush n, 2)) (hv : (Int8.ofInt n).toInt32 = v) (k : PW X M b1 b2 (pc + 2) ls (.int v :: st) σ μ Q) : PW X M b1 b2 pc ls st σ μ Q :=
  fun p e R s m args below meth c H locs cells slots ar Z B S P F L c1 c2 K => lv_bipush B.1 B.2.1 d hv (k p e R s m args below meth c H locs cells slots ar Z B S P F L c1 c2 K)
theorem pw_sipush {n : Int} {v : Int32} (d : decode (mB M) pc = .ok (.sipush n, 3)) (hv : (Int16.ofInt n).toInt32 = v) (k : PW X M b1 b2 (pc + 3) ls (.int v :: st) σ μ Q) : PW X M b1 b2 pc ls st σ μ Q :=
  fun p e R s m args below meth c H locs cells slots ar Z B S P F L c1 c2 K => lv_sipush B.1 B.2.1 d hv (k p e R s m args below meth c H locs cells slots ar Z B S P F L c1 c2 K)
theorem pw_lconst {n : Fin 2} {v : Int64} (d : decode (mB M) pc = .ok (.lconst n, 1)) (hv : Int64.ofNat (n : Nat) = v) (k : PW X M b1 b2 (pc + 1) ls (.long v :: st) σ μ Q) : PW X M b1 b2 pc ls st σ μ Q :=
  fun p e R s m args below meth c H locs cells slots ar Z B S P F L c1 c2 K => lv_lconst B.1 B.2.1 d hv (k p e R s m args below meth c H locs cells slots ar Z B S P F L c1 c2 K)
theorem pw_iadd {x y : Int32} (d : decode (mB M) pc = .ok (.iadd, 1)) (k : PW X M b1 b2 (pc + 1) ls (.int (x + y) :: st) σ μ Q) : PW X M b1 b2 pc ls (.int y :: .int x :: st) σ μ Q :=
  fun p e R s m args below meth c H locs cells slots ar Z B S P F L c1 c2 K => lv_iadd B.1 B.2.1 d (k p e R s m args below meth c H locs cells slots ar Z B S P F L c1 c2 K)
theorem pw_isub {x y : Int32} (d : decode (mB M) pc = .ok (.isub, 1)) (k : PW X M b1 b2 (pc + 1) ls (.int (x - y) :: st) σ μ Q) : PW X M b1 b2 pc ls (.int y :: .int x :: st) σ μ Q :=
  fun p e R s m args below meth c H locs cells slots ar Z B S P F L c1 c2 K => lv_isub B.1 B.2.1 d (k p e R s m args below meth c H locs cells slots ar Z B S P F L c1 c2 K)
theorem pw_imul {x y : Int32} (d : decode (mB M) pc = .ok (.imul, 1)) (k : PW X M b1 b2 (pc + 1) ls (.int (x * y) :: st) σ μ Q) : PW X M b1 b2 pc ls (.int y :: .int x :: st) σ μ Q :=
  fun p e R s m args below meth c H locs cells slots ar Z B S P F L c1 c2 K => lv_imul B.1 B.2.1 d (k p e R s m args below meth c H locs cells slots ar Z B S P F L c1 c2 K)
theorem pw_iand {x y : Int32} (d : decode (mB M) pc = .ok (.iand, 1)) (k : PW X M b1 b2 (pc + 1) ls (.int (x &&& y) :: st) σ μ Q) : PW X M b1 b2 pc ls (.int y :: .int x :: st) σ μ Q :=
  fun p e R s m args below meth c H locs cells slots ar Z B S P F L c1 c2 K => lv_iand B.1 B.2.1 d (k p e R s m args below meth c H locs cells slots ar Z B S P F L c1 c2 K)
theorem pw_ior {x y : Int32} (d : decode (mB M) pc = .ok (.ior, 1)) (k : PW X M b1 b2 (pc + 1) ls (.int (x ||| y) :: st) σ μ Q) : PW X M b1 b2 pc ls (.int y :: .int x :: st) σ μ Q :=
  fun p e R s m args below meth c H locs cells slots ar Z B S P F L c1 c2 K => lv_ior B.1 B.2.1 d (k p e R s m args below meth c H locs cells slots ar Z B S P F L c1 c2 K)
theorem pw_ixor {x y : Int32} (d : decode (mB M) pc = .ok (.ixor, 1)) (k : PW X M b1 b2 (pc + 1) ls (.int (x ^^^ y) :: st) σ μ Q) : PW X M b1 b2 pc ls (.int y :: .int x :: st) σ μ Q :=
  fun p e R s m args below meth c H locs cells slots ar Z B S P F L c1 c2 K => lv_ixor B.1 B.2.1 d (k p e R s m args below meth c H locs cells slots ar Z B S P F L c1 c2 K)
theorem pw_idiv {x y : Int32} (d : decode (mB M) pc = .ok (.idiv, 1)) (hne : ¬ y = 0) (k : PW X M b1 b2 (pc + 1) ls (.int (x / y) :: st) σ μ Q) : PW X M b1 b2 pc ls (.int y :: .int x :: st) σ μ Q :=
  fun p e R s m args below meth c H locs cells slots ar Z B S P F L c1 c2 K => lv_idiv B.1 B.2.1 d hne (k p e R s m args below meth c H locs cells slots ar Z B S P F L c1 c2 K)
theorem pw_ishl {x y : Int32} (d : decode (mB M) pc = .ok (.ishl, 1)) (k : PW X M b1 b2 (pc + 1) ls (.int (x <<< (y &&& 31)) :: st) σ μ Q) : PW X M b1 b2 pc ls (.int y :: .int x :: st) σ μ Q :=
  fun p e R s m args below meth c H locs cells slots ar Z B S P F L c1 c2 K => lv_ishl B.1 B.2.1 d (k p e R s m args below meth c H locs cells slots ar Z B S P F L c1 c2 K)
theorem pw_ishr {x y : Int32} (d : decode (mB M) pc = .ok (.ishr, 1)) (k : PW X M b1 b2 (pc + 1) ls (.int (x >>> (y &&& 31)) :: st) σ μ Q) : PW X M b1 b2 pc ls (.int y :: .int x :: st) σ μ Q :=
  fun p e R s m args below meth c H locs cells slots ar Z B S P F L c1 c2 K => lv_ishr B.1 B.2.1 d (k p e R s m args below meth c H locs cells slots ar Z B S P F L c1 c2 K)
theorem pw_iushr {x y : Int32} (d : decode (mB M) pc = .ok (.iushr, 1)) (k : PW X M b1 b2 (pc + 1) ls (.int ((x.toUInt32 >>> (y.toUInt32 &&& Int32.toUInt32 31)).toInt32) :: st) σ μ Q) : PW X M b1 b2 pc ls (.int y :: .int x :: st) σ μ Q :=
  fun p e R s m args below meth c H locs cells slots ar Z B S P F L c1 c2 K => lv_iushr B.1 B.2.1 d rfl (k p e R s m args below meth c H locs cells slots ar Z B S P F L c1 c2 K)
theorem pw_i2l {x : Int32} (d : decode (mB M) pc = .ok (.i2l, 1)) (k : PW X M b1 b2 (pc + 1) ls (.long x.toInt64 :: st) σ μ Q) : PW X M b1 b2 pc ls (.int x :: st) σ μ Q :=
  fun p e R s m args below meth c H locs cells slots ar Z B S P F L c1 c2 K => lv_i2l B.1 B.2.1 d rfl (k p e R s m args below meth c H locs cells slots ar Z B S P F L c1 c2 K)
theorem pw_l2i {x : Int64} (d : decode (mB M) pc = .ok (.l2i, 1)) (k : PW X M b1 b2 (pc + 1) ls (.int x.toInt32 :: st) σ μ Q) : PW X M b1 b2 pc ls (.long x :: st) σ μ Q :=
  fun p e R s m args below meth c H locs cells slots ar Z B S P F L c1 c2 K => lv_l2i B.1 B.2.1 d rfl (k p e R s m args below meth c H locs cells slots ar Z B S P F L c1 c2 K)
theorem pw_i2c {x : Int32} (d : decode (mB M) pc = .ok (.i2c, 1)) (k : PW X M b1 b2 (pc + 1) ls (.int (x.toUInt32 % 65536).toInt32 :: st) σ μ Q) : PW X M b1 b2 pc ls (.int x :: st) σ μ Q :=
  fun p e R s m args below meth c H locs cells slots ar Z B S P F L c1 c2 K => lv_i2c B.1 B.2.1 d rfl (k p e R s m args below meth c H locs cells slots ar Z B S P F L c1 c2 K)
theorem pw_land {x y : Int64} (d : decode (mB M) pc = .ok (.land, 1)) (k : PW X M b1 b2 (pc + 1) ls (.long (x &&& y) :: st) σ μ Q) : PW X M b1 b2 pc ls (.long y :: .long x :: st) σ μ Q :=
  fun p e R s m args below meth c H locs cells slots ar Z B S P F L c1 c2 K => lv_land B.1 B.2.1 d (k p e R s m args below meth c H locs cells slots ar Z B S P F L c1 c2 K)
theorem pw_lor {x y : Int64} (d : decode (mB M) pc = .ok (.lor, 1)) (k : PW X M b1 b2 (pc + 1) ls (.long (x ||| y) :: st) σ μ Q) : PW X M b1 b2 pc ls (.long y :: .long x :: st) σ μ Q :=
  fun p e R s m args below meth c H locs cells slots ar Z B S P F L c1 c2 K => lv_lor B.1 B.2.1 d (k p e R s m args below meth c H locs cells slots ar Z B S P F L c1 c2 K)
theorem pw_lushr {x : Int64} {y : Int32} (d : decode (mB M) pc = .ok (.lushr, 1)) (k : PW X M b1 b2 (pc + 1) ls (.long (x.toUInt64 >>> (y.toInt64.toUInt64 &&& Int64.toUInt64 63)).toInt64 :: st) σ μ Q) : PW X M b1 b2 pc ls (.int y :: .long x :: st) σ μ Q :=
  fun p e R s m args below meth c H locs cells slots ar Z B S P F L c1 c2 K => lv_lushr B.1 B.2.1 d rfl (k p e R s m args below meth c H locs cells slots ar Z B S P F L c1 c2 K)
theorem pw_lshl {x : Int64} {y : Int32} (d : decode (mB M) pc = .ok (.lshl, 1)) (k : PW X M b1 b2 (pc + 1) ls (.long (x <<< (y.toInt64 &&& 63)) :: st) σ μ Q) : PW X M b1 b2 pc ls (.int y :: .long x :: st) σ μ Q :=
  fun p e R s m args below meth c H locs cells slots ar Z B S P F L c1 c2 K => lv_lshl B.1 B.2.1 d rfl (k p e R s m args below meth c H locs cells slots ar Z B S P F L c1 c2 K)
theorem pw_dup {va : Value} (d : decode (mB M) pc = .ok (.dup, 1)) (k : PW X M b1 b2 (pc + 1) ls (va :: va :: st) σ μ Q) (hva : va.category = 1 := by rfl) : PW X M b1 b2 pc ls (va :: st) σ μ Q :=
  fun p e R s m args below meth c H locs cells slots ar Z B S P F L c1 c2 K => lv_dup B.1 B.2.1 d hva (k p e R s m args below meth c H locs cells slots ar Z B S P F L c1 c2 K)
theorem pw_pop {va : Value} (d : decode (mB M) pc = .ok (.pop, 1)) (k : PW X M b1 b2 (pc + 1) ls st σ μ Q) (hva : va.category = 1 := by rfl) : PW X M b1 b2 pc ls (va :: st) σ μ Q :=
  fun p e R s m args below meth c H locs cells slots ar Z B S P F L c1 c2 K => lv_pop B.1 B.2.1 d hva (k p e R s m args below meth c H locs cells slots ar Z B S P F L c1 c2 K)
theorem pw_dup2_11 {va vb : Value} (d : decode (mB M) pc = .ok (.dup2, 1)) (k : PW X M b1 b2 (pc + 1) ls (va :: vb :: va :: vb :: st) σ μ Q) (hva : va.category = 1 := by rfl) (hvb : vb.category = 1 := by rfl) : PW X M b1 b2 pc ls (va :: vb :: st) σ μ Q :=
  fun p e R s m args below meth c H locs cells slots ar Z B S P F L c1 c2 K => lv_dup2_11 B.1 B.2.1 d hva hvb (k p e R s m args below meth c H locs cells slots ar Z B S P F L c1 c2 K)
theorem pw_null (d : decode (mB M) pc = .ok (.aconst_null, 1)) (k : PW X M b1 b2 (pc + 1) ls (.null :: st) σ μ Q) : PW X M b1 b2 pc ls st σ μ Q :=
  fun p e R s m args below meth c H locs cells slots ar Z B S P F L c1 c2 K => lv_null B.1 B.2.1 d (k p e R s m args below meth c H locs cells slots ar Z B S P F L c1 c2 K)
theorem pw_lcmp {x y : Int64} (d : decode (mB M) pc = .ok (.lcmp, 1)) (k : PW X M b1 b2 (pc + 1) ls (.int (lg_cmp x y) :: st) σ μ Q) : PW X M b1 b2 pc ls (.long y :: .long x :: st) σ μ Q :=
  fun p e R s m args below meth c H locs cells slots ar Z B S P F L c1 c2 K => W.lcmp B.1 B.2.1 d (k p e R s m args below meth c H locs cells slots ar Z B S P F L c1 c2 K)
theorem pw_iload_gn {n : Fin 4} {x : Int32} (d : decode (mB M) pc = .ok (.iload_n n, 1)) (h : ls[(n : Nat)]? = some (some (.int x))) (k : PW X M b1 b2 (pc + 1) ls (.int x :: st) σ μ Q) : PW X M b1 b2 pc ls st σ μ Q :=
  fun p e R s m args below meth c H locs cells slots ar Z B S P F L c1 c2 K => lv_iload_n B.1 B.2.1 d rfl (L.2.2 _ _ h) (k p e R s m args below meth c H locs cells slots ar Z B S P F L c1 c2 K)
theorem pw_iload_g {i : Nat} {x : Int32} (d : decode (mB M) pc = .ok (.iload i, 2)) (h : ls[i]? = some (some (.int x))) (k : PW X M b1 b2 (pc + 2) ls (.int x :: st) σ μ Q) : PW X M b1 b2 pc ls st σ μ Q :=
  fun p e R s m args below meth c H locs cells slots ar Z B S P F L c1 c2 K => lv_iload B.1 B.2.1 d (L.2.2 _ _ h) (k p e R s m args below meth c H locs cells slots ar Z B S P F L c1 c2 K)
theorem pw_iload_0 {t : List (Option Value)} {x : Int32} (d : decode (mB M) pc = .ok (.iload_n 0, 1)) (k : PW X M b1 b2 (pc + 1) (some (.int x) :: t) (.int x :: st) σ μ Q) : PW X M b1 b2 pc (some (.int x) :: t) st σ μ Q := pw_iload_gn d rfl k
theorem pw_iload_1 {v0 : Option Value} {t : List (Option Value)} {x : Int32} (d : decode (mB M) pc = .ok (.iload_n 1, 1)) (k : PW X M b1 b2 (pc + 1) (v0 :: some (.int x) :: t) (.int x :: st) σ μ Q) : PW X M b1 b2 pc (v0 :: some (.int x) :: t) st σ μ Q := pw_iload_gn d rfl k
theorem pw_iload_2 {v0 v1 : Option Value} {t : List (Option Value)} {x : Int32} (d : decode (mB M) pc = .ok (.iload_n 2, 1)) (k : PW X M b1 b2 (pc + 1) (v0 :: v1 :: some (.int x) :: t) (.int x :: st) σ μ Q) : PW X M b1 b2 pc (v0 :: v1 :: some (.int x) :: t) st σ μ Q := pw_iload_gn d rfl k
theorem pw_iload_3 {v0 v1 v2 : Option Value} {t : List (Option Value)} {x : Int32} (d : decode (mB M) pc = .ok (.iload_n 3, 1)) (k : PW X M b1 b2 (pc + 1) (v0 :: v1 :: v2 :: some (.int x) :: t) (.int x :: st) σ μ Q) : PW X M b1 b2 pc (v0 :: v1 :: v2 :: some (.int x) :: t) st σ μ Q := pw_iload_gn d rfl k
theorem pw_iload_4 {v0 v1 v2 v3 : Option Value} {t : List (Option Value)} {x : Int32} (d : decode (mB M) pc = .ok (.iload 4, 2)) (k : PW X M b1 b2 (pc + 2) (v0 :: v1 :: v2 :: v3 :: some (.int x) :: t) (.int x :: st) σ μ Q) : PW X M b1 b2 pc (v0 :: v1 :: v2 :: v3 :: some (.int x) :: t) st σ μ Q := pw_iload_g d rfl k
theorem pw_iload_5 {v0 v1 v2 v3 v4 : Option Value} {t : List (Option Value)} {x : Int32} (d : decode (mB M) pc = .ok (.iload 5, 2)) (k : PW X M b1 b2 (pc + 2) (v0 :: v1 :: v2 :: v3 :: v4 :: some (.int x) :: t) (.int x :: st) σ μ Q) : PW X M b1 b2 pc (v0 :: v1 :: v2 :: v3 :: v4 :: some (.int x) :: t) st σ μ Q := pw_iload_g d rfl k
theorem pw_iload_6 {v0 v1 v2 v3 v4 v5 : Option Value} {t : List (Option Value)} {x : Int32} (d : decode (mB M) pc = .ok (.iload 6, 2)) (k : PW X M b1 b2 (pc + 2) (v0 :: v1 :: v2 :: v3 :: v4 :: v5 :: some (.int x) :: t) (.int x :: st) σ μ Q) : PW X M b1 b2 pc (v0 :: v1 :: v2 :: v3 :: v4 :: v5 :: some (.int x) :: t) st σ μ Q := pw_iload_g d rfl k
theorem pw_iload_7 {v0 v1 v2 v3 v4 v5 v6 : Option Value} {t : List (Option Value)} {x : Int32} (d : decode (mB M) pc = .ok (.iload 7, 2)) (k : PW X M b1 b2 (pc + 2) (v0 :: v1 :: v2 :: v3 :: v4 :: v5 :: v6 :: some (.int x) :: t) (.int x :: st) σ μ Q) : PW X M b1 b2 pc (v0 :: v1 :: v2 :: v3 :: v4 :: v5 :: v6 :: some (.int x) :: t) st σ μ Q := pw_iload_g d rfl k
theorem pw_iload_8 {v0 v1 v2 v3 v4 v5 v6 v7 : Option Value} {t : List (Option Value)} {x : Int32} (d : decode (mB M) pc = .ok (.iload 8, 2)) (k : PW X M b1 b2 (pc + 2) (v0 :: v1 :: v2 :: v3 :: v4 :: v5 :: v6 :: v7 :: some (.int x) :: t) (.int x :: st) σ μ Q) : PW X M b1 b2 pc (v0 :: v1 :: v2 :: v3 :: v4 :: v5 :: v6 :: v7 :: some (.int x) :: t) st σ μ Q := pw_iload_g d rfl k
theorem pw_iload_9 {v0 v1 v2 v3 v4 v5 v6 v7 v8 : Option Value} {t : List (Option Value)} {x : Int32} (d : decode (mB M) pc = .ok (.iload 9, 2)) (k : PW X M b1 b2 (pc + 2) (v0 :: v1 :: v2 :: v3 :: v4 :: v5 :: v6 :: v7 :: v8 :: some (.int x) :: t) (.int x :: st) σ μ Q) : PW X M b1 b2 pc (v0 :: v1 :: v2 :: v3 :: v4 :: v5 :: v6 :: v7 :: v8 :: some (.int x) :: t) st σ μ Q := pw_iload_g d rfl k
theorem pw_aload_gn {n : Fin 4} {x : Nat} (d : decode (mB M) pc = .ok (.aload_n n, 1)) (h : ls[(n : Nat)]? = some (some (.ref x))) (k : PW X M b1 b2 (pc + 1) ls (.ref x :: st) σ μ Q) : PW X M b1 b2 pc ls st σ μ Q :=
  fun p e R s m args below meth c H locs cells slots ar Z B S P F L c1 c2 K => lv_aload_n B.1 B.2.1 d rfl (L.2.2 _ _ h) (k p e R s m args below meth c H locs cells slots ar Z B S P F L c1 c2 K)
theorem pw_aload_g {i : Nat} {x : Nat} (d : decode (mB M) pc = .ok (.aload i, 2)) (h : ls[i]? = some (some (.ref x))) (k : PW X M b1 b2 (pc + 2) ls (.ref x :: st) σ μ Q) : PW X M b1 b2 pc ls st σ μ Q :=
  fun p e R s m args below meth c H locs cells slots ar Z B S P F L c1 c2 K => lv_aload B.1 B.2.1 d (L.2.2 _ _ h) (k p e R s m args below meth c H locs cells slots ar Z B S P F L c1 c2 K)
theorem pw_aload_0 {t : List (Option Value)} {x : Nat} (d : decode (mB M) pc = .ok (.aload_n 0, 1)) (k : PW X M b1 b2 (pc + 1) (some (.ref x) :: t) (.ref x :: st) σ μ Q) : PW X M b1 b2 pc (some (.ref x) :: t) st σ μ Q := pw_aload_gn d rfl k
theorem pw_aload_1 {v0 : Option Value} {t : List (Option Value)} {x : Nat} (d : decode (mB M) pc = .ok (.aload_n 1, 1)) (k : PW X M b1 b2 (pc + 1) (v0 :: some (.ref x) :: t) (.ref x :: st) σ μ Q) : PW X M b1 b2 pc (v0 :: some (.ref x) :: t) st σ μ Q := pw_aload_gn d rfl k
theorem pw_aload_2 {v0 v1 : Option Value} {t : List (Option Value)} {x : Nat} (d : decode (mB M) pc = .ok (.aload_n 2, 1)) (k : PW X M b1 b2 (pc + 1) (v0 :: v1 :: some (.ref x) :: t) (.ref x :: st) σ μ Q) : PW X M b1 b2 pc (v0 :: v1 :: some (.ref x) :: t) st σ μ Q := pw_aload_gn d rfl k
theorem pw_aload_3 {v0 v1 v2 : Option Value} {t : List (Option Value)} {x : Nat} (d : decode (mB M) pc = .ok (.aload_n 3, 1)) (k : PW X M b1 b2 (pc + 1) (v0 :: v1 :: v2 :: some (.ref x) :: t) (.ref x :: st) σ μ Q) : PW X M b1 b2 pc (v0 :: v1 :: v2 :: some (.ref x) :: t) st σ μ Q := pw_aload_gn d rfl k
theorem pw_aload_4 {v0 v1 v2 v3 : Option Value} {t : List (Option Value)} {x : Nat} (d : decode (mB M) pc = .ok (.aload 4, 2)) (k : PW X M b1 b2 (pc + 2) (v0 :: v1 :: v2 :: v3 :: some (.ref x) :: t) (.ref x :: st) σ μ Q) : PW X M b1 b2 pc (v0 :: v1 :: v2 :: v3 :: some (.ref x) :: t) st σ μ Q := pw_aload_g d rfl k
theorem pw_aload_5 {v0 v1 v2 v3 v4 : Option Value} {t : List (Option Value)} {x : Nat} (d : decode (mB M) pc = .ok (.aload 5, 2)) (k : PW X M b1 b2 (pc + 2) (v0 :: v1 :: v2 :: v3 :: v4 :: some (.ref x) :: t) (.ref x :: st) σ μ Q) : PW X M b1 b2 pc (v0 :: v1 :: v2 :: v3 :: v4 :: some (.ref x) :: t) st σ μ Q := pw_aload_g d rfl k
theorem pw_aload_6 {v0 v1 v2 v3 v4 v5 : Option Value} {t : List (Option Value)} {x : Nat} (d : decode (mB M) pc = .ok (.aload 6, 2)) (k : PW X M b1 b2 (pc + 2) (v0 :: v1 :: v2 :: v3 :: v4 :: v5 :: some (.ref x) :: t) (.ref x :: st) σ μ Q) : PW X M b1 b2 pc (v0 :: v1 :: v2 :: v3 :: v4 :: v5 :: some (.ref x) :: t) st σ μ Q := pw_aload_g d rfl k
theorem pw_aload_7 {v0 v1 v2 v3 v4 v5 v6 : Option Value} {t : List (Option Value)} {x : Nat} (d : decode (mB M) pc = .ok (.aload 7, 2)) (k : PW X M b1 b2 (pc + 2) (v0 :: v1 :: v2 :: v3 :: v4 :: v5 :: v6 :: some (.ref x) :: t) (.ref x :: st) σ μ Q) : PW X M b1 b2 pc (v0 :: v1 :: v2 :: v3 :: v4 :: v5 :: v6 :: some (.ref x) :: t) st σ μ Q := pw_aload_g d rfl k
theorem pw_aload_8 {v0 v1 v2 v3 v4 v5 v6 v7 : Option Value} {t : List (Option Value)} {x : Nat} (d : decode (mB M) pc = .ok (.aload 8, 2)) (k : PW X M b1 b2 (pc + 2) (v0 :: v1 :: v2 :: v3 :: v4 :: v5 :: v6 :: v7 :: some (.ref x) :: t) (.ref x :: st) σ μ Q) : PW X M b1 b2 pc (v0 :: v1 :: v2 :: v3 :: v4 :: v5 :: v6 :: v7 :: some (.ref x) :: t) st σ μ Q := pw_aload_g d rfl k
theorem pw_aload_9 {v0 v1 v2 v3 v4 v5 v6 v7 v8 : Option Value} {t : List (Option Value)} {x : Nat} (d : decode (mB M) pc = .ok (.aload 9, 2)) (k : PW X M b1 b2 (pc + 2) (v0 :: v1 :: v2 :: v3 :: v4 :: v5 :: v6 :: v7 :: v8 :: some (.ref x) :: t) (.ref x :: st) σ μ Q) : PW X M b1 b2 pc (v0 :: v1 :: v2 :: v3 :: v4 :: v5 :: v6 :: v7 :: v8 :: some (.ref x) :: t) st σ μ Q := pw_aload_g d rfl k
theorem pw_lload_gn {n : Fin 4} {x : Int64} (d : decode (mB M) pc = .ok (.lload_n n, 1)) (h : ls[(n : Nat)]? = some (some (.long x))) (k : PW X M b1 b2 (pc + 1) ls (.long x :: st) σ μ Q) : PW X M b1 b2 pc ls st σ μ Q :=
  fun p e R s m args below meth c H locs cells slots ar Z B S P F L c1 c2 K => lv_lload_n B.1 B.2.1 d rfl (L.2.2 _ _ h) (k p e R s m args below meth c H locs cells slots ar Z B S P F L c1 c2 K)
theorem pw_lload_g {i : Nat} {x : Int64} (d : decode (mB M) pc = .ok (.lload i, 2)) (h : ls[i]? = some (some (.long x))) (k : PW X M b1 b2 (pc + 2) ls (.long x :: st) σ μ Q) : PW X M b1 b2 pc ls st σ μ Q :=
  fun p e R s m args below meth c H locs cells slots ar Z B S P F L c1 c2 K => lv_lload B.1 B.2.1 d (L.2.2 _ _ h) (k p e R s m args below meth c H locs cells slots ar Z B S P F L c1 c2 K)
theorem pw_lload_0 {t : List (Option Value)} {x : Int64} (d : decode (mB M) pc = .ok (.lload_n 0, 1)) (k : PW X M b1 b2 (pc + 1) (some (.long x) :: t) (.long x :: st) σ μ Q) : PW X M b1 b2 pc (some (.long x) :: t) st σ μ Q := pw_lload_gn d rfl k
theorem pw_lload_1 {v0 : Option Value} {t : List (Option Value)} {x : Int64} (d : decode (mB M) pc = .ok (.lload_n 1, 1)) (k : PW X M b1 b2 (pc + 1) (v0 :: some (.long x) :: t) (.long x :: st) σ μ Q) : PW X M b1 b2 pc (v0 :: some (.long x) :: t) st σ μ Q := pw_lload_gn d rfl k
theorem pw_lload_2 {v0 v1 : Option Value} {t : List (Option Value)} {x : Int64} (d : decode (mB M) pc = .ok (.lload_n 2, 1)) (k : PW X M b1 b2 (pc + 1) (v0 :: v1 :: some (.long x) :: t) (.long x :: st) σ μ Q) : PW X M b1 b2 pc (v0 :: v1 :: some (.long x) :: t) st σ μ Q := pw_lload_gn d rfl k
theorem pw_lload_3 {v0 v1 v2 : Option Value} {t : List (Option Value)} {x : Int64} (d : decode (mB M) pc = .ok (.lload_n 3, 1)) (k : PW X M b1 b2 (pc + 1) (v0 :: v1 :: v2 :: some (.long x) :: t) (.long x :: st) σ μ Q) : PW X M b1 b2 pc (v0 :: v1 :: v2 :: some (.long x) :: t) st σ μ Q := pw_lload_gn d rfl k
theorem pw_lload_4 {v0 v1 v2 v3 : Option Value} {t : List (Option Value)} {x : Int64} (d : decode (mB M) pc = .ok (.lload 4, 2)) (k : PW X M b1 b2 (pc + 2) (v0 :: v1 :: v2 :: v3 :: some (.long x) :: t) (.long x :: st) σ μ Q) : PW X M b1 b2 pc (v0 :: v1 :: v2 :: v3 :: some (.long x) :: t) st σ μ Q := pw_lload_g d rfl k
theorem pw_lload_5 {v0 v1 v2 v3 v4 : Option Value} {t : List (Option Value)} {x : Int64} (d : decode (mB M) pc = .ok (.lload 5, 2)) (k : PW X M b1 b2 (pc + 2) (v0 :: v1 :: v2 :: v3 :: v4 :: some (.long x) :: t) (.long x :: st) σ μ Q) : PW X M b1 b2 pc (v0 :: v1 :: v2 :: v3 :: v4 :: some (.long x) :: t) st σ μ Q := pw_lload_g d rfl k
theorem pw_lload_6 {v0 v1 v2 v3 v4 v5 : Option Value} {t : List (Option Value)} {x : Int64} (d : decode (mB M) pc = .ok (.lload 6, 2)) (k : PW X M b1 b2 (pc + 2) (v0 :: v1 :: v2 :: v3 :: v4 :: v5 :: some (.long x) :: t) (.long x :: st) σ μ Q) : PW X M b1 b2 pc (v0 :: v1 :: v2 :: v3 :: v4 :: v5 :: some (.long x) :: t) st σ μ Q := pw_lload_g d rfl k
theorem pw_lload_7 {v0 v1 v2 v3 v4 v5 v6 : Option Value} {t : List (Option Value)} {x : Int64} (d : decode (mB M) pc = .ok (.lload 7, 2)) (k : PW X M b1 b2 (pc + 2) (v0 :: v1 :: v2 :: v3 :: v4 :: v5 :: v6 :: some (.long x) :: t) (.long x :: st) σ μ Q) : PW X M b1 b2 pc (v0 :: v1 :: v2 :: v3 :: v4 :: v5 :: v6 :: some (.long x) :: t) st σ μ Q := pw_lload_g d rfl k
theorem pw_lload_8 {v0 v1 v2 v3 v4 v5 v6 v7 : Option Value} {t : List (Option Value)} {x : Int64} (d : decode (mB M) pc = .ok (.lload 8, 2)) (k : PW X M b1 b2 (pc + 2) (v0 :: v1 :: v2 :: v3 :: v4 :: v5 :: v6 :: v7 :: some (.long x) :: t) (.long x :: st) σ μ Q) : PW X M b1 b2 pc (v0 :: v1 :: v2 :: v3 :: v4 :: v5 :: v6 :: v7 :: some (.long x) :: t) st σ μ Q := pw_lload_g d rfl k
theorem pw_lload_9 {v0 v1 v2 v3 v4 v5 v6 v7 v8 : Option Value} {t : List (Option Value)} {x : Int64} (d : decode (mB M) pc = .ok (.lload 9, 2)) (k : PW X M b1 b2 (pc + 2) (v0 :: v1 :: v2 :: v3 :: v4 :: v5 :: v6 :: v7 :: v8 :: some (.long x) :: t) (.long x :: st) σ μ Q) : PW X M b1 b2 pc (v0 :: v1 :: v2 :: v3 :: v4 :: v5 :: v6 :: v7 :: v8 :: some (.long x) :: t) st σ μ Q := pw_lload_g d rfl k
def pw_c1 (o : Option Value) : Option Value := match o with
  | some w => if w.category = 2 then none else some w
  | none => none
def pw_al (ls : List (Option Value)) : List (Nat × Value) := ls.zipIdx.filterMap (fun q => q.1.map (fun v => (q.2, v)))
theorem pw_al_mem {ls : List (Option Value)} {i : Nat} {v : Value} : (i, v) ∈ pw_al ls ↔ ls[i]? = some (some v) := by
  unfold pw_al
  rw [List.mem_filterMap]
  constructor
  · rintro ⟨⟨o, j⟩, h1, h2⟩
    have h3 := List.mem_zipIdx_iff_getElem?.mp h1
    cases o with
    | none => cases h2
    | some w =>
      simp only [Option.map_some, Option.some.injEq, Prod.mk.injEq] at h2
      obtain ⟨rfl, rfl⟩ := h2
      exact h3
  · intro h
    exact ⟨(some v, i), List.mem_zipIdx_iff_getElem?.mpr h, rfl⟩
theorem pw_Lal {ar : Array Slot} {n : Nat} (h : pw_L ar n ls) : lv_has ar n (pw_al ls) := ⟨h.1, h.2.1, fun q hq => h.2.2 q.1 q.2 (pw_al_mem.mp hq)⟩
theorem pw_Lset1 {ar : Array Slot} {n i : Nat} {v : Value} {ls' : List (Option Value)} (h : lv_has ar n ((i, v) :: (pw_al ls).filter (fun q => !(q.1 == i) && !(q.1 + 1 == i && q.2.category == 2))))
    (hl : ∀ (j : Nat) (w : Value), ls'[j]? = some (some w) → (j = i ∧ w = v) ∨ (j ≠ i ∧ ls[j]? = some (some w) ∧ (j + 1 = i → w.category ≠ 2))) : pw_L ar n ls' := by
  refine ⟨h.1, h.2.1, fun j w hj => ?_⟩
  rcases hl j w hj with ⟨rfl, rfl⟩ | ⟨h1, h2, h3⟩
  · exact h.2.2 (j, w) List.mem_cons_self
  · refine h.2.2 (j, w) (List.mem_cons_of_mem _ (List.mem_filter.mpr ⟨pw_al_mem.mpr h2, ?_⟩))
    by_cases h4 : j + 1 = i
    · have := h3 h4
      simp [h1, this]
    · simp [h1, h4]
theorem pw_Lset2 {ar : Array Slot} {n i : Nat} {v : Value} {ls' : List (Option Value)} (h : lv_has ar n ((i, v) :: (pw_al ls).filter (fun q => !(q.1 == i) && (!(q.1 == i + 1) && !(q.1 + 1 == i && q.2.category == 2)))))
    (hl : ∀ (j : Nat) (w : Value), ls'[j]? = some (some w) → (j = i ∧ w = v) ∨ (j ≠ i ∧ j ≠ i + 1 ∧ ls[j]? = some (some w) ∧ (j + 1 = i → w.category ≠ 2))) : pw_L ar n ls' := by
  refine ⟨h.1, h.2.1, fun j w hj => ?_⟩
  rcases hl j w hj with ⟨rfl, rfl⟩ | ⟨h1, h1', h2, h3⟩
  · exact h.2.2 (j, w) List.mem_cons_self
  · refine h.2.2 (j, w) (List.mem_cons_of_mem _ (List.mem_filter.mpr ⟨pw_al_mem.mpr h2, ?_⟩))
    by_cases h4 : j + 1 = i
    · have := h3 h4
      simp [h1, h1', this]
    · simp [h1, h1', h4]
theorem pw_c1_2 {o : Option Value} {w : Value} (h : pw_c1 o = o) (hw : o = some w) : w.category ≠ 2 := by
  subst hw
  intro h2
  simp [pw_c1, h2] at h
theorem pw_istore_gn {n : Fin 4} {x : Int32} {ls' : List (Option Value)} (d : decode (mB M) pc = .ok (.istore_n n, 1)) (hn : (n : Nat) < mL M) (hl : ∀ (j : Nat) (w : Value), ls'[j]? = some (some w) → (j = (n : Nat) ∧ w = .int x) ∨ (j ≠ (n : Nat) ∧ ls[j]? = some (some w) ∧ (j + 1 = (n : Nat) → w.category ≠ 2))) (k : PW X M b1 b2 (pc + 1) ls' st σ μ Q) : PW X M b1 b2 pc ls (.int x :: st) σ μ Q :=
  fun p e R s m args below meth c H locs cells slots ar Z B S P F L c1 c2 K => lv_istore_n B.1 B.2.1 d rfl (pw_Lal L) hn rfl (fun ar' h => k p e R s m args below meth c H locs cells slots ar' Z B S P F (pw_Lset1 h hl) c1 c2 K)
theorem pw_istore_g {n : Nat} {x : Int32} {ls' : List (Option Value)} (d : decode (mB M) pc = .ok (.istore n, 2)) (hn : n < mL M) (hl : ∀ (j : Nat) (w : Value), ls'[j]? = some (some w) → (j = n ∧ w = .int x) ∨ (j ≠ n ∧ ls[j]? = some (some w) ∧ (j + 1 = n → w.category ≠ 2))) (k : PW X M b1 b2 (pc + 2) ls' st σ μ Q) : PW X M b1 b2 pc ls (.int x :: st) σ μ Q :=
  fun p e R s m args below meth c H locs cells slots ar Z B S P F L c1 c2 K => lv_istore B.1 B.2.1 d (pw_Lal L) hn rfl (fun ar' h => k p e R s m args below meth c H locs cells slots ar' Z B S P F (pw_Lset1 h hl) c1 c2 K)
theorem pw_istore_0 {o : Option Value} {t : List (Option Value)} {x : Int32} (d : decode (mB M) pc = .ok (.istore_n 0, 1)) (hn : 0 < mL M) (k : PW X M b1 b2 (pc + 1) (some (.int x) :: t) st σ μ Q) : PW X M b1 b2 pc (o :: t) (.int x :: st) σ μ Q := by
  refine pw_istore_gn (ls' := some (.int x) :: t) d hn ?_ k
  intro j w hj
  match j, hj with
  | 0, hj => exact Or.inl ⟨rfl, (Option.some.inj (Option.some.inj hj)).symm⟩
  | j + 1, hj => exact Or.inr ⟨by omega, hj, by omega⟩
theorem pw_istore_1 {v0 : Option Value} {o : Option Value} {t : List (Option Value)} {x : Int32} (d : decode (mB M) pc = .ok (.istore_n 1, 1)) (hn : 1 < mL M) (k : PW X M b1 b2 (pc + 1) (v0 :: some (.int x) :: t) st σ μ Q) (h1 : pw_c1 v0 = v0 := by rfl) : PW X M b1 b2 pc (v0 :: o :: t) (.int x :: st) σ μ Q := by
  refine pw_istore_gn (ls' := v0 :: some (.int x) :: t) d hn ?_ k
  intro j w hj
  match j, hj with
  | 0, hj => exact Or.inr ⟨by omega, hj, fun _ => pw_c1_2 h1 (Option.some.inj hj)⟩
  | 1, hj => exact Or.inl ⟨rfl, (Option.some.inj (Option.some.inj hj)).symm⟩
  | j + 2, hj => exact Or.inr ⟨by omega, hj, by omega⟩
theorem pw_istore_2 {v0 v1 : Option Value} {o : Option Value} {t : List (Option Value)} {x : Int32} (d : decode (mB M) pc = .ok (.istore_n 2, 1)) (hn : 2 < mL M) (k : PW X M b1 b2 (pc + 1) (v0 :: v1 :: some (.int x) :: t) st σ μ Q) (h1 : pw_c1 v1 = v1 := by rfl) : PW X M b1 b2 pc (v0 :: v1 :: o :: t) (.int x :: st) σ μ Q := by
  refine pw_istore_gn (ls' := v0 :: v1 :: some (.int x) :: t) d hn ?_ k
  intro j w hj
  match j, hj with
  | 0, hj => exact Or.inr ⟨by omega, hj, by omega⟩
  | 1, hj => exact Or.inr ⟨by omega, hj, fun _ => pw_c1_2 h1 (Option.some.inj hj)⟩
  | 2, hj => exact Or.inl ⟨rfl, (Option.some.inj (Option.some.inj hj)).symm⟩
  | j + 3, hj => exact Or.inr ⟨by omega, hj, by omega⟩
theorem pw_istore_3 {v0 v1 v2 : Option Value} {o : Option Value} {t : List (Option Value)} {x : Int32} (d : decode (mB M) pc = .ok (.istore_n 3, 1)) (hn : 3 < mL M) (k : PW X M b1 b2 (pc + 1) (v0 :: v1 :: v2 :: some (.int x) :: t) st σ μ Q) (h1 : pw_c1 v2 = v2 := by rfl) : PW X M b1 b2 pc (v0 :: v1 :: v2 :: o :: t) (.int x :: st) σ μ Q := by
  refine pw_istore_gn (ls' := v0 :: v1 :: v2 :: some (.int x) :: t) d hn ?_ k
  intro j w hj
  match j, hj with
  | 0, hj => exact Or.inr ⟨by omega, hj, by omega⟩
  | 1, hj => exact Or.inr ⟨by omega, hj, by omega⟩
  | 2, hj => exact Or.inr ⟨by omega, hj, fun _ => pw_c1_2 h1 (Option.some.inj hj)⟩
  | 3, hj => exact Or.inl ⟨rfl, (Option.some.inj (Option.some.inj hj)).symm⟩
  | j + 4, hj => exact Or.inr ⟨by omega, hj, by omega⟩
theorem pw_istore_4 {v0 v1 v2 v3 : Option Value} {o : Option Value} {t : List (Option Value)} {x : Int32} (d : decode (mB M) pc = .ok (.istore 4, 2)) (hn : 4 < mL M) (k : PW X M b1 b2 (pc + 2) (v0 :: v1 :: v2 :: v3 :: some (.int x) :: t) st σ μ Q) (h1 : pw_c1 v3 = v3 := by rfl) : PW X M b1 b2 pc (v0 :: v1 :: v2 :: v3 :: o :: t) (.int x :: st) σ μ Q := by
  refine pw_istore_g (ls' := v0 :: v1 :: v2 :: v3 :: some (.int x) :: t) d hn ?_ k
  intro j w hj
  match j, hj with
  | 0, hj => exact Or.inr ⟨by omega, hj, by omega⟩
  | 1, hj => exact Or.inr ⟨by omega, hj, by omega⟩
  | 2, hj => exact Or.inr ⟨by omega, hj, by omega⟩
  | 3, hj => exact Or.inr ⟨by omega, hj, fun _ => pw_c1_2 h1 (Option.some.inj hj)⟩
  | 4, hj => exact Or.inl ⟨rfl, (Option.some.inj (Option.some.inj hj)).symm⟩
  | j + 5, hj => exact Or.inr ⟨by omega, hj, by omega⟩
theorem pw_istore_5 {v0 v1 v2 v3 v4 : Option Value} {o : Option Value} {t : List (Option Value)} {x : Int32} (d : decode (mB M) pc = .ok (.istore 5, 2)) (hn : 5 < mL M) (k : PW X M b1 b2 (pc + 2) (v0 :: v1 :: v2 :: v3 :: v4 :: some (.int x) :: t) st σ μ Q) (h1 : pw_c1 v4 = v4 := by rfl) : PW X M b1 b2 pc (v0 :: v1 :: v2 :: v3 :: v4 :: o :: t) (.int x :: st) σ μ Q := by
  refine pw_istore_g (ls' := v0 :: v1 :: v2 :: v3 :: v4 :: some (.int x) :: t) d hn ?_ k
  intro j w hj
  match j, hj with
  | 0, hj => exact Or.inr ⟨by omega, hj, by omega⟩
  | 1, hj => exact Or.inr ⟨by omega, hj, by omega⟩
  | 2, hj => exact Or.inr ⟨by omega, hj, by omega⟩
  | 3, hj => exact Or.inr ⟨by omega, hj, by omega⟩
  | 4, hj => exact Or.inr ⟨by omega, hj, fun _ => pw_c1_2 h1 (Option.some.inj hj)⟩
  | 5, hj => exact Or.inl ⟨rfl, (Option.some.inj (Option.some.inj hj)).symm⟩
  | j + 6, hj => exact Or.inr ⟨by omega, hj, by omega⟩
theorem pw_istore_6 {v0 v1 v2 v3 v4 v5 : Option Value} {o : Option Value} {t : List (Option Value)} {x : Int32} (d : decode (mB M) pc = .ok (.istore 6, 2)) (hn : 6 < mL M) (k : PW X M b1 b2 (pc + 2) (v0 :: v1 :: v2 :: v3 :: v4 :: v5 :: some (.int x) :: t) st σ μ Q) (h1 : pw_c1 v5 = v5 := by rfl) : PW X M b1 b2 pc (v0 :: v1 :: v2 :: v3 :: v4 :: v5 :: o :: t) (.int x :: st) σ μ Q := by
  refine pw_istore_g (ls' := v0 :: v1 :: v2 :: v3 :: v4 :: v5 :: some (.int x) :: t) d hn ?_ k
  intro j w hj
  match j, hj with
  | 0, hj => exact Or.inr ⟨by omega, hj, by omega⟩
  | 1, hj => exact Or.inr ⟨by omega, hj, by omega⟩
  | 2, hj => exact Or.inr ⟨by omega, hj, by omega⟩
  | 3, hj => exact Or.inr ⟨by omega, hj, by omega⟩
  | 4, hj => exact Or.inr ⟨by omega, hj, by omega⟩
  | 5, hj => exact Or.inr ⟨by omega, hj, fun _ => pw_c1_2 h1 (Option.some.inj hj)⟩
  | 6, hj => exact Or.inl ⟨rfl, (Option.some.inj (Option.some.inj hj)).symm⟩
  | j + 7, hj => exact Or.inr ⟨by omega, hj, by omega⟩
theorem pw_istore_7 {v0 v1 v2 v3 v4 v5 v6 : Option Value} {o : Option Value} {t : List (Option Value)} {x : Int32} (d : decode (mB M) pc = .ok (.istore 7, 2)) (hn : 7 < mL M) (k : PW X M b1 b2 (pc + 2) (v0 :: v1 :: v2 :: v3 :: v4 :: v5 :: v6 :: some (.int x) :: t) st σ μ Q) (h1 : pw_c1 v6 = v6 := by rfl) : PW X M b1 b2 pc (v0 :: v1 :: v2 :: v3 :: v4 :: v5 :: v6 :: o :: t) (.int x :: st) σ μ Q := by
  refine pw_istore_g (ls' := v0 :: v1 :: v2 :: v3 :: v4 :: v5 :: v6 :: some (.int x) :: t) d hn ?_ k
  intro j w hj
  match j, hj with
  | 0, hj => exact Or.inr ⟨by omega, hj, by omega⟩
  | 1, hj => exact Or.inr ⟨by omega, hj, by omega⟩
  | 2, hj => exact Or.inr ⟨by omega, hj, by omega⟩
  | 3, hj => exact Or.inr ⟨by omega, hj, by omega⟩
  | 4, hj => exact Or.inr ⟨by omega, hj, by omega⟩
  | 5, hj => exact Or.inr ⟨by omega, hj, by omega⟩
  | 6, hj => exact Or.inr ⟨by omega, hj, fun _ => pw_c1_2 h1 (Option.some.inj hj)⟩
  | 7, hj => exact Or.inl ⟨rfl, (Option.some.inj (Option.some.inj hj)).symm⟩
  | j + 8, hj => exact Or.inr ⟨by omega, hj, by omega⟩
theorem pw_istore_8 {v0 v1 v2 v3 v4 v5 v6 v7 : Option Value} {o : Option Value} {t : List (Option Value)} {x : Int32} (d : decode (mB M) pc = .ok (.istore 8, 2)) (hn : 8 < mL M) (k : PW X M b1 b2 (pc + 2) (v0 :: v1 :: v2 :: v3 :: v4 :: v5 :: v6 :: v7 :: some (.int x) :: t) st σ μ Q) (h1 : pw_c1 v7 = v7 := by rfl) : PW X M b1 b2 pc (v0 :: v1 :: v2 :: v3 :: v4 :: v5 :: v6 :: v7 :: o :: t) (.int x :: st) σ μ Q := by
  refine pw_istore_g (ls' := v0 :: v1 :: v2 :: v3 :: v4 :: v5 :: v6 :: v7 :: some (.int x) :: t) d hn ?_ k
  intro j w hj
  match j, hj with
  | 0, hj => exact Or.inr ⟨by omega, hj, by omega⟩
  | 1, hj => exact Or.inr ⟨by omega, hj, by omega⟩
  | 2, hj => exact Or.inr ⟨by omega, hj, by omega⟩
  | 3, hj => exact Or.inr ⟨by omega, hj, by omega⟩
  | 4, hj => exact Or.inr ⟨by omega, hj, by omega⟩
  | 5, hj => exact Or.inr ⟨by omega, hj, by omega⟩
  | 6, hj => exact Or.inr ⟨by omega, hj, by omega⟩
  | 7, hj => exact Or.inr ⟨by omega, hj, fun _ => pw_c1_2 h1 (Option.some.inj hj)⟩
  | 8, hj => exact Or.inl ⟨rfl, (Option.some.inj (Option.some.inj hj)).symm⟩
  | j + 9, hj => exact Or.inr ⟨by omega, hj, by omega⟩
theorem pw_istore_9 {v0 v1 v2 v3 v4 v5 v6 v7 v8 : Option Value} {o : Option Value} {t : List (Option Value)} {x : Int32} (d : decode (mB M) pc = .ok (.istore 9, 2)) (hn : 9 < mL M) (k : PW X M b1 b2 (pc + 2) (v0 :: v1 :: v2 :: v3 :: v4 :: v5 :: v6 :: v7 :: v8 :: some (.int x) :: t) st σ μ Q) (h1 : pw_c1 v8 = v8 := by rfl) : PW X M b1 b2 pc (v0 :: v1 :: v2 :: v3 :: v4 :: v5 :: v6 :: v7 :: v8 :: o :: t) (.int x :: st) σ μ Q := by
  refine pw_istore_g (ls' := v0 :: v1 :: v2 :: v3 :: v4 :: v5 :: v6 :: v7 :: v8 :: some (.int x) :: t) d hn ?_ k
  intro j w hj
  match j, hj with
  | 0, hj => exact Or.inr ⟨by omega, hj, by omega⟩
  | 1, hj => exact Or.inr ⟨by omega, hj, by omega⟩
  | 2, hj => exact Or.inr ⟨by omega, hj, by omega⟩
  | 3, hj => exact Or.inr ⟨by omega, hj, by omega⟩
  | 4, hj => exact Or.inr ⟨by omega, hj, by omega⟩
  | 5, hj => exact Or.inr ⟨by omega, hj, by omega⟩
  | 6, hj => exact Or.inr ⟨by omega, hj, by omega⟩
  | 7, hj => exact Or.inr ⟨by omega, hj, by omega⟩
  | 8, hj => exact Or.inr ⟨by omega, hj, fun _ => pw_c1_2 h1 (Option.some.inj hj)⟩
  | 9, hj => exact Or.inl ⟨rfl, (Option.some.inj (Option.some.inj hj)).symm⟩
  | j + 10, hj => exact Or.inr ⟨by omega, hj, by omega⟩
theorem pw_astore_gn {n : Fin 4} {x : Nat} {ls' : List (Option Value)} (d : decode (mB M) pc = .ok (.astore_n n, 1)) (hn : (n : Nat) < mL M) (hl : ∀ (j : Nat) (w : Value), ls'[j]? = some (some w) → (j = (n : Nat) ∧ w = .ref x) ∨ (j ≠ (n : Nat) ∧ ls[j]? = some (some w) ∧ (j + 1 = (n : Nat) → w.category ≠ 2))) (k : PW X M b1 b2 (pc + 1) ls' st σ μ Q) : PW X M b1 b2 pc ls (.ref x :: st) σ μ Q :=
  fun p e R s m args below meth c H locs cells slots ar Z B S P F L c1 c2 K => lv_astore_n B.1 B.2.1 d rfl (pw_Lal L) hn rfl (fun ar' h => k p e R s m args below meth c H locs cells slots ar' Z B S P F (pw_Lset1 h hl) c1 c2 K)
theorem pw_astore_g {n : Nat} {x : Nat} {ls' : List (Option Value)} (d : decode (mB M) pc = .ok (.astore n, 2)) (hn : n < mL M) (hl : ∀ (j : Nat) (w : Value), ls'[j]? = some (some w) → (j = n ∧ w = .ref x) ∨ (j ≠ n ∧ ls[j]? = some (some w) ∧ (j + 1 = n → w.category ≠ 2))) (k : PW X M b1 b2 (pc + 2) ls' st σ μ Q) : PW X M b1 b2 pc ls (.ref x :: st) σ μ Q :=
  fun p e R s m args below meth c H locs cells slots ar Z B S P F L c1 c2 K => lv_astore B.1 B.2.1 d (pw_Lal L) hn rfl (fun ar' h => k p e R s m args below meth c H locs cells slots ar' Z B S P F (pw_Lset1 h hl) c1 c2 K)
theorem pw_astore_0 {o : Option Value} {t : List (Option Value)} {x : Nat} (d : decode (mB M) pc = .ok (.astore_n 0, 1)) (hn : 0 < mL M) (k : PW X M b1 b2 (pc + 1) (some (.ref x) :: t) st σ μ Q) : PW X M b1 b2 pc (o :: t) (.ref x :: st) σ μ Q := by
  refine pw_astore_gn (ls' := some (.ref x) :: t) d hn ?_ k
  intro j w hj
  match j, hj with
  | 0, hj => exact Or.inl ⟨rfl, (Option.some.inj (Option.some.inj hj)).symm⟩
  | j + 1, hj => exact Or.inr ⟨by omega, hj, by omega⟩
theorem pw_astore_1 {v0 : Option Value} {o : Option Value} {t : List (Option Value)} {x : Nat} (d : decode (mB M) pc = .ok (.astore_n 1, 1)) (hn : 1 < mL M) (k : PW X M b1 b2 (pc + 1) (v0 :: some (.ref x) :: t) st σ μ Q) (h1 : pw_c1 v0 = v0 := by rfl) : PW X M b1 b2 pc (v0 :: o :: t) (.ref x :: st) σ μ Q := by
  refine pw_astore_gn (ls' := v0 :: some (.ref x) :: t) d hn ?_ k
  intro j w hj
  match j, hj with
  | 0, hj => exact Or.inr ⟨by omega, hj, fun _ => pw_c1_2 h1 (Option.some.inj hj)⟩
  | 1, hj => exact Or.inl ⟨rfl, (Option.some.inj (Option.some.inj hj)).symm⟩
  | j + 2, hj => exact Or.inr ⟨by omega, hj, by omega⟩
theorem pw_astore_2 {v0 v1 : Option Value} {o : Option Value} {t : List (Option Value)} {x : Nat} (d : decode (mB M) pc = .ok (.astore_n 2, 1)) (hn : 2 < mL M) (k : PW X M b1 b2 (pc + 1) (v0 :: v1 :: some (.ref x) :: t) st σ μ Q) (h1 : pw_c1 v1 = v1 := by rfl) : PW X M b1 b2 pc (v0 :: v1 :: o :: t) (.ref x :: st) σ μ Q := by
  refine pw_astore_gn (ls' := v0 :: v1 :: some (.ref x) :: t) d hn ?_ k
  intro j w hj
  match j, hj with
  | 0, hj => exact Or.inr ⟨by omega, hj, by omega⟩
  | 1, hj => exact Or.inr ⟨by omega, hj, fun _ => pw_c1_2 h1 (Option.some.inj hj)⟩
  | 2, hj => exact Or.inl ⟨rfl, (Option.some.inj (Option.some.inj hj)).symm⟩
  | j + 3, hj => exact Or.inr ⟨by omega, hj, by omega⟩
theorem pw_astore_3 {v0 v1 v2 : Option Value} {o : Option Value} {t : List (Option Value)} {x : Nat} (d : decode (mB M) pc = .ok (.astore_n 3, 1)) (hn : 3 < mL M) (k : PW X M b1 b2 (pc + 1) (v0 :: v1 :: v2 :: some (.ref x) :: t) st σ μ Q) (h1 : pw_c1 v2 = v2 := by rfl) : PW X M b1 b2 pc (v0 :: v1 :: v2 :: o :: t) (.ref x :: st) σ μ Q := by
  refine pw_astore_gn (ls' := v0 :: v1 :: v2 :: some (.ref x) :: t) d hn ?_ k
  intro j w hj
  match j, hj with
  | 0, hj => exact Or.inr ⟨by omega, hj, by omega⟩
  | 1, hj => exact Or.inr ⟨by omega, hj, by omega⟩
  | 2, hj => exact Or.inr ⟨by omega, hj, fun _ => pw_c1_2 h1 (Option.some.inj hj)⟩
  | 3, hj => exact Or.inl ⟨rfl, (Option.some.inj (Option.some.inj hj)).symm⟩
  | j + 4, hj => exact Or.inr ⟨by omega, hj, by omega⟩
theorem pw_astore_4 {v0 v1 v2 v3 : Option Value} {o : Option Value} {t : List (Option Value)} {x : Nat} (d : decode (mB M) pc = .ok (.astore 4, 2)) (hn : 4 < mL M) (k : PW X M b1 b2 (pc + 2) (v0 :: v1 :: v2 :: v3 :: some (.ref x) :: t) st σ μ Q) (h1 : pw_c1 v3 = v3 := by rfl) : PW X M b1 b2 pc (v0 :: v1 :: v2 :: v3 :: o :: t) (.ref x :: st) σ μ Q := by
  refine pw_astore_g (ls' := v0 :: v1 :: v2 :: v3 :: some (.ref x) :: t) d hn ?_ k
  intro j w hj
  match j, hj with
  | 0, hj => exact Or.inr ⟨by omega, hj, by omega⟩
  | 1, hj => exact Or.inr ⟨by omega, hj, by omega⟩
  | 2, hj => exact Or.inr ⟨by omega, hj, by omega⟩
  | 3, hj => exact Or.inr ⟨by omega, hj, fun _ => pw_c1_2 h1 (Option.some.inj hj)⟩
  | 4, hj => exact Or.inl ⟨rfl, (Option.some.inj (Option.some.inj hj)).symm⟩
  | j + 5, hj => exact Or.inr ⟨by omega, hj, by omega⟩
theorem pw_astore_5 {v0 v1 v2 v3 v4 : Option Value} {o : Option Value} {t : List (Option Value)} {x : Nat} (d : decode (mB M) pc = .ok (.astore 5, 2)) (hn : 5 < mL M) (k : PW X M b1 b2 (pc + 2) (v0 :: v1 :: v2 :: v3 :: v4 :: some (.ref x) :: t) st σ μ Q) (h1 : pw_c1 v4 = v4 := by rfl) : PW X M b1 b2 pc (v0 :: v1 :: v2 :: v3 :: v4 :: o :: t) (.ref x :: st) σ μ Q := by
  refine pw_astore_g (ls' := v0 :: v1 :: v2 :: v3 :: v4 :: some (.ref x) :: t) d hn ?_ k
  intro j w hj
  match j, hj with
  | 0, hj => exact Or.inr ⟨by omega, hj, by omega⟩
  | 1, hj => exact Or.inr ⟨by omega, hj, by omega⟩
  | 2, hj => exact Or.inr ⟨by omega, hj, by omega⟩
  | 3, hj => exact Or.inr ⟨by omega, hj, by omega⟩
  | 4, hj => exact Or.inr ⟨by omega, hj, fun _ => pw_c1_2 h1 (Option.some.inj hj)⟩
  | 5, hj => exact Or.inl ⟨rfl, (Option.some.inj (Option.some.inj hj)).symm⟩
  | j + 6, hj => exact Or.inr ⟨by omega, hj, by omega⟩
theorem pw_astore_6 {v0 v1 v2 v3 v4 v5 : Option Value} {o : Option Value} {t : List (Option Value)} {x : Nat} (d : decode (mB M) pc = .ok (.astore 6, 2)) (hn : 6 < mL M) (k : PW X M b1 b2 (pc + 2) (v0 :: v1 :: v2 :: v3 :: v4 :: v5 :: some (.ref x) :: t) st σ μ Q) (h1 : pw_c1 v5 = v5 := by rfl) : PW X M b1 b2 pc (v0 :: v1 :: v2 :: v3 :: v4 :: v5 :: o :: t) (.ref x :: st) σ μ Q := by
  refine pw_astore_g (ls' := v0 :: v1 :: v2 :: v3 :: v4 :: v5 :: some (.ref x) :: t) d hn ?_ k
  intro j w hj
  match j, hj with
  | 0, hj => exact Or.inr ⟨by omega, hj, by omega⟩
  | 1, hj => exact Or.inr ⟨by omega, hj, by omega⟩
  | 2, hj => exact Or.inr ⟨by omega, hj, by omega⟩
  | 3, hj => exact Or.inr ⟨by omega, hj, by omega⟩
  | 4, hj => exact Or.inr ⟨by omega, hj, by omega⟩
  | 5, hj => exact Or.inr ⟨by omega, hj, fun _ => pw_c1_2 h1 (Option.some.inj hj)⟩
  | 6, hj => exact Or.inl ⟨rfl, (Option.some.inj (Option.some.inj hj)).symm⟩
  | j + 7, hj => exact Or.inr ⟨by omega, hj, by omega⟩
theorem pw_astore_7 {v0 v1 v2 v3 v4 v5 v6 : Option Value} {o : Option Value} {t : List (Option Value)} {x : Nat} (d : decode (mB M) pc = .ok (.astore 7, 2)) (hn : 7 < mL M) (k : PW X M b1 b2 (pc + 2) (v0 :: v1 :: v2 :: v3 :: v4 :: v5 :: v6 :: some (.ref x) :: t) st σ μ Q) (h1 : pw_c1 v6 = v6 := by rfl) : PW X M b1 b2 pc (v0 :: v1 :: v2 :: v3 :: v4 :: v5 :: v6 :: o :: t) (.ref x :: st) σ μ Q := by
  refine pw_astore_g (ls' := v0 :: v1 :: v2 :: v3 :: v4 :: v5 :: v6 :: some (.ref x) :: t) d hn ?_ k
  intro j w hj
  match j, hj with
  | 0, hj => exact Or.inr ⟨by omega, hj, by omega⟩
  | 1, hj => exact Or.inr ⟨by omega, hj, by omega⟩
  | 2, hj => exact Or.inr ⟨by omega, hj, by omega⟩
  | 3, hj => exact Or.inr ⟨by omega, hj, by omega⟩
  | 4, hj => exact Or.inr ⟨by omega, hj, by omega⟩
  | 5, hj => exact Or.inr ⟨by omega, hj, by omega⟩
  | 6, hj => exact Or.inr ⟨by omega, hj, fun _ => pw_c1_2 h1 (Option.some.inj hj)⟩
  | 7, hj => exact Or.inl ⟨rfl, (Option.some.inj (Option.some.inj hj)).symm⟩
  | j + 8, hj => exact Or.inr ⟨by omega, hj, by omega⟩
theorem pw_astore_8 {v0 v1 v2 v3 v4 v5 v6 v7 : Option Value} {o : Option Value} {t : List (Option Value)} {x : Nat} (d : decode (mB M) pc = .ok (.astore 8, 2)) (hn : 8 < mL M) (k : PW X M b1 b2 (pc + 2) (v0 :: v1 :: v2 :: v3 :: v4 :: v5 :: v6 :: v7 :: some (.ref x) :: t) st σ μ Q) (h1 : pw_c1 v7 = v7 := by rfl) : PW X M b1 b2 pc (v0 :: v1 :: v2 :: v3 :: v4 :: v5 :: v6 :: v7 :: o :: t) (.ref x :: st) σ μ Q := by
  refine pw_astore_g (ls' := v0 :: v1 :: v2 :: v3 :: v4 :: v5 :: v6 :: v7 :: some (.ref x) :: t) d hn ?_ k
  intro j w hj
  match j, hj with
  | 0, hj => exact Or.inr ⟨by omega, hj, by omega⟩
  | 1, hj => exact Or.inr ⟨by omega, hj, by omega⟩
  | 2, hj => exact Or.inr ⟨by omega, hj, by omega⟩
  | 3, hj => exact Or.inr ⟨by omega, hj, by omega⟩
  | 4, hj => exact Or.inr ⟨by omega, hj, by omega⟩
  | 5, hj => exact Or.inr ⟨by omega, hj, by omega⟩
  | 6, hj => exact Or.inr ⟨by omega, hj, by omega⟩
  | 7, hj => exact Or.inr ⟨by omega, hj, fun _ => pw_c1_2 h1 (Option.some.inj hj)⟩
  | 8, hj => exact Or.inl ⟨rfl, (Option.some.inj (Option.some.inj hj)).symm⟩
  | j + 9, hj => exact Or.inr ⟨by omega, hj, by omega⟩
theorem pw_astore_9 {v0 v1 v2 v3 v4 v5 v6 v7 v8 : Option Value} {o : Option Value} {t : List (Option Value)} {x : Nat} (d : decode (mB M) pc = .ok (.astore 9, 2)) (hn : 9 < mL M) (k : PW X M b1 b2 (pc + 2) (v0 :: v1 :: v2 :: v3 :: v4 :: v5 :: v6 :: v7 :: v8 :: some (.ref x) :: t) st σ μ Q) (h1 : pw_c1 v8 = v8 := by rfl) : PW X M b1 b2 pc (v0 :: v1 :: v2 :: v3 :: v4 :: v5 :: v6 :: v7 :: v8 :: o :: t) (.ref x :: st) σ μ Q := by
  refine pw_astore_g (ls' := v0 :: v1 :: v2 :: v3 :: v4 :: v5 :: v6 :: v7 :: v8 :: some (.ref x) :: t) d hn ?_ k
  intro j w hj
  match j, hj with
  | 0, hj => exact Or.inr ⟨by omega, hj, by omega⟩
  | 1, hj => exact Or.inr ⟨by omega, hj, by omega⟩
  | 2, hj => exact Or.inr ⟨by omega, hj, by omega⟩
  | 3, hj => exact Or.inr ⟨by omega, hj, by omega⟩
  | 4, hj => exact Or.inr ⟨by omega, hj, by omega⟩
  | 5, hj => exact Or.inr ⟨by omega, hj, by omega⟩
  | 6, hj => exact Or.inr ⟨by omega, hj, by omega⟩
  | 7, hj => exact Or.inr ⟨by omega, hj, by omega⟩
  | 8, hj => exact Or.inr ⟨by omega, hj, fun _ => pw_c1_2 h1 (Option.some.inj hj)⟩
  | 9, hj => exact Or.inl ⟨rfl, (Option.some.inj (Option.some.inj hj)).symm⟩
  | j + 10, hj => exact Or.inr ⟨by omega, hj, by omega⟩
theorem pw_lstore_0 {o o2 : Option Value} {t : List (Option Value)} {x : Int64} (d : decode (mB M) pc = .ok (.lstore_n 0, 1)) (hn : 0 + 1 < mL M) (k : PW X M b1 b2 (pc + 1) (some (.long x) :: none :: t) st σ μ Q) : PW X M b1 b2 pc (o :: o2 :: t) (.long x :: st) σ μ Q := by
  intro p e R s m args below meth c H locs cells slots ar Z B S P F L c1 c2 K
  refine lv_lstore_n B.1 B.2.1 d rfl (pw_Lal L) hn rfl (fun ar' h => k p e R s m args below meth c H locs cells slots ar' Z B S P F (pw_Lset2 (ls' := some (.long x) :: none :: t) h ?_) c1 c2 K)
  intro j w hj
  match j, hj with
  | 0, hj => exact Or.inl ⟨rfl, (Option.some.inj (Option.some.inj hj)).symm⟩
  | 1, hj => cases Option.some.inj hj
  | j + 2, hj => exact Or.inr ⟨by omega, by omega, hj, by omega⟩
theorem pw_lstore_1 {v0 : Option Value} {o o2 : Option Value} {t : List (Option Value)} {x : Int64} (d : decode (mB M) pc = .ok (.lstore_n 1, 1)) (hn : 1 + 1 < mL M) (k : PW X M b1 b2 (pc + 1) (v0 :: some (.long x) :: none :: t) st σ μ Q) (h1 : pw_c1 v0 = v0 := by rfl) : PW X M b1 b2 pc (v0 :: o :: o2 :: t) (.long x :: st) σ μ Q := by
  intro p e R s m args below meth c H locs cells slots ar Z B S P F L c1 c2 K
  refine lv_lstore_n B.1 B.2.1 d rfl (pw_Lal L) hn rfl (fun ar' h => k p e R s m args below meth c H locs cells slots ar' Z B S P F (pw_Lset2 (ls' := v0 :: some (.long x) :: none :: t) h ?_) c1 c2 K)
  intro j w hj
  match j, hj with
  | 0, hj => exact Or.inr ⟨by omega, by omega, hj, fun _ => pw_c1_2 h1 (Option.some.inj hj)⟩
  | 1, hj => exact Or.inl ⟨rfl, (Option.some.inj (Option.some.inj hj)).symm⟩
  | 2, hj => cases Option.some.inj hj
  | j + 3, hj => exact Or.inr ⟨by omega, by omega, hj, by omega⟩
theorem pw_lstore_2 {v0 v1 : Option Value} {o o2 : Option Value} {t : List (Option Value)} {x : Int64} (d : decode (mB M) pc = .ok (.lstore_n 2, 1)) (hn : 2 + 1 < mL M) (k : PW X M b1 b2 (pc + 1) (v0 :: v1 :: some (.long x) :: none :: t) st σ μ Q) (h1 : pw_c1 v1 = v1 := by rfl) : PW X M b1 b2 pc (v0 :: v1 :: o :: o2 :: t) (.long x :: st) σ μ Q := by
  intro p e R s m args below meth c H locs cells slots ar Z B S P F L c1 c2 K
  refine lv_lstore_n B.1 B.2.1 d rfl (pw_Lal L) hn rfl (fun ar' h => k p e R s m args below meth c H locs cells slots ar' Z B S P F (pw_Lset2 (ls' := v0 :: v1 :: some (.long x) :: none :: t) h ?_) c1 c2 K)
  intro j w hj
  match j, hj with
  | 0, hj => exact Or.inr ⟨by omega, by omega, hj, by omega⟩
  | 1, hj => exact Or.inr ⟨by omega, by omega, hj, fun _ => pw_c1_2 h1 (Option.some.inj hj)⟩
  | 2, hj => exact Or.inl ⟨rfl, (Option.some.inj (Option.some.inj hj)).symm⟩
  | 3, hj => cases Option.some.inj hj
  | j + 4, hj => exact Or.inr ⟨by omega, by omega, hj, by omega⟩
theorem pw_lstore_3 {v0 v1 v2 : Option Value} {o o2 : Option Value} {t : List (Option Value)} {x : Int64} (d : decode (mB M) pc = .ok (.lstore_n 3, 1)) (hn : 3 + 1 < mL M) (k : PW X M b1 b2 (pc + 1) (v0 :: v1 :: v2 :: some (.long x) :: none :: t) st σ μ Q) (h1 : pw_c1 v2 = v2 := by rfl) : PW X M b1 b2 pc (v0 :: v1 :: v2 :: o :: o2 :: t) (.long x :: st) σ μ Q := by
  intro p e R s m args below meth c H locs cells slots ar Z B S P F L c1 c2 K
  refine lv_lstore_n B.1 B.2.1 d rfl (pw_Lal L) hn rfl (fun ar' h => k p e R s m args below meth c H locs cells slots ar' Z B S P F (pw_Lset2 (ls' := v0 :: v1 :: v2 :: some (.long x) :: none :: t) h ?_) c1 c2 K)
  intro j w hj
  match j, hj with
  | 0, hj => exact Or.inr ⟨by omega, by omega, hj, by omega⟩
  | 1, hj => exact Or.inr ⟨by omega, by omega, hj, by omega⟩
  | 2, hj => exact Or.inr ⟨by omega, by omega, hj, fun _ => pw_c1_2 h1 (Option.some.inj hj)⟩
  | 3, hj => exact Or.inl ⟨rfl, (Option.some.inj (Option.some.inj hj)).symm⟩
  | 4, hj => cases Option.some.inj hj
  | j + 5, hj => exact Or.inr ⟨by omega, by omega, hj, by omega⟩
theorem pw_lstore_4 {v0 v1 v2 v3 : Option Value} {o o2 : Option Value} {t : List (Option Value)} {x : Int64} (d : decode (mB M) pc = .ok (.lstore 4, 2)) (hn : 4 + 1 < mL M) (k : PW X M b1 b2 (pc + 2) (v0 :: v1 :: v2 :: v3 :: some (.long x) :: none :: t) st σ μ Q) (h1 : pw_c1 v3 = v3 := by rfl) : PW X M b1 b2 pc (v0 :: v1 :: v2 :: v3 :: o :: o2 :: t) (.long x :: st) σ μ Q := by
  intro p e R s m args below meth c H locs cells slots ar Z B S P F L c1 c2 K
  refine lv_lstore B.1 B.2.1 d (pw_Lal L) hn rfl (fun ar' h => k p e R s m args below meth c H locs cells slots ar' Z B S P F (pw_Lset2 (ls' := v0 :: v1 :: v2 :: v3 :: some (.long x) :: none :: t) h ?_) c1 c2 K)
  intro j w hj
  match j, hj with
  | 0, hj => exact Or.inr ⟨by omega, by omega, hj, by omega⟩
  | 1, hj => exact Or.inr ⟨by omega, by omega, hj, by omega⟩
  | 2, hj => exact Or.inr ⟨by omega, by omega, hj, by omega⟩
  | 3, hj => exact Or.inr ⟨by omega, by omega, hj, fun _ => pw_c1_2 h1 (Option.some.inj hj)⟩
  | 4, hj => exact Or.inl ⟨rfl, (Option.some.inj (Option.some.inj hj)).symm⟩
  | 5, hj => cases Option.some.inj hj
  | j + 6, hj => exact Or.inr ⟨by omega, by omega, hj, by omega⟩
theorem pw_lstore_5 {v0 v1 v2 v3 v4 : Option Value} {o o2 : Option Value} {t : List (Option Value)} {x : Int64} (d : decode (mB M) pc = .ok (.lstore 5, 2)) (hn : 5 + 1 < mL M) (k : PW X M b1 b2 (pc + 2) (v0 :: v1 :: v2 :: v3 :: v4 :: some (.long x) :: none :: t) st σ μ Q) (h1 : pw_c1 v4 = v4 := by rfl) : PW X M b1 b2 pc (v0 :: v1 :: v2 :: v3 :: v4 :: o :: o2 :: t) (.long x :: st) σ μ Q := by
  intro p e R s m args below meth c H locs cells slots ar Z B S P F L c1 c2 K
  refine lv_lstore B.1 B.2.1 d (pw_Lal L) hn rfl (fun ar' h => k p e R s m args below meth c H locs cells slots ar' Z B S P F (pw_Lset2 (ls' := v0 :: v1 :: v2 :: v3 :: v4 :: some (.long x) :: none :: t) h ?_) c1 c2 K)
  intro j w hj
  match j, hj with
  | 0, hj => exact Or.inr ⟨by omega, by omega, hj, by omega⟩
  | 1, hj => exact Or.inr ⟨by omega, by omega, hj, by omega⟩
  | 2, hj => exact Or.inr ⟨by omega, by omega, hj, by omega⟩
  | 3, hj => exact Or.inr ⟨by omega, by omega, hj, by omega⟩
  | 4, hj => exact Or.inr ⟨by omega, by omega, hj, fun _ => pw_c1_2 h1 (Option.some.inj hj)⟩
  | 5, hj => exact Or.inl ⟨rfl, (Option.some.inj (Option.some.inj hj)).symm⟩
  | 6, hj => cases Option.some.inj hj
  | j + 7, hj => exact Or.inr ⟨by omega, by omega, hj, by omega⟩
theorem pw_iinc_g {i : Nat} {n : Int} {x : Int32} {ls' : List (Option Value)} (d : decode (mB M) pc = .ok (.iinc i n, 3)) (hx : ls[i]? = some (some (.int x))) (hn : i < mL M) (hl : ∀ (j : Nat) (w : Value), ls'[j]? = some (some w) → (j = i ∧ w = .int (x + Int32.ofInt n)) ∨ (j ≠ i ∧ ls[j]? = some (some w) ∧ (j + 1 = i → w.category ≠ 2))) (k : PW X M b1 b2 (pc + 3) ls' st σ μ Q) : PW X M b1 b2 pc ls st σ μ Q := by
  intro p e R s m args below meth c H locs cells slots ar Z B S P F L c1 c2 K
  obtain ⟨q, hq⟩ := List.getElem?_of_mem (pw_al_mem.mpr hx)
  exact lv_iinc B.1 B.2.1 d (pw_Lal L) hq rfl hn rfl (fun ar' h => k p e R s m args below meth c H locs cells slots ar' Z B S P F (pw_Lset1 h hl) c1 c2 K)
theorem pw_iinc_0 {t : List (Option Value)} {n : Int} {x y : Int32} (d : decode (mB M) pc = .ok (.iinc 0 n, 3)) (hy : Int32.ofInt n = y) (hn : 0 < mL M) (k : PW X M b1 b2 (pc + 3) (some (.int (x + y)) :: t) st σ μ Q) : PW X M b1 b2 pc (some (.int x) :: t) st σ μ Q := by
  subst hy
  refine pw_iinc_g (ls' := some (.int (x + Int32.ofInt n)) :: t) d rfl hn ?_ k
  intro j w hj
  match j, hj with
  | 0, hj => exact Or.inl ⟨rfl, (Option.some.inj (Option.some.inj hj)).symm⟩
  | j + 1, hj => exact Or.inr ⟨by omega, hj, by omega⟩
theorem pw_iinc_1 {v0 : Option Value} {t : List (Option Value)} {n : Int} {x y : Int32} (d : decode (mB M) pc = .ok (.iinc 1 n, 3)) (hy : Int32.ofInt n = y) (hn : 1 < mL M) (k : PW X M b1 b2 (pc + 3) (v0 :: some (.int (x + y)) :: t) st σ μ Q) (h1 : pw_c1 v0 = v0 := by rfl) : PW X M b1 b2 pc (v0 :: some (.int x) :: t) st σ μ Q := by
  subst hy
  refine pw_iinc_g (ls' := v0 :: some (.int (x + Int32.ofInt n)) :: t) d rfl hn ?_ k
  intro j w hj
  match j, hj with
  | 0, hj => exact Or.inr ⟨by omega, hj, fun _ => pw_c1_2 h1 (Option.some.inj hj)⟩
  | 1, hj => exact Or.inl ⟨rfl, (Option.some.inj (Option.some.inj hj)).symm⟩
  | j + 2, hj => exact Or.inr ⟨by omega, hj, by omega⟩
theorem pw_iinc_2 {v0 v1 : Option Value} {t : List (Option Value)} {n : Int} {x y : Int32} (d : decode (mB M) pc = .ok (.iinc 2 n, 3)) (hy : Int32.ofInt n = y) (hn : 2 < mL M) (k : PW X M b1 b2 (pc + 3) (v0 :: v1 :: some (.int (x + y)) :: t) st σ μ Q) (h1 : pw_c1 v1 = v1 := by rfl) : PW X M b1 b2 pc (v0 :: v1 :: some (.int x) :: t) st σ μ Q := by
  subst hy
  refine pw_iinc_g (ls' := v0 :: v1 :: some (.int (x + Int32.ofInt n)) :: t) d rfl hn ?_ k
  intro j w hj
  match j, hj with
  | 0, hj => exact Or.inr ⟨by omega, hj, by omega⟩
  | 1, hj => exact Or.inr ⟨by omega, hj, fun _ => pw_c1_2 h1 (Option.some.inj hj)⟩
  | 2, hj => exact Or.inl ⟨rfl, (Option.some.inj (Option.some.inj hj)).symm⟩
  | j + 3, hj => exact Or.inr ⟨by omega, hj, by omega⟩
theorem pw_iinc_3 {v0 v1 v2 : Option Value} {t : List (Option Value)} {n : Int} {x y : Int32} (d : decode (mB M) pc = .ok (.iinc 3 n, 3)) (hy : Int32.ofInt n = y) (hn : 3 < mL M) (k : PW X M b1 b2 (pc + 3) (v0 :: v1 :: v2 :: some (.int (x + y)) :: t) st σ μ Q) (h1 : pw_c1 v2 = v2 := by rfl) : PW X M b1 b2 pc (v0 :: v1 :: v2 :: some (.int x) :: t) st σ μ Q := by
  subst hy
  refine pw_iinc_g (ls' := v0 :: v1 :: v2 :: some (.int (x + Int32.ofInt n)) :: t) d rfl hn ?_ k
  intro j w hj
  match j, hj with
  | 0, hj => exact Or.inr ⟨by omega, hj, by omega⟩
  | 1, hj => exact Or.inr ⟨by omega, hj, by omega⟩
  | 2, hj => exact Or.inr ⟨by omega, hj, fun _ => pw_c1_2 h1 (Option.some.inj hj)⟩
  | 3, hj => exact Or.inl ⟨rfl, (Option.some.inj (Option.some.inj hj)).symm⟩
  | j + 4, hj => exact Or.inr ⟨by omega, hj, by omega⟩
theorem pw_iinc_4 {v0 v1 v2 v3 : Option Value} {t : List (Option Value)} {n : Int} {x y : Int32} (d : decode (mB M) pc = .ok (.iinc 4 n, 3)) (hy : Int32.ofInt n = y) (hn : 4 < mL M) (k : PW X M b1 b2 (pc + 3) (v0 :: v1 :: v2 :: v3 :: some (.int (x + y)) :: t) st σ μ Q) (h1 : pw_c1 v3 = v3 := by rfl) : PW X M b1 b2 pc (v0 :: v1 :: v2 :: v3 :: some (.int x) :: t) st σ μ Q := by
  subst hy
  refine pw_iinc_g (ls' := v0 :: v1 :: v2 :: v3 :: some (.int (x + Int32.ofInt n)) :: t) d rfl hn ?_ k
  intro j w hj
  match j, hj with
  | 0, hj => exact Or.inr ⟨by omega, hj, by omega⟩
  | 1, hj => exact Or.inr ⟨by omega, hj, by omega⟩
  | 2, hj => exact Or.inr ⟨by omega, hj, by omega⟩
  | 3, hj => exact Or.inr ⟨by omega, hj, fun _ => pw_c1_2 h1 (Option.some.inj hj)⟩
  | 4, hj => exact Or.inl ⟨rfl, (Option.some.inj (Option.some.inj hj)).symm⟩
  | j + 5, hj => exact Or.inr ⟨by omega, hj, by omega⟩
theorem pw_iinc_5 {v0 v1 v2 v3 v4 : Option Value} {t : List (Option Value)} {n : Int} {x y : Int32} (d : decode (mB M) pc = .ok (.iinc 5 n, 3)) (hy : Int32.ofInt n = y) (hn : 5 < mL M) (k : PW X M b1 b2 (pc + 3) (v0 :: v1 :: v2 :: v3 :: v4 :: some (.int (x + y)) :: t) st σ μ Q) (h1 : pw_c1 v4 = v4 := by rfl) : PW X M b1 b2 pc (v0 :: v1 :: v2 :: v3 :: v4 :: some (.int x) :: t) st σ μ Q := by
  subst hy
  refine pw_iinc_g (ls' := v0 :: v1 :: v2 :: v3 :: v4 :: some (.int (x + Int32.ofInt n)) :: t) d rfl hn ?_ k
  intro j w hj
  match j, hj with
  | 0, hj => exact Or.inr ⟨by omega, hj, by omega⟩
  | 1, hj => exact Or.inr ⟨by omega, hj, by omega⟩
  | 2, hj => exact Or.inr ⟨by omega, hj, by omega⟩
  | 3, hj => exact Or.inr ⟨by omega, hj, by omega⟩
  | 4, hj => exact Or.inr ⟨by omega, hj, fun _ => pw_c1_2 h1 (Option.some.inj hj)⟩
  | 5, hj => exact Or.inl ⟨rfl, (Option.some.inj (Option.some.inj hj)).symm⟩
  | j + 6, hj => exact Or.inr ⟨by omega, hj, by omega⟩
theorem pw_iinc_6 {v0 v1 v2 v3 v4 v5 : Option Value} {t : List (Option Value)} {n : Int} {x y : Int32} (d : decode (mB M) pc = .ok (.iinc 6 n, 3)) (hy : Int32.ofInt n = y) (hn : 6 < mL M) (k : PW X M b1 b2 (pc + 3) (v0 :: v1 :: v2 :: v3 :: v4 :: v5 :: some (.int (x + y)) :: t) st σ μ Q) (h1 : pw_c1 v5 = v5 := by rfl) : PW X M b1 b2 pc (v0 :: v1 :: v2 :: v3 :: v4 :: v5 :: some (.int x) :: t) st σ μ Q := by
  subst hy
  refine pw_iinc_g (ls' := v0 :: v1 :: v2 :: v3 :: v4 :: v5 :: some (.int (x + Int32.ofInt n)) :: t) d rfl hn ?_ k
  intro j w hj
  match j, hj with
  | 0, hj => exact Or.inr ⟨by omega, hj, by omega⟩
  | 1, hj => exact Or.inr ⟨by omega, hj, by omega⟩
  | 2, hj => exact Or.inr ⟨by omega, hj, by omega⟩
  | 3, hj => exact Or.inr ⟨by omega, hj, by omega⟩
  | 4, hj => exact Or.inr ⟨by omega, hj, by omega⟩
  | 5, hj => exact Or.inr ⟨by omega, hj, fun _ => pw_c1_2 h1 (Option.some.inj hj)⟩
  | 6, hj => exact Or.inl ⟨rfl, (Option.some.inj (Option.some.inj hj)).symm⟩
  | j + 7, hj => exact Or.inr ⟨by omega, hj, by omega⟩
theorem pw_iinc_7 {v0 v1 v2 v3 v4 v5 v6 : Option Value} {t : List (Option Value)} {n : Int} {x y : Int32} (d : decode (mB M) pc = .ok (.iinc 7 n, 3)) (hy : Int32.ofInt n = y) (hn : 7 < mL M) (k : PW X M b1 b2 (pc + 3) (v0 :: v1 :: v2 :: v3 :: v4 :: v5 :: v6 :: some (.int (x + y)) :: t) st σ μ Q) (h1 : pw_c1 v6 = v6 := by rfl) : PW X M b1 b2 pc (v0 :: v1 :: v2 :: v3 :: v4 :: v5 :: v6 :: some (.int x) :: t) st σ μ Q := by
  subst hy
  refine pw_iinc_g (ls' := v0 :: v1 :: v2 :: v3 :: v4 :: v5 :: v6 :: some (.int (x + Int32.ofInt n)) :: t) d rfl hn ?_ k
  intro j w hj
  match j, hj with
  | 0, hj => exact Or.inr ⟨by omega, hj, by omega⟩
  | 1, hj => exact Or.inr ⟨by omega, hj, by omega⟩
  | 2, hj => exact Or.inr ⟨by omega, hj, by omega⟩
  | 3, hj => exact Or.inr ⟨by omega, hj, by omega⟩
  | 4, hj => exact Or.inr ⟨by omega, hj, by omega⟩
  | 5, hj => exact Or.inr ⟨by omega, hj, by omega⟩
  | 6, hj => exact Or.inr ⟨by omega, hj, fun _ => pw_c1_2 h1 (Option.some.inj hj)⟩
  | 7, hj => exact Or.inl ⟨rfl, (Option.some.inj (Option.some.inj hj)).symm⟩
  | j + 8, hj => exact Or.inr ⟨by omega, hj, by omega⟩
theorem pw_iinc_8 {v0 v1 v2 v3 v4 v5 v6 v7 : Option Value} {t : List (Option Value)} {n : Int} {x y : Int32} (d : decode (mB M) pc = .ok (.iinc 8 n, 3)) (hy : Int32.ofInt n = y) (hn : 8 < mL M) (k : PW X M b1 b2 (pc + 3) (v0 :: v1 :: v2 :: v3 :: v4 :: v5 :: v6 :: v7 :: some (.int (x + y)) :: t) st σ μ Q) (h1 : pw_c1 v7 = v7 := by rfl) : PW X M b1 b2 pc (v0 :: v1 :: v2 :: v3 :: v4 :: v5 :: v6 :: v7 :: some (.int x) :: t) st σ μ Q := by
  subst hy
  refine pw_iinc_g (ls' := v0 :: v1 :: v2 :: v3 :: v4 :: v5 :: v6 :: v7 :: some (.int (x + Int32.ofInt n)) :: t) d rfl hn ?_ k
  intro j w hj
  match j, hj with
  | 0, hj => exact Or.inr ⟨by omega, hj, by omega⟩
  | 1, hj => exact Or.inr ⟨by omega, hj, by omega⟩
  | 2, hj => exact Or.inr ⟨by omega, hj, by omega⟩
  | 3, hj => exact Or.inr ⟨by omega, hj, by omega⟩
  | 4, hj => exact Or.inr ⟨by omega, hj, by omega⟩
  | 5, hj => exact Or.inr ⟨by omega, hj, by omega⟩
  | 6, hj => exact Or.inr ⟨by omega, hj, by omega⟩
  | 7, hj => exact Or.inr ⟨by omega, hj, fun _ => pw_c1_2 h1 (Option.some.inj hj)⟩
  | 8, hj => exact Or.inl ⟨rfl, (Option.some.inj (Option.some.inj hj)).symm⟩
  | j + 9, hj => exact Or.inr ⟨by omega, hj, by omega⟩
theorem pw_iinc_9 {v0 v1 v2 v3 v4 v5 v6 v7 v8 : Option Value} {t : List (Option Value)} {n : Int} {x y : Int32} (d : decode (mB M) pc = .ok (.iinc 9 n, 3)) (hy : Int32.ofInt n = y) (hn : 9 < mL M) (k : PW X M b1 b2 (pc + 3) (v0 :: v1 :: v2 :: v3 :: v4 :: v5 :: v6 :: v7 :: v8 :: some (.int (x + y)) :: t) st σ μ Q) (h1 : pw_c1 v8 = v8 := by rfl) : PW X M b1 b2 pc (v0 :: v1 :: v2 :: v3 :: v4 :: v5 :: v6 :: v7 :: v8 :: some (.int x) :: t) st σ μ Q := by
  subst hy
  refine pw_iinc_g (ls' := v0 :: v1 :: v2 :: v3 :: v4 :: v5 :: v6 :: v7 :: v8 :: some (.int (x + Int32.ofInt n)) :: t) d rfl hn ?_ k
  intro j w hj
  match j, hj with
  | 0, hj => exact Or.inr ⟨by omega, hj, by omega⟩
  | 1, hj => exact Or.inr ⟨by omega, hj, by omega⟩
  | 2, hj => exact Or.inr ⟨by omega, hj, by omega⟩
  | 3, hj => exact Or.inr ⟨by omega, hj, by omega⟩
  | 4, hj => exact Or.inr ⟨by omega, hj, by omega⟩
  | 5, hj => exact Or.inr ⟨by omega, hj, by omega⟩
  | 6, hj => exact Or.inr ⟨by omega, hj, by omega⟩
  | 7, hj => exact Or.inr ⟨by omega, hj, by omega⟩
  | 8, hj => exact Or.inr ⟨by omega, hj, fun _ => pw_c1_2 h1 (Option.some.inj hj)⟩
  | 9, hj => exact Or.inl ⟨rfl, (Option.some.inj (Option.some.inj hj)).symm⟩
  | j + 10, hj => exact Or.inr ⟨by omega, hj, by omega⟩
theorem pw_if_eq {x : Int32} {off : Int} (tgt : Nat) (d : decode (mB M) pc = .ok (.ifCond .eq off, 3)) (ht : (pc : Int) + off = (tgt : Int)) (kt : x = 0 → PW X M b1 b2 tgt ls st σ μ Q) (kf : ¬ x = 0 → PW X M b1 b2 (pc + 3) ls st σ μ Q) : PW X M b1 b2 pc ls (.int x :: st) σ μ Q :=
  fun p e R s m args below meth c H locs cells slots ar Z B S P F L c1 c2 K => lv_if_eq B.1 B.2.1 d ht (fun h => kt h p e R s m args below meth c H locs cells slots ar Z B S P F L c1 c2 K) (fun h => kf h p e R s m args below meth c H locs cells slots ar Z B S P F L c1 c2 K)
theorem pw_if_ne {x : Int32} {off : Int} (tgt : Nat) (d : decode (mB M) pc = .ok (.ifCond .ne off, 3)) (ht : (pc : Int) + off = (tgt : Int)) (kt : x ≠ 0 → PW X M b1 b2 tgt ls st σ μ Q) (kf : x = 0 → PW X M b1 b2 (pc + 3) ls st σ μ Q) : PW X M b1 b2 pc ls (.int x :: st) σ μ Q :=
  fun p e R s m args below meth c H locs cells slots ar Z B S P F L c1 c2 K => lv_if_ne B.1 B.2.1 d ht (fun h => kt h p e R s m args below meth c H locs cells slots ar Z B S P F L c1 c2 K) (fun h => kf h p e R s m args below meth c H locs cells slots ar Z B S P F L c1 c2 K)
theorem pw_if_lt {x : Int32} {off : Int} (tgt : Nat) (d : decode (mB M) pc = .ok (.ifCond .lt off, 3)) (ht : (pc : Int) + off = (tgt : Int)) (kt : x < 0 → PW X M b1 b2 tgt ls st σ μ Q) (kf : ¬ x < 0 → PW X M b1 b2 (pc + 3) ls st σ μ Q) : PW X M b1 b2 pc ls (.int x :: st) σ μ Q :=
  fun p e R s m args below meth c H locs cells slots ar Z B S P F L c1 c2 K => lv_if_lt B.1 B.2.1 d ht (fun h => kt h p e R s m args below meth c H locs cells slots ar Z B S P F L c1 c2 K) (fun h => kf h p e R s m args below meth c H locs cells slots ar Z B S P F L c1 c2 K)
theorem pw_if_ge {x : Int32} {off : Int} (tgt : Nat) (d : decode (mB M) pc = .ok (.ifCond .ge off, 3)) (ht : (pc : Int) + off = (tgt : Int)) (kt : 0 ≤ x → PW X M b1 b2 tgt ls st σ μ Q) (kf : ¬ 0 ≤ x → PW X M b1 b2 (pc + 3) ls st σ μ Q) : PW X M b1 b2 pc ls (.int x :: st) σ μ Q :=
  fun p e R s m args below meth c H locs cells slots ar Z B S P F L c1 c2 K => lv_if_ge B.1 B.2.1 d ht (fun h => kt h p e R s m args below meth c H locs cells slots ar Z B S P F L c1 c2 K) (fun h => kf h p e R s m args below meth c H locs cells slots ar Z B S P F L c1 c2 K)
theorem pw_if_gt {x : Int32} {off : Int} (tgt : Nat) (d : decode (mB M) pc = .ok (.ifCond .gt off, 3)) (ht : (pc : Int) + off = (tgt : Int)) (kt : 0 < x → PW X M b1 b2 tgt ls st σ μ Q) (kf : ¬ 0 < x → PW X M b1 b2 (pc + 3) ls st σ μ Q) : PW X M b1 b2 pc ls (.int x :: st) σ μ Q :=
  fun p e R s m args below meth c H locs cells slots ar Z B S P F L c1 c2 K => lv_if_gt B.1 B.2.1 d ht (fun h => kt h p e R s m args below meth c H locs cells slots ar Z B S P F L c1 c2 K) (fun h => kf h p e R s m args below meth c H locs cells slots ar Z B S P F L c1 c2 K)
theorem pw_if_le {x : Int32} {off : Int} (tgt : Nat) (d : decode (mB M) pc = .ok (.ifCond .le off, 3)) (ht : (pc : Int) + off = (tgt : Int)) (kt : x ≤ 0 → PW X M b1 b2 tgt ls st σ μ Q) (kf : ¬ x ≤ 0 → PW X M b1 b2 (pc + 3) ls st σ μ Q) : PW X M b1 b2 pc ls (.int x :: st) σ μ Q :=
  fun p e R s m args below meth c H locs cells slots ar Z B S P F L c1 c2 K => lv_if_le B.1 B.2.1 d ht (fun h => kt h p e R s m args below meth c H locs cells slots ar Z B S P F L c1 c2 K) (fun h => kf h p e R s m args below meth c H locs cells slots ar Z B S P F L c1 c2 K)
theorem pw_icmp_eq {x y : Int32} {off : Int} (tgt : Nat) (d : decode (mB M) pc = .ok (.if_icmp .eq off, 3)) (ht : (pc : Int) + off = (tgt : Int)) (kt : x = y → PW X M b1 b2 tgt ls st σ μ Q) (kf : ¬ x = y → PW X M b1 b2 (pc + 3) ls st σ μ Q) : PW X M b1 b2 pc ls (.int y :: .int x :: st) σ μ Q :=
  fun p e R s m args below meth c H locs cells slots ar Z B S P F L c1 c2 K => lv_icmp_eq B.1 B.2.1 d ht (fun h => kt h p e R s m args below meth c H locs cells slots ar Z B S P F L c1 c2 K) (fun h => kf h p e R s m args below meth c H locs cells slots ar Z B S P F L c1 c2 K)
theorem pw_icmp_ne {x y : Int32} {off : Int} (tgt : Nat) (d : decode (mB M) pc = .ok (.if_icmp .ne off, 3)) (ht : (pc : Int) + off = (tgt : Int)) (kt : x ≠ y → PW X M b1 b2 tgt ls st σ μ Q) (kf : x = y → PW X M b1 b2 (pc + 3) ls st σ μ Q) : PW X M b1 b2 pc ls (.int y :: .int x :: st) σ μ Q :=
  fun p e R s m args below meth c H locs cells slots ar Z B S P F L c1 c2 K => lv_icmp_ne B.1 B.2.1 d ht (fun h => kt h p e R s m args below meth c H locs cells slots ar Z B S P F L c1 c2 K) (fun h => kf h p e R s m args below meth c H locs cells slots ar Z B S P F L c1 c2 K)
theorem pw_icmp_lt {x y : Int32} {off : Int} (tgt : Nat) (d : decode (mB M) pc = .ok (.if_icmp .lt off, 3)) (ht : (pc : Int) + off = (tgt : Int)) (kt : x < y → PW X M b1 b2 tgt ls st σ μ Q) (kf : ¬ x < y → PW X M b1 b2 (pc + 3) ls st σ μ Q) : PW X M b1 b2 pc ls (.int y :: .int x :: st) σ μ Q :=
  fun p e R s m args below meth c H locs cells slots ar Z B S P F L c1 c2 K => lv_icmp_lt B.1 B.2.1 d ht (fun h => kt h p e R s m args below meth c H locs cells slots ar Z B S P F L c1 c2 K) (fun h => kf h p e R s m args below meth c H locs cells slots ar Z B S P F L c1 c2 K)
theorem pw_icmp_ge {x y : Int32} {off : Int} (tgt : Nat) (d : decode (mB M) pc = .ok (.if_icmp .ge off, 3)) (ht : (pc : Int) + off = (tgt : Int)) (kt : y ≤ x → PW X M b1 b2 tgt ls st σ μ Q) (kf : ¬ y ≤ x → PW X M b1 b2 (pc + 3) ls st σ μ Q) : PW X M b1 b2 pc ls (.int y :: .int x :: st) σ μ Q :=
  fun p e R s m args below meth c H locs cells slots ar Z B S P F L c1 c2 K => lv_icmp_ge B.1 B.2.1 d ht (fun h => kt h p e R s m args below meth c H locs cells slots ar Z B S P F L c1 c2 K) (fun h => kf h p e R s m args below meth c H locs cells slots ar Z B S P F L c1 c2 K)
theorem pw_icmp_gt {x y : Int32} {off : Int} (tgt : Nat) (d : decode (mB M) pc = .ok (.if_icmp .gt off, 3)) (ht : (pc : Int) + off = (tgt : Int)) (kt : y < x → PW X M b1 b2 tgt ls st σ μ Q) (kf : ¬ y < x → PW X M b1 b2 (pc + 3) ls st σ μ Q) : PW X M b1 b2 pc ls (.int y :: .int x :: st) σ μ Q :=
  fun p e R s m args below meth c H locs cells slots ar Z B S P F L c1 c2 K => lv_icmp_gt B.1 B.2.1 d ht (fun h => kt h p e R s m args below meth c H locs cells slots ar Z B S P F L c1 c2 K) (fun h => kf h p e R s m args below meth c H locs cells slots ar Z B S P F L c1 c2 K)
theorem pw_icmp_le {x y : Int32} {off : Int} (tgt : Nat) (d : decode (mB M) pc = .ok (.if_icmp .le off, 3)) (ht : (pc : Int) + off = (tgt : Int)) (kt : x ≤ y → PW X M b1 b2 tgt ls st σ μ Q) (kf : ¬ x ≤ y → PW X M b1 b2 (pc + 3) ls st σ μ Q) : PW X M b1 b2 pc ls (.int y :: .int x :: st) σ μ Q :=
  fun p e R s m args below meth c H locs cells slots ar Z B S P F L c1 c2 K => lv_icmp_le B.1 B.2.1 d ht (fun h => kt h p e R s m args below meth c H locs cells slots ar Z B S P F L c1 c2 K) (fun h => kf h p e R s m args below meth c H locs cells slots ar Z B S P F L c1 c2 K)
theorem pw_goto {off : Int} (tgt : Nat) (d : decode (mB M) pc = .ok (.goto off, 3)) (ht : (pc : Int) + off = (tgt : Int)) (k : PW X M b1 b2 tgt ls st σ μ Q) : PW X M b1 b2 pc ls st σ μ Q :=
  fun p e R s m args below meth c H locs cells slots ar Z B S P F L c1 c2 K => lv_goto B.1 B.2.1 d ht (k p e R s m args below meth c H locs cells slots ar Z B S P F L c1 c2 K)
theorem pw_tabIn {dflt lo hi : Int} {offs : Array Int} {len : Nat} {x : Int32} {off : Int} (tgt : Nat) (d : decode (mB M) pc = .ok (.tableswitch dflt lo hi offs, len)) (h1 : ¬ x.toInt < lo) (h2 : ¬ hi < x.toInt) (ho : offs[(x.toInt - lo).toNat]? = some off) (ht : (pc : Int) + off = (tgt : Int)) (k : PW X M b1 b2 tgt ls st σ μ Q) : PW X M b1 b2 pc ls (.int x :: st) σ μ Q :=
  fun p e R s m args below meth c H locs cells slots ar Z B S P F L c1 c2 K => lv_tableIn B.1 B.2.1 d h1 h2 ho ht (k p e R s m args below meth c H locs cells slots ar Z B S P F L c1 c2 K)
theorem pw_tabOut {dflt lo hi : Int} {offs : Array Int} {len : Nat} {x : Int32} (tgt : Nat) (d : decode (mB M) pc = .ok (.tableswitch dflt lo hi offs, len)) (h : x.toInt < lo ∨ hi < x.toInt) (ht : (pc : Int) + dflt = (tgt : Int)) (k : PW X M b1 b2 tgt ls st σ μ Q) : PW X M b1 b2 pc ls (.int x :: st) σ μ Q :=
  fun p e R s m args below meth c H locs cells slots ar Z B S P F L c1 c2 K => lv_tableOut B.1 B.2.1 d h ht (k p e R s m args below meth c H locs cells slots ar Z B S P F L c1 c2 K)
theorem pw_lookup {dflt : Int} {ps : Array (Int × Int)} {len : Nat} {x : Int32} {off : Int} (tgt : Nat) (d : decode (mB M) pc = .ok (.lookupswitch dflt ps, len)) (hp : (ps.toList.zip (ps.toList.drop 1)).all (fun (a, next) => a.1 < next.1) = true) (ho : Op.lookupswitch.offset ps.toList dflt x.toInt = off) (ht : (pc : Int) + off = (tgt : Int)) (k : PW X M b1 b2 tgt ls st σ μ Q) : PW X M b1 b2 pc ls (.int x :: st) σ μ Q :=
  fun p e R s m args below meth c H locs cells slots ar Z B S P F L c1 c2 K => lv_lookup B.1 B.2.1 d hp ho ht (k p e R s m args below meth c H locs cells slots ar Z B S P F L c1 c2 K)
theorem pw_nonnull {x : Nat} {off : Int} (tgt : Nat) (d : decode (mB M) pc = .ok (.ifnonnull off, 3)) (ht : (pc : Int) + off = (tgt : Int)) (k : PW X M b1 b2 tgt ls st σ μ Q) : PW X M b1 b2 pc ls (.ref x :: st) σ μ Q :=
  fun p e R s m args below meth c H locs cells slots ar Z B S P F L c1 c2 K => lv_ifnonnull B.1 B.2.1 d ht (k p e R s m args below meth c H locs cells slots ar Z B S P F L c1 c2 K)
theorem pw_nonnullN {off : Int} (d : decode (mB M) pc = .ok (.ifnonnull off, 3)) (k : PW X M b1 b2 (pc + 3) ls st σ μ Q) : PW X M b1 b2 pc ls (.null :: st) σ μ Q :=
  fun p e R s m args below meth c H locs cells slots ar Z B S P F L c1 c2 K => lv_ifnonnullN B.1 B.2.1 d (k p e R s m args below meth c H locs cells slots ar Z B S P F L c1 c2 K)
theorem pw_ifnull {x : Nat} {off : Int} (d : decode (mB M) pc = .ok (.ifnull off, 3)) (k : PW X M b1 b2 (pc + 3) ls st σ μ Q) : PW X M b1 b2 pc ls (.ref x :: st) σ μ Q :=
  fun p e R s m args below meth c H locs cells slots ar Z B S P F L c1 c2 K => lv_ifnull B.1 B.2.1 d (k p e R s m args below meth c H locs cells slots ar Z B S P F L c1 c2 K)
theorem pw_ifnullN {off : Int} (tgt : Nat) (d : decode (mB M) pc = .ok (.ifnull off, 3)) (ht : (pc : Int) + off = (tgt : Int)) (k : PW X M b1 b2 tgt ls st σ μ Q) : PW X M b1 b2 pc ls (.null :: st) σ μ Q :=
  fun p e R s m args below meth c H locs cells slots ar Z B S P F L c1 c2 K => lv_ifnullN B.1 B.2.1 d ht (k p e R s m args below meth c H locs cells slots ar Z B S P F L c1 c2 K)
theorem pw_ldc {i : Nat} {v : Int32} (d : decode (mB M) pc = .ok (.ldc i, 2)) (h : Cond.constant (mY M).cls i v ∈ pw_Tb) (k : PW X M b1 b2 (pc + 2) ls (.int v :: st) σ μ Q) : PW X M b1 b2 pc ls st σ μ Q :=
  fun p e R s m args below meth c H locs cells slots ar Z B S P F L c1 c2 K => lv_ldc B.1 B.2.1 B.2.2.2.2.1 (B.2.2.2.2.2.1 _ h) d (k p e R s m args below meth c H locs cells slots ar Z B S P F L c1 c2 K)
theorem pw_ldcw {i : Nat} {v : Int32} (d : decode (mB M) pc = .ok (.ldc_w i, 3)) (h : Cond.constant (mY M).cls i v ∈ pw_Tb) (k : PW X M b1 b2 (pc + 3) ls (.int v :: st) σ μ Q) : PW X M b1 b2 pc ls st σ μ Q :=
  fun p e R s m args below meth c H locs cells slots ar Z B S P F L c1 c2 K => lv_ldcw B.1 B.2.1 B.2.2.2.2.1 (B.2.2.2.2.2.1 _ h) d (k p e R s m args below meth c H locs cells slots ar Z B S P F L c1 c2 K)
theorem pw_ldc2 {i : Nat} {v : Int64} (d : decode (mB M) pc = .ok (.ldc2_w i, 3)) (h : Cond.constantLong (mY M).cls i v ∈ pw_Tb) (k : PW X M b1 b2 (pc + 3) ls (.long v :: st) σ μ Q) : PW X M b1 b2 pc ls st σ μ Q :=
  fun p e R s m args below meth c H locs cells slots ar Z B S P F L c1 c2 K => lv_ldc2 B.1 B.2.1 B.2.2.2.2.1 (B.2.2.2.2.2.1 _ h) d (k p e R s m args below meth c H locs cells slots ar Z B S P F L c1 c2 K)
/-- the ends -/
theorem pw_ireturn {x : Int32} {Qi : Int32 → Sp → Mm → Prop} (d : decode (mB M) pc = .ok (.ireturn, 1)) (hr : mRet M = some .int) (hQ : Qi x σ μ) : PW X M b1 b2 pc ls [.int x] σ μ (LI Qi) :=
  fun p e R s m args below meth c H locs cells slots ar Z B S P F L c1 c2 K => K H locs cells slots ar pc (some (.int x)) σ μ ⟨x, rfl, hQ⟩ (Or.inr (Or.inl ⟨x, .int, rfl, hr, rfl, d⟩)) P F (by omega) (by omega)
theorem pw_zreturn {x : Int32} {Qi : Int32 → Sp → Mm → Prop} (d : decode (mB M) pc = .ok (.ireturn, 1)) (hr : mRet M = some .boolean) (hx : x = 0 ∨ x = 1) (hQ : Qi x σ μ) : PW X M b1 b2 pc ls [.int x] σ μ (LI Qi) :=
  fun p e R s m args below meth c H locs cells slots ar Z B S P F L c1 c2 K => K H locs cells slots ar pc (some (.int x)) σ μ ⟨x, rfl, hQ⟩ (Or.inr (Or.inl ⟨x, .boolean, rfl, hr, by rcases hx with rfl | rfl <;> rfl, d⟩)) P F (by omega) (by omega)
theorem pw_return {Qv : Sp → Mm → Prop} (d : decode (mB M) pc = .ok (.return_, 1)) (hr : mRet M = none) (hQ : Qv σ μ) : PW X M b1 b2 pc ls [] σ μ (LV Qv) :=
  fun p e R s m args below meth c H locs cells slots ar Z B S P F L c1 c2 K => K H locs cells slots ar pc none σ μ ⟨rfl, hQ⟩ (Or.inl ⟨rfl, hr, d⟩) P F (by omega) (by omega)
theorem pw_areturn {a : Nat} {C : String} {Qr : Option Nat → Sp → Mm → Prop} (d : decode (mB M) pc = .ok (.areturn, 1)) (hr : mRet M = some (.object C)) (hQ : Qr (some a) σ μ) : PW X M b1 b2 pc ls [.ref a] σ μ (LR Qr) :=
  fun p e R s m args below meth c H locs cells slots ar Z B S P F L c1 c2 K => K H locs cells slots ar pc (some (.ref a)) σ μ ⟨some a, rfl, hQ⟩ (Or.inr (Or.inr ⟨.ref a, C, rfl, Or.inr ⟨a, rfl⟩, hr, d⟩)) P F (by omega) (by omega)
theorem pw_areturnN {C : String} {Qr : Option Nat → Sp → Mm → Prop} (d : decode (mB M) pc = .ok (.areturn, 1)) (hr : mRet M = some (.object C)) (hQ : Qr none σ μ) : PW X M b1 b2 pc ls [.null] σ μ (LR Qr) :=
  fun p e R s m args below meth c H locs cells slots ar Z B S P F L c1 c2 K => K H locs cells slots ar pc (some .null) σ μ ⟨none, rfl, hQ⟩ (Or.inr (Or.inr ⟨.null, C, rfl, Or.inl rfl, hr, d⟩)) P F (by omega) (by omega)
end PWR
end
section
/-! The walk over the pure memory: fields, rows of numbers, calls, makings -/
theorem pw_bo_wr {σ : Sp} {μ : Mm} {a k : Nat} {x : Int32} (h : pw_bo σ μ) (hk : tg σ a = 7 → (k = 5 ∨ k = 6) → x = 0 ∨ x = 1) : pw_bo σ (wr μ a k x) := by
  intro b hb
  obtain ⟨h1, h2⟩ := h b hb
  by_cases hba : b = a
  · subst hba
    simp only [wr, upd, if_true]
    refine ⟨?_, ?_⟩
    · by_cases h5 : 5 = k
      · rw [if_pos h5]; exact hk hb (Or.inl h5.symm)
      · rw [if_neg h5]; exact h1
    · by_cases h6 : 6 = k
      · rw [if_pos h6]; exact hk hb (Or.inr h6.symm)
      · rw [if_neg h6]; exact h2
  · simp only [wr, if_neg hba]
    exact ⟨h1, h2⟩
theorem pw_bo_wC {σ : Sp} {μ : Mm} {a : Nat} {f : Nat → Int32} (h : pw_bo σ μ) (hk : tg σ a ≠ 7) : pw_bo σ (wC μ a f) := by
  intro b hb
  by_cases hba : b = a
  · subst hba
    exact absurd hb hk
  · simp only [wC, if_neg hba]
    exact h b hb
/-- an own cell changed, the kinds stay -/
theorem HP.upd {X : Cx} {σ σ' : Sp} {μ μ' : Mm} {H H1 : Heap} {a : Nat} {e : va_E} (h : HP X σ μ H) (ha : tg σ a ≠ 0) (ht : tg σ' = tg σ) (hn : nn σ' = nn σ) (hP : va_P (cxD X) vwCl ((pw_ws X σ μ).set (a - cxB X) (a, e)) H1) (hz : H1.size = H.size) (he : pw_ce X σ' μ' a = e) (ho : ∀ b, b ≠ a → pw_ce X σ' μ' b = pw_ce X σ μ b) (hb : pw_bo σ' μ') : HP X σ' μ' H1 := by
  obtain ⟨h1, h2⟩ := h.2.2.1 a ha
  rw [pw_ws_set h1 h2 hn he ho] at hP
  exact ⟨hP, by rw [hz, hn]; exact h.2.1, by rw [ht, hn]; exact h.2.2.1, hb⟩
theorem HP.at {X : Cx} {σ : Sp} {μ : Mm} {H : Heap} {a : Nat} (h : HP X σ μ H) (ha : tg σ a ≠ 0) : (pw_ws X σ μ)[a - cxB X]? = some (a, pw_ce X σ μ a) := pw_ws_at (h.2.2.1 a ha).1 (h.2.2.1 a ha).2
theorem pw_hin : ∀ c, c < 9 → ∀ w ∈ u_ws (pw_R c) (pw_T c) (pw_N c), w ∈ pw_Tb := by
  refine pw_nine ?_ ?_ ?_ ?_ ?_ ?_ ?_ ?_ ?_ <;> exact fun w h => List.mem_filter.mpr ⟨List.mem_append_right _ (List.all_eq_true.mp (show List.all _ (fun w => decide (w ∈ tables_1)) = true by decide +kernel) w h |> of_decide_eq_true), List.all_eq_true.mp (show List.all _ goodWord = true by decide +kernel) w h⟩
section PWH
variable {X : Cx} {M : Mt} {b1 b2 pc : Nat} {ls : List (Option Value)} {st : List Value} {σ : Sp} {μ : Mm} {Q : Option Value → Sp → Mm → Prop}
theorem pw_getI {a i : Nat} (c k : Nat) (d : decode (mB M) pc = .ok (.getfield i, 3)) (hw : Cond.fieldLink (mY M).cls i (pw_R c) (pw_T c k).2.1 (pw_T c k).2.2.1 ∈ pw_Tb) (hr : (pw_T c k).1 = pw_R c) (hc : c < 9) (hf : (pw_fl c)[k]? = some false) (ht : tg σ a = c + 1) (kk : PW X M b1 b2 (pc + 3) ls (.int (μ a k) :: st) σ μ Q) : PW X M b1 b2 pc ls (.ref a :: st) σ μ Q := by
  intro p e R s m args below meth cd H locs cells slots ar Z B S P F L c1 c2 K
  refine va_get B.1 B.2.1 B.2.2.2.2.2.1 (pw_hin c hc) B.2.2.2.2.1 S.1 P.1 (a - cxB X) (fs := pw_fv c (rf σ a) (μ a)) (by rw [P.at (by omega), pw_ce_o ht hc]) (pw_cl c hc) k (by rw [← pw_flN c hc]; exact (List.getElem?_eq_some_iff.mp hf).1) (B.2.2.2.2.2.1 _ hw) (fun x h => by rw [← hr]; exact h) (pw_fv_I hf _ _) d (kk p e R s m args below meth cd H locs cells slots ar Z B S P F L c1 c2 K)
theorem pw_getR {a i : Nat} (c k : Nat) {o : Option Nat} (d : decode (mB M) pc = .ok (.getfield i, 3)) (hw : Cond.fieldLink (mY M).cls i (pw_R c) (pw_T c k).2.1 (pw_T c k).2.2.1 ∈ pw_Tb) (hr : (pw_T c k).1 = pw_R c) (hc : c < 9) (hf : (pw_fl c)[k]? = some true) (ht : tg σ a = c + 1) (ho : rf σ a k = o) (kk : PW X M b1 b2 (pc + 3) ls (va_rf o :: st) σ μ Q) : PW X M b1 b2 pc ls (.ref a :: st) σ μ Q := by
  intro p e R s m args below meth cd H locs cells slots ar Z B S P F L c1 c2 K
  subst ho
  refine va_get B.1 B.2.1 B.2.2.2.2.2.1 (pw_hin c hc) B.2.2.2.2.1 S.1 P.1 (a - cxB X) (fs := pw_fv c (rf σ a) (μ a)) (by rw [P.at (by omega), pw_ce_o ht hc]) (pw_cl c hc) k (by rw [← pw_flN c hc]; exact (List.getElem?_eq_some_iff.mp hf).1) (B.2.2.2.2.2.1 _ hw) (fun x h => by rw [← hr]; exact h) (pw_fv_R hf _ _) d (kk p e R s m args below meth cd H locs cells slots ar Z B S P F L c1 c2 K)
theorem pw_getr {a i q : Nat} (c k : Nat) (d : decode (mB M) pc = .ok (.getfield i, 3)) (hw : Cond.fieldLink (mY M).cls i (pw_R c) (pw_T c k).2.1 (pw_T c k).2.2.1 ∈ pw_Tb) (hr : (pw_T c k).1 = pw_R c) (hc : c < 9) (hf : (pw_fl c)[k]? = some true) (ht : tg σ a = c + 1) (ho : rf σ a k = some q) (kk : PW X M b1 b2 (pc + 3) ls (.ref q :: st) σ μ Q) : PW X M b1 b2 pc ls (.ref a :: st) σ μ Q := pw_getR c k d hw hr hc hf ht ho kk
theorem pw_size {X : Cx} {σ : Sp} {μ : Mm} {H H1 : Heap} (h : HP X σ μ H) : True := trivial
theorem pw_putG {a i : Nat} (c k : Nat) {v : Value} {ty : FieldType} {σ' : Sp} {μ' : Mm} (d : decode (mB M) pc = .ok (.putfield i, 3)) (hw : Cond.fieldLink (mY M).cls i (pw_R c) (pw_T c k).2.1 (pw_T c k).2.2.1 ∈ pw_Tb) (hr : (pw_T c k).1 = pw_R c) (hc : c < 9) (hk : k < pw_N c)
    (hfin : (pw_T c k).2.2.2 = false ∨ ((pw_T c k).2.2.2 = true ∧ (mY M).name = "<init>" ∧ (mY M).cls = pw_R c)) (hty : pw_ty c k = ty) (hn : narrow ty v = v) (hfit : fits ty v = true) (ht : tg σ a = c + 1)
    (h1 : tg σ' = tg σ) (h2 : nn σ' = nn σ) (h3 : (pw_fv c (rf σ a) (μ a)).set k v = pw_fv c (rf σ' a) (μ' a)) (h4 : ∀ b, b ≠ a → pw_ce X σ' μ' b = pw_ce X σ μ b) (h5 : pw_bo σ μ → pw_bo σ' μ') (kk : PW X M b1 b2 (pc + 3) ls st σ' μ' Q) : PW X M b1 b2 pc ls (v :: .ref a :: st) σ μ Q := by
  intro p e R s m args below meth cd H locs cells slots ar Z B S P F L c1 c2 K
  have he : (pw_ws X σ μ)[a - cxB X]? = some (a, .inr (c, pw_fv c (rf σ a) (μ a))) := by rw [P.at (by omega), pw_ce_o ht hc]
  have hcl := pw_cl c hc
  have hd : parseFieldDescriptor (pw_T c k).2.2.1 = some ty := by rw [pw_hty c hc k hk, hty]
  have hl : k < (pw_fv c (rf σ a) (μ a)).length := by rw [pw_fv_len, pw_flN c hc]; exact hk
  have hts := B.2.2.2.2.2.1
  have hown := B.2.2.2.2.1
  have hap := va_apart (own := (mY M).cls) hts (pw_hin c hc) (pw_ty c) (pw_hty c hc) (pw_hnm c hc) S.1 hcl
  obtain ⟨r, g1, cell, q1, q2, q3, q4⟩ := P.1 _ _ he
  have hrr : r = (pw_R c, pw_T c, pw_N c) := Option.some.inj (g1.symm.trans hcl)
  subst hrr
  obtain ⟨hS, hfc, kC, hkC, hkind⟩ := S.1.1 c _ hcl
  obtain ⟨cf, kf, fi, f, hi, hsl⟩ := hS k hk
  have hsame : ∀ x, s.fieldFound? (pw_T c k).1 (pw_T c k).2.1 (pw_T c k).2.2.1 = some x → s.fieldFound? (pw_R c) (pw_T c k).2.1 (pw_T c k).2.2.1 = some x := fun x h => by rw [← hr]; exact h
  have hst := (u_facts hfc hkC (u_lays hts (pw_hin c hc) hk) hi).1
  have fin : ∀ (H1 : Heap), H1[a]? = some (cell.setSlot f.slot v) → H1.size = H.size → (∀ q : Nat, q ≠ a → H1[q]? = H[q]?) → W p (cxL X) e R s m args below meth cd H1 (locs ++ [⟨a, f.slot⟩]) cells slots Z (F0 m (pc + 3) ar st) := by
    intro H1 e1 e2 e3
    rw [hsl] at e1
    refine kk p e R s m args below meth cd H1 _ cells slots ar Z B S (P.upd (by omega) h1 h2 (P.1.set (pw_D X σ μ) he (e := .inr (c, (pw_fv c (rf σ a) (μ a)).set k v)) ⟨_, hcl, t_OB.to (V := updV (vp_V (pw_fv c (rf σ a) (μ a))) k v) ⟨_, e1, q2, q3, t_set q4 hap hk v⟩ (fun j _ => vp_updV_set hl v j)⟩ e3) e2 ?_ h4 (h5 P.2.2.2)) (F.put e2 e3 (P.2.2.1 a (by omega)).1) L c1 c2 K
    rw [pw_ce_o (by rw [h1]; exact ht) hc, h3]
  rcases hfin with hfin | ⟨hfin, hinit, hcls⟩
  · have hlay := hts _ (pw_hin c hc _ (u_in_lay hk))
    unfold u_lay at hlay
    rw [if_neg (by rw [hfin]; decide)] at hlay
    have h6 := u_store hfc hkC hkind hlay hi hd hn hfit
    exact W.putK B.1 B.2.1 (f := f) ⟨hown, hts _ hw, ⟨_, _, _, hsame _ hi⟩, hst⟩ (by rw [q2]; exact h6) q1 q3 (by rw [hsl]; exact k2_hasslot (q4 k hk)) rfl rfl d fun H' e1 e2 e3 => fin H' e1 e2 e3
  · have hlay := hts _ (pw_hin c hc _ (u_in_lay hk))
    unfold u_lay at hlay
    rw [if_pos hfin] at hlay
    have hcf : m.cls = cf := by
      obtain ⟨_, _, c', _, _, _, -, -, hf', -, -, -, hown2, -⟩ := Cond.laysFinal_spec hlay
      have e1 : c' = cf := by have := hi.symm.trans hf'; simp at this; exact this.1.symm
      rw [hr, ← hcls] at hown2
      rw [← e1]; exact Option.some.inj (hown.symm.trans hown2)
    have h6 := u_fits hfc hkC hkind (Or.inr hlay) hi hd hn hfit
    exact W.putFinK B.1 B.2.1 hown (hts _ hw) (hsame _ hi) hst hcf (B.2.2.2.2.2.2.2.1 hinit) (by rw [q2]; exact h6) q1 q3 (by rw [hsl]; exact k2_hasslot (q4 k hk)) rfl rfl d fun H' e1 e2 e3 => fin H' e1 e2 e3
theorem pw_ce_wr {X : Cx} {σ : Sp} {μ : Mm} {a k : Nat} {x : Int32} : ∀ b, b ≠ a → pw_ce X σ (wr μ a k x) b = pw_ce X σ μ b := by
  intro b hb
  simp [pw_ce, wr, hb]
theorem pw_ce_wC {X : Cx} {σ : Sp} {μ : Mm} {a : Nat} {f : Nat → Int32} : ∀ b, b ≠ a → pw_ce X σ (wC μ a f) b = pw_ce X σ μ b := by
  intro b hb
  simp [pw_ce, wC, hb]
theorem pw_ce_wR {X : Cx} {σ : Sp} {μ : Mm} {a k : Nat} {v : Option Nat} : ∀ b, b ≠ a → pw_ce X (wR σ a k v) μ b = pw_ce X σ μ b := by
  intro b hb
  have h : rf (wR σ a k v) b = rf σ b := if_neg hb
  unfold pw_ce
  rw [h]
  rfl
theorem pw_putI {a i : Nat} (c k : Nat) {x : Int32} (d : decode (mB M) pc = .ok (.putfield i, 3)) (hw : Cond.fieldLink (mY M).cls i (pw_R c) (pw_T c k).2.1 (pw_T c k).2.2.1 ∈ pw_Tb) (hr : (pw_T c k).1 = pw_R c) (hc : c < 9) (hf : (pw_fl c)[k]? = some false)
    (hfin : (pw_T c k).2.2.2 = false ∨ ((pw_T c k).2.2.2 = true ∧ (mY M).name = "<init>" ∧ (mY M).cls = pw_R c)) (hty : pw_ty c k = .int) (hz : ¬ (c = 6 ∧ (k = 5 ∨ k = 6))) (ht : tg σ a = c + 1) (kk : PW X M b1 b2 (pc + 3) ls st σ (wr μ a k x) Q) : PW X M b1 b2 pc ls (.int x :: .ref a :: st) σ μ Q :=
  pw_putG c k d hw hr hc (by rw [← pw_flN c hc]; exact (List.getElem?_eq_some_iff.mp hf).1) hfin hty rfl rfl ht rfl rfl (by rw [pw_fv_setI hf]; simp [wr]) pw_ce_wr (fun h => pw_bo_wr h (fun h7 h5 => absurd ⟨by omega, h5⟩ hz)) kk
theorem pw_putZ {a i : Nat} (c k : Nat) {x : Int32} (d : decode (mB M) pc = .ok (.putfield i, 3)) (hw : Cond.fieldLink (mY M).cls i (pw_R c) (pw_T c k).2.1 (pw_T c k).2.2.1 ∈ pw_Tb) (hr : (pw_T c k).1 = pw_R c) (hc : c < 9) (hf : (pw_fl c)[k]? = some false)
    (hfin : (pw_T c k).2.2.2 = false ∨ ((pw_T c k).2.2.2 = true ∧ (mY M).name = "<init>" ∧ (mY M).cls = pw_R c)) (hty : pw_ty c k = .boolean) (hx : x = 0 ∨ x = 1) (ht : tg σ a = c + 1) (kk : PW X M b1 b2 (pc + 3) ls st σ (wr μ a k x) Q) : PW X M b1 b2 pc ls (.int x :: .ref a :: st) σ μ Q :=
  pw_putG c k d hw hr hc (by rw [← pw_flN c hc]; exact (List.getElem?_eq_some_iff.mp hf).1) hfin hty (by rcases hx with rfl | rfl <;> rfl) (by rcases hx with rfl | rfl <;> rfl) ht rfl rfl (by rw [pw_fv_setI hf]; simp [wr]) pw_ce_wr (fun h => pw_bo_wr h (fun _ _ => hx)) kk
theorem pw_putR {a i q : Nat} (c k : Nat) {ty : FieldType} (d : decode (mB M) pc = .ok (.putfield i, 3)) (hw : Cond.fieldLink (mY M).cls i (pw_R c) (pw_T c k).2.1 (pw_T c k).2.2.1 ∈ pw_Tb) (hr : (pw_T c k).1 = pw_R c) (hc : c < 9) (hf : (pw_fl c)[k]? = some true)
    (hfin : (pw_T c k).2.2.2 = false ∨ ((pw_T c k).2.2.2 = true ∧ (mY M).name = "<init>" ∧ (mY M).cls = pw_R c)) (hty : pw_ty c k = ty) (hn : narrow ty (.ref q) = .ref q) (hfit : fits ty (.ref q) = true) (ht : tg σ a = c + 1) (kk : PW X M b1 b2 (pc + 3) ls st (wR σ a k (some q)) μ Q) : PW X M b1 b2 pc ls (.ref q :: .ref a :: st) σ μ Q :=
  pw_putG c k (σ' := wR σ a k (some q)) (μ' := μ) d hw hr hc (by rw [← pw_flN c hc]; exact (List.getElem?_eq_some_iff.mp hf).1) hfin hty hn hfit ht rfl rfl (by rw [show (Value.ref q) = va_rf (some q) from rfl, pw_fv_setR hf]; simp [wR, rf]) pw_ce_wR (fun h => h) kk
theorem pw_iald {a : Nat} {i : Int32} (d : decode (mB M) pc = .ok (.iaload, 1)) (ht : tg σ a = 11) (hin : vp_in i (ln σ a)) (kk : PW X M b1 b2 (pc + 1) ls (.int (μ a i.toNatClampNeg) :: st) σ μ Q) : PW X M b1 b2 pc ls (.int i :: .ref a :: st) σ μ Q :=
  fun p e R s m args below meth cd H locs cells slots ar Z B S P F L c1 c2 K => va_iald B.1 B.2.1 S.1 P.1 (a - cxB X) 1 (by rw [P.at (by omega), pw_ce_I ht]) rfl hin d (kk p e R s m args below meth cd H locs cells slots ar Z B S P F L c1 c2 K)
theorem pw_zald {a : Nat} {i : Int32} (d : decode (mB M) pc = .ok (.baload, 1)) (ht : tg σ a = 12) (hin : vp_in i (ln σ a)) (kk : PW X M b1 b2 (pc + 1) ls (.int (μ a i.toNatClampNeg) :: st) σ μ Q) : PW X M b1 b2 pc ls (.int i :: .ref a :: st) σ μ Q :=
  fun p e R s m args below meth cd H locs cells slots ar Z B S P F L c1 c2 K => va_zald B.1 B.2.1 S.1 P.1 (a - cxB X) 2 (by rw [P.at (by omega), pw_ce_Z ht]) rfl hin d (kk p e R s m args below meth cd H locs cells slots ar Z B S P F L c1 c2 K)
theorem pw_cald {a : Nat} {i : Int32} (d : decode (mB M) pc = .ok (.caload, 1)) (ht : tg σ a = 10) (hin : vp_in i (ln σ a)) (kk : PW X M b1 b2 (pc + 1) ls (.int (μ a i.toNatClampNeg) :: st) σ μ Q) : PW X M b1 b2 pc ls (.int i :: .ref a :: st) σ μ Q :=
  fun p e R s m args below meth cd H locs cells slots ar Z B S P F L c1 c2 K => va_cald B.1 B.2.1 S.1 P.1 (a - cxB X) 0 (by rw [P.at (by omega), pw_ce_C ht]) rfl hin d (kk p e R s m args below meth cd H locs cells slots ar Z B S P F L c1 c2 K)
theorem pw_iast {a : Nat} {i x : Int32} (d : decode (mB M) pc = .ok (.iastore, 1)) (ht : tg σ a = 11) (hin : vp_in i (ln σ a)) (kk : PW X M b1 b2 (pc + 1) ls st σ (wr μ a i.toNatClampNeg x) Q) : PW X M b1 b2 pc ls (.int x :: .int i :: .ref a :: st) σ μ Q := by
  intro p e R s m args below meth cd H locs cells slots ar Z B S P F L c1 c2 K
  have ha := P.at (a := a) (by omega)
  rw [pw_ce_I ht] at ha
  refine W.iast B.1 B.2.1 (P.1 _ _ ha) ((S.1.2 1 _ rfl).1 (ln σ a) (fun j => .int (μ a j))) (fun q => by cases q) (by show ¬ (i < 0 ∨ (arrV _ _ _).slots.size ≤ _); rw [arrV_size]; exact hin) rfl rfl d fun H1 e1 z oq => ?_
  refine kk p e R s m args below meth cd H1 _ cells slots ar Z B S (P.upd (a := a) (e := _) (by omega) rfl rfl (P.1.set (pw_D X σ μ) ha (e := pw_ce X σ (wr μ a i.toNatClampNeg x) a) ?_ oq) z rfl pw_ce_wr (pw_bo_wr P.2.2.2 (fun h7 => by omega))) (F.put z oq (P.2.2.1 a (by omega)).1) L c1 c2 K
  rw [pw_ce_I ht]
  show H1[a]? = some (vp_cell _ _)
  rw [e1, vp_cell_i, vp_cell_i, arrV_store]
  congr 2
  funext q
  by_cases hq : q = i.toNatClampNeg
  · subst hq
    simp [updV, upd, wr, vp_nar, narrow]
  · simp [updV, upd, wr, hq]
theorem pw_zast {a : Nat} {i x : Int32} (d : decode (mB M) pc = .ok (.bastore, 1)) (ht : tg σ a = 12) (hin : vp_in i (ln σ a)) (kk : PW X M b1 b2 (pc + 1) ls st σ (wr μ a i.toNatClampNeg (vp_nar .boolean x)) Q) : PW X M b1 b2 pc ls (.int x :: .int i :: .ref a :: st) σ μ Q := by
  intro p e R s m args below meth cd H locs cells slots ar Z B S P F L c1 c2 K
  have ha := P.at (a := a) (by omega)
  rw [pw_ce_Z ht] at ha
  refine W.zast B.1 B.2.1 (P.1 _ _ ha) ((S.1.2 2 _ rfl).1 (ln σ a) (fun j => .int (μ a j))) (fun q => by cases q) (by show ¬ (i < 0 ∨ (arrV _ _ _).slots.size ≤ _); rw [arrV_size]; exact hin) rfl rfl d fun H1 e1 z oq => ?_
  refine kk p e R s m args below meth cd H1 _ cells slots ar Z B S (P.upd (a := a) (e := _) (by omega) rfl rfl (P.1.set (pw_D X σ μ) ha (e := pw_ce X σ (wr μ a i.toNatClampNeg (vp_nar .boolean x)) a) ?_ oq) z rfl pw_ce_wr (pw_bo_wr P.2.2.2 (fun h7 => by omega))) (F.put z oq (P.2.2.1 a (by omega)).1) L c1 c2 K
  rw [pw_ce_Z ht]
  show H1[a]? = some (vp_cell _ _)
  rw [e1, vp_cell_i, vp_cell_i, arrV_store]
  congr 2
  funext q
  by_cases hq : q = i.toNatClampNeg
  · subst hq
    simp [updV, upd, wr, vp_nar, narrow]
  · simp [updV, upd, wr, hq]
theorem pw_cast {a : Nat} {i x : Int32} (d : decode (mB M) pc = .ok (.castore, 1)) (ht : tg σ a = 10) (hin : vp_in i (ln σ a)) (kk : PW X M b1 b2 (pc + 1) ls st σ (wr μ a i.toNatClampNeg (vp_nar .char x)) Q) : PW X M b1 b2 pc ls (.int x :: .int i :: .ref a :: st) σ μ Q := by
  intro p e R s m args below meth cd H locs cells slots ar Z B S P F L c1 c2 K
  have ha := P.at (a := a) (by omega)
  rw [pw_ce_C ht] at ha
  refine W.cast B.1 B.2.1 (P.1 _ _ ha) ((S.1.2 0 _ rfl).1 (ln σ a) (fun j => .int (μ a j))) (fun q => by cases q) (by show ¬ (i < 0 ∨ (arrV _ _ _).slots.size ≤ _); rw [arrV_size]; exact hin) rfl rfl d fun H1 e1 z oq => ?_
  refine kk p e R s m args below meth cd H1 _ cells slots ar Z B S (P.upd (a := a) (e := _) (by omega) rfl rfl (P.1.set (pw_D X σ μ) ha (e := pw_ce X σ (wr μ a i.toNatClampNeg (vp_nar .char x)) a) ?_ oq) z rfl pw_ce_wr (pw_bo_wr P.2.2.2 (fun h7 => by omega))) (F.put z oq (P.2.2.1 a (by omega)).1) L c1 c2 K
  rw [pw_ce_C ht]
  show H1[a]? = some (vp_cell _ _)
  rw [e1, vp_cell_i, vp_cell_i, arrV_store]
  congr 2
  funext q
  by_cases hq : q = i.toNatClampNeg
  · subst hq
    simp [updV, upd, wr, vp_nar, narrow]
  · simp [updV, upd, wr, hq]
theorem pw_aaldB {a : Nat} {i : Int32} {o : Option Nat} (d : decode (mB M) pc = .ok (.aaload, 1)) (ht : tg σ a = 13) (hin : vp_in i (ln σ a)) (ho : rf σ a i.toNatClampNeg = o) (kk : PW X M b1 b2 (pc + 1) ls (va_rf o :: st) σ μ Q) : PW X M b1 b2 pc ls (.int i :: .ref a :: st) σ μ Q := by
  subst ho
  exact fun p e R s m args below meth cd H locs cells slots ar Z B S P F L c1 c2 K => va_aldq B.1 B.2.1 S.1 P.1 (a - cxB X) 3 (by rw [P.at (by omega), pw_ce_B ht]) rfl hin d (kk p e R s m args below meth cd H locs cells slots ar Z B S P F L c1 c2 K)
theorem pw_aaldS {a : Nat} {i : Int32} {o : Option Nat} (d : decode (mB M) pc = .ok (.aaload, 1)) (ht : tg σ a = 14) (hin : vp_in i (ln σ a)) (ho : rf σ a i.toNatClampNeg = o) (kk : PW X M b1 b2 (pc + 1) ls (va_rf o :: st) σ μ Q) : PW X M b1 b2 pc ls (.int i :: .ref a :: st) σ μ Q := by
  subst ho
  exact fun p e R s m args below meth cd H locs cells slots ar Z B S P F L c1 c2 K => va_aldq B.1 B.2.1 S.1 P.1 (a - cxB X) 4 (by rw [P.at (by omega), pw_ce_S ht]) rfl hin d (kk p e R s m args below meth cd H locs cells slots ar Z B S P F L c1 c2 K)
theorem pw_alenC {a : Nat} (d : decode (mB M) pc = .ok (.arraylength, 1)) (ht : tg σ a = 10) (kk : PW X M b1 b2 (pc + 1) ls (.int (Int32.ofNat (ln σ a)) :: st) σ μ Q) : PW X M b1 b2 pc ls (.ref a :: st) σ μ Q :=
  fun p e R s m args below meth cd H locs cells slots ar Z B S P F L c1 c2 K => va_alen B.1 B.2.1 S.1 P.1 (a - cxB X) 0 (by rw [P.at (by omega), pw_ce_C ht]) rfl rfl d (kk p e R s m args below meth cd H locs cells slots ar Z B S P F L c1 c2 K)
theorem pw_alenI {a : Nat} (d : decode (mB M) pc = .ok (.arraylength, 1)) (ht : tg σ a = 11) (kk : PW X M b1 b2 (pc + 1) ls (.int (Int32.ofNat (ln σ a)) :: st) σ μ Q) : PW X M b1 b2 pc ls (.ref a :: st) σ μ Q :=
  fun p e R s m args below meth cd H locs cells slots ar Z B S P F L c1 c2 K => va_alen B.1 B.2.1 S.1 P.1 (a - cxB X) 1 (by rw [P.at (by omega), pw_ce_I ht]) rfl rfl d (kk p e R s m args below meth cd H locs cells slots ar Z B S P F L c1 c2 K)
theorem pw_alenZ {a : Nat} (d : decode (mB M) pc = .ok (.arraylength, 1)) (ht : tg σ a = 12) (kk : PW X M b1 b2 (pc + 1) ls (.int (Int32.ofNat (ln σ a)) :: st) σ μ Q) : PW X M b1 b2 pc ls (.ref a :: st) σ μ Q :=
  fun p e R s m args below meth cd H locs cells slots ar Z B S P F L c1 c2 K => va_alen B.1 B.2.1 S.1 P.1 (a - cxB X) 2 (by rw [P.at (by omega), pw_ce_Z ht]) rfl rfl d (kk p e R s m args below meth cd H locs cells slots ar Z B S P F L c1 c2 K)
end PWH
end
section
/-! Calls, makings, ends, over the pure memory -/
def pw_fx : List Value → List (Option Value)
  | [] => []
  | v :: vs => some v :: (if v.category = 2 then none :: pw_fx vs else pw_fx vs)
def pw_ent (n : Nat) (av : List Value) : List (Option Value) := pw_fx av ++ List.replicate (n - (pw_fx av).length) none
theorem pw_fx_in : ∀ (vs : List Value) (k i : Nat) (v : Value), (pw_fx vs)[i]? = some (some v) → (k + i, v) ∈ lv_args k vs
  | [], k, i, v, h => by simp [pw_fx] at h
  | w :: vs, k, i, v, h => by
    by_cases hc : w.category = 2
    · simp only [pw_fx, if_pos hc] at h
      simp only [lv_args, if_pos hc]
      match i, h with
      | 0, h =>
        cases h
        exact List.mem_cons_self
      | 1, h => cases h
      | j + 2, h =>
        have := pw_fx_in vs (k + 2) j v h
        rw [show k + 2 + j = k + (j + 2) by omega] at this
        exact List.mem_cons_of_mem _ this
    · simp only [pw_fx, if_neg hc] at h
      simp only [lv_args, if_neg hc]
      match i, h with
      | 0, h =>
        cases h
        exact List.mem_cons_self
      | j + 1, h =>
        have := pw_fx_in vs (k + 1) j v h
        rw [show k + 1 + j = k + (j + 1) by omega] at this
        exact List.mem_cons_of_mem _ this
theorem pw_ent_L {n : Nat} {av : List Value} (h : (lg_sl av).length ≤ n) : pw_L ((lg_sl av ++ List.replicate (n - (lg_sl av).length) Slot.unset).toArray) n (pw_ent n av) := by
  obtain ⟨h1, h2, h3⟩ := lv_entry av h
  refine ⟨h1, h2, fun i v hi => h3 (i, v) ?_⟩
  unfold pw_ent at hi
  by_cases hl : i < (pw_fx av).length
  · rw [List.getElem?_append_left hl] at hi
    have := pw_fx_in av 0 i v hi
    rwa [Nat.zero_add] at this
  · rw [List.getElem?_append_right (by omega)] at hi
    obtain ⟨_, h5⟩ := List.getElem?_eq_some_iff.mp hi
    simp at h5
theorem CT.of {X : Cx} {M : Mt} {av : List Value} {σ : Sp} {μ : Mm} {Q : Option Value → Sp → Mm → Prop} (hy : plainName (mY M).cls = true) (hlen : (lg_sl av).length ≤ mL M) (h : PW X M (mCe M) (mSl M) 0 (pw_ent (mL M) av) [] σ μ Q) : CT X M av σ μ Q := by
  refine Met.ofW (cc := mB M) (maxL := mL M) (ret := mRet M) hy rfl ?_
  intro p e s m args below meth c s₁ B hml hv
  obtain ⟨rfl, hSX, hHP⟩ := hv
  have hts := atoms_spec (ws := mWs M) B.pre
  have hown : s.vm.findClass (mY M).cls = some m.cls := findClass_of_methodNamed B.named
  have hlk := B.notSynchronized
  rw [lg_entry_eq]
  refine h p e (mRm M) s m _ below meth c s.heap [] 0 0 _ _ ⟨B.exec, B.bytes, B.returns, hml, hown, fun w hw => hts w (List.mem_cons_of_mem _ hw), hlk, fun hn => (name_of_methodNamed B.named B.method).1.trans hn, Nat.le_refl _, Nat.le_refl _⟩ hSX hHP va_S.rf (pw_ent_L hlen) (by show 0 + mCe M ≤ mCe M; omega) (by show 0 + mSl M ≤ mSl M; omega) ?_
  intro H' locs' cells' slots' ar' pc' r σ' μ' hQ hret hP hS hc hs
  refine W.widen (k := mCe M) (n := mSl M) hc hs ?_
  rcases hret with ⟨rfl, hr, hd⟩ | ⟨x, ty, rfl, hr, hn, hd⟩ | ⟨v, C, rfl, hv, hr, hd⟩
  · exact W.vret B.exec B.bytes (B.returns.trans hr) (fun t ht hW => ⟨⟨none, σ', μ', rfl, hQ, by rw [ht]; exact hP⟩, hS.F ht⟩) hS.2.2 hd
  · exact W.zret B.exec B.bytes (B.returns.trans hr) hn (fun t ht hW => ⟨⟨_, σ', μ', rfl, hQ, by rw [ht]; exact hP⟩, hS.F ht⟩) hS.2.2 hd
  · exact W.aret B.exec B.bytes (B.returns.trans hr) (Or.inl ⟨C, rfl⟩) hv (fun t ht hW => ⟨⟨_, σ', μ', rfl, hQ, by rw [ht]; exact hP⟩, hS.F ht⟩) hS.2.2 hd
/-- what the tables say of a method that is called, with n arguments -/
def MV (M : Mt) (n : Nat) : Prop := Cond.code (mY M) (mB M) (mL M) (mRet M) ∈ pw_Tb ∧ Cond.initialized (mY M).cls ∈ pw_Tb ∧ (mY M).cls ≠ "java/lang/invoke/MethodHandle" ∧ (mY M).cls ≠ "java/lang/invoke/VarHandle" ∧ (parseMethodDescriptor (mY M).desc).map (fun d => d.parameters.length) = some n
def MI (M : Mt) : Prop := Cond.instanceMethod (mY M) ∈ pw_Tb ∧ Cond.selects (mY M).cls (mY M) (mY M) ∈ pw_Tb
def MR (M M' : Mt) : Prop := mF M' + 1 ≤ mF M ∧ 8 + (mL M' + 11) + mLo M' ≤ mLo M
theorem pw_good : ∀ w ∈ pw_Tb, (w.onTables && w.keeps) = true ∨ ∃ ty, w = .arrayClass ty := fun w h => good_of_word (List.mem_filter.mp h).2
theorem pw_goodIn {ws : List Cond} (h : ∀ w ∈ ws, w ∈ pw_Tb) : GoodIn pw_Tb ws := fun w hw => ⟨h w hw, pw_good w (h w hw)⟩
theorem MV.ws {M : Mt} {n : Nat} (h : MV M n) : ∀ w ∈ mWs M, w ∈ pw_Tb := fun w hw => (List.mem_cons.mp hw).elim (fun e => by rw [e]; exact h.1) id
section PWC
variable {X : Cx} {M : Mt} {b1 b2 pc : Nat} {ls : List (Option Value)} {st : List Value} {σ : Sp} {μ : Mm} {Q : Option Value → Sp → Mm → Prop}
theorem pw_Pc_blind {av : List Value} : FrameBlind (va_Pc av (fun U => SX X U ∧ HP X σ μ U.heap)) := by
  intro a U g mk h
  obtain ⟨h1, h2, h3⟩ := h
  exact ⟨h1, h2.moved (H := U.heap) (locs := []) va_S.rf rfl (State.WarmedH.refl U), h3⟩
theorem pw_Pc_at {av : List Value} {s : State} {H : Heap} {locs : List Loc} (S : SX X s) (P : HP X σ μ H) (F : va_S (fun q => cxB X ≤ q) s.heap H locs) : ∀ U : State, U.heap = H → s.WarmedH U.vm → va_Pc av (fun U => SX X U ∧ HP X σ μ U.heap) av.toArray U :=
  fun U hU hW => ⟨rfl, S.moved F hU hW, by rw [hU]; exact P⟩
theorem pw_callC {M' : Mt} {Qc : Option Value → Sp → Mm → Prop} {p : Program} {e : Env} {R : Room} {s : State} {m : MethodId} {args : Array Value} {below : List Frame} {meth : Method} {cd : Code} {H : Heap} {locs : List Loc} {cells slots : Nat} {ar : Array Slot} {Z : State → Prop} {st0 rest : List Value}
    (hr : va_Run p (cxL X) e R s m args below meth cd H locs cells slots (mCe M') (mSl M') (F0 m pc ar st0) rest (fun (st : State) (o : Outcome) (t : State) => (∃ (r : Option Value) (σ' : Sp) (μ' : Mm), o = .returned r ∧ Qc r σ' μ' ∧ HP X σ' μ' t.heap) ∧ va_F (fun q => cxB X ≤ q) st t) (fun q => cxB X ≤ q)) (hS : va_S (fun q => cxB X ≤ q) s.heap H locs)
    (kk : ∀ (r : Option Value) (σ' : Sp) (μ' : Mm) (H1 : Heap) (locs1 : List Loc), Qc r σ' μ' → HP X σ' μ' H1 → va_S (fun q => cxB X ≤ q) s.heap H1 locs1 → W p (cxL X) e R s m args below meth cd H1 locs1 (cells + mCe M') (slots + mSl M') Z (F0 m (pc + 3) ar (r.toList ++ rest))) : W p (cxL X) e R s m args below meth cd H locs cells slots Z (F0 m pc ar st0) := by
  intro T hT Xs
  obtain ⟨v, st₀, t, T', L, h0, X', hL, e1, e2, ⟨⟨r, σ', μ', hv, hp, hb⟩, hz, hk⟩, st⟩ := hr T hT Xs
  cases hv
  rw [h0] at hz hk
  obtain ⟨t2, a1, b1⟩ := kk v σ' μ' T'.heap (locs ++ L) hp (by rw [e1]; exact hb)
    ⟨Nat.le_trans hS.1 (by rw [e1]; exact hz), fun q h1 h2 => by rw [e1, hk q (Nat.lt_of_lt_of_le h1 hS.1) h2]; exact hS.2.1 q h1 h2, fun q hq => by
      rcases List.mem_append.mp hq with h | h
      · exact hS.2.2 q h
      · exact hL q h⟩ T' rfl X'
  exact ⟨t2, st t2 a1, b1⟩
theorem pw_recv {s : State} {H : Heap} {a c : Nat} (S : SX X s) (P : HP X σ μ H) (hc : c < 9) (ht : tg σ a = c + 1) : ∃ cell : Cell, H[a]? = some cell ∧ cell.vm.isStatics = false ∧ s.vm.findClass (pw_R c) = some cell.cls :=
  va_recv (q0 := a - cxB X) S.1 P.1 (pw_cl c hc) (by rw [P.at (by omega), pw_ce_o ht hc])
theorem pw_callV {M' : Mt} {i a n b1' b2' : Nat} {As rest : List Value} {Qc : Option Value → Sp → Mm → Prop} (c : Nat) (d : decode (mB M) pc = .ok (.invokevirtual i, 3)) (hl : Cond.methodLink (mY M).cls i (mY M') ∈ pw_Tb) (hv : MV M' n) (hi : MI M') (hR : MR M M') (hc : c < 9) (hcl : (mY M').cls = pw_R c) (ht : tg σ a = c + 1) (hn : As.length = n) (hrest : (rest.map fun v => v.category).sum ≤ 8)
    (hb1 : b1' + mCe M' ≤ b1) (hb2 : b2' + mSl M' ≤ b2) (h : CT X M' (.ref a :: As) σ μ Qc) (kk : ∀ r σ' μ', Qc r σ' μ' → PW X M b1' b2' (pc + 3) ls (r.toList ++ rest) σ' μ' Q) : PW X M b1 b2 pc ls (As.reverse ++ .ref a :: rest) σ μ Q := by
  intro p e R s m args below meth cd H locs cells slots ar Z B S P F L c1 c2 K
  refine pw_callC (va_runV (As := As) (rest := rest) ⟨B.1, B.2.1, B.2.2.2.1, B.2.2.2.2.1, B.2.2.2.2.2.1⟩ h (cwV n B.2.2.2.2.2.1 (pw_goodIn fun w hw => ?_) rfl rfl rfl ⟨rfl, hv.2.2⟩ ⟨Nat.le_trans hR.1 B.2.2.2.2.2.2.2.2.1, Nat.le_trans hR.2 B.2.2.2.2.2.2.2.2.2⟩) ⟨pw_Pc_blind, by rw [hcl]; exact pw_recv S P hc ht, pw_Pc_at S P F⟩ rfl hn L.1 rfl (lv_room hrest) d ⟨by omega, by omega⟩) F (fun r σ' μ' H1 locs1 hq hP1 hS1 => kk r σ' μ' hq p e R s m args below meth cd H1 locs1 _ _ ar Z B S hP1 hS1 L (by omega) (by omega) K)
  simp only [wsV, List.mem_append, List.mem_cons, List.not_mem_nil, or_false] at hw
  rcases hw with (rfl | rfl | rfl | rfl) | hw
  · exact hl
  · exact hi.1
  · exact hi.2
  · exact hv.2.1
  · exact hv.ws w hw
theorem pw_callS {M' : Mt} {i n b1' b2' : Nat} {As rest : List Value} {Qc : Option Value → Sp → Mm → Prop} (d : decode (mB M) pc = .ok (.invokestatic i, 3)) (hl : Cond.methodLink (mY M).cls i (mY M') ∈ pw_Tb) (hv : MV M' n) (hi : Cond.static (mY M') ∈ pw_Tb) (hR : MR M M') (hn : As.length = n) (hrest : (rest.map fun v => v.category).sum ≤ 8)
    (hb1 : b1' + mCe M' ≤ b1) (hb2 : b2' + mSl M' ≤ b2) (h : CT X M' As σ μ Qc) (kk : ∀ r σ' μ', Qc r σ' μ' → PW X M b1' b2' (pc + 3) ls (r.toList ++ rest) σ' μ' Q) : PW X M b1 b2 pc ls (As.reverse ++ rest) σ μ Q := by
  intro p e R s m args below meth cd H locs cells slots ar Z B S P F L c1 c2 K
  refine pw_callC (va_runS (As := As) (rest := rest) ⟨B.1, B.2.1, B.2.2.2.1, B.2.2.2.2.1, B.2.2.2.2.2.1⟩ h (va_cwS n B.2.2.2.2.2.1 (pw_goodIn fun w hw => ?_) rfl rfl rfl hv.2.2 ⟨Nat.le_trans hR.1 B.2.2.2.2.2.2.2.2.1, Nat.le_trans hR.2 B.2.2.2.2.2.2.2.2.2⟩) ⟨pw_Pc_blind, pw_Pc_at S P F⟩ rfl hn L.1 rfl (lv_room hrest) d ⟨by omega, by omega⟩) F (fun r σ' μ' H1 locs1 hq hP1 hS1 => kk r σ' μ' hq p e R s m args below meth cd H1 locs1 _ _ ar Z B S hP1 hS1 L (by omega) (by omega) K)
  simp only [va_wsS, List.mem_append, List.mem_cons, List.not_mem_nil, or_false] at hw
  rcases hw with (rfl | rfl | rfl) | hw
  · exact hl
  · exact hi
  · exact hv.2.1
  · exact hv.ws w hw
theorem pw_callSN {M' : Mt} {i n b1' b2' : Nat} {As rest : List Value} {Qc : Option Value → Sp → Mm → Prop} (d : decode (mB M) pc = .ok (.invokestatic i, 3)) (hl : Cond.methodLinkNest (mY M).cls i (mY M') RX7 ∈ pw_nest) (hv : MV M' n) (hi : Cond.static (mY M') ∈ pw_Tb) (hR : MR M M') (hn : As.length = n) (hrest : (rest.map fun v => v.category).sum ≤ 8)
    (hb1 : b1' + mCe M' ≤ b1) (hb2 : b2' + mSl M' ≤ b2) (h : CT X M' As σ μ Qc) (kk : ∀ r σ' μ', Qc r σ' μ' → PW X M b1' b2' (pc + 3) ls (r.toList ++ rest) σ' μ' Q) : PW X M b1 b2 pc ls (As.reverse ++ rest) σ μ Q := by
  intro p e R s m args below meth cd H locs cells slots ar Z B S P F L c1 c2 K
  exact pw_callC (va_runSN (As := As) (rest := rest) ⟨B.1, B.2.1, B.2.2.2.1, B.2.2.2.2.1, B.2.2.2.2.2.1⟩ h ⟨va_cnB n B.2.2.2.2.2.1 (pw_goodIn hv.ws) rfl rfl rfl (S.2.1 _ hl) (B.2.2.2.2.2.1 _ hv.2.1) hv.2.2 ⟨Nat.le_trans hR.1 B.2.2.2.2.2.2.2.2.1, Nat.le_trans hR.2 B.2.2.2.2.2.2.2.2.2⟩, B.2.2.2.2.2.1 _ hi, trivial⟩ ⟨pw_Pc_blind, pw_Pc_at S P F⟩ rfl hn L.1 rfl (lv_room hrest) d ⟨by omega, by omega⟩) F (fun r σ' μ' H1 locs1 hq hP1 hS1 => kk r σ' μ' hq p e R s m args below meth cd H1 locs1 _ _ ar Z B S hP1 hS1 L (by omega) (by omega) K)
theorem pw_callI {M' : Mt} {i a n b1' b2' : Nat} {As rest : List Value} {Qc : Option Value → Sp → Mm → Prop} (d : decode (mB M) pc = .ok (.invokespecial i, 3)) (hl : Cond.methodLink (mY M).cls i (mY M') ∈ pw_Tb) (hv : MV M' n) (hi : Cond.instanceMethod (mY M') ∈ pw_Tb) (hret : mRet M' = none) (hy : (mY M').name = "<init>") (hR : MR M M') (hn : As.length = n) (hrest : (rest.map fun v => v.category).sum ≤ 8)
    (hb1 : b1' + mCe M' ≤ b1) (hb2 : b2' + mSl M' ≤ b2) (h : CT X M' (.ref a :: As) σ μ Qc) (kk : ∀ r σ' μ', Qc r σ' μ' → PW X M b1' b2' (pc + 3) ls (r.toList ++ rest) σ' μ' Q) : PW X M b1 b2 pc ls (As.reverse ++ .ref a :: rest) σ μ Q := by
  intro p e R s m args below meth cd H locs cells slots ar Z B S P F L c1 c2 K
  have hw : mWs M' = Cond.code (mY M') (mB M') (mL M') none :: pw_Tb := by unfold mWs; rw [hret]
  exact pw_callC (va_runI (As := As) (rest := rest) ⟨B.1, B.2.1, B.2.2.2.1, B.2.2.2.2.1, B.2.2.2.2.2.1⟩ h (cwI n B.2.2.2.2.2.1 (pw_goodIn hv.ws) hw rfl rfl (B.2.2.2.2.2.1 _ hv.2.1) (B.2.2.2.2.2.1 _ hl) (B.2.2.2.2.2.1 _ hi) hy hv.2.2 ⟨Nat.le_trans hR.1 B.2.2.2.2.2.2.2.2.1, Nat.le_trans hR.2 B.2.2.2.2.2.2.2.2.2⟩) ⟨pw_Pc_blind, pw_Pc_at S P F⟩ rfl hn L.1 rfl (lv_room hrest) d ⟨by omega, by omega⟩) F (fun r σ' μ' H1 locs1 hq hP1 hS1 => kk r σ' μ' hq p e R s m args below meth cd H1 locs1 _ _ ar Z B S hP1 hS1 L (by omega) (by omega) K)
theorem pw_callIN {M' : Mt} {i a n b1' b2' : Nat} {As rest : List Value} {Qc : Option Value → Sp → Mm → Prop} (d : decode (mB M) pc = .ok (.invokespecial i, 3)) (hl : Cond.methodLinkNest (mY M).cls i (mY M') RX7 ∈ pw_nest) (hv : MV M' n) (hi : Cond.instanceMethod (mY M') ∈ pw_Tb) (hret : mRet M' = none) (hy : (mY M').name = "<init>") (hR : MR M M') (hn : As.length = n) (hrest : (rest.map fun v => v.category).sum ≤ 8)
    (hb1 : b1' + mCe M' ≤ b1) (hb2 : b2' + mSl M' ≤ b2) (h : CT X M' (.ref a :: As) σ μ Qc) (kk : ∀ r σ' μ', Qc r σ' μ' → PW X M b1' b2' (pc + 3) ls (r.toList ++ rest) σ' μ' Q) : PW X M b1 b2 pc ls (As.reverse ++ .ref a :: rest) σ μ Q := by
  intro p e R s m args below meth cd H locs cells slots ar Z B S P F L c1 c2 K
  have hw : mWs M' = Cond.code (mY M') (mB M') (mL M') none :: pw_Tb := by unfold mWs; rw [hret]
  exact pw_callC (va_runIN (As := As) (rest := rest) ⟨B.1, B.2.1, B.2.2.2.1, B.2.2.2.2.1, B.2.2.2.2.2.1⟩ h ⟨va_cnB n B.2.2.2.2.2.1 (pw_goodIn hv.ws) hw rfl rfl (S.2.1 _ hl) (B.2.2.2.2.2.1 _ hv.2.1) hv.2.2 ⟨Nat.le_trans hR.1 B.2.2.2.2.2.2.2.2.1, Nat.le_trans hR.2 B.2.2.2.2.2.2.2.2.2⟩, hy, B.2.2.2.2.2.1 _ hi⟩ ⟨pw_Pc_blind, pw_Pc_at S P F⟩ rfl hn L.1 rfl (lv_room hrest) d ⟨by omega, by omega⟩) F (fun r σ' μ' H1 locs1 hq hP1 hS1 => kk r σ' μ' hq p e R s m args below meth cd H1 locs1 _ _ ar Z B S hP1 hS1 L (by omega) (by omega) K)
theorem pw_cV0i {M' : Mt} {i a : Nat} {rest : List Value} (c : Nat) (d : decode (mB M) pc = .ok (.invokevirtual i, 3)) (hl : Cond.methodLink (mY M).cls i (mY M') ∈ pw_Tb) (hv : MV M' 0) (hi : MI M') (hR : MR M M') (hm : mCe M' = 0 ∧ mSl M' = 0) (hc : c < 9) (hcl : (mY M').cls = pw_R c) (hrest : (rest.map fun v => v.category).sum ≤ 8) (ht : tg σ a = c + 1) (h : CTi X M' (.ref a :: []) σ μ (fun x σ' μ' => PW X M b1 b2 (pc + 3) ls (.int x :: rest) σ' μ' Q)) : PW X M b1 b2 pc ls (.ref a :: rest) σ μ Q :=
  pw_callV (As := []) (b1' := b1) (b2' := b2) c d hl hv hi hR hc hcl ht rfl hrest (by omega) (by omega) h (fun r σ' μ' ⟨x, hr, hq⟩ => by subst hr; exact hq)
theorem pw_cV0v {M' : Mt} {i a : Nat} {rest : List Value} (c : Nat) (d : decode (mB M) pc = .ok (.invokevirtual i, 3)) (hl : Cond.methodLink (mY M).cls i (mY M') ∈ pw_Tb) (hv : MV M' 0) (hi : MI M') (hR : MR M M') (hm : mCe M' = 0 ∧ mSl M' = 0) (hc : c < 9) (hcl : (mY M').cls = pw_R c) (hrest : (rest.map fun v => v.category).sum ≤ 8) (ht : tg σ a = c + 1) (h : CTv X M' (.ref a :: []) σ μ (fun σ' μ' => PW X M b1 b2 (pc + 3) ls rest σ' μ' Q)) : PW X M b1 b2 pc ls (.ref a :: rest) σ μ Q :=
  pw_callV (As := []) (b1' := b1) (b2' := b2) c d hl hv hi hR hc hcl ht rfl hrest (by omega) (by omega) h (fun r σ' μ' ⟨hr, hq⟩ => by subst hr; exact hq)
theorem pw_cV0r {M' : Mt} {i a : Nat} {rest : List Value} (c : Nat) (d : decode (mB M) pc = .ok (.invokevirtual i, 3)) (hl : Cond.methodLink (mY M).cls i (mY M') ∈ pw_Tb) (hv : MV M' 0) (hi : MI M') (hR : MR M M') (hm : mCe M' = 0 ∧ mSl M' = 0) (hc : c < 9) (hcl : (mY M').cls = pw_R c) (hrest : (rest.map fun v => v.category).sum ≤ 8) (ht : tg σ a = c + 1) (h : CTr X M' (.ref a :: []) σ μ (fun o σ' μ' => PW X M b1 b2 (pc + 3) ls (va_rf o :: rest) σ' μ' Q)) : PW X M b1 b2 pc ls (.ref a :: rest) σ μ Q :=
  pw_callV (As := []) (b1' := b1) (b2' := b2) c d hl hv hi hR hc hcl ht rfl hrest (by omega) (by omega) h (fun r σ' μ' ⟨x, hr, hq⟩ => by subst hr; exact hq)
theorem pw_cV1i {M' : Mt} {i a : Nat} {a1 : Value} {rest : List Value} (c : Nat) (d : decode (mB M) pc = .ok (.invokevirtual i, 3)) (hl : Cond.methodLink (mY M).cls i (mY M') ∈ pw_Tb) (hv : MV M' 1) (hi : MI M') (hR : MR M M') (hm : mCe M' = 0 ∧ mSl M' = 0) (hc : c < 9) (hcl : (mY M').cls = pw_R c) (hrest : (rest.map fun v => v.category).sum ≤ 8) (ht : tg σ a = c + 1) (h : CTi X M' (.ref a :: [a1]) σ μ (fun x σ' μ' => PW X M b1 b2 (pc + 3) ls (.int x :: rest) σ' μ' Q)) : PW X M b1 b2 pc ls (a1 :: .ref a :: rest) σ μ Q :=
  pw_callV (As := [a1]) (b1' := b1) (b2' := b2) c d hl hv hi hR hc hcl ht rfl hrest (by omega) (by omega) h (fun r σ' μ' ⟨x, hr, hq⟩ => by subst hr; exact hq)
theorem pw_cV1v {M' : Mt} {i a : Nat} {a1 : Value} {rest : List Value} (c : Nat) (d : decode (mB M) pc = .ok (.invokevirtual i, 3)) (hl : Cond.methodLink (mY M).cls i (mY M') ∈ pw_Tb) (hv : MV M' 1) (hi : MI M') (hR : MR M M') (hm : mCe M' = 0 ∧ mSl M' = 0) (hc : c < 9) (hcl : (mY M').cls = pw_R c) (hrest : (rest.map fun v => v.category).sum ≤ 8) (ht : tg σ a = c + 1) (h : CTv X M' (.ref a :: [a1]) σ μ (fun σ' μ' => PW X M b1 b2 (pc + 3) ls rest σ' μ' Q)) : PW X M b1 b2 pc ls (a1 :: .ref a :: rest) σ μ Q :=
  pw_callV (As := [a1]) (b1' := b1) (b2' := b2) c d hl hv hi hR hc hcl ht rfl hrest (by omega) (by omega) h (fun r σ' μ' ⟨hr, hq⟩ => by subst hr; exact hq)
theorem pw_cV1r {M' : Mt} {i a : Nat} {a1 : Value} {rest : List Value} (c : Nat) (d : decode (mB M) pc = .ok (.invokevirtual i, 3)) (hl : Cond.methodLink (mY M).cls i (mY M') ∈ pw_Tb) (hv : MV M' 1) (hi : MI M') (hR : MR M M') (hm : mCe M' = 0 ∧ mSl M' = 0) (hc : c < 9) (hcl : (mY M').cls = pw_R c) (hrest : (rest.map fun v => v.category).sum ≤ 8) (ht : tg σ a = c + 1) (h : CTr X M' (.ref a :: [a1]) σ μ (fun o σ' μ' => PW X M b1 b2 (pc + 3) ls (va_rf o :: rest) σ' μ' Q)) : PW X M b1 b2 pc ls (a1 :: .ref a :: rest) σ μ Q :=
  pw_callV (As := [a1]) (b1' := b1) (b2' := b2) c d hl hv hi hR hc hcl ht rfl hrest (by omega) (by omega) h (fun r σ' μ' ⟨x, hr, hq⟩ => by subst hr; exact hq)
theorem pw_cV2i {M' : Mt} {i a : Nat} {a1 a2 : Value} {rest : List Value} (c : Nat) (d : decode (mB M) pc = .ok (.invokevirtual i, 3)) (hl : Cond.methodLink (mY M).cls i (mY M') ∈ pw_Tb) (hv : MV M' 2) (hi : MI M') (hR : MR M M') (hm : mCe M' = 0 ∧ mSl M' = 0) (hc : c < 9) (hcl : (mY M').cls = pw_R c) (hrest : (rest.map fun v => v.category).sum ≤ 8) (ht : tg σ a = c + 1) (h : CTi X M' (.ref a :: [a1, a2]) σ μ (fun x σ' μ' => PW X M b1 b2 (pc + 3) ls (.int x :: rest) σ' μ' Q)) : PW X M b1 b2 pc ls (a2 :: a1 :: .ref a :: rest) σ μ Q :=
  pw_callV (As := [a1, a2]) (b1' := b1) (b2' := b2) c d hl hv hi hR hc hcl ht rfl hrest (by omega) (by omega) h (fun r σ' μ' ⟨x, hr, hq⟩ => by subst hr; exact hq)
theorem pw_cV2v {M' : Mt} {i a : Nat} {a1 a2 : Value} {rest : List Value} (c : Nat) (d : decode (mB M) pc = .ok (.invokevirtual i, 3)) (hl : Cond.methodLink (mY M).cls i (mY M') ∈ pw_Tb) (hv : MV M' 2) (hi : MI M') (hR : MR M M') (hm : mCe M' = 0 ∧ mSl M' = 0) (hc : c < 9) (hcl : (mY M').cls = pw_R c) (hrest : (rest.map fun v => v.category).sum ≤ 8) (ht : tg σ a = c + 1) (h : CTv X M' (.ref a :: [a1, a2]) σ μ (fun σ' μ' => PW X M b1 b2 (pc + 3) ls rest σ' μ' Q)) : PW X M b1 b2 pc ls (a2 :: a1 :: .ref a :: rest) σ μ Q :=
  pw_callV (As := [a1, a2]) (b1' := b1) (b2' := b2) c d hl hv hi hR hc hcl ht rfl hrest (by omega) (by omega) h (fun r σ' μ' ⟨hr, hq⟩ => by subst hr; exact hq)
theorem pw_cV2r {M' : Mt} {i a : Nat} {a1 a2 : Value} {rest : List Value} (c : Nat) (d : decode (mB M) pc = .ok (.invokevirtual i, 3)) (hl : Cond.methodLink (mY M).cls i (mY M') ∈ pw_Tb) (hv : MV M' 2) (hi : MI M') (hR : MR M M') (hm : mCe M' = 0 ∧ mSl M' = 0) (hc : c < 9) (hcl : (mY M').cls = pw_R c) (hrest : (rest.map fun v => v.category).sum ≤ 8) (ht : tg σ a = c + 1) (h : CTr X M' (.ref a :: [a1, a2]) σ μ (fun o σ' μ' => PW X M b1 b2 (pc + 3) ls (va_rf o :: rest) σ' μ' Q)) : PW X M b1 b2 pc ls (a2 :: a1 :: .ref a :: rest) σ μ Q :=
  pw_callV (As := [a1, a2]) (b1' := b1) (b2' := b2) c d hl hv hi hR hc hcl ht rfl hrest (by omega) (by omega) h (fun r σ' μ' ⟨x, hr, hq⟩ => by subst hr; exact hq)
theorem pw_cV3i {M' : Mt} {i a : Nat} {a1 a2 a3 : Value} {rest : List Value} (c : Nat) (d : decode (mB M) pc = .ok (.invokevirtual i, 3)) (hl : Cond.methodLink (mY M).cls i (mY M') ∈ pw_Tb) (hv : MV M' 3) (hi : MI M') (hR : MR M M') (hm : mCe M' = 0 ∧ mSl M' = 0) (hc : c < 9) (hcl : (mY M').cls = pw_R c) (hrest : (rest.map fun v => v.category).sum ≤ 8) (ht : tg σ a = c + 1) (h : CTi X M' (.ref a :: [a1, a2, a3]) σ μ (fun x σ' μ' => PW X M b1 b2 (pc + 3) ls (.int x :: rest) σ' μ' Q)) : PW X M b1 b2 pc ls (a3 :: a2 :: a1 :: .ref a :: rest) σ μ Q :=
  pw_callV (As := [a1, a2, a3]) (b1' := b1) (b2' := b2) c d hl hv hi hR hc hcl ht rfl hrest (by omega) (by omega) h (fun r σ' μ' ⟨x, hr, hq⟩ => by subst hr; exact hq)
theorem pw_cV3v {M' : Mt} {i a : Nat} {a1 a2 a3 : Value} {rest : List Value} (c : Nat) (d : decode (mB M) pc = .ok (.invokevirtual i, 3)) (hl : Cond.methodLink (mY M).cls i (mY M') ∈ pw_Tb) (hv : MV M' 3) (hi : MI M') (hR : MR M M') (hm : mCe M' = 0 ∧ mSl M' = 0) (hc : c < 9) (hcl : (mY M').cls = pw_R c) (hrest : (rest.map fun v => v.category).sum ≤ 8) (ht : tg σ a = c + 1) (h : CTv X M' (.ref a :: [a1, a2, a3]) σ μ (fun σ' μ' => PW X M b1 b2 (pc + 3) ls rest σ' μ' Q)) : PW X M b1 b2 pc ls (a3 :: a2 :: a1 :: .ref a :: rest) σ μ Q :=
  pw_callV (As := [a1, a2, a3]) (b1' := b1) (b2' := b2) c d hl hv hi hR hc hcl ht rfl hrest (by omega) (by omega) h (fun r σ' μ' ⟨hr, hq⟩ => by subst hr; exact hq)
theorem pw_cV3r {M' : Mt} {i a : Nat} {a1 a2 a3 : Value} {rest : List Value} (c : Nat) (d : decode (mB M) pc = .ok (.invokevirtual i, 3)) (hl : Cond.methodLink (mY M).cls i (mY M') ∈ pw_Tb) (hv : MV M' 3) (hi : MI M') (hR : MR M M') (hm : mCe M' = 0 ∧ mSl M' = 0) (hc : c < 9) (hcl : (mY M').cls = pw_R c) (hrest : (rest.map fun v => v.category).sum ≤ 8) (ht : tg σ a = c + 1) (h : CTr X M' (.ref a :: [a1, a2, a3]) σ μ (fun o σ' μ' => PW X M b1 b2 (pc + 3) ls (va_rf o :: rest) σ' μ' Q)) : PW X M b1 b2 pc ls (a3 :: a2 :: a1 :: .ref a :: rest) σ μ Q :=
  pw_callV (As := [a1, a2, a3]) (b1' := b1) (b2' := b2) c d hl hv hi hR hc hcl ht rfl hrest (by omega) (by omega) h (fun r σ' μ' ⟨x, hr, hq⟩ => by subst hr; exact hq)
theorem pw_cV4i {M' : Mt} {i a : Nat} {a1 a2 a3 a4 : Value} {rest : List Value} (c : Nat) (d : decode (mB M) pc = .ok (.invokevirtual i, 3)) (hl : Cond.methodLink (mY M).cls i (mY M') ∈ pw_Tb) (hv : MV M' 4) (hi : MI M') (hR : MR M M') (hm : mCe M' = 0 ∧ mSl M' = 0) (hc : c < 9) (hcl : (mY M').cls = pw_R c) (hrest : (rest.map fun v => v.category).sum ≤ 8) (ht : tg σ a = c + 1) (h : CTi X M' (.ref a :: [a1, a2, a3, a4]) σ μ (fun x σ' μ' => PW X M b1 b2 (pc + 3) ls (.int x :: rest) σ' μ' Q)) : PW X M b1 b2 pc ls (a4 :: a3 :: a2 :: a1 :: .ref a :: rest) σ μ Q :=
  pw_callV (As := [a1, a2, a3, a4]) (b1' := b1) (b2' := b2) c d hl hv hi hR hc hcl ht rfl hrest (by omega) (by omega) h (fun r σ' μ' ⟨x, hr, hq⟩ => by subst hr; exact hq)
theorem pw_cV4v {M' : Mt} {i a : Nat} {a1 a2 a3 a4 : Value} {rest : List Value} (c : Nat) (d : decode (mB M) pc = .ok (.invokevirtual i, 3)) (hl : Cond.methodLink (mY M).cls i (mY M') ∈ pw_Tb) (hv : MV M' 4) (hi : MI M') (hR : MR M M') (hm : mCe M' = 0 ∧ mSl M' = 0) (hc : c < 9) (hcl : (mY M').cls = pw_R c) (hrest : (rest.map fun v => v.category).sum ≤ 8) (ht : tg σ a = c + 1) (h : CTv X M' (.ref a :: [a1, a2, a3, a4]) σ μ (fun σ' μ' => PW X M b1 b2 (pc + 3) ls rest σ' μ' Q)) : PW X M b1 b2 pc ls (a4 :: a3 :: a2 :: a1 :: .ref a :: rest) σ μ Q :=
  pw_callV (As := [a1, a2, a3, a4]) (b1' := b1) (b2' := b2) c d hl hv hi hR hc hcl ht rfl hrest (by omega) (by omega) h (fun r σ' μ' ⟨hr, hq⟩ => by subst hr; exact hq)
theorem pw_cV4r {M' : Mt} {i a : Nat} {a1 a2 a3 a4 : Value} {rest : List Value} (c : Nat) (d : decode (mB M) pc = .ok (.invokevirtual i, 3)) (hl : Cond.methodLink (mY M).cls i (mY M') ∈ pw_Tb) (hv : MV M' 4) (hi : MI M') (hR : MR M M') (hm : mCe M' = 0 ∧ mSl M' = 0) (hc : c < 9) (hcl : (mY M').cls = pw_R c) (hrest : (rest.map fun v => v.category).sum ≤ 8) (ht : tg σ a = c + 1) (h : CTr X M' (.ref a :: [a1, a2, a3, a4]) σ μ (fun o σ' μ' => PW X M b1 b2 (pc + 3) ls (va_rf o :: rest) σ' μ' Q)) : PW X M b1 b2 pc ls (a4 :: a3 :: a2 :: a1 :: .ref a :: rest) σ μ Q :=
  pw_callV (As := [a1, a2, a3, a4]) (b1' := b1) (b2' := b2) c d hl hv hi hR hc hcl ht rfl hrest (by omega) (by omega) h (fun r σ' μ' ⟨x, hr, hq⟩ => by subst hr; exact hq)
theorem pw_cS0i {M' : Mt} {i : Nat} {rest : List Value} (d : decode (mB M) pc = .ok (.invokestatic i, 3)) (hl : Cond.methodLink (mY M).cls i (mY M') ∈ pw_Tb) (hv : MV M' 0) (hi : Cond.static (mY M') ∈ pw_Tb) (hR : MR M M') (hm : mCe M' = 0 ∧ mSl M' = 0) (hrest : (rest.map fun v => v.category).sum ≤ 8) (h : CTi X M' [] σ μ (fun x σ' μ' => PW X M b1 b2 (pc + 3) ls (.int x :: rest) σ' μ' Q)) : PW X M b1 b2 pc ls (rest) σ μ Q :=
  pw_callS (As := []) (b1' := b1) (b2' := b2) d hl hv hi hR rfl hrest (by omega) (by omega) h (fun r σ' μ' ⟨x, hr, hq⟩ => by subst hr; exact hq)
theorem pw_cS0v {M' : Mt} {i : Nat} {rest : List Value} (d : decode (mB M) pc = .ok (.invokestatic i, 3)) (hl : Cond.methodLink (mY M).cls i (mY M') ∈ pw_Tb) (hv : MV M' 0) (hi : Cond.static (mY M') ∈ pw_Tb) (hR : MR M M') (hm : mCe M' = 0 ∧ mSl M' = 0) (hrest : (rest.map fun v => v.category).sum ≤ 8) (h : CTv X M' [] σ μ (fun σ' μ' => PW X M b1 b2 (pc + 3) ls rest σ' μ' Q)) : PW X M b1 b2 pc ls (rest) σ μ Q :=
  pw_callS (As := []) (b1' := b1) (b2' := b2) d hl hv hi hR rfl hrest (by omega) (by omega) h (fun r σ' μ' ⟨hr, hq⟩ => by subst hr; exact hq)
theorem pw_cS1i {M' : Mt} {i : Nat} {a1 : Value} {rest : List Value} (d : decode (mB M) pc = .ok (.invokestatic i, 3)) (hl : Cond.methodLink (mY M).cls i (mY M') ∈ pw_Tb) (hv : MV M' 1) (hi : Cond.static (mY M') ∈ pw_Tb) (hR : MR M M') (hm : mCe M' = 0 ∧ mSl M' = 0) (hrest : (rest.map fun v => v.category).sum ≤ 8) (h : CTi X M' [a1] σ μ (fun x σ' μ' => PW X M b1 b2 (pc + 3) ls (.int x :: rest) σ' μ' Q)) : PW X M b1 b2 pc ls (a1 :: rest) σ μ Q :=
  pw_callS (As := [a1]) (b1' := b1) (b2' := b2) d hl hv hi hR rfl hrest (by omega) (by omega) h (fun r σ' μ' ⟨x, hr, hq⟩ => by subst hr; exact hq)
theorem pw_cS1v {M' : Mt} {i : Nat} {a1 : Value} {rest : List Value} (d : decode (mB M) pc = .ok (.invokestatic i, 3)) (hl : Cond.methodLink (mY M).cls i (mY M') ∈ pw_Tb) (hv : MV M' 1) (hi : Cond.static (mY M') ∈ pw_Tb) (hR : MR M M') (hm : mCe M' = 0 ∧ mSl M' = 0) (hrest : (rest.map fun v => v.category).sum ≤ 8) (h : CTv X M' [a1] σ μ (fun σ' μ' => PW X M b1 b2 (pc + 3) ls rest σ' μ' Q)) : PW X M b1 b2 pc ls (a1 :: rest) σ μ Q :=
  pw_callS (As := [a1]) (b1' := b1) (b2' := b2) d hl hv hi hR rfl hrest (by omega) (by omega) h (fun r σ' μ' ⟨hr, hq⟩ => by subst hr; exact hq)
theorem pw_cS2i {M' : Mt} {i : Nat} {a1 a2 : Value} {rest : List Value} (d : decode (mB M) pc = .ok (.invokestatic i, 3)) (hl : Cond.methodLink (mY M).cls i (mY M') ∈ pw_Tb) (hv : MV M' 2) (hi : Cond.static (mY M') ∈ pw_Tb) (hR : MR M M') (hm : mCe M' = 0 ∧ mSl M' = 0) (hrest : (rest.map fun v => v.category).sum ≤ 8) (h : CTi X M' [a1, a2] σ μ (fun x σ' μ' => PW X M b1 b2 (pc + 3) ls (.int x :: rest) σ' μ' Q)) : PW X M b1 b2 pc ls (a2 :: a1 :: rest) σ μ Q :=
  pw_callS (As := [a1, a2]) (b1' := b1) (b2' := b2) d hl hv hi hR rfl hrest (by omega) (by omega) h (fun r σ' μ' ⟨x, hr, hq⟩ => by subst hr; exact hq)
theorem pw_cS2v {M' : Mt} {i : Nat} {a1 a2 : Value} {rest : List Value} (d : decode (mB M) pc = .ok (.invokestatic i, 3)) (hl : Cond.methodLink (mY M).cls i (mY M') ∈ pw_Tb) (hv : MV M' 2) (hi : Cond.static (mY M') ∈ pw_Tb) (hR : MR M M') (hm : mCe M' = 0 ∧ mSl M' = 0) (hrest : (rest.map fun v => v.category).sum ≤ 8) (h : CTv X M' [a1, a2] σ μ (fun σ' μ' => PW X M b1 b2 (pc + 3) ls rest σ' μ' Q)) : PW X M b1 b2 pc ls (a2 :: a1 :: rest) σ μ Q :=
  pw_callS (As := [a1, a2]) (b1' := b1) (b2' := b2) d hl hv hi hR rfl hrest (by omega) (by omega) h (fun r σ' μ' ⟨hr, hq⟩ => by subst hr; exact hq)
theorem pw_cS3i {M' : Mt} {i : Nat} {a1 a2 a3 : Value} {rest : List Value} (d : decode (mB M) pc = .ok (.invokestatic i, 3)) (hl : Cond.methodLink (mY M).cls i (mY M') ∈ pw_Tb) (hv : MV M' 3) (hi : Cond.static (mY M') ∈ pw_Tb) (hR : MR M M') (hm : mCe M' = 0 ∧ mSl M' = 0) (hrest : (rest.map fun v => v.category).sum ≤ 8) (h : CTi X M' [a1, a2, a3] σ μ (fun x σ' μ' => PW X M b1 b2 (pc + 3) ls (.int x :: rest) σ' μ' Q)) : PW X M b1 b2 pc ls (a3 :: a2 :: a1 :: rest) σ μ Q :=
  pw_callS (As := [a1, a2, a3]) (b1' := b1) (b2' := b2) d hl hv hi hR rfl hrest (by omega) (by omega) h (fun r σ' μ' ⟨x, hr, hq⟩ => by subst hr; exact hq)
theorem pw_cS3v {M' : Mt} {i : Nat} {a1 a2 a3 : Value} {rest : List Value} (d : decode (mB M) pc = .ok (.invokestatic i, 3)) (hl : Cond.methodLink (mY M).cls i (mY M') ∈ pw_Tb) (hv : MV M' 3) (hi : Cond.static (mY M') ∈ pw_Tb) (hR : MR M M') (hm : mCe M' = 0 ∧ mSl M' = 0) (hrest : (rest.map fun v => v.category).sum ≤ 8) (h : CTv X M' [a1, a2, a3] σ μ (fun σ' μ' => PW X M b1 b2 (pc + 3) ls rest σ' μ' Q)) : PW X M b1 b2 pc ls (a3 :: a2 :: a1 :: rest) σ μ Q :=
  pw_callS (As := [a1, a2, a3]) (b1' := b1) (b2' := b2) d hl hv hi hR rfl hrest (by omega) (by omega) h (fun r σ' μ' ⟨hr, hq⟩ => by subst hr; exact hq)
theorem pw_cS4i {M' : Mt} {i : Nat} {a1 a2 a3 a4 : Value} {rest : List Value} (d : decode (mB M) pc = .ok (.invokestatic i, 3)) (hl : Cond.methodLink (mY M).cls i (mY M') ∈ pw_Tb) (hv : MV M' 4) (hi : Cond.static (mY M') ∈ pw_Tb) (hR : MR M M') (hm : mCe M' = 0 ∧ mSl M' = 0) (hrest : (rest.map fun v => v.category).sum ≤ 8) (h : CTi X M' [a1, a2, a3, a4] σ μ (fun x σ' μ' => PW X M b1 b2 (pc + 3) ls (.int x :: rest) σ' μ' Q)) : PW X M b1 b2 pc ls (a4 :: a3 :: a2 :: a1 :: rest) σ μ Q :=
  pw_callS (As := [a1, a2, a3, a4]) (b1' := b1) (b2' := b2) d hl hv hi hR rfl hrest (by omega) (by omega) h (fun r σ' μ' ⟨x, hr, hq⟩ => by subst hr; exact hq)
theorem pw_cS4v {M' : Mt} {i : Nat} {a1 a2 a3 a4 : Value} {rest : List Value} (d : decode (mB M) pc = .ok (.invokestatic i, 3)) (hl : Cond.methodLink (mY M).cls i (mY M') ∈ pw_Tb) (hv : MV M' 4) (hi : Cond.static (mY M') ∈ pw_Tb) (hR : MR M M') (hm : mCe M' = 0 ∧ mSl M' = 0) (hrest : (rest.map fun v => v.category).sum ≤ 8) (h : CTv X M' [a1, a2, a3, a4] σ μ (fun σ' μ' => PW X M b1 b2 (pc + 3) ls rest σ' μ' Q)) : PW X M b1 b2 pc ls (a4 :: a3 :: a2 :: a1 :: rest) σ μ Q :=
  pw_callS (As := [a1, a2, a3, a4]) (b1' := b1) (b2' := b2) d hl hv hi hR rfl hrest (by omega) (by omega) h (fun r σ' μ' ⟨hr, hq⟩ => by subst hr; exact hq)
theorem pw_cSN0i {M' : Mt} {i : Nat} {rest : List Value} (d : decode (mB M) pc = .ok (.invokestatic i, 3)) (hl : Cond.methodLinkNest (mY M).cls i (mY M') RX7 ∈ pw_nest) (hv : MV M' 0) (hi : Cond.static (mY M') ∈ pw_Tb) (hR : MR M M') (hm : mCe M' = 0 ∧ mSl M' = 0) (hrest : (rest.map fun v => v.category).sum ≤ 8) (h : CTi X M' [] σ μ (fun x σ' μ' => PW X M b1 b2 (pc + 3) ls (.int x :: rest) σ' μ' Q)) : PW X M b1 b2 pc ls (rest) σ μ Q :=
  pw_callSN (As := []) (b1' := b1) (b2' := b2) d hl hv hi hR rfl hrest (by omega) (by omega) h (fun r σ' μ' ⟨x, hr, hq⟩ => by subst hr; exact hq)
theorem pw_cSN0v {M' : Mt} {i : Nat} {rest : List Value} (d : decode (mB M) pc = .ok (.invokestatic i, 3)) (hl : Cond.methodLinkNest (mY M).cls i (mY M') RX7 ∈ pw_nest) (hv : MV M' 0) (hi : Cond.static (mY M') ∈ pw_Tb) (hR : MR M M') (hm : mCe M' = 0 ∧ mSl M' = 0) (hrest : (rest.map fun v => v.category).sum ≤ 8) (h : CTv X M' [] σ μ (fun σ' μ' => PW X M b1 b2 (pc + 3) ls rest σ' μ' Q)) : PW X M b1 b2 pc ls (rest) σ μ Q :=
  pw_callSN (As := []) (b1' := b1) (b2' := b2) d hl hv hi hR rfl hrest (by omega) (by omega) h (fun r σ' μ' ⟨hr, hq⟩ => by subst hr; exact hq)
theorem pw_cSN1i {M' : Mt} {i : Nat} {a1 : Value} {rest : List Value} (d : decode (mB M) pc = .ok (.invokestatic i, 3)) (hl : Cond.methodLinkNest (mY M).cls i (mY M') RX7 ∈ pw_nest) (hv : MV M' 1) (hi : Cond.static (mY M') ∈ pw_Tb) (hR : MR M M') (hm : mCe M' = 0 ∧ mSl M' = 0) (hrest : (rest.map fun v => v.category).sum ≤ 8) (h : CTi X M' [a1] σ μ (fun x σ' μ' => PW X M b1 b2 (pc + 3) ls (.int x :: rest) σ' μ' Q)) : PW X M b1 b2 pc ls (a1 :: rest) σ μ Q :=
  pw_callSN (As := [a1]) (b1' := b1) (b2' := b2) d hl hv hi hR rfl hrest (by omega) (by omega) h (fun r σ' μ' ⟨x, hr, hq⟩ => by subst hr; exact hq)
theorem pw_cSN1v {M' : Mt} {i : Nat} {a1 : Value} {rest : List Value} (d : decode (mB M) pc = .ok (.invokestatic i, 3)) (hl : Cond.methodLinkNest (mY M).cls i (mY M') RX7 ∈ pw_nest) (hv : MV M' 1) (hi : Cond.static (mY M') ∈ pw_Tb) (hR : MR M M') (hm : mCe M' = 0 ∧ mSl M' = 0) (hrest : (rest.map fun v => v.category).sum ≤ 8) (h : CTv X M' [a1] σ μ (fun σ' μ' => PW X M b1 b2 (pc + 3) ls rest σ' μ' Q)) : PW X M b1 b2 pc ls (a1 :: rest) σ μ Q :=
  pw_callSN (As := [a1]) (b1' := b1) (b2' := b2) d hl hv hi hR rfl hrest (by omega) (by omega) h (fun r σ' μ' ⟨hr, hq⟩ => by subst hr; exact hq)
theorem pw_cSN2i {M' : Mt} {i : Nat} {a1 a2 : Value} {rest : List Value} (d : decode (mB M) pc = .ok (.invokestatic i, 3)) (hl : Cond.methodLinkNest (mY M).cls i (mY M') RX7 ∈ pw_nest) (hv : MV M' 2) (hi : Cond.static (mY M') ∈ pw_Tb) (hR : MR M M') (hm : mCe M' = 0 ∧ mSl M' = 0) (hrest : (rest.map fun v => v.category).sum ≤ 8) (h : CTi X M' [a1, a2] σ μ (fun x σ' μ' => PW X M b1 b2 (pc + 3) ls (.int x :: rest) σ' μ' Q)) : PW X M b1 b2 pc ls (a2 :: a1 :: rest) σ μ Q :=
  pw_callSN (As := [a1, a2]) (b1' := b1) (b2' := b2) d hl hv hi hR rfl hrest (by omega) (by omega) h (fun r σ' μ' ⟨x, hr, hq⟩ => by subst hr; exact hq)
theorem pw_cSN2v {M' : Mt} {i : Nat} {a1 a2 : Value} {rest : List Value} (d : decode (mB M) pc = .ok (.invokestatic i, 3)) (hl : Cond.methodLinkNest (mY M).cls i (mY M') RX7 ∈ pw_nest) (hv : MV M' 2) (hi : Cond.static (mY M') ∈ pw_Tb) (hR : MR M M') (hm : mCe M' = 0 ∧ mSl M' = 0) (hrest : (rest.map fun v => v.category).sum ≤ 8) (h : CTv X M' [a1, a2] σ μ (fun σ' μ' => PW X M b1 b2 (pc + 3) ls rest σ' μ' Q)) : PW X M b1 b2 pc ls (a2 :: a1 :: rest) σ μ Q :=
  pw_callSN (As := [a1, a2]) (b1' := b1) (b2' := b2) d hl hv hi hR rfl hrest (by omega) (by omega) h (fun r σ' μ' ⟨hr, hq⟩ => by subst hr; exact hq)
theorem pw_cSN3i {M' : Mt} {i : Nat} {a1 a2 a3 : Value} {rest : List Value} (d : decode (mB M) pc = .ok (.invokestatic i, 3)) (hl : Cond.methodLinkNest (mY M).cls i (mY M') RX7 ∈ pw_nest) (hv : MV M' 3) (hi : Cond.static (mY M') ∈ pw_Tb) (hR : MR M M') (hm : mCe M' = 0 ∧ mSl M' = 0) (hrest : (rest.map fun v => v.category).sum ≤ 8) (h : CTi X M' [a1, a2, a3] σ μ (fun x σ' μ' => PW X M b1 b2 (pc + 3) ls (.int x :: rest) σ' μ' Q)) : PW X M b1 b2 pc ls (a3 :: a2 :: a1 :: rest) σ μ Q :=
  pw_callSN (As := [a1, a2, a3]) (b1' := b1) (b2' := b2) d hl hv hi hR rfl hrest (by omega) (by omega) h (fun r σ' μ' ⟨x, hr, hq⟩ => by subst hr; exact hq)
theorem pw_cSN3v {M' : Mt} {i : Nat} {a1 a2 a3 : Value} {rest : List Value} (d : decode (mB M) pc = .ok (.invokestatic i, 3)) (hl : Cond.methodLinkNest (mY M).cls i (mY M') RX7 ∈ pw_nest) (hv : MV M' 3) (hi : Cond.static (mY M') ∈ pw_Tb) (hR : MR M M') (hm : mCe M' = 0 ∧ mSl M' = 0) (hrest : (rest.map fun v => v.category).sum ≤ 8) (h : CTv X M' [a1, a2, a3] σ μ (fun σ' μ' => PW X M b1 b2 (pc + 3) ls rest σ' μ' Q)) : PW X M b1 b2 pc ls (a3 :: a2 :: a1 :: rest) σ μ Q :=
  pw_callSN (As := [a1, a2, a3]) (b1' := b1) (b2' := b2) d hl hv hi hR rfl hrest (by omega) (by omega) h (fun r σ' μ' ⟨hr, hq⟩ => by subst hr; exact hq)
theorem pw_cSN4i {M' : Mt} {i : Nat} {a1 a2 a3 a4 : Value} {rest : List Value} (d : decode (mB M) pc = .ok (.invokestatic i, 3)) (hl : Cond.methodLinkNest (mY M).cls i (mY M') RX7 ∈ pw_nest) (hv : MV M' 4) (hi : Cond.static (mY M') ∈ pw_Tb) (hR : MR M M') (hm : mCe M' = 0 ∧ mSl M' = 0) (hrest : (rest.map fun v => v.category).sum ≤ 8) (h : CTi X M' [a1, a2, a3, a4] σ μ (fun x σ' μ' => PW X M b1 b2 (pc + 3) ls (.int x :: rest) σ' μ' Q)) : PW X M b1 b2 pc ls (a4 :: a3 :: a2 :: a1 :: rest) σ μ Q :=
  pw_callSN (As := [a1, a2, a3, a4]) (b1' := b1) (b2' := b2) d hl hv hi hR rfl hrest (by omega) (by omega) h (fun r σ' μ' ⟨x, hr, hq⟩ => by subst hr; exact hq)
theorem pw_cSN4v {M' : Mt} {i : Nat} {a1 a2 a3 a4 : Value} {rest : List Value} (d : decode (mB M) pc = .ok (.invokestatic i, 3)) (hl : Cond.methodLinkNest (mY M).cls i (mY M') RX7 ∈ pw_nest) (hv : MV M' 4) (hi : Cond.static (mY M') ∈ pw_Tb) (hR : MR M M') (hm : mCe M' = 0 ∧ mSl M' = 0) (hrest : (rest.map fun v => v.category).sum ≤ 8) (h : CTv X M' [a1, a2, a3, a4] σ μ (fun σ' μ' => PW X M b1 b2 (pc + 3) ls rest σ' μ' Q)) : PW X M b1 b2 pc ls (a4 :: a3 :: a2 :: a1 :: rest) σ μ Q :=
  pw_callSN (As := [a1, a2, a3, a4]) (b1' := b1) (b2' := b2) d hl hv hi hR rfl hrest (by omega) (by omega) h (fun r σ' μ' ⟨hr, hq⟩ => by subst hr; exact hq)
end PWC
end
section
/-! Makings, natives, static rows, over the pure memory -/
theorem pw_fv0 : ∀ c, c < 9 → ∀ j, j < pw_N c → defaultValue (pw_ty c j) = vp_V (pw_fv c (fun _ => none) (fun _ => 0)) j := by
  refine pw_nine ?_ ?_ ?_ ?_ ?_ ?_ ?_ ?_ ?_
  · intro j hj
    match j, hj with
    | 0, _ => rfl
    | 1, _ => rfl
    | 2, _ => rfl
    | 3, _ => rfl
    | 4, _ => rfl
    | 5, _ => rfl
    | 6, _ => rfl
    | 7, _ => rfl
    | j + 8, hj => exact absurd hj (by show ¬ j + 8 < 8; omega)
  · intro j hj
    match j, hj with
    | 0, _ => rfl
    | 1, _ => rfl
    | 2, _ => rfl
    | j + 3, hj => exact absurd hj (by show ¬ j + 3 < 3; omega)
  · intro j hj
    match j, hj with
    | 0, _ => rfl
    | 1, _ => rfl
    | j + 2, hj => exact absurd hj (by show ¬ j + 2 < 2; omega)
  · intro j hj
    match j, hj with
    | 0, _ => rfl
    | 1, _ => rfl
    | j + 2, hj => exact absurd hj (by show ¬ j + 2 < 2; omega)
  · intro j hj
    match j, hj with
    | 0, _ => rfl
    | 1, _ => rfl
    | 2, _ => rfl
    | 3, _ => rfl
    | 4, _ => rfl
    | 5, _ => rfl
    | 6, _ => rfl
    | j + 7, hj => exact absurd hj (by show ¬ j + 7 < 7; omega)
  · intro j hj
    match j, hj with
    | 0, _ => rfl
    | 1, _ => rfl
    | 2, _ => rfl
    | 3, _ => rfl
    | j + 4, hj => exact absurd hj (by show ¬ j + 4 < 4; omega)
  · intro j hj
    match j, hj with
    | 0, _ => rfl
    | 1, _ => rfl
    | 2, _ => rfl
    | 3, _ => rfl
    | 4, _ => rfl
    | 5, _ => rfl
    | 6, _ => rfl
    | 7, _ => rfl
    | 8, _ => rfl
    | 9, _ => rfl
    | 10, _ => rfl
    | 11, _ => rfl
    | 12, _ => rfl
    | 13, _ => rfl
    | 14, _ => rfl
    | j + 15, hj => exact absurd hj (by show ¬ j + 15 < 15; omega)
  · intro j hj
    match j, hj with
    | 0, _ => rfl
    | 1, _ => rfl
    | 2, _ => rfl
    | 3, _ => rfl
    | 4, _ => rfl
    | 5, _ => rfl
    | j + 6, hj => exact absurd hj (by show ¬ j + 6 < 6; omega)
  · intro j hj
    match j, hj with
    | 0, _ => rfl
    | 1, _ => rfl
    | 2, _ => rfl
    | 3, _ => rfl
    | 4, _ => rfl
    | 5, _ => rfl
    | 6, _ => rfl
    | 7, _ => rfl
    | 8, _ => rfl
    | 9, _ => rfl
    | 10, _ => rfl
    | 11, _ => rfl
    | 12, _ => rfl
    | j + 13, hj => exact absurd hj (by show ¬ j + 13 < 13; omega)
theorem HP.push {X : Cx} {σ : Sp} {μ : Mm} {H H1 : Heap} {a t l : Nat} {f : Nat → Int32} (h : HP X σ μ H) (ha : a = cxB X + nn σ) (e1 : va_at (cxD X) vwCl (a, pw_ce X (wN σ (cxB X) t l) (wC μ a f) a) H1) (z1 : H1.size = H.size + 1) (o1 : ∀ q, q < H.size → H1[q]? = H[q]?) (hb : t = 7 → (f 5 = 0 ∨ f 5 = 1) ∧ (f 6 = 0 ∨ f 6 = 1)) : HP X (wN σ (cxB X) t l) (wC μ a f) H1 := by
  subst ha
  have hk : ∀ (k : Nat) (x : Nat × va_E), (pw_ws X σ μ)[k]? = some x → H1[x.1]? = H[x.1]? := fun k x hx => o1 x.1 ((h.1 k x hx).lt)
  have ho : ∀ b, b ≠ cxB X + nn σ → pw_ce X (wN σ (cxB X) t l) (wC μ (cxB X + nn σ) f) b = pw_ce X σ μ b := by
    intro b hb
    have g1 : tg (wN σ (cxB X) t l) b = tg σ b := if_neg hb
    have g2 : ln (wN σ (cxB X) t l) b = ln σ b := if_neg hb
    have g3 : rf (wN σ (cxB X) t l) b = rf σ b := if_neg hb
    have g4 : wC μ (cxB X + nn σ) f b = μ b := if_neg hb
    unfold pw_ce
    rw [g1, g2, g3, g4]
  have hP := (h.1.kept hk).app (fun k x hx => by
    have hz : k < 1 := (List.getElem?_eq_some_iff.mp hx).1
    rw [show k = 0 by omega] at hx
    cases hx
    exact e1 : va_P (cxD X) vwCl [(cxB X + nn σ, pw_ce X (wN σ (cxB X) t l) (wC μ (cxB X + nn σ) f) (cxB X + nn σ))] H1)
  rw [pw_ws_push rfl rfl rfl ho] at hP
  refine ⟨hP, by rw [z1, h.2.1]; show _ = cxB X + (nn σ + 1); omega, fun b hb2 => ?_, fun b hb2 => ?_⟩
  · show cxB X ≤ b ∧ b < cxB X + (nn σ + 1)
    by_cases hbn : b = cxB X + nn σ
    · omega
    · have g1 : tg (wN σ (cxB X) t l) b = tg σ b := if_neg hbn
      rw [g1] at hb2
      have := h.2.2.1 b hb2
      omega
  · by_cases hbn : b = cxB X + nn σ
    · have g1 : tg (wN σ (cxB X) t l) b = t := if_pos hbn
      have g4 : wC μ (cxB X + nn σ) f b = f := if_pos hbn
      rw [g4]
      exact hb (g1.symm.trans hb2)
    · have g1 : tg (wN σ (cxB X) t l) b = tg σ b := if_neg hbn
      have g4 : wC μ (cxB X + nn σ) f b = μ b := if_neg hbn
      rw [g4]
      exact h.2.2.2 b (g1.symm.trans hb2)
theorem va_S.push {A : Nat → Prop} {H0 H H1 : Heap} {locs : List Loc} (hS : va_S A H0 H locs) (z1 : H1.size = H.size + 1) (o1 : ∀ q, q < H.size → H1[q]? = H[q]?) : va_S A H0 H1 locs :=
  ⟨Nat.le_trans hS.1 (by omega), fun x h1 h2 => (o1 x (Nat.lt_of_lt_of_le h1 hS.1)).trans (hS.2.1 x h1 h2), hS.2.2⟩
theorem wN_tg {σ : Sp} {B t l a : Nat} (h : a = B + nn σ) : tg (wN σ B t l) a = t := if_pos h
theorem wN_ln {σ : Sp} {B t l a : Nat} (h : a = B + nn σ) : ln (wN σ B t l) a = l := if_pos h
theorem wN_rf {σ : Sp} {B t l a : Nat} (h : a = B + nn σ) : rf (wN σ B t l) a = fun _ => none := if_pos h
theorem wN_nn {σ : Sp} {B t l : Nat} : nn (wN σ B t l) = nn σ + 1 := rfl
theorem wN_tg_ne {σ : Sp} {B t l a : Nat} (h : a ≠ B + nn σ) : tg (wN σ B t l) a = tg σ a := if_neg h
theorem wN_ln_ne {σ : Sp} {B t l a : Nat} (h : a ≠ B + nn σ) : ln (wN σ B t l) a = ln σ a := if_neg h
theorem wN_rf_ne {σ : Sp} {B t l a : Nat} (h : a ≠ B + nn σ) : rf (wN σ B t l) a = rf σ a := if_neg h
section PWM
variable {X : Cx} {M : Mt} {b1 b2 pc : Nat} {ls : List (Option Value)} {st : List Value} {σ : Sp} {μ : Mm} {Q : Option Value → Sp → Mm → Prop}
theorem pw_new {i a b1' b2' : Nat} (c : Nat) (d : decode (mB M) pc = .ok (.new i, 3)) (hcl : Cond.classLink (mY M).cls i (pw_R c) ∈ pw_Tb) (hin : Cond.instantiable (pw_R c) (pw_N c) ∈ pw_Tb) (hini : Cond.initialized (pw_R c) ∈ pw_Tb) (hc : c < 9) (ha : a = cxB X + nn σ) (hb1 : b1' + 1 ≤ b1) (hb2 : b2' + pw_N c ≤ b2) (kk : PW X M b1' b2' (pc + 3) ls (.ref a :: st) (wN σ (cxB X) (c + 1) 0) (wC μ a (fun _ => 0)) Q) : PW X M b1 b2 pc ls st σ μ Q := by
  intro p e R s m args below meth cd H locs cells slots ar Z B S P F L c1 c2 K
  have hts := B.2.2.2.2.2.1
  have hKn := S.1.1 c _ (pw_cl c hc)
  have hz := P.2.1
  refine W.newcK B.1 B.2.1 B.2.2.2.2.1 (hts _ hcl) (hts _ hin) (hts _ hini) rfl d (by omega) (by omega) hKn.2.1 (h := a) (by rw [hz, ha]) fun H1 kC hkC e1 z1 o1 => ?_
  have z2 : H1.size = H.size + 1 := by rw [z1, hz, ha]
  have o2 : ∀ q, q < H.size → H1[q]? = H[q]? := fun q hq => o1 q (by rw [ha, ← hz]; exact hq)
  refine kk p e R s m args below meth cd H1 locs _ _ ar Z B S (P.push ha ?_ z2 o2 (fun _ => ⟨Or.inl rfl, Or.inl rfl⟩)) (F.push z2 o2) L (by omega) (by omega) K
  rw [pw_ce_o (c := c) (wN_tg ha) hc, wN_rf ha, wC_self]
  exact ⟨_, pw_cl c hc, (u_born (pw_ty c) hts (pw_hin c hc) hKn hkC e1 (pw_hty c hc)).to (pw_fv0 c hc)⟩
theorem pw_newaC {a N b1' b2' : Nat} {n : Int32} (d : decode (mB M) pc = .ok (.newarray .char, 2)) (hw : Cond.arrayClass .char ∈ pw_Tb) (hn : ¬ n < 0) (hN : n.toNatClampNeg = N) (hs : N < 100000000) (ha : a = cxB X + nn σ) (hb1 : b1' + 1 ≤ b1) (hb2 : b2' + N ≤ b2) (kk : PW X M b1' b2' (pc + 2) ls (.ref a :: st) (wN σ (cxB X) 10 N) (wC μ a (fun _ => 0)) Q) : PW X M b1 b2 pc ls (.int n :: st) σ μ Q := by
  intro p e R s m args below meth cd H locs cells slots ar Z B S P F L c1 c2 K
  have hz := P.2.1
  have hcb : componentBytes .char ≤ 4 := by decide
  refine va_newaK (atype := .char) B.1 B.2.1 (B.2.2.2.2.2.1 _ hw) rfl d rfl hn hN (Nat.le_trans (Nat.mul_le_mul_left N hcb) (by omega)) (by omega) (by omega) (h := a) (by rw [hz, ha]) fun H1 cA e1 z1 o1 hAr hNm => ?_
  have z2 : H1.size = H.size + 1 := by rw [z1, hz, ha]
  have o2 : ∀ q, q < H.size → H1[q]? = H[q]? := fun q hq => o1 q (by rw [ha, ← hz]; exact hq)
  have hcA : cA = (cxC X).1 := Option.some.inj (hNm.symm.trans (S.1.2 0 _ rfl).2)
  refine kk p e R s m args below meth cd H1 locs _ _ ar Z B S (P.push ha ?_ z2 o2 (fun h => by cases h)) (F.push z2 o2) L (by omega) (by omega) K
  rw [pw_ce_C (wN_tg ha), wN_ln ha, wC_self]
  show H1[a]? = some (vp_cell _ _)
  rw [e1, hcA]
  rfl
theorem pw_newaI {a N b1' b2' : Nat} {n : Int32} (d : decode (mB M) pc = .ok (.newarray .int, 2)) (hw : Cond.arrayClass .int ∈ pw_Tb) (hn : ¬ n < 0) (hN : n.toNatClampNeg = N) (hs : N < 100000000) (ha : a = cxB X + nn σ) (hb1 : b1' + 1 ≤ b1) (hb2 : b2' + N ≤ b2) (kk : PW X M b1' b2' (pc + 2) ls (.ref a :: st) (wN σ (cxB X) 11 N) (wC μ a (fun _ => 0)) Q) : PW X M b1 b2 pc ls (.int n :: st) σ μ Q := by
  intro p e R s m args below meth cd H locs cells slots ar Z B S P F L c1 c2 K
  have hz := P.2.1
  have hcb : componentBytes .int ≤ 4 := by decide
  refine va_newaK (atype := .int) B.1 B.2.1 (B.2.2.2.2.2.1 _ hw) rfl d rfl hn hN (Nat.le_trans (Nat.mul_le_mul_left N hcb) (by omega)) (by omega) (by omega) (h := a) (by rw [hz, ha]) fun H1 cA e1 z1 o1 hAr hNm => ?_
  have z2 : H1.size = H.size + 1 := by rw [z1, hz, ha]
  have o2 : ∀ q, q < H.size → H1[q]? = H[q]? := fun q hq => o1 q (by rw [ha, ← hz]; exact hq)
  have hcA : cA = (cxC X).2.1 := Option.some.inj (hNm.symm.trans (S.1.2 1 _ rfl).2)
  refine kk p e R s m args below meth cd H1 locs _ _ ar Z B S (P.push ha ?_ z2 o2 (fun h => by cases h)) (F.push z2 o2) L (by omega) (by omega) K
  rw [pw_ce_I (wN_tg ha), wN_ln ha, wC_self]
  show H1[a]? = some (vp_cell _ _)
  rw [e1, hcA]
  rfl
theorem pw_newaZ {a N b1' b2' : Nat} {n : Int32} (d : decode (mB M) pc = .ok (.newarray .boolean, 2)) (hw : Cond.arrayClass .boolean ∈ pw_Tb) (hn : ¬ n < 0) (hN : n.toNatClampNeg = N) (hs : N < 100000000) (ha : a = cxB X + nn σ) (hb1 : b1' + 1 ≤ b1) (hb2 : b2' + N ≤ b2) (kk : PW X M b1' b2' (pc + 2) ls (.ref a :: st) (wN σ (cxB X) 12 N) (wC μ a (fun _ => 0)) Q) : PW X M b1 b2 pc ls (.int n :: st) σ μ Q := by
  intro p e R s m args below meth cd H locs cells slots ar Z B S P F L c1 c2 K
  have hz := P.2.1
  have hcb : componentBytes .boolean ≤ 4 := by decide
  refine va_newaK (atype := .boolean) B.1 B.2.1 (B.2.2.2.2.2.1 _ hw) rfl d rfl hn hN (Nat.le_trans (Nat.mul_le_mul_left N hcb) (by omega)) (by omega) (by omega) (h := a) (by rw [hz, ha]) fun H1 cA e1 z1 o1 hAr hNm => ?_
  have z2 : H1.size = H.size + 1 := by rw [z1, hz, ha]
  have o2 : ∀ q, q < H.size → H1[q]? = H[q]? := fun q hq => o1 q (by rw [ha, ← hz]; exact hq)
  have hcA : cA = (cxC X).2.2.1 := Option.some.inj (hNm.symm.trans (S.1.2 2 _ rfl).2)
  refine kk p e R s m args below meth cd H1 locs _ _ ar Z B S (P.push ha ?_ z2 o2 (fun h => by cases h)) (F.push z2 o2) L (by omega) (by omega) K
  rw [pw_ce_Z (wN_tg ha), wN_ln ha, wC_self]
  show H1[a]? = some (vp_cell _ _)
  rw [e1, hcA]
  rfl
theorem pw_newqB {i a N b1' b2' : Nat} {n : Int32} (d : decode (mB M) pc = .ok (.anewarray i, 3)) (hcl : Cond.classLink (mY M).cls i RX0 ∈ pw_Tb) (hn : ¬ n < 0) (hN : n.toNatClampNeg = N) (hs : N < 100000000) (ha : a = cxB X + nn σ) (hb1 : b1' + 1 ≤ b1) (hb2 : b2' + N ≤ b2) (kk : PW X M b1' b2' (pc + 3) ls (.ref a :: st) (wN σ (cxB X) 13 N) (wC μ a (fun _ => 0)) Q) : PW X M b1 b2 pc ls (.int n :: st) σ μ Q := by
  intro p e R s m args below meth cd H locs cells slots ar Z B S P F L c1 c2 K
  have hz := P.2.1
  subst hN
  refine W.anew B.1 B.2.1 B.2.2.2.2.1 (B.2.2.2.2.2.1 _ hcl) (va_AO.use S.2.2.1) rfl d rfl hn (by omega) (by omega) (by omega) fun cA kA comp f1 f2 f3 f4 => ?_
  generalize hH1 : H.push ({ cls := cA, slots := Array.replicate n.toNatClampNeg .null, vm := .none } : Cell) = H1
  have z2 : H1.size = H.size + 1 := by rw [← hH1, Array.size_push]
  have e1 : H1[H.size]? = some (arrV cA n.toNatClampNeg (fun _ => .null)) := by rw [← hH1, Array.getElem?_push_size, ← arrV_new]
  have o2 : ∀ q : Nat, q < H.size → H1[q]? = H[q]? := fun q hq => by rw [← hH1, Array.getElem?_push, if_neg (Nat.ne_of_lt hq)]
  obtain ⟨_, _, _, _, _, g4⟩ := (S.1.2 3 _ rfl).2
  have hcA : cA = (cxC X).2.2.2.1 := Option.some.inj (f1.symm.trans g4)
  have haz : H.size = a := by rw [hz, ha]
  rw [haz] at e1 ⊢
  refine kk p e R s m args below meth cd H1 locs _ _ ar Z B S (P.push ha ?_ z2 o2 (fun h => by cases h)) (F.push z2 o2) L (by omega) (by omega) K
  rw [pw_ce_B (wN_tg ha), wN_ln ha, wN_rf ha]
  show H1[a]? = some (vp_cell _ _)
  rw [e1, hcA]
  rfl
theorem pw_aastB {a v : Nat} {i : Int32} (d : decode (mB M) pc = .ok (.aastore, 1)) (ht : tg σ a = 13) (hv : tg σ v = 0 + 1) (hin : vp_in i (ln σ a)) (kk : PW X M b1 b2 (pc + 1) ls st (wR σ a i.toNatClampNeg (some v)) μ Q) : PW X M b1 b2 pc ls (.ref v :: .int i :: .ref a :: st) σ μ Q := by
  intro p e R s m args below meth cd H locs cells slots ar Z B S P F L c1 c2 K
  have ha := P.at (a := a) (by omega)
  rw [pw_ce_B ht] at ha
  have hlt : i.toNatClampNeg < ln σ a := Nat.not_le.mp fun q => hin (Or.inr q)
  have h0 : ¬ i < 0 := fun q => hin (Or.inl q)
  obtain ⟨cellV, g1, g2, g3⟩ := pw_recv S P (c := 0) (by omega) hv
  have hcls := (S.1.1 0 _ (pw_cl 0 (by omega))).2
  have hcv : cellV.cls = (cxD X).1 0 := Option.some.inj (g3.symm.trans hcls.1)
  obtain ⟨kA, comp, k1, k2, k3, -⟩ := (S.1.2 3 _ rfl).2
  have hcomp : comp = (cxD X).1 0 := Option.some.inj (k3.symm.trans hcls.1)
  subst hcomp
  obtain ⟨kC, hkC, -⟩ := hcls.2
  refine W.aast B.1 B.2.1 (P.1 _ _ ha) (fun q h => by cases h) (fun h => by cases h) k1 k2 rfl hkC ⟨h0, by show _ < (arrV _ _ _).slots.size; rw [arrV_size]; exact hlt⟩ g1 (fun q h => by rw [h] at g2; cases g2) (by rw [hcv]; exact hkC) (by rw [hcv]; exact va_assign hcls) rfl rfl d fun H1 e1 z oq => ?_
  refine kk p e R s m args below meth cd H1 _ cells slots ar Z B S (P.upd (a := a) (e := _) (by omega) rfl rfl (P.1.set (pw_D X σ μ) ha (e := pw_ce X (wR σ a i.toNatClampNeg (some v)) μ a) ?_ oq) z rfl pw_ce_wR P.2.2.2) (F.put z oq (P.2.2.1 a (by omega)).1) L c1 c2 K
  rw [pw_ce_B (show tg (wR σ a i.toNatClampNeg (some v)) a = 13 from ht)]
  have hrf : rf (wR σ a i.toNatClampNeg (some v)) a = va_up (rf σ a) i.toNatClampNeg (some v) := if_pos rfl
  rw [hrf]
  show H1[a]? = some (vp_cell _ _)
  rw [e1, vp_cell_q, vp_cell_q, arrV_store]
  congr 2
  funext q
  by_cases hq : q = i.toNatClampNeg
  · subst hq
    simp [updV, va_up, va_rf]
  · simp [updV, va_up, hq]
theorem pw_newqS {i a N b1' b2' : Nat} {n : Int32} (d : decode (mB M) pc = .ok (.anewarray i, 3)) (hcl : Cond.classLink (mY M).cls i RX6 ∈ pw_Tb) (hn : ¬ n < 0) (hN : n.toNatClampNeg = N) (hs : N < 100000000) (ha : a = cxB X + nn σ) (hb1 : b1' + 1 ≤ b1) (hb2 : b2' + N ≤ b2) (kk : PW X M b1' b2' (pc + 3) ls (.ref a :: st) (wN σ (cxB X) 14 N) (wC μ a (fun _ => 0)) Q) : PW X M b1 b2 pc ls (.int n :: st) σ μ Q := by
  intro p e R s m args below meth cd H locs cells slots ar Z B S P F L c1 c2 K
  have hz := P.2.1
  subst hN
  refine W.anew B.1 B.2.1 B.2.2.2.2.1 (B.2.2.2.2.2.1 _ hcl) (va_AO.use S.2.2.2.1) rfl d rfl hn (by omega) (by omega) (by omega) fun cA kA comp f1 f2 f3 f4 => ?_
  generalize hH1 : H.push ({ cls := cA, slots := Array.replicate n.toNatClampNeg .null, vm := .none } : Cell) = H1
  have z2 : H1.size = H.size + 1 := by rw [← hH1, Array.size_push]
  have e1 : H1[H.size]? = some (arrV cA n.toNatClampNeg (fun _ => .null)) := by rw [← hH1, Array.getElem?_push_size, ← arrV_new]
  have o2 : ∀ q : Nat, q < H.size → H1[q]? = H[q]? := fun q hq => by rw [← hH1, Array.getElem?_push, if_neg (Nat.ne_of_lt hq)]
  obtain ⟨_, _, _, _, _, g4⟩ := (S.1.2 4 _ rfl).2
  have hcA : cA = (cxC X).2.2.2.2 := Option.some.inj (f1.symm.trans g4)
  have haz : H.size = a := by rw [hz, ha]
  rw [haz] at e1 ⊢
  refine kk p e R s m args below meth cd H1 locs _ _ ar Z B S (P.push ha ?_ z2 o2 (fun h => by cases h)) (F.push z2 o2) L (by omega) (by omega) K
  rw [pw_ce_S (wN_tg ha), wN_ln ha, wN_rf ha]
  show H1[a]? = some (vp_cell _ _)
  rw [e1, hcA]
  rfl
theorem pw_aastS {a v : Nat} {i : Int32} (d : decode (mB M) pc = .ok (.aastore, 1)) (ht : tg σ a = 14) (hv : tg σ v = 6 + 1) (hin : vp_in i (ln σ a)) (kk : PW X M b1 b2 (pc + 1) ls st (wR σ a i.toNatClampNeg (some v)) μ Q) : PW X M b1 b2 pc ls (.ref v :: .int i :: .ref a :: st) σ μ Q := by
  intro p e R s m args below meth cd H locs cells slots ar Z B S P F L c1 c2 K
  have ha := P.at (a := a) (by omega)
  rw [pw_ce_S ht] at ha
  have hlt : i.toNatClampNeg < ln σ a := Nat.not_le.mp fun q => hin (Or.inr q)
  have h0 : ¬ i < 0 := fun q => hin (Or.inl q)
  obtain ⟨cellV, g1, g2, g3⟩ := pw_recv S P (c := 6) (by omega) hv
  have hcls := (S.1.1 6 _ (pw_cl 6 (by omega))).2
  have hcv : cellV.cls = (cxD X).1 6 := Option.some.inj (g3.symm.trans hcls.1)
  obtain ⟨kA, comp, k1, k2, k3, -⟩ := (S.1.2 4 _ rfl).2
  have hcomp : comp = (cxD X).1 6 := Option.some.inj (k3.symm.trans hcls.1)
  subst hcomp
  obtain ⟨kC, hkC, -⟩ := hcls.2
  refine W.aast B.1 B.2.1 (P.1 _ _ ha) (fun q h => by cases h) (fun h => by cases h) k1 k2 rfl hkC ⟨h0, by show _ < (arrV _ _ _).slots.size; rw [arrV_size]; exact hlt⟩ g1 (fun q h => by rw [h] at g2; cases g2) (by rw [hcv]; exact hkC) (by rw [hcv]; exact va_assign hcls) rfl rfl d fun H1 e1 z oq => ?_
  refine kk p e R s m args below meth cd H1 _ cells slots ar Z B S (P.upd (a := a) (e := _) (by omega) rfl rfl (P.1.set (pw_D X σ μ) ha (e := pw_ce X (wR σ a i.toNatClampNeg (some v)) μ a) ?_ oq) z rfl pw_ce_wR P.2.2.2) (F.put z oq (P.2.2.1 a (by omega)).1) L c1 c2 K
  rw [pw_ce_S (show tg (wR σ a i.toNatClampNeg (some v)) a = 14 from ht)]
  have hrf : rf (wR σ a i.toNatClampNeg (some v)) a = va_up (rf σ a) i.toNatClampNeg (some v) := if_pos rfl
  rw [hrf]
  show H1[a]? = some (vp_cell _ _)
  rw [e1, vp_cell_q, vp_cell_q, arrV_store]
  congr 2
  funext q
  by_cases hq : q = i.toNatClampNeg
  · subst hq
    simp [updV, va_up, va_rf]
  · simp [updV, va_up, hq]
/-- static rows -/
theorem pw_gets {i : Nat} {n : String} {t : Nat} (d : decode (mB M) pc = .ok (.getstatic i, 3)) (hw : Cond.fieldLink (mY M).cls i RX7 n "[I" ∈ pw_Tb) (hZ : ∀ s, SX X s → va_Z RX7 n "[I" (.ref t) (fun q => cxB X ≤ q) s s.heap) (kk : PW X M b1 b2 (pc + 3) ls (.ref t :: st) σ μ Q) : PW X M b1 b2 pc ls st σ μ Q :=
  fun p e R s m args below meth cd H locs cells slots ar Z B S P F L c1 c2 K => va_gets B.1 B.2.1 (hZ s S) F B.2.2.2.2.1 (B.2.2.2.2.2.1 _ hw) (fun _ h => h) d (kk p e R s m args below meth cd H locs cells slots ar Z B S P F L c1 c2 K)
theorem pw_getsN {i : Nat} {n : String} {t : Nat} (d : decode (mB M) pc = .ok (.getstatic i, 3)) (hw : Cond.fieldLinkNest (mY M).cls i RX7 n "[I" RX7 ∈ pw_nest) (hZ : ∀ s, SX X s → va_Z RX7 n "[I" (.ref t) (fun q => cxB X ≤ q) s s.heap) (kk : PW X M b1 b2 (pc + 3) ls (.ref t :: st) σ μ Q) : PW X M b1 b2 pc ls st σ μ Q :=
  fun p e R s m args below meth cd H locs cells slots ar Z B S P F L c1 c2 K => va_getsN B.1 B.2.1 (hZ s S) F B.2.2.2.2.1 (va_Nw.use (pw_nest_on _ hw) (S.2.1 _ hw)) (fun _ h => h) d (kk p e R s m args below meth cd H locs cells slots ar Z B S P F L c1 c2 K)
theorem pw_sa_arr {s : State} {c : ClassId} {t : Nat} {f : Nat → Int32} {H : Heap} (h : pw_SA c t f H) (ha : ArrOfT s c .int) : ∃ cell : Cell, H[t]? = some cell ∧ s.isArrayOf cell .int ∧ cell.vm ≠ .unknown ∧ cell.slots.size = 5 ∧ (∀ j, j < 5 → cell.slots[j]? = some (.int (f j))) ∧ cell.cls = c ∧ cell.slots = (arrV c 5 (fun j => .int (f j))).slots ∧ cell.vm.isStatics = false := by
  obtain ⟨cell, h1, h2, h3, h4, h5⟩ := h
  obtain ⟨-, k, hk, comp, hkk⟩ := ha 0 (fun _ => .null)
  refine ⟨cell, h1, ⟨fun k hk => (by rw [hk] at h4; cases h4), k, by rw [h2]; exact hk, comp, hkk⟩, h5, by rw [h3, arrV_size], fun j hj => by rw [h3, arrV_read _ _ hj], h2, h3, h4⟩
theorem pw_tald {i : Int32} {t : Nat} {f : Nat → Int32} (d : decode (mB M) pc = .ok (.iaload, 1)) (hT : ∀ s, SX X s → pw_SA (cxC X).2.1 t f s.heap ∧ t < cxB X) (hin : vp_in i 5) (kk : PW X M b1 b2 (pc + 1) ls (.int (f i.toNatClampNeg) :: st) σ μ Q) : PW X M b1 b2 pc ls (.int i :: .ref t :: st) σ μ Q := by
  intro p e R s m args below meth cd H locs cells slots ar Z B S P F L c1 c2 K
  obtain ⟨hSA, htb⟩ := hT s S
  obtain ⟨cell, h1, h2, h3, h4, h5, -⟩ := pw_sa_arr hSA (S.1.2 1 _ rfl).1
  have hlt : i.toNatClampNeg < 5 := Nat.not_le.mp fun q => hin (Or.inr q)
  exact W.iald (v := .int (f i.toNatClampNeg)) B.1 B.2.1 (by rw [F.2.1 t (Array.getElem?_eq_some_iff.mp h1).1 (by omega)]; exact h1) h2 h3 (by rw [h4]; exact hin) (h5 _ hlt) rfl rfl d (kk p e R s m args below meth cd H locs cells slots ar Z B S P F L c1 c2 K)
theorem pw_clone {i t a b1' b2' : Nat} {f : Nat → Int32} (d : decode (mB M) pc = .ok (.invokevirtual i, 3)) (hl : Cond.methodLink (mY M).cls i ⟨"[I", "clone", "()Ljava/lang/Object;"⟩ ∈ pw_Tb) (h1 : Cond.sameMethod "[I" "java/lang/Object" "clone" "()Ljava/lang/Object;" ∈ pw_Tb) (h2 : Cond.native ⟨"java/lang/Object", "clone", "()Ljava/lang/Object;"⟩ ∈ pw_Tb) (h3 : Cond.instanceMethod ⟨"java/lang/Object", "clone", "()Ljava/lang/Object;"⟩ ∈ pw_Tb) (h4 : Cond.selects "[I" ⟨"[I", "clone", "()Ljava/lang/Object;"⟩ ⟨"java/lang/Object", "clone", "()Ljava/lang/Object;"⟩ ∈ pw_Tb)
    (hT : ∀ s, SX X s → pw_SA (cxC X).2.1 t f s.heap ∧ t < cxB X) (hf1 : 1 ≤ mF M) (hlo : (st.map fun v => v.category).sum + 14 ≤ mLo M) (ha : a = cxB X + nn σ) (hb1 : b1' + 1 ≤ b1) (hb2 : b2' + 5 ≤ b2) (kk : PW X M b1' b2' (pc + 3) ls (.ref a :: st) (wN σ (cxB X) 11 5) (wC μ a f) Q) : PW X M b1 b2 pc ls (.ref t :: st) σ μ Q := by
  intro p e R s m args below meth cd H locs cells slots ar Z B S P F L c1 c2 K
  have hts := B.2.2.2.2.2.1
  have hz := P.2.1
  obtain ⟨hSA, htb⟩ := hT s S
  obtain ⟨cell, g1, g2, g3, g4, g5, g6, g7, g8⟩ := pw_sa_arr hSA (S.1.2 1 _ rfl).1
  have hnm : s.vm.findClass "[I" = some (cxC X).2.1 := va_nm_int (S.1.2 1 _ rfl).2
  obtain ⟨c0, t0', f1, f2, f3⟩ := Cond.castable_spec (va_Nw.use (A := args) rfl (S.2.1 (.castable "[I" "java/lang/Cloneable") (by decide +kernel)))
  cases hnm.symm.trans f1
  intro T hT X0
  have hcellH : H[t]? = some cell := by rw [F.2.1 t (Array.getElem?_eq_some_iff.mp g1).1 (by omega)]; exact g1
  obtain ⟨-, kS, hkS, compS, hkindS⟩ := (S.1.2 1 _ rfl).1 0 (fun _ => .null)
  obtain ⟨-, kA, hkA, comp, hkind⟩ := State.isArrayOf_alike X0.warmed.alike ((S.1.2 1 _ rfl).1 0 (fun _ => .null))
  obtain ⟨vm', X', stp⟩ := X0.cloneArray B.1 B.2.2.2.2.1 (hts _ hl) (hts _ h1) (hts _ h2) (hts _ h3) (hts _ h4) (a := t) (cell := cell) (by rw [hT]; exact hcellH) (fun k h => by rw [h] at g8; cases g8) g3 (by rw [g6]; exact hnm) f2 (by rw [g6]; exact f3)
    (fun i v hv => by
      rw [g6]
      have hk' : T.vm.classes[(cxC X).2.1]? = some kA := hkA
      have hi5 : i < 5 := by rw [← g4]; exact (Array.getElem?_eq_some_iff.mp hv).1
      rw [g5 i hi5] at hv
      cases hv
      simp [State.fitsSlot, State.slotType?, hk', hkind, fits])
    (g := F0 m pc ar (.ref t :: st)) rfl (L.1.trans B.2.2.2.1.symm) rfl (by rw [B.2.1]; exact d) (Nat.le_trans hf1 B.2.2.2.2.2.2.2.2.1) (by show 2 * 0 + _ + 14 ≤ _; exact Nat.le_trans (by omega) B.2.2.2.2.2.2.2.2.2) (by omega) (by rw [g4]; omega) (hloader := by rw [g6]; exact Vm.clonesLoader_of_array hkS hkindS)
  have hce : ({ cls := cell.cls, slots := cell.slots } : Cell) = arrV (cxC X).2.1 5 (fun j => .int (f j)) := by rw [g6, g7]; rfl
  rw [hce, g4] at X'
  generalize hH1 : H.push (arrV (cxC X).2.1 5 (fun j => .int (f j))) = H1
  have z2 : H1.size = H.size + 1 := by rw [← hH1, Array.size_push]
  have e1 : H1[H.size]? = some (arrV (cxC X).2.1 5 (fun j => .int (f j))) := by rw [← hH1, Array.getElem?_push_size]
  have o2 : ∀ q : Nat, q < H.size → H1[q]? = H[q]? := fun q hq => by rw [← hH1, Array.getElem?_push, if_neg (Nat.ne_of_lt hq)]
  have haz : H.size = a := by rw [hz, ha]
  obtain ⟨t9, a1, b9⟩ := kk p e R s m args below meth cd H1 locs (cells + 1) (slots + 5) ar Z B S (P.push ha (by
      rw [pw_ce_I (wN_tg ha), wN_ln ha, wC_self]
      show H1[a]? = some (vp_cell _ _)
      rw [← haz]
      exact e1) z2 o2 (fun h => by cases h)) (F.push z2 o2) L (by omega) (by omega) K ((T.setVm vm').pushCell (arrV (cxC X).2.1 5 (fun j => .int (f j)))) (by rw [← hH1, ← hT]; rfl) X'
  refine ⟨t9, stp t9 ?_, b9⟩
  rw [hce, hT, haz]
  exact a1
theorem pw_castI {i a : Nat} (d : decode (mB M) pc = .ok (.checkcast i, 3)) (hl : Cond.classLink (mY M).cls i "[I" ∈ pw_Tb) (ht : tg σ a = 11) (kk : PW X M b1 b2 (pc + 3) ls (.ref a :: st) σ μ Q) : PW X M b1 b2 pc ls (.ref a :: st) σ μ Q :=
  fun p e R s m args below meth cd H locs cells slots ar Z B S P F L c1 c2 K => va_castA B.1 B.2.1 B.2.2.2.2.1 (B.2.2.2.2.2.1 _ hl) P.1 (a - cxB X) (by rw [P.at (by omega), pw_ce_I ht]) (va_nm_int (S.1.2 1 _ rfl).2) d (kk p e R s m args below meth cd H locs cells slots ar Z B S P F L c1 c2 K)
theorem pw_acopy {i a0 a : Nat} {sp dp n : Int32} (d : decode (mB M) pc = .ok (.invokestatic i, 3)) (hl : Cond.methodLink (mY M).cls i arraycopyName ∈ pw_Tb) (hnat : Cond.native arraycopyName ∈ pw_Tb) (hst : Cond.static arraycopyName ∈ pw_Tb) (hini : Cond.initialized "java/lang/System" ∈ pw_Tb) (ht0 : tg σ a0 = 11) (ht : tg σ a = 11)
    (h1 : ¬ sp < 0) (h2 : ¬ dp < 0) (h3 : ¬ n < 0) (h4 : sp.toNatClampNeg + n.toNatClampNeg ≤ ln σ a0) (h5 : dp.toNatClampNeg + n.toNatClampNeg ≤ ln σ a) (hf1 : 1 ≤ mF M) (hlo : (st.map fun v => v.category).sum + (nativeFrameWords "java/lang/System" "arraycopy" 5 + 11) ≤ mLo M)
    (kk : PW X M b1 b2 (pc + 3) ls st σ (wC μ a (va_cpy (μ a0) (μ a) sp.toNatClampNeg dp.toNatClampNeg n.toNatClampNeg)) Q) : PW X M b1 b2 pc ls (.int n :: .int dp :: .ref a :: .int sp :: .ref a0 :: st) σ μ Q := by
  intro p e R s m args below meth cd H locs cells slots ar Z B S P F L c1 c2 K
  have hts := B.2.2.2.2.2.1
  have nnz : ∀ z : Int32, ¬ z < 0 → z.toInt = (z.toNatClampNeg : Int) := by
    intro z hz
    have hz0 : (0 : Int) ≤ z.toInt := by
      have := Int32.not_lt.mp hz
      simpa using Int32.le_iff_toInt_le.mp this
    show z.toInt = ((z.toInt.toNat : Nat) : Int)
    omega
  have ha0 := P.at (a := a0) (by omega)
  rw [pw_ce_I ht0] at ha0
  have ha1 := P.at (a := a) (by omega)
  rw [pw_ce_I ht] at ha1
  intro T hT X0
  have hc0 : H[a0]? = some (vp_cell (cxC X).2.1 (ln σ a0, .inl (μ a0))) := P.1 _ _ ha0
  have hc1 : H[a]? = some (vp_cell (cxC X).2.1 (ln σ a, .inl (μ a))) := P.1 _ _ ha1
  obtain ⟨-, k0, hk0, cm0, hkk0⟩ := (S.1.2 1 _ rfl).1 (ln σ a0) (fun j => .int (μ a0 j))
  obtain ⟨-, k1, hk1, cm1, hkk1⟩ := (S.1.2 1 _ rfl).1 (ln σ a) (fun j => .int (μ a j))
  obtain ⟨vm', X', step⟩ := X0.arraycopy B.1 B.2.2.2.2.1 (hts _ hl) (hts _ hnat) (hts _ hst) (hts _ hini) (src := a0) (dst := a) (cs := vp_cell (cxC X).2.1 (ln σ a0, .inl (μ a0))) (cd := vp_cell (cxC X).2.1 (ln σ a, .inl (μ a))) (srcPos := sp) (destPos := dp) (n := n) (by rw [hT]; exact hc0) (by rw [hT]; exact hc1)
    (fun _ h => by cases h) (fun _ h => by cases h) (fun h => by cases h) (fun h => by cases h) hk0 hk1 hkk0 hkk1 (by simp [refKind]) h1 h2 h3
    (by rw [nnz sp h1, nnz n h3]; show ¬ _ > ((arrV (cxC X).2.1 (ln σ a0) (fun j => .int (μ a0 j))).slots.size : Int); rw [arrV_size]; omega)
    (by rw [nnz dp h2, nnz n h3]; show ¬ _ > ((arrV (cxC X).2.1 (ln σ a) (fun j => .int (μ a j))).slots.size : Int); rw [arrV_size]; omega)
    (fun vm₁ _ i hi => by
      have e : (vp_cell (cxC X).2.1 (ln σ a0, .inl (μ a0))).slots.getD (sp.toNatClampNeg + i) .null = .int (μ a0 (sp.toNatClampNeg + i)) := by
        show (arrV (cxC X).2.1 (ln σ a0) (fun j => .int (μ a0 j))).slots.getD _ _ = _
        rw [Array.getD_eq_getD_getElem?, arrV_read _ _ (by omega)]
        rfl
      refine ⟨?_, ?_⟩
      · rw [e]
        rfl
      · rw [e]
        exact trivial)
    (g := F0 m pc ar (.int n :: .int dp :: .ref a :: .int sp :: .ref a0 :: st)) rfl (L.1.trans B.2.2.2.1.symm) (rest := st) rfl (by rw [B.2.1]; exact d) (Nat.le_trans hf1 B.2.2.2.2.2.2.2.2.1) (by show 2 * 0 + _ + _ ≤ _; exact Nat.le_trans (by omega) B.2.2.2.2.2.2.2.2.2)
  have e1 : copied (vp_cell (cxC X).2.1 (ln σ a0, .inl (μ a0))) (vp_cell (cxC X).2.1 (ln σ a, .inl (μ a))) sp dp n = vp_cell (cxC X).2.1 (ln σ a, .inl (va_cpy (μ a0) (μ a) sp.toNatClampNeg dp.toNatClampNeg n.toNatClampNeg)) := va_copied (fun z => .int z) (cxC X).2.1 (cxC X).2.1 (μ a0) (μ a) h4
  rw [e1] at X' step
  generalize hcn : vp_cell (cxC X).2.1 (ln σ a, .inl (va_cpy (μ a0) (μ a) sp.toNatClampNeg dp.toNatClampNeg n.toNatClampNeg)) = cn at X' step
  have hl : a < H.size := (Array.getElem?_eq_some_iff.mp hc1).1
  have hheap : ((T.setVm vm').setCell a cn).heap = H.setIfInBounds a cn := by rw [← hT]; rfl
  have oq : ∀ q : Nat, q ≠ a → (H.setIfInBounds a cn)[q]? = H[q]? := fun q hq => by simp [Array.getElem?_setIfInBounds, Ne.symm hq]
  have hz : (H.setIfInBounds a cn).size = H.size := by simp
  obtain ⟨t9, a1, b9⟩ := kk p e R s m args below meth cd (H.setIfInBounds a cn) _ cells slots ar Z B S (P.upd (a := a) (e := _) (by omega) rfl rfl (P.1.set (pw_D X σ μ) ha1 (e := pw_ce X σ (wC μ a (va_cpy (μ a0) (μ a) sp.toNatClampNeg dp.toNatClampNeg n.toNatClampNeg)) a) (by
      rw [pw_ce_I ht, wC_self]
      show (H.setIfInBounds a cn)[a]? = some (vp_cell _ _)
      rw [hcn]
      simp [Array.getElem?_setIfInBounds, hl]) oq) hz rfl pw_ce_wC (pw_bo_wC P.2.2.2 (by omega))) ⟨by rw [hz]; exact F.1, fun q g1 g2 => by
      rw [oq q (fun e => g2 (by rw [e]; exact (P.2.2.1 a (by omega)).1))]
      exact F.2.1 q g1 g2, fun q hq => by
      rcases List.mem_append.mp hq with h | h
      · exact F.2.2 q h
      · obtain ⟨z, -, hz⟩ := List.mem_map.mp h
        rw [← hz]
        exact (P.2.2.1 a (by omega)).1⟩ L c1 c2 K _ hheap X'
  exact ⟨t9, step t9 a1, b9⟩
theorem pw_min {i : Nat} {x y : Int32} (d : decode (mB M) pc = .ok (.invokestatic i, 3)) (hl : Cond.methodLink (mY M).cls i Lib.Math.min.name ∈ pw_Tb) (hst : Cond.static Lib.Math.min.name ∈ pw_Tb) (hini : Cond.initialized "java/lang/Math" ∈ pw_Tb) (hcode : Cond.code Lib.Math.min.name Lib.Math.min.code 2 (some .int) ∈ pw_Tb) (hf1 : 1 ≤ mF M) (hlo : (st.map fun v => v.category).sum + 13 ≤ mLo M) (kk : PW X M b1 b2 (pc + 3) ls (.int (if y < x then y else x) :: st) σ μ Q) : PW X M b1 b2 pc ls (.int y :: .int x :: st) σ μ Q :=
  fun p e R s m args below meth cd H locs cells slots ar Z B S P F L c1 c2 K => va_mmin B.1 B.2.1 (B.2.2.2.1.trans L.1.symm) B.2.2.2.2.1 (B.2.2.2.2.2.1 _ hl) (B.2.2.2.2.2.1 _ hst) (B.2.2.2.2.2.1 _ hini) (B.2.2.2.2.2.1 _ hcode) (Nat.le_trans hf1 B.2.2.2.2.2.2.2.2.1) (Nat.le_trans hlo B.2.2.2.2.2.2.2.2.2) (by omega) (by omega) d (kk p e R s m args below meth cd H locs cells slots ar Z B S P F L c1 c2 K)
theorem pw_max {i : Nat} {x y : Int32} (d : decode (mB M) pc = .ok (.invokestatic i, 3)) (hl : Cond.methodLink (mY M).cls i Lib.Math.max.name ∈ pw_Tb) (hst : Cond.static Lib.Math.max.name ∈ pw_Tb) (hini : Cond.initialized "java/lang/Math" ∈ pw_Tb) (hcode : Cond.code Lib.Math.max.name Lib.Math.max.code 2 (some .int) ∈ pw_Tb) (hf1 : 1 ≤ mF M) (hlo : (st.map fun v => v.category).sum + 13 ≤ mLo M) (kk : PW X M b1 b2 (pc + 3) ls (.int (if x < y then y else x) :: st) σ μ Q) : PW X M b1 b2 pc ls (.int y :: .int x :: st) σ μ Q :=
  fun p e R s m args below meth cd H locs cells slots ar Z B S P F L c1 c2 K => va_mmax B.1 B.2.1 (B.2.2.2.1.trans L.1.symm) B.2.2.2.2.1 (B.2.2.2.2.2.1 _ hl) (B.2.2.2.2.2.1 _ hst) (B.2.2.2.2.2.1 _ hini) (B.2.2.2.2.2.1 _ hcode) (Nat.le_trans hf1 B.2.2.2.2.2.2.2.2.1) (Nat.le_trans hlo B.2.2.2.2.2.2.2.2.2) (by omega) (by omega) d (kk p e R s m args below meth cd H locs cells slots ar Z B S P F L c1 c2 K)
theorem pw_oinit {i a : Nat} (d : decode (mB M) pc = .ok (.invokespecial i, 3)) (hl : Cond.methodLink (mY M).cls i objectInit ∈ pw_Tb) (hin : Cond.instanceMethod objectInit ∈ pw_Tb) (hcode : Cond.code objectInit ⟨#[0xb1]⟩ 1 none ∈ pw_Tb) (hf1 : 1 ≤ mF M) (hlo : (st.map fun v => v.category).sum + 12 ≤ mLo M) (kk : PW X M b1 b2 (pc + 3) ls st σ μ Q) : PW X M b1 b2 pc ls (.ref a :: st) σ μ Q :=
  fun p e R s m args below meth cd H locs cells slots ar Z B S P F L c1 c2 K => W.objInit B.1 B.2.1 B.2.2.2.2.1 (B.2.2.2.2.2.1 _ hl) (B.2.2.2.2.2.1 _ hin) (B.2.2.2.2.2.1 _ hcode) rfl (L.1.trans B.2.2.2.1.symm) rfl d (Nat.le_trans hf1 B.2.2.2.2.2.2.2.2.1) (by show 2 * 0 + _ + 12 ≤ _; exact Nat.le_trans (by omega) B.2.2.2.2.2.2.2.2.2) (kk p e R s m args below meth cd H locs cells slots ar Z B S P F L c1 c2 K)
end PWM
end
section
/-! The methods: what they are, what the tables say of them; printed by a program -/
theorem pw_in {w : Cond} (i : Nat) (h : tables_1[i]? = some w) (hg : goodWord w = true) : w ∈ pw_Tb := List.mem_filter.mpr ⟨List.mem_append_right _ (List.mem_of_getElem? h), hg⟩
theorem pw_inS {w : Cond} (i : Nat) (h : (k2_sels lw_privs)[i]? = some w) (hg : goodWord w = true) : w ∈ pw_Tb := List.mem_filter.mpr ⟨List.mem_append_left _ (List.mem_of_getElem? h), hg⟩
def mJ6_bitCount_0f7a4 : Mt := (yJ6_bitCount_0f7a4, cJ6_bitCount_0f7a4, 1, (some .int), 0, 0, 0, 0)
theorem vJ6_bitCount_0f7a4 : MV mJ6_bitCount_0f7a4 1 := ⟨pw_in 476 (by decide +kernel) (by decide +kernel), pw_in 12 (by decide +kernel) (by decide +kernel), by decide +kernel, by decide +kernel, by decide +kernel⟩
theorem sJ6_bitCount_0f7a4 : Cond.static (mY mJ6_bitCount_0f7a4) ∈ pw_Tb := pw_in 475 (by decide +kernel) (by decide +kernel)
def mL_law : Mt := (yL_law, code, 4, some .boolean, 11, 398, 600000, 7302250)
def mX0_addStation : Mt := (yX0_addStation, cX0_addStation, 2, (some .int), 0, 0, 0, 0)
theorem vX0_addStation : MV mX0_addStation 1 := ⟨pw_in 326 (by decide +kernel) (by decide +kernel), pw_in 2 (by decide +kernel) (by decide +kernel), by decide +kernel, by decide +kernel, by decide +kernel⟩
theorem iX0_addStation : MI mX0_addStation := ⟨pw_in 324 (by decide +kernel) (by decide +kernel), pw_in 325 (by decide +kernel) (by decide +kernel)⟩
def mX0_addWord : Mt := (yX0_addWord, cX0_addWord, 5, (some .int), 1, 22, 0, 0)
theorem vX0_addWord : MV mX0_addWord 3 := ⟨pw_in 334 (by decide +kernel) (by decide +kernel), pw_in 2 (by decide +kernel) (by decide +kernel), by decide +kernel, by decide +kernel, by decide +kernel⟩
theorem iX0_addWord : MI mX0_addWord := ⟨pw_in 332 (by decide +kernel) (by decide +kernel), pw_in 333 (by decide +kernel) (by decide +kernel)⟩
def mX0_awakeStations : Mt := (yX0_awakeStations, cX0_awakeStations, 3, (some .int), 1, 20, 0, 0)
theorem vX0_awakeStations : MV mX0_awakeStations 0 := ⟨pw_in 426 (by decide +kernel) (by decide +kernel), pw_in 2 (by decide +kernel) (by decide +kernel), by decide +kernel, by decide +kernel, by decide +kernel⟩
theorem iX0_awakeStations : MI mX0_awakeStations := ⟨pw_in 424 (by decide +kernel) (by decide +kernel), pw_in 425 (by decide +kernel) (by decide +kernel)⟩
def mX0_beHeard : Mt := (yX0_beHeard, cX0_beHeard, 6, none, 2, 50, 0, 0)
theorem vX0_beHeard : MV mX0_beHeard 1 := ⟨pw_in 463 (by decide +kernel) (by decide +kernel), pw_in 2 (by decide +kernel) (by decide +kernel), by decide +kernel, by decide +kernel, by decide +kernel⟩
theorem iX0_beHeard : MI mX0_beHeard := ⟨pw_in 462 (by decide +kernel) (by decide +kernel), pw_inS 5 (by decide +kernel) (by decide +kernel)⟩
def mX0_beginWords : Mt := (yX0_beginWords, cX0_beginWords, 5, none, 3, 64, 0, 0)
theorem vX0_beginWords : MV mX0_beginWords 1 := ⟨pw_in 434 (by decide +kernel) (by decide +kernel), pw_in 2 (by decide +kernel) (by decide +kernel), by decide +kernel, by decide +kernel, by decide +kernel⟩
theorem iX0_beginWords : MI mX0_beginWords := ⟨pw_in 433 (by decide +kernel) (by decide +kernel), pw_inS 2 (by decide +kernel) (by decide +kernel)⟩
def mX0_changeCharges : Mt := (yX0_changeCharges, cX0_changeCharges, 7, none, 3, 64, 0, 0)
theorem vX0_changeCharges : MV mX0_changeCharges 1 := ⟨pw_in 473 (by decide +kernel) (by decide +kernel), pw_in 2 (by decide +kernel) (by decide +kernel), by decide +kernel, by decide +kernel, by decide +kernel⟩
theorem iX0_changeCharges : MI mX0_changeCharges := ⟨pw_in 472 (by decide +kernel) (by decide +kernel), pw_inS 6 (by decide +kernel) (by decide +kernel)⟩
def mX0_changeSetting : Mt := (yX0_changeSetting, cX0_changeSetting, 4, (some .int), 2, 43, 0, 0)
theorem vX0_changeSetting : MV mX0_changeSetting 2 := ⟨pw_in 304 (by decide +kernel) (by decide +kernel), pw_in 2 (by decide +kernel) (by decide +kernel), by decide +kernel, by decide +kernel, by decide +kernel⟩
theorem iX0_changeSetting : MI mX0_changeSetting := ⟨pw_in 302 (by decide +kernel) (by decide +kernel), pw_in 303 (by decide +kernel) (by decide +kernel)⟩
def mX0_copyFrom : Mt := (yX0_copyFrom, cX0_copyFrom, 3, none, 4, 89, 0, 0)
theorem vX0_copyFrom : MV mX0_copyFrom 1 := ⟨pw_in 277 (by decide +kernel) (by decide +kernel), pw_in 2 (by decide +kernel) (by decide +kernel), by decide +kernel, by decide +kernel, by decide +kernel⟩
theorem iX0_copyFrom : MI mX0_copyFrom := ⟨pw_in 275 (by decide +kernel) (by decide +kernel), pw_in 276 (by decide +kernel) (by decide +kernel)⟩
def mX0_find : Mt := (yX0_find, cX0_find, 2, (some (.object "BusSilences$Station")), 0, 0, 0, 0)
theorem vX0_find : MV mX0_find 1 := ⟨pw_in 338 (by decide +kernel) (by decide +kernel), pw_in 2 (by decide +kernel) (by decide +kernel), by decide +kernel, by decide +kernel, by decide +kernel⟩
theorem iX0_find : MI mX0_find := ⟨pw_in 336 (by decide +kernel) (by decide +kernel), pw_in 337 (by decide +kernel) (by decide +kernel)⟩
def mX0_forgetWord : Mt := (yX0_forgetWord, cX0_forgetWord, 4, (some .int), 2, 42, 0, 0)
theorem vX0_forgetWord : MV mX0_forgetWord 1 := ⟨pw_in 357 (by decide +kernel) (by decide +kernel), pw_in 2 (by decide +kernel) (by decide +kernel), by decide +kernel, by decide +kernel, by decide +kernel⟩
theorem iX0_forgetWord : MI mX0_forgetWord := ⟨pw_in 355 (by decide +kernel) (by decide +kernel), pw_in 356 (by decide +kernel) (by decide +kernel)⟩
def mX0_giveUp : Mt := (yX0_giveUp, cX0_giveUp, 3, none, 2, 42, 0, 0)
theorem vX0_giveUp : MV mX0_giveUp 1 := ⟨pw_in 401 (by decide +kernel) (by decide +kernel), pw_in 2 (by decide +kernel) (by decide +kernel), by decide +kernel, by decide +kernel, by decide +kernel⟩
theorem iX0_giveUp : MI mX0_giveUp := ⟨pw_in 400 (by decide +kernel) (by decide +kernel), pw_inS 1 (by decide +kernel) (by decide +kernel)⟩
def mX0_goOnSpeaking : Mt := (yX0_goOnSpeaking, cX0_goOnSpeaking, 6, (some .int), 3, 75, 0, 0)
theorem vX0_goOnSpeaking : MV mX0_goOnSpeaking 2 := ⟨pw_in 459 (by decide +kernel) (by decide +kernel), pw_in 2 (by decide +kernel) (by decide +kernel), by decide +kernel, by decide +kernel, by decide +kernel⟩
theorem iX0_goOnSpeaking : MI mX0_goOnSpeaking := ⟨pw_in 458 (by decide +kernel) (by decide +kernel), pw_inS 4 (by decide +kernel) (by decide +kernel)⟩
def mX0_hasFault : Mt := (yX0_hasFault, cX0_hasFault, 2, (some .boolean), 1, 20, 0, 0)
theorem vX0_hasFault : MV mX0_hasFault 1 := ⟨pw_in 385 (by decide +kernel) (by decide +kernel), pw_in 2 (by decide +kernel) (by decide +kernel), by decide +kernel, by decide +kernel, by decide +kernel⟩
theorem iX0_hasFault : MI mX0_hasFault := ⟨pw_in 383 (by decide +kernel) (by decide +kernel), pw_in 384 (by decide +kernel) (by decide +kernel)⟩
def mX0_hasWords : Mt := (yX0_hasWords, cX0_hasWords, 2, (some .boolean), 0, 0, 0, 0)
theorem vX0_hasWords : MV mX0_hasWords 0 := ⟨pw_in 570 (by decide +kernel) (by decide +kernel), pw_in 2 (by decide +kernel) (by decide +kernel), by decide +kernel, by decide +kernel, by decide +kernel⟩
theorem iX0_hasWords : MI mX0_hasWords := ⟨pw_in 568 (by decide +kernel) (by decide +kernel), pw_in 569 (by decide +kernel) (by decide +kernel)⟩
def mX0_init : Mt := (yX0_init, cX0_init, 2, none, 3, 61, 61, 423)
theorem vX0_init : MV mX0_init 0 := ⟨pw_in 25 (by decide +kernel) (by decide +kernel), pw_in 2 (by decide +kernel) (by decide +kernel), by decide +kernel, by decide +kernel, by decide +kernel⟩
theorem nX0_init : Cond.instanceMethod (mY mX0_init) ∈ pw_Tb := pw_in 24 (by decide +kernel) (by decide +kernel)
def mX0_isRested : Mt := (yX0_isRested, cX0_isRested, 2, (some .boolean), 1, 20, 0, 0)
theorem vX0_isRested : MV mX0_isRested 1 := ⟨pw_in 438 (by decide +kernel) (by decide +kernel), pw_in 2 (by decide +kernel) (by decide +kernel), by decide +kernel, by decide +kernel, by decide +kernel⟩
theorem iX0_isRested : MI mX0_isRested := ⟨pw_in 436 (by decide +kernel) (by decide +kernel), pw_in 437 (by decide +kernel) (by decide +kernel)⟩
def mX0_loseChargeAbove : Mt := (yX0_loseChargeAbove, cX0_loseChargeAbove, 3, none, 1, 21, 0, 0)
theorem vX0_loseChargeAbove : MV mX0_loseChargeAbove 1 := ⟨pw_in 312 (by decide +kernel) (by decide +kernel), pw_in 2 (by decide +kernel) (by decide +kernel), by decide +kernel, by decide +kernel, by decide +kernel⟩
theorem iX0_loseChargeAbove : MI mX0_loseChargeAbove := ⟨pw_in 311 (by decide +kernel) (by decide +kernel), pw_inS 0 (by decide +kernel) (by decide +kernel)⟩
def mX0_passBeat : Mt := (yX0_passBeat, cX0_passBeat, 4, (some .int), 4, 100, 0, 0)
theorem vX0_passBeat : MV mX0_passBeat 0 := ⟨pw_in 422 (by decide +kernel) (by decide +kernel), pw_in 2 (by decide +kernel) (by decide +kernel), by decide +kernel, by decide +kernel, by decide +kernel⟩
theorem iX0_passBeat : MI mX0_passBeat := ⟨pw_in 420 (by decide +kernel) (by decide +kernel), pw_in 421 (by decide +kernel) (by decide +kernel)⟩
def mX0_passBeats : Mt := (yX0_passBeats, cX0_passBeats, 4, (some .int), 5, 123, 0, 0)
theorem vX0_passBeats : MV mX0_passBeats 1 := ⟨pw_in 417 (by decide +kernel) (by decide +kernel), pw_in 2 (by decide +kernel) (by decide +kernel), by decide +kernel, by decide +kernel, by decide +kernel⟩
theorem iX0_passBeats : MI mX0_passBeats := ⟨pw_in 415 (by decide +kernel) (by decide +kernel), pw_in 416 (by decide +kernel) (by decide +kernel)⟩
def mX0_pulledWires : Mt := (yX0_pulledWires, cX0_pulledWires, 3, (some .int), 1, 20, 0, 0)
theorem vX0_pulledWires : MV mX0_pulledWires 0 := ⟨pw_in 451 (by decide +kernel) (by decide +kernel), pw_in 2 (by decide +kernel) (by decide +kernel), by decide +kernel, by decide +kernel, by decide +kernel⟩
theorem iX0_pulledWires : MI mX0_pulledWires := ⟨pw_in 450 (by decide +kernel) (by decide +kernel), pw_inS 3 (by decide +kernel) (by decide +kernel)⟩
def mX0_restWires : Mt := (yX0_restWires, cX0_restWires, 3, none, 1, 21, 0, 0)
theorem vX0_restWires : MV mX0_restWires 1 := ⟨pw_in 486 (by decide +kernel) (by decide +kernel), pw_in 2 (by decide +kernel) (by decide +kernel), by decide +kernel, by decide +kernel, by decide +kernel⟩
theorem iX0_restWires : MI mX0_restWires := ⟨pw_in 485 (by decide +kernel) (by decide +kernel), pw_inS 7 (by decide +kernel) (by decide +kernel)⟩
def mX0_speakersOn : Mt := (yX0_speakersOn, cX0_speakersOn, 4, (some .int), 0, 0, 0, 0)
theorem vX0_speakersOn : MV mX0_speakersOn 1 := ⟨pw_in 497 (by decide +kernel) (by decide +kernel), pw_in 2 (by decide +kernel) (by decide +kernel), by decide +kernel, by decide +kernel, by decide +kernel⟩
theorem iX0_speakersOn : MI mX0_speakersOn := ⟨pw_in 495 (by decide +kernel) (by decide +kernel), pw_in 496 (by decide +kernel) (by decide +kernel)⟩
def mX0_stationsAt : Mt := (yX0_stationsAt, cX0_stationsAt, 4, (some .int), 1, 21, 0, 0)
theorem vX0_stationsAt : MV mX0_stationsAt 1 := ⟨pw_in 442 (by decide +kernel) (by decide +kernel), pw_in 2 (by decide +kernel) (by decide +kernel), by decide +kernel, by decide +kernel, by decide +kernel⟩
theorem iX0_stationsAt : MI mX0_stationsAt := ⟨pw_in 440 (by decide +kernel) (by decide +kernel), pw_in 441 (by decide +kernel) (by decide +kernel)⟩
def mX0_sumOf : Mt := (yX0_sumOf, cX0_sumOf, 4, (some .int), 2, 41, 0, 0)
theorem vX0_sumOf : MV mX0_sumOf 1 := ⟨pw_in 549 (by decide +kernel) (by decide +kernel), pw_in 2 (by decide +kernel) (by decide +kernel), by decide +kernel, by decide +kernel, by decide +kernel⟩
theorem iX0_sumOf : MI mX0_sumOf := ⟨pw_in 547 (by decide +kernel) (by decide +kernel), pw_in 548 (by decide +kernel) (by decide +kernel)⟩
def mX0_toggleDoze : Mt := (yX0_toggleDoze, cX0_toggleDoze, 3, (some .int), 3, 64, 0, 0)
theorem vX0_toggleDoze : MV mX0_toggleDoze 1 := ⟨pw_in 393 (by decide +kernel) (by decide +kernel), pw_in 2 (by decide +kernel) (by decide +kernel), by decide +kernel, by decide +kernel, by decide +kernel⟩
theorem iX0_toggleDoze : MI mX0_toggleDoze := ⟨pw_in 391 (by decide +kernel) (by decide +kernel), pw_in 392 (by decide +kernel) (by decide +kernel)⟩
def mX0_toggleFault : Mt := (yX0_toggleFault, cX0_toggleFault, 2, (some .int), 2, 41, 0, 0)
theorem vX0_toggleFault : MV mX0_toggleFault 1 := ⟨pw_in 381 (by decide +kernel) (by decide +kernel), pw_in 2 (by decide +kernel) (by decide +kernel), by decide +kernel, by decide +kernel, by decide +kernel⟩
theorem iX0_toggleFault : MI mX0_toggleFault := ⟨pw_in 379 (by decide +kernel) (by decide +kernel), pw_in 380 (by decide +kernel) (by decide +kernel)⟩
def mX0_waitingFor : Mt := (yX0_waitingFor, cX0_waitingFor, 4, (some .int), 3, 65, 0, 0)
theorem vX0_waitingFor : MV mX0_waitingFor 1 := ⟨pw_in 501 (by decide +kernel) (by decide +kernel), pw_in 2 (by decide +kernel) (by decide +kernel), by decide +kernel, by decide +kernel, by decide +kernel⟩
theorem iX0_waitingFor : MI mX0_waitingFor := ⟨pw_in 499 (by decide +kernel) (by decide +kernel), pw_in 500 (by decide +kernel) (by decide +kernel)⟩
def mX1_init : Mt := (yX1_init, cX1_init, 2, none, 4, 82, 435, 3024)
theorem vX1_init : MV mX1_init 0 := ⟨pw_in 181 (by decide +kernel) (by decide +kernel), pw_in 6 (by decide +kernel) (by decide +kernel), by decide +kernel, by decide +kernel, by decide +kernel⟩
theorem nX1_init : Cond.instanceMethod (mY mX1_init) ∈ pw_Tb := pw_in 180 (by decide +kernel) (by decide +kernel)
def mX1_keep : Mt := (yX1_keep, cX1_keep, 2, (some .int), 1, 21, 0, 0)
theorem vX1_keep : MV mX1_keep 1 := ⟨pw_in 317 (by decide +kernel) (by decide +kernel), pw_in 6 (by decide +kernel) (by decide +kernel), by decide +kernel, by decide +kernel, by decide +kernel⟩
theorem iX1_keep : MI mX1_keep := ⟨pw_in 315 (by decide +kernel) (by decide +kernel), pw_in 316 (by decide +kernel) (by decide +kernel)⟩
def mX1_prepare : Mt := (yX1_prepare, cX1_prepare, 2, none, 5, 111, 0, 0)
theorem vX1_prepare : MV mX1_prepare 1 := ⟨pw_in 273 (by decide +kernel) (by decide +kernel), pw_in 6 (by decide +kernel) (by decide +kernel), by decide +kernel, by decide +kernel, by decide +kernel⟩
theorem iX1_prepare : MI mX1_prepare := ⟨pw_in 271 (by decide +kernel) (by decide +kernel), pw_in 272 (by decide +kernel) (by decide +kernel)⟩
def mX1_takeBack : Mt := (yX1_takeBack, cX1_takeBack, 2, (some .int), 5, 111, 0, 0)
theorem vX1_takeBack : MV mX1_takeBack 1 := ⟨pw_in 676 (by decide +kernel) (by decide +kernel), pw_in 6 (by decide +kernel) (by decide +kernel), by decide +kernel, by decide +kernel, by decide +kernel⟩
theorem iX1_takeBack : MI mX1_takeBack := ⟨pw_in 674 (by decide +kernel) (by decide +kernel), pw_in 675 (by decide +kernel) (by decide +kernel)⟩
def mX2_add : Mt := (yX2_add, cX2_add, 5, none, 1, 26, 0, 0)
theorem vX2_add : MV mX2_add 4 := ⟨pw_in 467 (by decide +kernel) (by decide +kernel), pw_in 5 (by decide +kernel) (by decide +kernel), by decide +kernel, by decide +kernel, by decide +kernel⟩
theorem iX2_add : MI mX2_add := ⟨pw_in 465 (by decide +kernel) (by decide +kernel), pw_in 466 (by decide +kernel) (by decide +kernel)⟩
def mX2_copyFrom : Mt := (yX2_copyFrom, cX2_copyFrom, 2, none, 2, 47, 0, 0)
theorem vX2_copyFrom : MV mX2_copyFrom 1 := ⟨pw_in 299 (by decide +kernel) (by decide +kernel), pw_in 5 (by decide +kernel) (by decide +kernel), by decide +kernel, by decide +kernel, by decide +kernel⟩
theorem iX2_copyFrom : MI mX2_copyFrom := ⟨pw_in 297 (by decide +kernel) (by decide +kernel), pw_in 298 (by decide +kernel) (by decide +kernel)⟩
def mX2_fact : Mt := (yX2_fact, cX2_fact, 3, (some .int), 1, 21, 0, 0)
theorem vX2_fact : MV mX2_fact 2 := ⟨pw_in 539 (by decide +kernel) (by decide +kernel), pw_in 5 (by decide +kernel) (by decide +kernel), by decide +kernel, by decide +kernel, by decide +kernel⟩
theorem iX2_fact : MI mX2_fact := ⟨pw_in 537 (by decide +kernel) (by decide +kernel), pw_in 538 (by decide +kernel) (by decide +kernel)⟩
def mX2_has : Mt := (yX2_has, cX2_has, 2, (some .boolean), 0, 0, 0, 0)
theorem vX2_has : MV mX2_has 1 := ⟨pw_in 535 (by decide +kernel) (by decide +kernel), pw_in 5 (by decide +kernel) (by decide +kernel), by decide +kernel, by decide +kernel, by decide +kernel⟩
theorem iX2_has : MI mX2_has := ⟨pw_in 533 (by decide +kernel) (by decide +kernel), pw_in 534 (by decide +kernel) (by decide +kernel)⟩
def mX2_init : Mt := (yX2_init, cX2_init, 1, none, 1, 20, 1, 16)
theorem vX2_init : MV mX2_init 0 := ⟨pw_in 70 (by decide +kernel) (by decide +kernel), pw_in 5 (by decide +kernel) (by decide +kernel), by decide +kernel, by decide +kernel, by decide +kernel⟩
theorem nX2_init : Cond.instanceMethod (mY mX2_init) ∈ pw_Tb := pw_in 69 (by decide +kernel) (by decide +kernel)
def mX3_append : Mt := (yX3_append, cX3_append, 7, (some .int), 1, 26, 0, 0)
theorem vX3_append : MV mX3_append 1 := ⟨pw_in 596 (by decide +kernel) (by decide +kernel), pw_in 7 (by decide +kernel) (by decide +kernel), by decide +kernel, by decide +kernel, by decide +kernel⟩
theorem iX3_append : MI mX3_append := ⟨pw_in 594 (by decide +kernel) (by decide +kernel), pw_in 595 (by decide +kernel) (by decide +kernel)⟩
def mX3_charactersIn : Mt := (yX3_charactersIn, cX3_charactersIn, 7, (some .int), 0, 0, 0, 0)
theorem vX3_charactersIn : MV mX3_charactersIn 1 := ⟨pw_in 599 (by decide +kernel) (by decide +kernel), pw_in 7 (by decide +kernel) (by decide +kernel), by decide +kernel, by decide +kernel, by decide +kernel⟩
theorem sX3_charactersIn : Cond.static (mY mX3_charactersIn) ∈ pw_Tb := pw_in 598 (by decide +kernel) (by decide +kernel)
def mX3_clear : Mt := (yX3_clear, cX3_clear, 2, (some .int), 0, 0, 0, 0)
theorem vX3_clear : MV mX3_clear 0 := ⟨pw_in 610 (by decide +kernel) (by decide +kernel), pw_in 7 (by decide +kernel) (by decide +kernel), by decide +kernel, by decide +kernel, by decide +kernel⟩
theorem iX3_clear : MI mX3_clear := ⟨pw_in 608 (by decide +kernel) (by decide +kernel), pw_in 609 (by decide +kernel) (by decide +kernel)⟩
def mX3_codeAt : Mt := (yX3_codeAt, cX3_codeAt, 2, (some .int), 0, 0, 0, 0)
theorem vX3_codeAt : MV mX3_codeAt 1 := ⟨pw_in 626 (by decide +kernel) (by decide +kernel), pw_in 7 (by decide +kernel) (by decide +kernel), by decide +kernel, by decide +kernel, by decide +kernel⟩
theorem iX3_codeAt : MI mX3_codeAt := ⟨pw_in 624 (by decide +kernel) (by decide +kernel), pw_in 625 (by decide +kernel) (by decide +kernel)⟩
def mX3_init : Mt := (yX3_init, cX3_init, 1, none, 1, 20, 1, 80)
theorem vX3_init : MV mX3_init 0 := ⟨pw_in 201 (by decide +kernel) (by decide +kernel), pw_in 7 (by decide +kernel) (by decide +kernel), by decide +kernel, by decide +kernel, by decide +kernel⟩
theorem nX3_init : Cond.instanceMethod (mY mX3_init) ∈ pw_Tb := pw_in 200 (by decide +kernel) (by decide +kernel)
def mX4_canGrowBy : Mt := (yX4_canGrowBy, cX4_canGrowBy, 2, (some .boolean), 0, 0, 0, 0)
theorem vX4_canGrowBy : MV mX4_canGrowBy 1 := ⟨pw_in 659 (by decide +kernel) (by decide +kernel), pw_in 8 (by decide +kernel) (by decide +kernel), by decide +kernel, by decide +kernel, by decide +kernel⟩
theorem iX4_canGrowBy : MI mX4_canGrowBy := ⟨pw_in 658 (by decide +kernel) (by decide +kernel), pw_inS 16 (by decide +kernel) (by decide +kernel)⟩
def mX4_digitAt : Mt := (yX4_digitAt, cX4_digitAt, 2, (some .int), 1, 21, 0, 0)
theorem vX4_digitAt : MV mX4_digitAt 0 := ⟨pw_in 651 (by decide +kernel) (by decide +kernel), pw_in 8 (by decide +kernel) (by decide +kernel), by decide +kernel, by decide +kernel, by decide +kernel⟩
theorem iX4_digitAt : MI mX4_digitAt := ⟨pw_in 650 (by decide +kernel) (by decide +kernel), pw_inS 14 (by decide +kernel) (by decide +kernel)⟩
def mX4_findFault : Mt := (yX4_findFault, cX4_findFault, 1, (some .int), 4, 83, 0, 0)
theorem vX4_findFault : MV mX4_findFault 0 := ⟨pw_in 618 (by decide +kernel) (by decide +kernel), pw_in 8 (by decide +kernel) (by decide +kernel), by decide +kernel, by decide +kernel, by decide +kernel⟩
theorem iX4_findFault : MI mX4_findFault := ⟨pw_in 616 (by decide +kernel) (by decide +kernel), pw_in 617 (by decide +kernel) (by decide +kernel)⟩
def mX4_init : Mt := (yX4_init, cX4_init, 2, none, 1, 20, 0, 0)
theorem vX4_init : MV mX4_init 1 := ⟨pw_in 217 (by decide +kernel) (by decide +kernel), pw_in 8 (by decide +kernel) (by decide +kernel), by decide +kernel, by decide +kernel, by decide +kernel⟩
theorem nX4_init : Cond.instanceMethod (mY mX4_init) ∈ pw_Tb := pw_in 216 (by decide +kernel) (by decide +kernel)
def mX4_isNewWire : Mt := (yX4_isNewWire, cX4_isNewWire, 2, (some .boolean), 1, 20, 0, 0)
theorem vX4_isNewWire : MV mX4_isNewWire 1 := ⟨pw_in 638 (by decide +kernel) (by decide +kernel), pw_in 8 (by decide +kernel) (by decide +kernel), by decide +kernel, by decide +kernel, by decide +kernel⟩
theorem iX4_isNewWire : MI mX4_isNewWire := ⟨pw_in 637 (by decide +kernel) (by decide +kernel), pw_inS 11 (by decide +kernel) (by decide +kernel)⟩
def mX4_readNumber : Mt := (yX4_readNumber, cX4_readNumber, 2, (some .boolean), 2, 42, 0, 0)
theorem vX4_readNumber : MV mX4_readNumber 0 := ⟨pw_in 655 (by decide +kernel) (by decide +kernel), pw_in 8 (by decide +kernel) (by decide +kernel), by decide +kernel, by decide +kernel, by decide +kernel⟩
theorem iX4_readNumber : MI mX4_readNumber := ⟨pw_in 654 (by decide +kernel) (by decide +kernel), pw_inS 15 (by decide +kernel) (by decide +kernel)⟩
def mX4_readOrder : Mt := (yX4_readOrder, cX4_readOrder, 1, (some .boolean), 3, 63, 0, 0)
theorem vX4_readOrder : MV mX4_readOrder 0 := ⟨pw_in 622 (by decide +kernel) (by decide +kernel), pw_in 8 (by decide +kernel) (by decide +kernel), by decide +kernel, by decide +kernel, by decide +kernel⟩
theorem iX4_readOrder : MI mX4_readOrder := ⟨pw_in 620 (by decide +kernel) (by decide +kernel), pw_in 621 (by decide +kernel) (by decide +kernel)⟩
def mX4_readSign : Mt := (yX4_readSign, cX4_readSign, 2, (some .boolean), 1, 21, 0, 0)
theorem vX4_readSign : MV mX4_readSign 1 := ⟨pw_in 630 (by decide +kernel) (by decide +kernel), pw_in 8 (by decide +kernel) (by decide +kernel), by decide +kernel, by decide +kernel, by decide +kernel⟩
theorem iX4_readSign : MI mX4_readSign := ⟨pw_in 629 (by decide +kernel) (by decide +kernel), pw_inS 9 (by decide +kernel) (by decide +kernel)⟩
def mX4_readStation : Mt := (yX4_readStation, cX4_readStation, 1, (some .boolean), 2, 42, 0, 0)
theorem vX4_readStation : MV mX4_readStation 0 := ⟨pw_in 647 (by decide +kernel) (by decide +kernel), pw_in 8 (by decide +kernel) (by decide +kernel), by decide +kernel, by decide +kernel, by decide +kernel⟩
theorem iX4_readStation : MI mX4_readStation := ⟨pw_in 646 (by decide +kernel) (by decide +kernel), pw_inS 13 (by decide +kernel) (by decide +kernel)⟩
def mX4_readWire : Mt := (yX4_readWire, cX4_readWire, 1, (some .boolean), 1, 21, 0, 0)
theorem vX4_readWire : MV mX4_readWire 0 := ⟨pw_in 643 (by decide +kernel) (by decide +kernel), pw_in 8 (by decide +kernel) (by decide +kernel), by decide +kernel, by decide +kernel, by decide +kernel⟩
theorem iX4_readWire : MI mX4_readWire := ⟨pw_in 642 (by decide +kernel) (by decide +kernel), pw_inS 12 (by decide +kernel) (by decide +kernel)⟩
def mX4_readWires : Mt := (yX4_readWires, cX4_readWires, 2, (some .boolean), 2, 41, 0, 0)
theorem vX4_readWires : MV mX4_readWires 0 := ⟨pw_in 634 (by decide +kernel) (by decide +kernel), pw_in 8 (by decide +kernel) (by decide +kernel), by decide +kernel, by decide +kernel, by decide +kernel⟩
theorem iX4_readWires : MI mX4_readWires := ⟨pw_in 633 (by decide +kernel) (by decide +kernel), pw_inS 10 (by decide +kernel) (by decide +kernel)⟩
def mX5_add : Mt := (yX5_add, cX5_add, 3, none, 0, 0, 0, 0)
theorem vX5_add : MV mX5_add 2 := ⟨pw_in 349 (by decide +kernel) (by decide +kernel), pw_in 4 (by decide +kernel) (by decide +kernel), by decide +kernel, by decide +kernel, by decide +kernel⟩
theorem iX5_add : MI mX5_add := ⟨pw_in 347 (by decide +kernel) (by decide +kernel), pw_in 348 (by decide +kernel) (by decide +kernel)⟩
def mX5_copyFrom : Mt := (yX5_copyFrom, cX5_copyFrom, 2, none, 2, 47, 0, 0)
theorem vX5_copyFrom : MV mX5_copyFrom 1 := ⟨pw_in 294 (by decide +kernel) (by decide +kernel), pw_in 4 (by decide +kernel) (by decide +kernel), by decide +kernel, by decide +kernel, by decide +kernel⟩
theorem iX5_copyFrom : MI mX5_copyFrom := ⟨pw_in 292 (by decide +kernel) (by decide +kernel), pw_in 293 (by decide +kernel) (by decide +kernel)⟩
def mX5_countFor : Mt := (yX5_countFor, cX5_countFor, 4, (some .int), 2, 42, 0, 0)
theorem vX5_countFor : MV mX5_countFor 1 := ⟨pw_in 505 (by decide +kernel) (by decide +kernel), pw_in 4 (by decide +kernel) (by decide +kernel), by decide +kernel, by decide +kernel, by decide +kernel⟩
theorem iX5_countFor : MI mX5_countFor := ⟨pw_in 503 (by decide +kernel) (by decide +kernel), pw_in 504 (by decide +kernel) (by decide +kernel)⟩
def mX5_dropFirst : Mt := (yX5_dropFirst, cX5_dropFirst, 2, none, 0, 0, 0, 0)
theorem vX5_dropFirst : MV mX5_dropFirst 0 := ⟨pw_in 369 (by decide +kernel) (by decide +kernel), pw_in 4 (by decide +kernel) (by decide +kernel), by decide +kernel, by decide +kernel, by decide +kernel⟩
theorem iX5_dropFirst : MI mX5_dropFirst := ⟨pw_in 367 (by decide +kernel) (by decide +kernel), pw_in 368 (by decide +kernel) (by decide +kernel)⟩
def mX5_has : Mt := (yX5_has, cX5_has, 2, (some .boolean), 0, 0, 0, 0)
theorem vX5_has : MV mX5_has 1 := ⟨pw_in 365 (by decide +kernel) (by decide +kernel), pw_in 4 (by decide +kernel) (by decide +kernel), by decide +kernel, by decide +kernel, by decide +kernel⟩
theorem iX5_has : MI mX5_has := ⟨pw_in 363 (by decide +kernel) (by decide +kernel), pw_in 364 (by decide +kernel) (by decide +kernel)⟩
def mX5_init : Mt := (yX5_init, cX5_init, 1, none, 1, 20, 3, 12)
theorem vX5_init : MV mX5_init 0 := ⟨pw_in 47 (by decide +kernel) (by decide +kernel), pw_in 4 (by decide +kernel) (by decide +kernel), by decide +kernel, by decide +kernel, by decide +kernel⟩
theorem nX5_init : Cond.instanceMethod (mY mX5_init) ∈ pw_Tb := pw_in 46 (by decide +kernel) (by decide +kernel)
def mX5_numberAt : Mt := (yX5_numberAt, cX5_numberAt, 2, (some .int), 1, 21, 0, 0)
theorem vX5_numberAt : MV mX5_numberAt 1 := ⟨pw_in 361 (by decide +kernel) (by decide +kernel), pw_in 4 (by decide +kernel) (by decide +kernel), by decide +kernel, by decide +kernel, by decide +kernel⟩
theorem iX5_numberAt : MI mX5_numberAt := ⟨pw_in 359 (by decide +kernel) (by decide +kernel), pw_in 360 (by decide +kernel) (by decide +kernel)⟩
def mX5_triesAt : Mt := (yX5_triesAt, cX5_triesAt, 2, (some .int), 1, 21, 0, 0)
theorem vX5_triesAt : MV mX5_triesAt 1 := ⟨pw_in 527 (by decide +kernel) (by decide +kernel), pw_in 4 (by decide +kernel) (by decide +kernel), by decide +kernel, by decide +kernel, by decide +kernel⟩
theorem iX5_triesAt : MI mX5_triesAt := ⟨pw_in 525 (by decide +kernel) (by decide +kernel), pw_in 526 (by decide +kernel) (by decide +kernel)⟩
def mX5_tryFirst : Mt := (yX5_tryFirst, cX5_tryFirst, 1, (some .int), 0, 0, 0, 0)
theorem vX5_tryFirst : MV mX5_tryFirst 0 := ⟨pw_in 409 (by decide +kernel) (by decide +kernel), pw_in 4 (by decide +kernel) (by decide +kernel), by decide +kernel, by decide +kernel, by decide +kernel⟩
theorem iX5_tryFirst : MI mX5_tryFirst := ⟨pw_in 407 (by decide +kernel) (by decide +kernel), pw_in 408 (by decide +kernel) (by decide +kernel)⟩
def mX5_wireAt : Mt := (yX5_wireAt, cX5_wireAt, 2, (some .int), 1, 21, 0, 0)
theorem vX5_wireAt : MV mX5_wireAt 1 := ⟨pw_in 405 (by decide +kernel) (by decide +kernel), pw_in 4 (by decide +kernel) (by decide +kernel), by decide +kernel, by decide +kernel, by decide +kernel⟩
theorem iX5_wireAt : MI mX5_wireAt := ⟨pw_in 403 (by decide +kernel) (by decide +kernel), pw_in 404 (by decide +kernel) (by decide +kernel)⟩
def mX6_begin : Mt := (yX6_begin, cX6_begin, 3, none, 2, 42, 0, 0)
theorem vX6_begin : MV mX6_begin 2 := ⟨pw_in 446 (by decide +kernel) (by decide +kernel), pw_in 3 (by decide +kernel) (by decide +kernel), by decide +kernel, by decide +kernel, by decide +kernel⟩
theorem iX6_begin : MI mX6_begin := ⟨pw_in 444 (by decide +kernel) (by decide +kernel), pw_in 445 (by decide +kernel) (by decide +kernel)⟩
def mX6_copyFrom : Mt := (yX6_copyFrom, cX6_copyFrom, 2, none, 3, 68, 0, 0)
theorem vX6_copyFrom : MV mX6_copyFrom 1 := ⟨pw_in 290 (by decide +kernel) (by decide +kernel), pw_in 3 (by decide +kernel) (by decide +kernel), by decide +kernel, by decide +kernel, by decide +kernel⟩
theorem iX6_copyFrom : MI mX6_copyFrom := ⟨pw_in 288 (by decide +kernel) (by decide +kernel), pw_in 289 (by decide +kernel) (by decide +kernel)⟩
def mX6_fact : Mt := (yX6_fact, cX6_fact, 2, (some .int), 1, 20, 0, 0)
theorem vX6_fact : MV mX6_fact 1 := ⟨pw_in 515 (by decide +kernel) (by decide +kernel), pw_in 3 (by decide +kernel) (by decide +kernel), by decide +kernel, by decide +kernel, by decide +kernel⟩
theorem iX6_fact : MI mX6_fact := ⟨pw_in 513 (by decide +kernel) (by decide +kernel), pw_in 514 (by decide +kernel) (by decide +kernel)⟩
def mX6_fallSilent : Mt := (yX6_fallSilent, cX6_fallSilent, 1, none, 0, 0, 0, 0)
theorem vX6_fallSilent : MV mX6_fallSilent 0 := ⟨pw_in 373 (by decide +kernel) (by decide +kernel), pw_in 3 (by decide +kernel) (by decide +kernel), by decide +kernel, by decide +kernel, by decide +kernel⟩
theorem iX6_fallSilent : MI mX6_fallSilent := ⟨pw_in 371 (by decide +kernel) (by decide +kernel), pw_in 372 (by decide +kernel) (by decide +kernel)⟩
def mX6_init : Mt := (yX6_init, cX6_init, 2, none, 2, 40, 6, 34)
theorem vX6_init : MV mX6_init 1 := ⟨pw_in 41 (by decide +kernel) (by decide +kernel), pw_in 3 (by decide +kernel) (by decide +kernel), by decide +kernel, by decide +kernel, by decide +kernel⟩
theorem nX6_init : Cond.instanceMethod (mY mX6_init) ∈ pw_Tb := pw_in 40 (by decide +kernel) (by decide +kernel)
def mX6_isAt : Mt := (yX6_isAt, cX6_isAt, 2, (some .boolean), 0, 0, 0, 0)
theorem vX6_isAt : MV mX6_isAt 1 := ⟨pw_in 345 (by decide +kernel) (by decide +kernel), pw_in 3 (by decide +kernel) (by decide +kernel), by decide +kernel, by decide +kernel, by decide +kernel⟩
theorem iX6_isAt : MI mX6_isAt := ⟨pw_in 343 (by decide +kernel) (by decide +kernel), pw_in 344 (by decide +kernel) (by decide +kernel)⟩
def mX6_isAwake : Mt := (yX6_isAwake, cX6_isAwake, 1, (some .boolean), 0, 0, 0, 0)
theorem vX6_isAwake : MV mX6_isAwake 0 := ⟨pw_in 430 (by decide +kernel) (by decide +kernel), pw_in 3 (by decide +kernel) (by decide +kernel), by decide +kernel, by decide +kernel, by decide +kernel⟩
theorem iX6_isAwake : MI mX6_isAwake := ⟨pw_in 428 (by decide +kernel) (by decide +kernel), pw_in 429 (by decide +kernel) (by decide +kernel)⟩
def mX6_isSpeaking : Mt := (yX6_isSpeaking, cX6_isSpeaking, 1, (some .boolean), 0, 0, 0, 0)
theorem vX6_isSpeaking : MV mX6_isSpeaking 0 := ⟨pw_in 397 (by decide +kernel) (by decide +kernel), pw_in 3 (by decide +kernel) (by decide +kernel), by decide +kernel, by decide +kernel, by decide +kernel⟩
theorem iX6_isSpeaking : MI mX6_isSpeaking := ⟨pw_in 395 (by decide +kernel) (by decide +kernel), pw_in 396 (by decide +kernel) (by decide +kernel)⟩
def mX6_letsGo : Mt := (yX6_letsGo, cX6_letsGo, 1, (some .boolean), 0, 0, 0, 0)
theorem vX6_letsGo : MV mX6_letsGo 0 := ⟨pw_in 455 (by decide +kernel) (by decide +kernel), pw_in 3 (by decide +kernel) (by decide +kernel), by decide +kernel, by decide +kernel, by decide +kernel⟩
theorem iX6_letsGo : MI mX6_letsGo := ⟨pw_in 453 (by decide +kernel) (by decide +kernel), pw_in 454 (by decide +kernel) (by decide +kernel)⟩
def mX7_bestRest : Mt := (yX7_bestRest, cX7_bestRest, 7, (some .int), 6, 147, 0, 0)
theorem vX7_bestRest : MV mX7_bestRest 2 := ⟨pw_in 574 (by decide +kernel) (by decide +kernel), pw_in 1 (by decide +kernel) (by decide +kernel), by decide +kernel, by decide +kernel, by decide +kernel⟩
theorem iX7_bestRest : MI mX7_bestRest := ⟨pw_in 572 (by decide +kernel) (by decide +kernel), pw_in 573 (by decide +kernel) (by decide +kernel)⟩
def mX7_busiest : Mt := (yX7_busiest, cX7_busiest, 5, (some .int), 4, 88, 0, 0)
theorem vX7_busiest : MV mX7_busiest 0 := ⟨pw_in 584 (by decide +kernel) (by decide +kernel), pw_in 1 (by decide +kernel) (by decide +kernel), by decide +kernel, by decide +kernel, by decide +kernel⟩
theorem iX7_busiest : MI mX7_busiest := ⟨pw_in 582 (by decide +kernel) (by decide +kernel), pw_in 583 (by decide +kernel) (by decide +kernel)⟩
def mX7_carryOrder : Mt := (yX7_carryOrder, cX7_carryOrder, 1, (some .int), 6, 146, 0, 0)
theorem vX7_carryOrder : MV mX7_carryOrder 0 := ⟨pw_in 668 (by decide +kernel) (by decide +kernel), pw_in 1 (by decide +kernel) (by decide +kernel), by decide +kernel, by decide +kernel, by decide +kernel⟩
theorem iX7_carryOrder : MI mX7_carryOrder := ⟨pw_in 667 (by decide +kernel) (by decide +kernel), pw_inS 17 (by decide +kernel) (by decide +kernel)⟩
def mX7_carryOut : Mt := (yX7_carryOut, cX7_carryOut, 2, (some .int), 7, 166, 0, 0)
theorem vX7_carryOut : MV mX7_carryOut 0 := ⟨pw_in 663 (by decide +kernel) (by decide +kernel), pw_in 1 (by decide +kernel) (by decide +kernel), by decide +kernel, by decide +kernel, by decide +kernel⟩
theorem iX7_carryOut : MI mX7_carryOut := ⟨pw_in 661 (by decide +kernel) (by decide +kernel), pw_in 662 (by decide +kernel) (by decide +kernel)⟩
def mX7_copyNumbers : Mt := (yX7_copyNumbers, cX7_copyNumbers, 2, none, 1, 26, 0, 0)
theorem vX7_copyNumbers : MV mX7_copyNumbers 2 := ⟨pw_in 280 (by decide +kernel) (by decide +kernel), pw_in 1 (by decide +kernel) (by decide +kernel), by decide +kernel, by decide +kernel, by decide +kernel⟩
theorem sX7_copyNumbers : Cond.static (mY mX7_copyNumbers) ∈ pw_Tb := pw_in 279 (by decide +kernel) (by decide +kernel)
def mX7_count : Mt := (yX7_count, cX7_count, 2, (some .int), 3, 64, 0, 0)
theorem vX7_count : MV mX7_count 1 := ⟨pw_in 544 (by decide +kernel) (by decide +kernel), pw_in 1 (by decide +kernel) (by decide +kernel), by decide +kernel, by decide +kernel, by decide +kernel⟩
theorem iX7_count : MI mX7_count := ⟨pw_in 542 (by decide +kernel) (by decide +kernel), pw_in 543 (by decide +kernel) (by decide +kernel)⟩
def mX7_doze : Mt := (yX7_doze, cX7_doze, 2, (some .int), 6, 132, 0, 0)
theorem vX7_doze : MV mX7_doze 1 := ⟨pw_in 389 (by decide +kernel) (by decide +kernel), pw_in 1 (by decide +kernel) (by decide +kernel), by decide +kernel, by decide +kernel, by decide +kernel⟩
theorem iX7_doze : MI mX7_doze := ⟨pw_in 387 (by decide +kernel) (by decide +kernel), pw_in 388 (by decide +kernel) (by decide +kernel)⟩
def mX7_endsIn : Mt := (yX7_endsIn, cX7_endsIn, 6, (some .int), 5, 123, 0, 0)
theorem vX7_endsIn : MV mX7_endsIn 2 := ⟨pw_in 560 (by decide +kernel) (by decide +kernel), pw_in 1 (by decide +kernel) (by decide +kernel), by decide +kernel, by decide +kernel, by decide +kernel⟩
theorem iX7_endsIn : MI mX7_endsIn := ⟨pw_in 558 (by decide +kernel) (by decide +kernel), pw_in 559 (by decide +kernel) (by decide +kernel)⟩
def mX7_fault : Mt := (yX7_fault, cX7_fault, 1, (some .int), 5, 103, 0, 0)
theorem vX7_fault : MV mX7_fault 0 := ⟨pw_in 614 (by decide +kernel) (by decide +kernel), pw_in 1 (by decide +kernel) (by decide +kernel), by decide +kernel, by decide +kernel, by decide +kernel⟩
theorem iX7_fault : MI mX7_fault := ⟨pw_in 612 (by decide +kernel) (by decide +kernel), pw_in 613 (by decide +kernel) (by decide +kernel)⟩
def mX7_forget : Mt := (yX7_forget, cX7_forget, 2, (some .int), 6, 132, 0, 0)
theorem vX7_forget : MV mX7_forget 1 := ⟨pw_in 353 (by decide +kernel) (by decide +kernel), pw_in 1 (by decide +kernel) (by decide +kernel), by decide +kernel, by decide +kernel, by decide +kernel⟩
theorem iX7_forget : MI mX7_forget := ⟨pw_in 351 (by decide +kernel) (by decide +kernel), pw_in 352 (by decide +kernel) (by decide +kernel)⟩
def mX7_heard : Mt := (yX7_heard, cX7_heard, 5, (some .int), 2, 43, 0, 0)
theorem vX7_heard : MV mX7_heard 3 := ⟨pw_in 531 (by decide +kernel) (by decide +kernel), pw_in 1 (by decide +kernel) (by decide +kernel), by decide +kernel, by decide +kernel, by decide +kernel⟩
theorem iX7_heard : MI mX7_heard := ⟨pw_in 529 (by decide +kernel) (by decide +kernel), pw_in 530 (by decide +kernel) (by decide +kernel)⟩
def mX7_heardWithRest : Mt := (yX7_heardWithRest, cX7_heardWithRest, 5, (some .int), 5, 123, 0, 0)
theorem vX7_heardWithRest : MV mX7_heardWithRest 2 := ⟨pw_in 580 (by decide +kernel) (by decide +kernel), pw_in 1 (by decide +kernel) (by decide +kernel), by decide +kernel, by decide +kernel, by decide +kernel⟩
theorem iX7_heardWithRest : MI mX7_heardWithRest := ⟨pw_in 579 (by decide +kernel) (by decide +kernel), pw_inS 8 (by decide +kernel) (by decide +kernel)⟩
def mX7_init : Mt := (yX7_init, cX7_init, 1, none, 5, 103, 564, 3980)
theorem vX7_init : MV mX7_init 0 := ⟨pw_in 17 (by decide +kernel) (by decide +kernel), pw_in 1 (by decide +kernel) (by decide +kernel), by decide +kernel, by decide +kernel, by decide +kernel⟩
theorem nX7_init : Cond.instanceMethod (mY mX7_init) ∈ pw_Tb := pw_in 16 (by decide +kernel) (by decide +kernel)
def mX7_isSlot : Mt := (yX7_isSlot, cX7_isSlot, 1, (some .boolean), 0, 0, 0, 0)
theorem vX7_isSlot : MV mX7_isSlot 1 := ⟨pw_in 683 (by decide +kernel) (by decide +kernel), pw_in 1 (by decide +kernel) (by decide +kernel), by decide +kernel, by decide +kernel, by decide +kernel⟩
theorem sX7_isSlot : Cond.static (mY mX7_isSlot) ∈ pw_Tb := pw_in 682 (by decide +kernel) (by decide +kernel)
def mX7_isWire : Mt := (yX7_isWire, cX7_isWire, 1, (some .boolean), 0, 0, 0, 0)
theorem vX7_isWire : MV mX7_isWire 1 := ⟨pw_in 341 (by decide +kernel) (by decide +kernel), pw_in 1 (by decide +kernel) (by decide +kernel), by decide +kernel, by decide +kernel, by decide +kernel⟩
theorem sX7_isWire : Cond.static (mY mX7_isWire) ∈ pw_Tb := pw_in 340 (by decide +kernel) (by decide +kernel)
def mX7_of : Mt := (yX7_of, cX7_of, 4, (some .int), 2, 41, 0, 0)
theorem vX7_of : MV mX7_of 2 := ⟨pw_in 510 (by decide +kernel) (by decide +kernel), pw_in 1 (by decide +kernel) (by decide +kernel), by decide +kernel, by decide +kernel, by decide +kernel⟩
theorem iX7_of : MI mX7_of := ⟨pw_in 508 (by decide +kernel) (by decide +kernel), pw_in 509 (by decide +kernel) (by decide +kernel)⟩
def mX7_ofWire : Mt := (yX7_ofWire, cX7_ofWire, 3, (some .int), 4, 88, 0, 0)
theorem vX7_ofWire : MV mX7_ofWire 2 := ⟨pw_in 490 (by decide +kernel) (by decide +kernel), pw_in 1 (by decide +kernel) (by decide +kernel), by decide +kernel, by decide +kernel, by decide +kernel⟩
theorem iX7_ofWire : MI mX7_ofWire := ⟨pw_in 488 (by decide +kernel) (by decide +kernel), pw_in 489 (by decide +kernel) (by decide +kernel)⟩
def mX7_pass : Mt := (yX7_pass, cX7_pass, 2, (some .int), 6, 146, 0, 0)
theorem vX7_pass : MV mX7_pass 1 := ⟨pw_in 413 (by decide +kernel) (by decide +kernel), pw_in 1 (by decide +kernel) (by decide +kernel), by decide +kernel, by decide +kernel, by decide +kernel⟩
theorem iX7_pass : MI mX7_pass := ⟨pw_in 411 (by decide +kernel) (by decide +kernel), pw_in 412 (by decide +kernel) (by decide +kernel)⟩
def mX7_put : Mt := (yX7_put, cX7_put, 3, (some .int), 2, 52, 0, 0)
theorem vX7_put : MV mX7_put 1 := ⟨pw_in 592 (by decide +kernel) (by decide +kernel), pw_in 1 (by decide +kernel) (by decide +kernel), by decide +kernel, by decide +kernel, by decide +kernel⟩
theorem iX7_put : MI mX7_put := ⟨pw_in 590 (by decide +kernel) (by decide +kernel), pw_in 591 (by decide +kernel) (by decide +kernel)⟩
def mX7_quietIn : Mt := (yX7_quietIn, cX7_quietIn, 2, (some .int), 5, 123, 0, 0)
theorem vX7_quietIn : MV mX7_quietIn 0 := ⟨pw_in 566 (by decide +kernel) (by decide +kernel), pw_in 1 (by decide +kernel) (by decide +kernel), by decide +kernel, by decide +kernel, by decide +kernel⟩
theorem iX7_quietIn : MI mX7_quietIn := ⟨pw_in 564 (by decide +kernel) (by decide +kernel), pw_in 565 (by decide +kernel) (by decide +kernel)⟩
def mX7_restore : Mt := (yX7_restore, cX7_restore, 3, (some .int), 6, 132, 0, 0)
theorem vX7_restore : MV mX7_restore 1 := ⟨pw_in 687 (by decide +kernel) (by decide +kernel), pw_in 1 (by decide +kernel) (by decide +kernel), by decide +kernel, by decide +kernel, by decide +kernel⟩
theorem iX7_restore : MI mX7_restore := ⟨pw_in 685 (by decide +kernel) (by decide +kernel), pw_in 686 (by decide +kernel) (by decide +kernel)⟩
def mX7_row : Mt := (yX7_row, cX7_row, 5, (some .int), 2, 42, 0, 0)
theorem vX7_row : MV mX7_row 3 := ⟨pw_in 520 (by decide +kernel) (by decide +kernel), pw_in 1 (by decide +kernel) (by decide +kernel), by decide +kernel, by decide +kernel, by decide +kernel⟩
theorem iX7_row : MI mX7_row := ⟨pw_in 518 (by decide +kernel) (by decide +kernel), pw_in 519 (by decide +kernel) (by decide +kernel)⟩
def mX7_save : Mt := (yX7_save, cX7_save, 2, (some .int), 5, 111, 62, 431)
theorem vX7_save : MV mX7_save 1 := ⟨pw_in 680 (by decide +kernel) (by decide +kernel), pw_in 1 (by decide +kernel) (by decide +kernel), by decide +kernel, by decide +kernel, by decide +kernel⟩
theorem iX7_save : MI mX7_save := ⟨pw_in 678 (by decide +kernel) (by decide +kernel), pw_in 679 (by decide +kernel) (by decide +kernel)⟩
def mX7_set : Mt := (yX7_set, cX7_set, 3, (some .int), 6, 132, 0, 0)
theorem vX7_set : MV mX7_set 2 := ⟨pw_in 269 (by decide +kernel) (by decide +kernel), pw_in 1 (by decide +kernel) (by decide +kernel), by decide +kernel, by decide +kernel, by decide +kernel⟩
theorem iX7_set : MI mX7_set := ⟨pw_in 267 (by decide +kernel) (by decide +kernel), pw_in 268 (by decide +kernel) (by decide +kernel)⟩
def mX7_sleepsIn : Mt := (yX7_sleepsIn, cX7_sleepsIn, 4, (some .int), 5, 123, 0, 0)
theorem vX7_sleepsIn : MV mX7_sleepsIn 1 := ⟨pw_in 588 (by decide +kernel) (by decide +kernel), pw_in 1 (by decide +kernel) (by decide +kernel), by decide +kernel, by decide +kernel, by decide +kernel⟩
theorem iX7_sleepsIn : MI mX7_sleepsIn := ⟨pw_in 586 (by decide +kernel) (by decide +kernel), pw_in 587 (by decide +kernel) (by decide +kernel)⟩
def mX7_station : Mt := (yX7_station, cX7_station, 2, (some .int), 6, 132, 0, 0)
theorem vX7_station : MV mX7_station 1 := ⟨pw_in 322 (by decide +kernel) (by decide +kernel), pw_in 1 (by decide +kernel) (by decide +kernel), by decide +kernel, by decide +kernel, by decide +kernel⟩
theorem iX7_station : MI mX7_station := ⟨pw_in 320 (by decide +kernel) (by decide +kernel), pw_in 321 (by decide +kernel) (by decide +kernel)⟩
def mX7_stick : Mt := (yX7_stick, cX7_stick, 2, (some .int), 6, 132, 0, 0)
theorem vX7_stick : MV mX7_stick 1 := ⟨pw_in 377 (by decide +kernel) (by decide +kernel), pw_in 1 (by decide +kernel) (by decide +kernel), by decide +kernel, by decide +kernel, by decide +kernel⟩
theorem iX7_stick : MI mX7_stick := ⟨pw_in 375 (by decide +kernel) (by decide +kernel), pw_in 376 (by decide +kernel) (by decide +kernel)⟩
def mX7_undo : Mt := (yX7_undo, cX7_undo, 1, (some .int), 6, 132, 0, 0)
theorem vX7_undo : MV mX7_undo 0 := ⟨pw_in 672 (by decide +kernel) (by decide +kernel), pw_in 1 (by decide +kernel) (by decide +kernel), by decide +kernel, by decide +kernel, by decide +kernel⟩
theorem iX7_undo : MI mX7_undo := ⟨pw_in 670 (by decide +kernel) (by decide +kernel), pw_in 671 (by decide +kernel) (by decide +kernel)⟩
def mX7_why : Mt := (yX7_why, cX7_why, 4, (some .int), 2, 42, 0, 0)
theorem vX7_why : MV mX7_why 1 := ⟨pw_in 554 (by decide +kernel) (by decide +kernel), pw_in 1 (by decide +kernel) (by decide +kernel), by decide +kernel, by decide +kernel, by decide +kernel⟩
theorem iX7_why : MI mX7_why := ⟨pw_in 552 (by decide +kernel) (by decide +kernel), pw_in 553 (by decide +kernel) (by decide +kernel)⟩
def mX7_wipe : Mt := (yX7_wipe, cX7_wipe, 1, (some .int), 1, 21, 0, 0)
theorem vX7_wipe : MV mX7_wipe 0 := ⟨pw_in 606 (by decide +kernel) (by decide +kernel), pw_in 1 (by decide +kernel) (by decide +kernel), by decide +kernel, by decide +kernel, by decide +kernel⟩
theorem iX7_wipe : MI mX7_wipe := ⟨pw_in 604 (by decide +kernel) (by decide +kernel), pw_in 605 (by decide +kernel) (by decide +kernel)⟩
def mX7_word : Mt := (yX7_word, cX7_word, 4, (some .int), 6, 132, 0, 0)
theorem vX7_word : MV mX7_word 3 := ⟨pw_in 330 (by decide +kernel) (by decide +kernel), pw_in 1 (by decide +kernel) (by decide +kernel), by decide +kernel, by decide +kernel, by decide +kernel⟩
theorem iX7_word : MI mX7_word := ⟨pw_in 328 (by decide +kernel) (by decide +kernel), pw_in 329 (by decide +kernel) (by decide +kernel)⟩
def mX8_add : Mt := (yX8_add, cX8_add, 4, none, 0, 0, 0, 0)
theorem vX8_add : MV mX8_add 3 := ⟨pw_in 807 (by decide +kernel) (by decide +kernel), pw_in 9 (by decide +kernel) (by decide +kernel), by decide +kernel, by decide +kernel, by decide +kernel⟩
theorem iX8_add : MI mX8_add := ⟨pw_in 806 (by decide +kernel) (by decide +kernel), pw_inS 27 (by decide +kernel) (by decide +kernel)⟩
def mX8_allAwake : Mt := (yX8_allAwake, cX8_allAwake, 4, (some .boolean), 2, 43, 0, 0)
theorem vX8_allAwake : MV mX8_allAwake 1 := ⟨pw_in 912 (by decide +kernel) (by decide +kernel), pw_in 9 (by decide +kernel) (by decide +kernel), by decide +kernel, by decide +kernel, by decide +kernel⟩
theorem iX8_allAwake : MI mX8_allAwake := ⟨pw_in 911 (by decide +kernel) (by decide +kernel), pw_inS 49 (by decide +kernel) (by decide +kernel)⟩
def mX8_at : Mt := (yX8_at, cX8_at, 3, (some .int), 0, 0, 0, 0)
theorem vX8_at : MV mX8_at 2 := ⟨pw_in 764 (by decide +kernel) (by decide +kernel), pw_in 9 (by decide +kernel) (by decide +kernel), by decide +kernel, by decide +kernel, by decide +kernel⟩
theorem iX8_at : MI mX8_at := ⟨pw_in 763 (by decide +kernel) (by decide +kernel), pw_inS 19 (by decide +kernel) (by decide +kernel)⟩
def mX8_awake : Mt := (yX8_awake, cX8_awake, 3, (some .int), 2, 43, 0, 0)
theorem vX8_awake : MV mX8_awake 0 := ⟨pw_in 960 (by decide +kernel) (by decide +kernel), pw_in 9 (by decide +kernel) (by decide +kernel), by decide +kernel, by decide +kernel, by decide +kernel⟩
theorem iX8_awake : MI mX8_awake := ⟨pw_in 959 (by decide +kernel) (by decide +kernel), pw_inS 56 (by decide +kernel) (by decide +kernel)⟩
def mX8_awakeAt : Mt := (yX8_awakeAt, cX8_awakeAt, 4, (some .int), 2, 44, 0, 0)
theorem vX8_awakeAt : MV mX8_awakeAt 1 := ⟨pw_in 896 (by decide +kernel) (by decide +kernel), pw_in 9 (by decide +kernel) (by decide +kernel), by decide +kernel, by decide +kernel, by decide +kernel⟩
theorem iX8_awakeAt : MI mX8_awakeAt := ⟨pw_in 895 (by decide +kernel) (by decide +kernel), pw_inS 45 (by decide +kernel) (by decide +kernel)⟩
def mX8_beat : Mt := (yX8_beat, cX8_beat, 4, (some .int), 5, 110, 0, 0)
theorem vX8_beat : MV mX8_beat 0 := ⟨pw_in 880 (by decide +kernel) (by decide +kernel), pw_in 9 (by decide +kernel) (by decide +kernel), by decide +kernel, by decide +kernel, by decide +kernel⟩
theorem iX8_beat : MI mX8_beat := ⟨pw_in 879 (by decide +kernel) (by decide +kernel), pw_inS 41 (by decide +kernel) (by decide +kernel)⟩
def mX8_beats : Mt := (yX8_beats, cX8_beats, 4, (some .int), 6, 133, 0, 0)
theorem vX8_beats : MV mX8_beats 1 := ⟨pw_in 876 (by decide +kernel) (by decide +kernel), pw_in 9 (by decide +kernel) (by decide +kernel), by decide +kernel, by decide +kernel, by decide +kernel⟩
theorem iX8_beats : MI mX8_beats := ⟨pw_in 875 (by decide +kernel) (by decide +kernel), pw_inS 40 (by decide +kernel) (by decide +kernel)⟩
def mX8_begin : Mt := (yX8_begin, cX8_begin, 2, none, 3, 67, 0, 0)
theorem vX8_begin : MV mX8_begin 0 := ⟨pw_in 884 (by decide +kernel) (by decide +kernel), pw_in 9 (by decide +kernel) (by decide +kernel), by decide +kernel, by decide +kernel, by decide +kernel⟩
theorem iX8_begin : MI mX8_begin := ⟨pw_in 883 (by decide +kernel) (by decide +kernel), pw_inS 42 (by decide +kernel) (by decide +kernel)⟩
def mX8_begins : Mt := (yX8_begins, cX8_begins, 2, (some .boolean), 2, 43, 0, 0)
theorem vX8_begins : MV mX8_begins 1 := ⟨pw_in 888 (by decide +kernel) (by decide +kernel), pw_in 9 (by decide +kernel) (by decide +kernel), by decide +kernel, by decide +kernel, by decide +kernel⟩
theorem iX8_begins : MI mX8_begins := ⟨pw_in 887 (by decide +kernel) (by decide +kernel), pw_inS 43 (by decide +kernel) (by decide +kernel)⟩
def mX8_bestRest : Mt := (yX8_bestRest, cX8_bestRest, 7, (some .int), 7, 156, 0, 0)
theorem vX8_bestRest : MV mX8_bestRest 2 := ⟨pw_in 992 (by decide +kernel) (by decide +kernel), pw_in 9 (by decide +kernel) (by decide +kernel), by decide +kernel, by decide +kernel, by decide +kernel⟩
theorem iX8_bestRest : MI mX8_bestRest := ⟨pw_in 990 (by decide +kernel) (by decide +kernel), pw_in 991 (by decide +kernel) (by decide +kernel)⟩
def mX8_bitOf : Mt := (yX8_bitOf, cX8_bitOf, 3, (some .int), 1, 22, 0, 0)
theorem vX8_bitOf : MV mX8_bitOf 1 := ⟨pw_in 904 (by decide +kernel) (by decide +kernel), pw_in 9 (by decide +kernel) (by decide +kernel), by decide +kernel, by decide +kernel, by decide +kernel⟩
theorem iX8_bitOf : MI mX8_bitOf := ⟨pw_in 903 (by decide +kernel) (by decide +kernel), pw_inS 47 (by decide +kernel) (by decide +kernel)⟩
def mX8_bringBack : Mt := (yX8_bringBack, cX8_bringBack, 2, none, 0, 0, 0, 0)
theorem vX8_bringBack : MV mX8_bringBack 0 := ⟨pw_in 984 (by decide +kernel) (by decide +kernel), pw_in 9 (by decide +kernel) (by decide +kernel), by decide +kernel, by decide +kernel, by decide +kernel⟩
theorem iX8_bringBack : MI mX8_bringBack := ⟨pw_in 983 (by decide +kernel) (by decide +kernel), pw_inS 60 (by decide +kernel) (by decide +kernel)⟩
def mX8_busiest : Mt := (yX8_busiest, cX8_busiest, 5, (some .int), 2, 46, 0, 0)
theorem vX8_busiest : MV mX8_busiest 0 := ⟨pw_in 996 (by decide +kernel) (by decide +kernel), pw_in 9 (by decide +kernel) (by decide +kernel), by decide +kernel, by decide +kernel, by decide +kernel⟩
theorem iX8_busiest : MI mX8_busiest := ⟨pw_in 994 (by decide +kernel) (by decide +kernel), pw_in 995 (by decide +kernel) (by decide +kernel)⟩
def mX8_carryOut : Mt := (yX8_carryOut, cX8_carryOut, 2, (some .int), 8, 178, 0, 0)
theorem vX8_carryOut : MV mX8_carryOut 0 := ⟨pw_in 1040 (by decide +kernel) (by decide +kernel), pw_in 9 (by decide +kernel) (by decide +kernel), by decide +kernel, by decide +kernel, by decide +kernel⟩
theorem iX8_carryOut : MI mX8_carryOut := ⟨pw_in 1038 (by decide +kernel) (by decide +kernel), pw_in 1039 (by decide +kernel) (by decide +kernel)⟩
def mX8_charge : Mt := (yX8_charge, cX8_charge, 4, none, 4, 87, 0, 0)
theorem vX8_charge : MV mX8_charge 1 := ⟨pw_in 920 (by decide +kernel) (by decide +kernel), pw_in 9 (by decide +kernel) (by decide +kernel), by decide +kernel, by decide +kernel, by decide +kernel⟩
theorem iX8_charge : MI mX8_charge := ⟨pw_in 919 (by decide +kernel) (by decide +kernel), pw_inS 51 (by decide +kernel) (by decide +kernel)⟩
def mX8_comes : Mt := (yX8_comes, cX8_comes, 4, (some .int), 1, 23, 0, 0)
theorem vX8_comes : MV mX8_comes 1 := ⟨pw_in 780 (by decide +kernel) (by decide +kernel), pw_in 9 (by decide +kernel) (by decide +kernel), by decide +kernel, by decide +kernel, by decide +kernel⟩
theorem iX8_comes : MI mX8_comes := ⟨pw_in 779 (by decide +kernel) (by decide +kernel), pw_inS 22 (by decide +kernel) (by decide +kernel)⟩
def mX8_count : Mt := (yX8_count, cX8_count, 2, (some .int), 3, 65, 0, 0)
theorem vX8_count : MV mX8_count 1 := ⟨pw_in 952 (by decide +kernel) (by decide +kernel), pw_in 9 (by decide +kernel) (by decide +kernel), by decide +kernel, by decide +kernel, by decide +kernel⟩
theorem iX8_count : MI mX8_count := ⟨pw_in 950 (by decide +kernel) (by decide +kernel), pw_in 951 (by decide +kernel) (by decide +kernel)⟩
def mX8_digit : Mt := (yX8_digit, cX8_digit, 2, (some .int), 1, 22, 0, 0)
theorem vX8_digit : MV mX8_digit 0 := ⟨pw_in 1032 (by decide +kernel) (by decide +kernel), pw_in 9 (by decide +kernel) (by decide +kernel), by decide +kernel, by decide +kernel, by decide +kernel⟩
theorem iX8_digit : MI mX8_digit := ⟨pw_in 1031 (by decide +kernel) (by decide +kernel), pw_inS 67 (by decide +kernel) (by decide +kernel)⟩
def mX8_does : Mt := (yX8_does, cX8_does, 3, none, 7, 156, 0, 0)
theorem vX8_does : MV mX8_does 1 := ⟨pw_in 1048 (by decide +kernel) (by decide +kernel), pw_in 9 (by decide +kernel) (by decide +kernel), by decide +kernel, by decide +kernel, by decide +kernel⟩
theorem iX8_does : MI mX8_does := ⟨pw_in 1047 (by decide +kernel) (by decide +kernel), pw_inS 70 (by decide +kernel) (by decide +kernel)⟩
def mX8_doze : Mt := (yX8_doze, cX8_doze, 3, (some .int), 5, 108, 0, 0)
theorem vX8_doze : MV mX8_doze 1 := ⟨pw_in 839 (by decide +kernel) (by decide +kernel), pw_in 9 (by decide +kernel) (by decide +kernel), by decide +kernel, by decide +kernel, by decide +kernel⟩
theorem iX8_doze : MI mX8_doze := ⟨pw_in 837 (by decide +kernel) (by decide +kernel), pw_in 838 (by decide +kernel) (by decide +kernel)⟩
def mX8_endsIn : Mt := (yX8_endsIn, cX8_endsIn, 7, (some .int), 6, 133, 0, 0)
theorem vX8_endsIn : MV mX8_endsIn 2 := ⟨pw_in 976 (by decide +kernel) (by decide +kernel), pw_in 9 (by decide +kernel) (by decide +kernel), by decide +kernel, by decide +kernel, by decide +kernel⟩
theorem iX8_endsIn : MI mX8_endsIn := ⟨pw_in 974 (by decide +kernel) (by decide +kernel), pw_in 975 (by decide +kernel) (by decide +kernel)⟩
def mX8_fault : Mt := (yX8_fault, cX8_fault, 1, (some .int), 6, 127, 0, 0)
theorem vX8_fault : MV mX8_fault 0 := ⟨pw_in 1004 (by decide +kernel) (by decide +kernel), pw_in 9 (by decide +kernel) (by decide +kernel), by decide +kernel, by decide +kernel, by decide +kernel⟩
theorem iX8_fault : MI mX8_fault := ⟨pw_in 1002 (by decide +kernel) (by decide +kernel), pw_in 1003 (by decide +kernel) (by decide +kernel)⟩
def mX8_faults : Mt := (yX8_faults, cX8_faults, 3, (some .int), 1, 22, 0, 0)
theorem vX8_faults : MV mX8_faults 0 := ⟨pw_in 968 (by decide +kernel) (by decide +kernel), pw_in 9 (by decide +kernel) (by decide +kernel), by decide +kernel, by decide +kernel, by decide +kernel⟩
theorem iX8_faults : MI mX8_faults := ⟨pw_in 967 (by decide +kernel) (by decide +kernel), pw_inS 58 (by decide +kernel) (by decide +kernel)⟩
def mX8_firstWire : Mt := (yX8_firstWire, cX8_firstWire, 2, (some .int), 1, 22, 0, 0)
theorem vX8_firstWire : MV mX8_firstWire 1 := ⟨pw_in 859 (by decide +kernel) (by decide +kernel), pw_in 9 (by decide +kernel) (by decide +kernel), by decide +kernel, by decide +kernel, by decide +kernel⟩
theorem iX8_firstWire : MI mX8_firstWire := ⟨pw_in 858 (by decide +kernel) (by decide +kernel), pw_inS 37 (by decide +kernel) (by decide +kernel)⟩
def mX8_forget : Mt := (yX8_forget, cX8_forget, 3, (some .int), 3, 66, 0, 0)
theorem vX8_forget : MV mX8_forget 1 := ⟨pw_in 811 (by decide +kernel) (by decide +kernel), pw_in 9 (by decide +kernel) (by decide +kernel), by decide +kernel, by decide +kernel, by decide +kernel⟩
theorem iX8_forget : MI mX8_forget := ⟨pw_in 809 (by decide +kernel) (by decide +kernel), pw_in 810 (by decide +kernel) (by decide +kernel)⟩
def mX8_gets : Mt := (yX8_gets, cX8_gets, 5, (some .int), 1, 23, 0, 0)
theorem vX8_gets : MV mX8_gets 3 := ⟨pw_in 803 (by decide +kernel) (by decide +kernel), pw_in 9 (by decide +kernel) (by decide +kernel), by decide +kernel, by decide +kernel, by decide +kernel⟩
theorem iX8_gets : MI mX8_gets := ⟨pw_in 802 (by decide +kernel) (by decide +kernel), pw_inS 26 (by decide +kernel) (by decide +kernel)⟩
def mX8_giveUp : Mt := (yX8_giveUp, cX8_giveUp, 2, none, 3, 66, 0, 0)
theorem vX8_giveUp : MV mX8_giveUp 1 := ⟨pw_in 855 (by decide +kernel) (by decide +kernel), pw_in 9 (by decide +kernel) (by decide +kernel), by decide +kernel, by decide +kernel, by decide +kernel⟩
theorem iX8_giveUp : MI mX8_giveUp := ⟨pw_in 854 (by decide +kernel) (by decide +kernel), pw_inS 36 (by decide +kernel) (by decide +kernel)⟩
def mX8_goesOn : Mt := (yX8_goesOn, cX8_goesOn, 4, (some .boolean), 4, 87, 0, 0)
theorem vX8_goesOn : MV mX8_goesOn 1 := ⟨pw_in 908 (by decide +kernel) (by decide +kernel), pw_in 9 (by decide +kernel) (by decide +kernel), by decide +kernel, by decide +kernel, by decide +kernel⟩
theorem iX8_goesOn : MI mX8_goesOn := ⟨pw_in 907 (by decide +kernel) (by decide +kernel), pw_inS 48 (by decide +kernel) (by decide +kernel)⟩
def mX8_heard : Mt := (yX8_heard, cX8_heard, 4, (some .int), 1, 22, 0, 0)
theorem vX8_heard : MV mX8_heard 3 := ⟨pw_in 948 (by decide +kernel) (by decide +kernel), pw_in 9 (by decide +kernel) (by decide +kernel), by decide +kernel, by decide +kernel, by decide +kernel⟩
theorem iX8_heard : MI mX8_heard := ⟨pw_in 946 (by decide +kernel) (by decide +kernel), pw_in 947 (by decide +kernel) (by decide +kernel)⟩
def mX8_hears : Mt := (yX8_hears, cX8_hears, 4, none, 2, 43, 0, 0)
theorem vX8_hears : MV mX8_hears 2 := ⟨pw_in 916 (by decide +kernel) (by decide +kernel), pw_in 9 (by decide +kernel) (by decide +kernel), by decide +kernel, by decide +kernel, by decide +kernel⟩
theorem iX8_hears : MI mX8_hears := ⟨pw_in 915 (by decide +kernel) (by decide +kernel), pw_inS 50 (by decide +kernel) (by decide +kernel)⟩
def mX8_in : Mt := (yX8_in, cX8_in, 3, (some .boolean), 0, 0, 0, 0)
theorem vX8_in : MV mX8_in 3 := ⟨pw_in 745 (by decide +kernel) (by decide +kernel), pw_in 9 (by decide +kernel) (by decide +kernel), by decide +kernel, by decide +kernel, by decide +kernel⟩
theorem sX8_in : Cond.static (mY mX8_in) ∈ pw_Tb := pw_in 744 (by decide +kernel) (by decide +kernel)
def mX8_init : Mt := (yX8_init, cX8_init, 1, none, 1, 20, 8, 3766)
theorem vX8_init : MV mX8_init 0 := ⟨pw_in 692 (by decide +kernel) (by decide +kernel), pw_in 9 (by decide +kernel) (by decide +kernel), by decide +kernel, by decide +kernel, by decide +kernel⟩
theorem nX8_init : Cond.instanceMethod (mY mX8_init) ∈ pw_Tb := pw_in 691 (by decide +kernel) (by decide +kernel)
def mX8_isAt : Mt := (yX8_isAt, cX8_isAt, 3, (some .boolean), 1, 22, 0, 0)
theorem vX8_isAt : MV mX8_isAt 2 := ⟨pw_in 799 (by decide +kernel) (by decide +kernel), pw_in 9 (by decide +kernel) (by decide +kernel), by decide +kernel, by decide +kernel, by decide +kernel⟩
theorem iX8_isAt : MI mX8_isAt := ⟨pw_in 798 (by decide +kernel) (by decide +kernel), pw_inS 25 (by decide +kernel) (by decide +kernel)⟩
def mX8_isAwake : Mt := (yX8_isAwake, cX8_isAwake, 2, (some .boolean), 1, 22, 0, 0)
theorem vX8_isAwake : MV mX8_isAwake 1 := ⟨pw_in 892 (by decide +kernel) (by decide +kernel), pw_in 9 (by decide +kernel) (by decide +kernel), by decide +kernel, by decide +kernel, by decide +kernel⟩
theorem iX8_isAwake : MI mX8_isAwake := ⟨pw_in 891 (by decide +kernel) (by decide +kernel), pw_inS 44 (by decide +kernel) (by decide +kernel)⟩
def mX8_isStation : Mt := (yX8_isStation, cX8_isStation, 2, (some .boolean), 0, 0, 0, 0)
theorem vX8_isStation : MV mX8_isStation 1 := ⟨pw_in 792 (by decide +kernel) (by decide +kernel), pw_in 9 (by decide +kernel) (by decide +kernel), by decide +kernel, by decide +kernel, by decide +kernel⟩
theorem iX8_isStation : MI mX8_isStation := ⟨pw_in 791 (by decide +kernel) (by decide +kernel), pw_inS 24 (by decide +kernel) (by decide +kernel)⟩
def mX8_isValue : Mt := (yX8_isValue, cX8_isValue, 2, (some .boolean), 1, 22, 0, 0)
theorem vX8_isValue : MV mX8_isValue 2 := ⟨pw_in 760 (by decide +kernel) (by decide +kernel), pw_in 9 (by decide +kernel) (by decide +kernel), by decide +kernel, by decide +kernel, by decide +kernel⟩
theorem sX8_isValue : Cond.static (mY mX8_isValue) ∈ pw_Tb := pw_in 759 (by decide +kernel) (by decide +kernel)
def mX8_isWire : Mt := (yX8_isWire, cX8_isWire, 1, (some .boolean), 1, 22, 0, 0)
theorem vX8_isWire : MV mX8_isWire 1 := ⟨pw_in 795 (by decide +kernel) (by decide +kernel), pw_in 9 (by decide +kernel) (by decide +kernel), by decide +kernel, by decide +kernel, by decide +kernel⟩
theorem sX8_isWire : Cond.static (mY mX8_isWire) ∈ pw_Tb := pw_in 794 (by decide +kernel) (by decide +kernel)
def mX8_lay : Mt := (yX8_lay, cX8_lay, 4, none, 0, 0, 0, 0)
theorem vX8_lay : MV mX8_lay 3 := ⟨pw_in 768 (by decide +kernel) (by decide +kernel), pw_in 9 (by decide +kernel) (by decide +kernel), by decide +kernel, by decide +kernel, by decide +kernel⟩
theorem iX8_lay : MI mX8_lay := ⟨pw_in 767 (by decide +kernel) (by decide +kernel), pw_inS 20 (by decide +kernel) (by decide +kernel)⟩
def mX8_leaves : Mt := (yX8_leaves, cX8_leaves, 3, none, 2, 44, 0, 0)
theorem vX8_leaves : MV mX8_leaves 1 := ⟨pw_in 815 (by decide +kernel) (by decide +kernel), pw_in 9 (by decide +kernel) (by decide +kernel), by decide +kernel, by decide +kernel, by decide +kernel⟩
theorem iX8_leaves : MI mX8_leaves := ⟨pw_in 814 (by decide +kernel) (by decide +kernel), pw_inS 28 (by decide +kernel) (by decide +kernel)⟩
def mX8_letter : Mt := (yX8_letter, cX8_letter, 1, (some .int), 0, 0, 0, 0)
theorem vX8_letter : MV mX8_letter 0 := ⟨pw_in 1016 (by decide +kernel) (by decide +kernel), pw_in 9 (by decide +kernel) (by decide +kernel), by decide +kernel, by decide +kernel, by decide +kernel⟩
theorem iX8_letter : MI mX8_letter := ⟨pw_in 1015 (by decide +kernel) (by decide +kernel), pw_inS 63 (by decide +kernel) (by decide +kernel)⟩
def mX8_number : Mt := (yX8_number, cX8_number, 3, (some .int), 2, 43, 0, 0)
theorem vX8_number : MV mX8_number 0 := ⟨pw_in 1036 (by decide +kernel) (by decide +kernel), pw_in 9 (by decide +kernel) (by decide +kernel), by decide +kernel, by decide +kernel, by decide +kernel⟩
theorem iX8_number : MI mX8_number := ⟨pw_in 1035 (by decide +kernel) (by decide +kernel), pw_inS 68 (by decide +kernel) (by decide +kernel)⟩
def mX8_of : Mt := (yX8_of, cX8_of, 3, (some .int), 1, 22, 0, 0)
theorem vX8_of : MV mX8_of 2 := ⟨pw_in 940 (by decide +kernel) (by decide +kernel), pw_in 9 (by decide +kernel) (by decide +kernel), by decide +kernel, by decide +kernel, by decide +kernel⟩
theorem iX8_of : MI mX8_of := ⟨pw_in 938 (by decide +kernel) (by decide +kernel), pw_in 939 (by decide +kernel) (by decide +kernel)⟩
def mX8_ofWire : Mt := (yX8_ofWire, cX8_ofWire, 3, (some .int), 3, 67, 0, 0)
theorem vX8_ofWire : MV mX8_ofWire 2 := ⟨pw_in 924 (by decide +kernel) (by decide +kernel), pw_in 9 (by decide +kernel) (by decide +kernel), by decide +kernel, by decide +kernel, by decide +kernel⟩
theorem iX8_ofWire : MI mX8_ofWire := ⟨pw_in 922 (by decide +kernel) (by decide +kernel), pw_in 923 (by decide +kernel) (by decide +kernel)⟩
def mX8_pass : Mt := (yX8_pass, cX8_pass, 3, (some .int), 7, 156, 0, 0)
theorem vX8_pass : MV mX8_pass 1 := ⟨pw_in 867 (by decide +kernel) (by decide +kernel), pw_in 9 (by decide +kernel) (by decide +kernel), by decide +kernel, by decide +kernel, by decide +kernel⟩
theorem iX8_pass : MI mX8_pass := ⟨pw_in 865 (by decide +kernel) (by decide +kernel), pw_in 866 (by decide +kernel) (by decide +kernel)⟩
def mX8_pull : Mt := (yX8_pull, cX8_pull, 2, none, 2, 44, 0, 0)
theorem vX8_pull : MV mX8_pull 0 := ⟨pw_in 900 (by decide +kernel) (by decide +kernel), pw_in 9 (by decide +kernel) (by decide +kernel), by decide +kernel, by decide +kernel, by decide +kernel⟩
theorem iX8_pull : MI mX8_pull := ⟨pw_in 899 (by decide +kernel) (by decide +kernel), pw_inS 46 (by decide +kernel) (by decide +kernel)⟩
def mX8_put : Mt := (yX8_put, cX8_put, 8, (some .int), 1, 22, 0, 0)
theorem vX8_put : MV mX8_put 1 := ⟨pw_in 1052 (by decide +kernel) (by decide +kernel), pw_in 9 (by decide +kernel) (by decide +kernel), by decide +kernel, by decide +kernel, by decide +kernel⟩
theorem iX8_put : MI mX8_put := ⟨pw_in 1050 (by decide +kernel) (by decide +kernel), pw_in 1051 (by decide +kernel) (by decide +kernel)⟩
def mX8_putAside : Mt := (yX8_putAside, cX8_putAside, 2, none, 0, 0, 0, 0)
theorem vX8_putAside : MV mX8_putAside 0 := ⟨pw_in 980 (by decide +kernel) (by decide +kernel), pw_in 9 (by decide +kernel) (by decide +kernel), by decide +kernel, by decide +kernel, by decide +kernel⟩
theorem iX8_putAside : MI mX8_putAside := ⟨pw_in 979 (by decide +kernel) (by decide +kernel), pw_inS 59 (by decide +kernel) (by decide +kernel)⟩
def mX8_quiet : Mt := (yX8_quiet, cX8_quiet, 2, none, 1, 23, 0, 0)
theorem vX8_quiet : MV mX8_quiet 1 := ⟨pw_in 819 (by decide +kernel) (by decide +kernel), pw_in 9 (by decide +kernel) (by decide +kernel), by decide +kernel, by decide +kernel, by decide +kernel⟩
theorem iX8_quiet : MI mX8_quiet := ⟨pw_in 818 (by decide +kernel) (by decide +kernel), pw_inS 29 (by decide +kernel) (by decide +kernel)⟩
def mX8_quietIn : Mt := (yX8_quietIn, cX8_quietIn, 2, (some .int), 6, 133, 0, 0)
theorem vX8_quietIn : MV mX8_quietIn 0 := ⟨pw_in 988 (by decide +kernel) (by decide +kernel), pw_in 9 (by decide +kernel) (by decide +kernel), by decide +kernel, by decide +kernel, by decide +kernel⟩
theorem iX8_quietIn : MI mX8_quietIn := ⟨pw_in 986 (by decide +kernel) (by decide +kernel), pw_in 987 (by decide +kernel) (by decide +kernel)⟩
def mX8_readOrder : Mt := (yX8_readOrder, cX8_readOrder, 3, none, 4, 84, 0, 0)
theorem vX8_readOrder : MV mX8_readOrder 0 := ⟨pw_in 1012 (by decide +kernel) (by decide +kernel), pw_in 9 (by decide +kernel) (by decide +kernel), by decide +kernel, by decide +kernel, by decide +kernel⟩
theorem iX8_readOrder : MI mX8_readOrder := ⟨pw_in 1011 (by decide +kernel) (by decide +kernel), pw_inS 62 (by decide +kernel) (by decide +kernel)⟩
def mX8_readPad : Mt := (yX8_readPad, cX8_readPad, 2, (some .int), 5, 106, 0, 0)
theorem vX8_readPad : MV mX8_readPad 0 := ⟨pw_in 1008 (by decide +kernel) (by decide +kernel), pw_in 9 (by decide +kernel) (by decide +kernel), by decide +kernel, by decide +kernel, by decide +kernel⟩
theorem iX8_readPad : MI mX8_readPad := ⟨pw_in 1007 (by decide +kernel) (by decide +kernel), pw_inS 61 (by decide +kernel) (by decide +kernel)⟩
def mX8_record : Mt := (yX8_record, cX8_record, 2, none, 0, 0, 0, 0)
theorem vX8_record : MV mX8_record 0 := ⟨pw_in 753 (by decide +kernel) (by decide +kernel), pw_in 9 (by decide +kernel) (by decide +kernel), by decide +kernel, by decide +kernel, by decide +kernel⟩
theorem iX8_record : MI mX8_record := ⟨pw_in 752 (by decide +kernel) (by decide +kernel), pw_inS 18 (by decide +kernel) (by decide +kernel)⟩
def mX8_restore : Mt := (yX8_restore, cX8_restore, 3, (some .int), 1, 22, 0, 0)
theorem vX8_restore : MV mX8_restore 1 := ⟨pw_in 749 (by decide +kernel) (by decide +kernel), pw_in 9 (by decide +kernel) (by decide +kernel), by decide +kernel, by decide +kernel, by decide +kernel⟩
theorem iX8_restore : MI mX8_restore := ⟨pw_in 747 (by decide +kernel) (by decide +kernel), pw_in 748 (by decide +kernel) (by decide +kernel)⟩
def mX8_row : Mt := (yX8_row, cX8_row, 4, (some .int), 1, 22, 0, 0)
theorem vX8_row : MV mX8_row 3 := ⟨pw_in 944 (by decide +kernel) (by decide +kernel), pw_in 9 (by decide +kernel) (by decide +kernel), by decide +kernel, by decide +kernel, by decide +kernel⟩
theorem iX8_row : MI mX8_row := ⟨pw_in 942 (by decide +kernel) (by decide +kernel), pw_in 943 (by decide +kernel) (by decide +kernel)⟩
def mX8_save : Mt := (yX8_save, cX8_save, 3, (some .int), 1, 22, 0, 0)
theorem vX8_save : MV mX8_save 1 := ⟨pw_in 742 (by decide +kernel) (by decide +kernel), pw_in 9 (by decide +kernel) (by decide +kernel), by decide +kernel, by decide +kernel, by decide +kernel⟩
theorem iX8_save : MI mX8_save := ⟨pw_in 740 (by decide +kernel) (by decide +kernel), pw_in 741 (by decide +kernel) (by decide +kernel)⟩
def mX8_set : Mt := (yX8_set, cX8_set, 5, (some .int), 2, 43, 0, 0)
theorem vX8_set : MV mX8_set 2 := ⟨pw_in 757 (by decide +kernel) (by decide +kernel), pw_in 9 (by decide +kernel) (by decide +kernel), by decide +kernel, by decide +kernel, by decide +kernel⟩
theorem iX8_set : MI mX8_set := ⟨pw_in 755 (by decide +kernel) (by decide +kernel), pw_in 756 (by decide +kernel) (by decide +kernel)⟩
def mX8_sleepsIn : Mt := (yX8_sleepsIn, cX8_sleepsIn, 3, (some .int), 6, 133, 0, 0)
theorem vX8_sleepsIn : MV mX8_sleepsIn 1 := ⟨pw_in 1000 (by decide +kernel) (by decide +kernel), pw_in 9 (by decide +kernel) (by decide +kernel), by decide +kernel, by decide +kernel, by decide +kernel⟩
theorem iX8_sleepsIn : MI mX8_sleepsIn := ⟨pw_in 998 (by decide +kernel) (by decide +kernel), pw_in 999 (by decide +kernel) (by decide +kernel)⟩
def mX8_speakers : Mt := (yX8_speakers, cX8_speakers, 3, (some .int), 2, 43, 0, 0)
theorem vX8_speakers : MV mX8_speakers 0 := ⟨pw_in 956 (by decide +kernel) (by decide +kernel), pw_in 9 (by decide +kernel) (by decide +kernel), by decide +kernel, by decide +kernel, by decide +kernel⟩
theorem iX8_speakers : MI mX8_speakers := ⟨pw_in 955 (by decide +kernel) (by decide +kernel), pw_inS 55 (by decide +kernel) (by decide +kernel)⟩
def mX8_speakersOn : Mt := (yX8_speakersOn, cX8_speakersOn, 4, (some .int), 2, 43, 0, 0)
theorem vX8_speakersOn : MV mX8_speakersOn 1 := ⟨pw_in 932 (by decide +kernel) (by decide +kernel), pw_in 9 (by decide +kernel) (by decide +kernel), by decide +kernel, by decide +kernel, by decide +kernel⟩
theorem iX8_speakersOn : MI mX8_speakersOn := ⟨pw_in 931 (by decide +kernel) (by decide +kernel), pw_inS 53 (by decide +kernel) (by decide +kernel)⟩
def mX8_speaks : Mt := (yX8_speaks, cX8_speaks, 2, (some .boolean), 1, 22, 0, 0)
theorem vX8_speaks : MV mX8_speaks 1 := ⟨pw_in 851 (by decide +kernel) (by decide +kernel), pw_in 9 (by decide +kernel) (by decide +kernel), by decide +kernel, by decide +kernel, by decide +kernel⟩
theorem iX8_speaks : MI mX8_speaks := ⟨pw_in 850 (by decide +kernel) (by decide +kernel), pw_inS 35 (by decide +kernel) (by decide +kernel)⟩
def mX8_station : Mt := (yX8_station, cX8_station, 3, (some .int), 2, 46, 0, 0)
theorem vX8_station : MV mX8_station 1 := ⟨pw_in 772 (by decide +kernel) (by decide +kernel), pw_in 9 (by decide +kernel) (by decide +kernel), by decide +kernel, by decide +kernel, by decide +kernel⟩
theorem iX8_station : MI mX8_station := ⟨pw_in 770 (by decide +kernel) (by decide +kernel), pw_in 771 (by decide +kernel) (by decide +kernel)⟩
def mX8_stationsAt : Mt := (yX8_stationsAt, cX8_stationsAt, 4, (some .int), 2, 44, 0, 0)
theorem vX8_stationsAt : MV mX8_stationsAt 1 := ⟨pw_in 928 (by decide +kernel) (by decide +kernel), pw_in 9 (by decide +kernel) (by decide +kernel), by decide +kernel, by decide +kernel, by decide +kernel⟩
theorem iX8_stationsAt : MI mX8_stationsAt := ⟨pw_in 927 (by decide +kernel) (by decide +kernel), pw_inS 52 (by decide +kernel) (by decide +kernel)⟩
def mX8_stick : Mt := (yX8_stick, cX8_stick, 3, (some .int), 3, 63, 0, 0)
theorem vX8_stick : MV mX8_stick 1 := ⟨pw_in 823 (by decide +kernel) (by decide +kernel), pw_in 9 (by decide +kernel) (by decide +kernel), by decide +kernel, by decide +kernel, by decide +kernel⟩
theorem iX8_stick : MI mX8_stick := ⟨pw_in 821 (by decide +kernel) (by decide +kernel), pw_in 822 (by decide +kernel) (by decide +kernel)⟩
def mX8_sum : Mt := (yX8_sum, cX8_sum, 4, (some .int), 1, 22, 0, 0)
theorem vX8_sum : MV mX8_sum 1 := ⟨pw_in 964 (by decide +kernel) (by decide +kernel), pw_in 9 (by decide +kernel) (by decide +kernel), by decide +kernel, by decide +kernel, by decide +kernel⟩
theorem iX8_sum : MI mX8_sum := ⟨pw_in 963 (by decide +kernel) (by decide +kernel), pw_inS 57 (by decide +kernel) (by decide +kernel)⟩
def mX8_tally : Mt := (yX8_tally, cX8_tally, 3, none, 0, 0, 0, 0)
theorem vX8_tally : MV mX8_tally 2 := ⟨pw_in 863 (by decide +kernel) (by decide +kernel), pw_in 9 (by decide +kernel) (by decide +kernel), by decide +kernel, by decide +kernel, by decide +kernel⟩
theorem iX8_tally : MI mX8_tally := ⟨pw_in 862 (by decide +kernel) (by decide +kernel), pw_inS 38 (by decide +kernel) (by decide +kernel)⟩
def mX8_turnFault : Mt := (yX8_turnFault, cX8_turnFault, 2, (some .int), 1, 22, 0, 0)
theorem vX8_turnFault : MV mX8_turnFault 1 := ⟨pw_in 831 (by decide +kernel) (by decide +kernel), pw_in 9 (by decide +kernel) (by decide +kernel), by decide +kernel, by decide +kernel, by decide +kernel⟩
theorem iX8_turnFault : MI mX8_turnFault := ⟨pw_in 830 (by decide +kernel) (by decide +kernel), pw_inS 31 (by decide +kernel) (by decide +kernel)⟩
def mX8_turnSleep : Mt := (yX8_turnSleep, cX8_turnSleep, 2, (some .int), 4, 87, 0, 0)
theorem vX8_turnSleep : MV mX8_turnSleep 1 := ⟨pw_in 847 (by decide +kernel) (by decide +kernel), pw_in 9 (by decide +kernel) (by decide +kernel), by decide +kernel, by decide +kernel, by decide +kernel⟩
theorem iX8_turnSleep : MI mX8_turnSleep := ⟨pw_in 846 (by decide +kernel) (by decide +kernel), pw_inS 34 (by decide +kernel) (by decide +kernel)⟩
def mX8_undo : Mt := (yX8_undo, cX8_undo, 2, (some .int), 0, 0, 0, 0)
theorem vX8_undo : MV mX8_undo 0 := ⟨pw_in 738 (by decide +kernel) (by decide +kernel), pw_in 9 (by decide +kernel) (by decide +kernel), by decide +kernel, by decide +kernel, by decide +kernel⟩
theorem iX8_undo : MI mX8_undo := ⟨pw_in 736 (by decide +kernel) (by decide +kernel), pw_in 737 (by decide +kernel) (by decide +kernel)⟩
def mX8_waiting : Mt := (yX8_waiting, cX8_waiting, 5, (some .int), 1, 22, 0, 0)
theorem vX8_waiting : MV mX8_waiting 1 := ⟨pw_in 936 (by decide +kernel) (by decide +kernel), pw_in 9 (by decide +kernel) (by decide +kernel), by decide +kernel, by decide +kernel, by decide +kernel⟩
theorem iX8_waiting : MI mX8_waiting := ⟨pw_in 935 (by decide +kernel) (by decide +kernel), pw_inS 54 (by decide +kernel) (by decide +kernel)⟩
def mX8_wants : Mt := (yX8_wants, cX8_wants, 2, none, 0, 0, 0, 0)
theorem vX8_wants : MV mX8_wants 1 := ⟨pw_in 1020 (by decide +kernel) (by decide +kernel), pw_in 9 (by decide +kernel) (by decide +kernel), by decide +kernel, by decide +kernel, by decide +kernel⟩
theorem iX8_wants : MI mX8_wants := ⟨pw_in 1019 (by decide +kernel) (by decide +kernel), pw_inS 64 (by decide +kernel) (by decide +kernel)⟩
def mX8_why : Mt := (yX8_why, cX8_why, 2, (some .int), 2, 43, 0, 0)
theorem vX8_why : MV mX8_why 1 := ⟨pw_in 972 (by decide +kernel) (by decide +kernel), pw_in 9 (by decide +kernel) (by decide +kernel), by decide +kernel, by decide +kernel, by decide +kernel⟩
theorem iX8_why : MI mX8_why := ⟨pw_in 970 (by decide +kernel) (by decide +kernel), pw_in 971 (by decide +kernel) (by decide +kernel)⟩
def mX8_whyNot : Mt := (yX8_whyNot, cX8_whyNot, 3, (some .int), 3, 67, 0, 0)
theorem vX8_whyNot : MV mX8_whyNot 1 := ⟨pw_in 1044 (by decide +kernel) (by decide +kernel), pw_in 9 (by decide +kernel) (by decide +kernel), by decide +kernel, by decide +kernel, by decide +kernel⟩
theorem iX8_whyNot : MI mX8_whyNot := ⟨pw_in 1043 (by decide +kernel) (by decide +kernel), pw_inS 69 (by decide +kernel) (by decide +kernel)⟩
def mX8_whyNotDoze : Mt := (yX8_whyNotDoze, cX8_whyNotDoze, 2, (some .int), 1, 21, 0, 0)
theorem vX8_whyNotDoze : MV mX8_whyNotDoze 1 := ⟨pw_in 843 (by decide +kernel) (by decide +kernel), pw_in 9 (by decide +kernel) (by decide +kernel), by decide +kernel, by decide +kernel, by decide +kernel⟩
theorem iX8_whyNotDoze : MI mX8_whyNotDoze := ⟨pw_in 842 (by decide +kernel) (by decide +kernel), pw_inS 33 (by decide +kernel) (by decide +kernel)⟩
def mX8_whyNotPass : Mt := (yX8_whyNotPass, cX8_whyNotPass, 2, (some .int), 1, 22, 0, 0)
theorem vX8_whyNotPass : MV mX8_whyNotPass 1 := ⟨pw_in 871 (by decide +kernel) (by decide +kernel), pw_in 9 (by decide +kernel) (by decide +kernel), by decide +kernel, by decide +kernel, by decide +kernel⟩
theorem iX8_whyNotPass : MI mX8_whyNotPass := ⟨pw_in 870 (by decide +kernel) (by decide +kernel), pw_inS 39 (by decide +kernel) (by decide +kernel)⟩
def mX8_whyNotStation : Mt := (yX8_whyNotStation, cX8_whyNotStation, 2, (some .int), 1, 22, 0, 0)
theorem vX8_whyNotStation : MV mX8_whyNotStation 1 := ⟨pw_in 776 (by decide +kernel) (by decide +kernel), pw_in 9 (by decide +kernel) (by decide +kernel), by decide +kernel, by decide +kernel, by decide +kernel⟩
theorem iX8_whyNotStation : MI mX8_whyNotStation := ⟨pw_in 775 (by decide +kernel) (by decide +kernel), pw_inS 21 (by decide +kernel) (by decide +kernel)⟩
def mX8_whyNotWire : Mt := (yX8_whyNotWire, cX8_whyNotWire, 2, (some .int), 2, 42, 0, 0)
theorem vX8_whyNotWire : MV mX8_whyNotWire 1 := ⟨pw_in 827 (by decide +kernel) (by decide +kernel), pw_in 9 (by decide +kernel) (by decide +kernel), by decide +kernel, by decide +kernel, by decide +kernel⟩
theorem iX8_whyNotWire : MI mX8_whyNotWire := ⟨pw_in 826 (by decide +kernel) (by decide +kernel), pw_inS 30 (by decide +kernel) (by decide +kernel)⟩
def mX8_whyNotWord : Mt := (yX8_whyNotWord, cX8_whyNotWord, 4, (some .int), 2, 44, 0, 0)
theorem vX8_whyNotWord : MV mX8_whyNotWord 3 := ⟨pw_in 788 (by decide +kernel) (by decide +kernel), pw_in 9 (by decide +kernel) (by decide +kernel), by decide +kernel, by decide +kernel, by decide +kernel⟩
theorem iX8_whyNotWord : MI mX8_whyNotWord := ⟨pw_in 787 (by decide +kernel) (by decide +kernel), pw_inS 23 (by decide +kernel) (by decide +kernel)⟩
def mX8_wipe : Mt := (yX8_wipe, cX8_wipe, 2, (some .int), 0, 0, 0, 0)
theorem vX8_wipe : MV mX8_wipe 0 := ⟨pw_in 1057 (by decide +kernel) (by decide +kernel), pw_in 9 (by decide +kernel) (by decide +kernel), by decide +kernel, by decide +kernel, by decide +kernel⟩
theorem iX8_wipe : MI mX8_wipe := ⟨pw_in 1055 (by decide +kernel) (by decide +kernel), pw_in 1056 (by decide +kernel) (by decide +kernel)⟩
def mX8_wire : Mt := (yX8_wire, cX8_wire, 3, (some .int), 0, 0, 0, 0)
theorem vX8_wire : MV mX8_wire 2 := ⟨pw_in 835 (by decide +kernel) (by decide +kernel), pw_in 9 (by decide +kernel) (by decide +kernel), by decide +kernel, by decide +kernel, by decide +kernel⟩
theorem iX8_wire : MI mX8_wire := ⟨pw_in 834 (by decide +kernel) (by decide +kernel), pw_inS 32 (by decide +kernel) (by decide +kernel)⟩
def mX8_wireRead : Mt := (yX8_wireRead, cX8_wireRead, 2, (some .int), 2, 42, 0, 0)
theorem vX8_wireRead : MV mX8_wireRead 0 := ⟨pw_in 1028 (by decide +kernel) (by decide +kernel), pw_in 9 (by decide +kernel) (by decide +kernel), by decide +kernel, by decide +kernel, by decide +kernel⟩
theorem iX8_wireRead : MI mX8_wireRead := ⟨pw_in 1027 (by decide +kernel) (by decide +kernel), pw_inS 66 (by decide +kernel) (by decide +kernel)⟩
def mX8_wiresRead : Mt := (yX8_wiresRead, cX8_wiresRead, 2, (some .int), 3, 63, 0, 0)
theorem vX8_wiresRead : MV mX8_wiresRead 0 := ⟨pw_in 1024 (by decide +kernel) (by decide +kernel), pw_in 9 (by decide +kernel) (by decide +kernel), by decide +kernel, by decide +kernel, by decide +kernel⟩
theorem iX8_wiresRead : MI mX8_wiresRead := ⟨pw_in 1023 (by decide +kernel) (by decide +kernel), pw_inS 65 (by decide +kernel) (by decide +kernel)⟩
def mX8_word : Mt := (yX8_word, cX8_word, 5, (some .int), 3, 67, 0, 0)
theorem vX8_word : MV mX8_word 3 := ⟨pw_in 784 (by decide +kernel) (by decide +kernel), pw_in 9 (by decide +kernel) (by decide +kernel), by decide +kernel, by decide +kernel, by decide +kernel⟩
theorem iX8_word : MI mX8_word := ⟨pw_in 782 (by decide +kernel) (by decide +kernel), pw_in 783 (by decide +kernel) (by decide +kernel)⟩
theorem kX7_1 : Cond.methodLink RX7 1 objectInit ∈ pw_Tb := pw_in 18 (by decide +kernel) (by decide +kernel)
theorem kX7_9 : Cond.methodLink RX7 9 (mY mX0_init) ∈ pw_Tb := pw_in 23 (by decide +kernel) (by decide +kernel)
theorem kX7_21 : Cond.methodLink RX7 21 (mY mX1_init) ∈ pw_Tb := pw_in 179 (by decide +kernel) (by decide +kernel)
theorem kX7_39 : Cond.methodLink RX7 39 (mY mX4_init) ∈ pw_Tb := pw_in 215 (by decide +kernel) (by decide +kernel)
theorem kX7_46 : Cond.methodLink RX7 46 (mY mX1_prepare) ∈ pw_Tb := pw_in 270 (by decide +kernel) (by decide +kernel)
theorem kX7_50 : Cond.methodLink RX7 50 (mY mX0_changeSetting) ∈ pw_Tb := pw_in 301 (by decide +kernel) (by decide +kernel)
theorem kX7_54 : Cond.methodLink RX7 54 (mY mX1_keep) ∈ pw_Tb := pw_in 314 (by decide +kernel) (by decide +kernel)
theorem kX7_58 : Cond.methodLink RX7 58 (mY mX0_addStation) ∈ pw_Tb := pw_in 323 (by decide +kernel) (by decide +kernel)
theorem kX7_61 : Cond.methodLink RX7 61 (mY mX0_addWord) ∈ pw_Tb := pw_in 331 (by decide +kernel) (by decide +kernel)
theorem kX7_65 : Cond.methodLink RX7 65 (mY mX0_forgetWord) ∈ pw_Tb := pw_in 354 (by decide +kernel) (by decide +kernel)
theorem kX7_68 : Cond.methodLink RX7 68 (mY mX0_toggleFault) ∈ pw_Tb := pw_in 378 (by decide +kernel) (by decide +kernel)
theorem kX7_71 : Cond.methodLink RX7 71 (mY mX0_toggleDoze) ∈ pw_Tb := pw_in 390 (by decide +kernel) (by decide +kernel)
theorem kX7_74 : Cond.methodLink RX7 74 (mY mX0_passBeats) ∈ pw_Tb := pw_in 414 (by decide +kernel) (by decide +kernel)
theorem kX7_77 : Cond.methodLink RX7 77 (mY mX7_isWire) ∈ pw_Tb := pw_in 491 (by decide +kernel) (by decide +kernel)
theorem kX7_85 : Cond.methodLink RX7 85 (mY mX0_hasFault) ∈ pw_Tb := pw_in 492 (by decide +kernel) (by decide +kernel)
theorem kX7_88 : Cond.methodLink RX7 88 (mY mX0_stationsAt) ∈ pw_Tb := pw_in 493 (by decide +kernel) (by decide +kernel)
theorem kX7_91 : Cond.methodLink RX7 91 (mY mX0_speakersOn) ∈ pw_Tb := pw_in 494 (by decide +kernel) (by decide +kernel)
theorem kX7_94 : Cond.methodLink RX7 94 (mY mX0_waitingFor) ∈ pw_Tb := pw_in 498 (by decide +kernel) (by decide +kernel)
theorem kX7_103 : Cond.methodLink RX7 103 (mY mX0_find) ∈ pw_Tb := pw_in 511 (by decide +kernel) (by decide +kernel)
theorem kX7_107 : Cond.methodLink RX7 107 (mY mX6_fact) ∈ pw_Tb := pw_in 512 (by decide +kernel) (by decide +kernel)
theorem kX7_116 : Cond.methodLink RX7 116 (mY mX5_has) ∈ pw_Tb := pw_in 521 (by decide +kernel) (by decide +kernel)
theorem kX7_121 : Cond.methodLink RX7 121 (mY mX5_numberAt) ∈ pw_Tb := pw_in 522 (by decide +kernel) (by decide +kernel)
theorem kX7_124 : Cond.methodLink RX7 124 (mY mX5_wireAt) ∈ pw_Tb := pw_in 523 (by decide +kernel) (by decide +kernel)
theorem kX7_127 : Cond.methodLink RX7 127 (mY mX5_triesAt) ∈ pw_Tb := pw_in 524 (by decide +kernel) (by decide +kernel)
theorem kX7_134 : Cond.methodLink RX7 134 (mY mX2_has) ∈ pw_Tb := pw_in 532 (by decide +kernel) (by decide +kernel)
theorem kX7_137 : Cond.methodLink RX7 137 (mY mX2_fact) ∈ pw_Tb := pw_in 536 (by decide +kernel) (by decide +kernel)
theorem kX7_146 : Cond.methodLink RX7 146 (mY mX0_awakeStations) ∈ pw_Tb := pw_in 545 (by decide +kernel) (by decide +kernel)
theorem kX7_150 : Cond.methodLink RX7 150 (mY mX0_sumOf) ∈ pw_Tb := pw_in 546 (by decide +kernel) (by decide +kernel)
theorem kX7_163 : Cond.methodLink RX7 163 (mY mX6_isSpeaking) ∈ pw_Tb := pw_in 555 (by decide +kernel) (by decide +kernel)
theorem kX7_175 : Cond.methodLink RX7 175 (mY mX0_isRested) ∈ pw_Tb := pw_in 556 (by decide +kernel) (by decide +kernel)
theorem kX7_178 : Cond.methodLink RX7 178 (mY mX0_copyFrom) ∈ pw_Tb := pw_in 561 (by decide +kernel) (by decide +kernel)
theorem kX7_181 : Cond.methodLink RX7 181 (mY mX0_passBeat) ∈ pw_Tb := pw_in 562 (by decide +kernel) (by decide +kernel)
theorem kX7_190 : Cond.methodLink RX7 190 (mY mX0_hasWords) ∈ pw_Tb := pw_in 567 (by decide +kernel) (by decide +kernel)
theorem kX7_199 : Cond.methodLink RX7 199 (mY mX7_heardWithRest) ∈ pw_Tb := pw_in 577 (by decide +kernel) (by decide +kernel)
theorem kX7_202 : Cond.methodLink RX7 202 (mY mX3_append) ∈ pw_Tb := pw_in 593 (by decide +kernel) (by decide +kernel)
theorem kX7_206 : Cond.methodLink RX7 206 (mY mX3_clear) ∈ pw_Tb := pw_in 607 (by decide +kernel) (by decide +kernel)
theorem kX7_209 : Cond.methodLink RX7 209 (mY mX4_findFault) ∈ pw_Tb := pw_in 615 (by decide +kernel) (by decide +kernel)
theorem kX7_215 : Cond.methodLink RX7 215 (mY mX4_readOrder) ∈ pw_Tb := pw_in 664 (by decide +kernel) (by decide +kernel)
theorem kX7_218 : Cond.methodLink RX7 218 (mY mX7_carryOrder) ∈ pw_Tb := pw_in 665 (by decide +kernel) (by decide +kernel)
theorem kX7_236 : Cond.methodLink RX7 236 (mY mX1_takeBack) ∈ pw_Tb := pw_in 673 (by decide +kernel) (by decide +kernel)
theorem kX7_240 : Cond.methodLink RX7 240 (mY mX7_isSlot) ∈ pw_Tb := pw_in 681 (by decide +kernel) (by decide +kernel)
theorem kX7_243 : Cond.methodLink RX7 243 Lib.Math.min.name ∈ pw_Tb := pw_in 281 (by decide +kernel) (by decide +kernel)
theorem kX7_248 : Cond.methodLink RX7 248 arraycopyName ∈ pw_Tb := pw_in 284 (by decide +kernel) (by decide +kernel)
theorem kX0_3 : Cond.methodLink RX0 3 objectInit ∈ pw_Tb := pw_in 26 (by decide +kernel) (by decide +kernel)
theorem kX0_13 : Cond.methodLink RX0 13 ⟨"[I", "clone", "()Ljava/lang/Object;"⟩ ∈ pw_Tb := pw_in 29 (by decide +kernel) (by decide +kernel)
theorem kX0_38 : Cond.methodLink RX0 38 (mY mX6_init) ∈ pw_Tb := pw_in 39 (by decide +kernel) (by decide +kernel)
theorem kX0_45 : Cond.methodLink RX0 45 (mY mX6_copyFrom) ∈ pw_Tb := pw_in 287 (by decide +kernel) (by decide +kernel)
theorem kX0_65 : Cond.methodLink RX0 65 (mY mX0_loseChargeAbove) ∈ pw_Tb := pw_in 309 (by decide +kernel) (by decide +kernel)
theorem kX0_71 : Cond.methodLink RX0 71 Lib.Math.min.name ∈ pw_Tb := pw_in 313 (by decide +kernel) (by decide +kernel)
theorem kX0_80 : Cond.methodLink RX0 80 (mY mX0_find) ∈ pw_Tb := pw_in 335 (by decide +kernel) (by decide +kernel)
theorem kX0_88 : Cond.methodLink RX0 88 (mY mX6_isAt) ∈ pw_Tb := pw_in 342 (by decide +kernel) (by decide +kernel)
theorem kX0_100 : Cond.methodLink RX0 100 (mY mX5_add) ∈ pw_Tb := pw_in 346 (by decide +kernel) (by decide +kernel)
theorem kX0_104 : Cond.methodLink RX0 104 (mY mX5_numberAt) ∈ pw_Tb := pw_in 358 (by decide +kernel) (by decide +kernel)
theorem kX0_108 : Cond.methodLink RX0 108 (mY mX5_dropFirst) ∈ pw_Tb := pw_in 366 (by decide +kernel) (by decide +kernel)
theorem kX0_111 : Cond.methodLink RX0 111 (mY mX6_fallSilent) ∈ pw_Tb := pw_in 370 (by decide +kernel) (by decide +kernel)
theorem kX0_114 : Cond.methodLink RX0 114 (mY mX0_hasFault) ∈ pw_Tb := pw_in 382 (by decide +kernel) (by decide +kernel)
theorem kX0_121 : Cond.methodLink RX0 121 (mY mX6_isSpeaking) ∈ pw_Tb := pw_in 394 (by decide +kernel) (by decide +kernel)
theorem kX0_125 : Cond.methodLink RX0 125 (mY mX0_giveUp) ∈ pw_Tb := pw_in 398 (by decide +kernel) (by decide +kernel)
theorem kX0_129 : Cond.methodLink RX0 129 (mY mX0_passBeat) ∈ pw_Tb := pw_in 419 (by decide +kernel) (by decide +kernel)
theorem kX0_133 : Cond.methodLink RX0 133 (mY mX0_awakeStations) ∈ pw_Tb := pw_in 423 (by decide +kernel) (by decide +kernel)
theorem kX0_136 : Cond.methodLink RX0 136 (mY mX0_beginWords) ∈ pw_Tb := pw_in 431 (by decide +kernel) (by decide +kernel)
theorem kX0_139 : Cond.methodLink RX0 139 (mY mX0_pulledWires) ∈ pw_Tb := pw_in 448 (by decide +kernel) (by decide +kernel)
theorem kX0_142 : Cond.methodLink RX0 142 (mY mX0_goOnSpeaking) ∈ pw_Tb := pw_in 456 (by decide +kernel) (by decide +kernel)
theorem kX0_145 : Cond.methodLink RX0 145 (mY mX0_changeCharges) ∈ pw_Tb := pw_in 470 (by decide +kernel) (by decide +kernel)
theorem kX0_148 : Cond.methodLink RX0 148 (mY mX0_restWires) ∈ pw_Tb := pw_in 483 (by decide +kernel) (by decide +kernel)
theorem kX0_151 : Cond.methodLink RX0 151 (mY mX6_isAwake) ∈ pw_Tb := pw_in 427 (by decide +kernel) (by decide +kernel)
theorem kX0_154 : Cond.methodLink RX0 154 (mY mX5_wireAt) ∈ pw_Tb := pw_in 402 (by decide +kernel) (by decide +kernel)
theorem kX0_157 : Cond.methodLink RX0 157 (mY mX0_isRested) ∈ pw_Tb := pw_in 435 (by decide +kernel) (by decide +kernel)
theorem kX0_160 : Cond.methodLink RX0 160 (mY mX0_stationsAt) ∈ pw_Tb := pw_in 439 (by decide +kernel) (by decide +kernel)
theorem kX0_163 : Cond.methodLink RX0 163 (mY mX6_begin) ∈ pw_Tb := pw_in 443 (by decide +kernel) (by decide +kernel)
theorem kX0_166 : Cond.methodLink RX0 166 (mY mX6_letsGo) ∈ pw_Tb := pw_in 452 (by decide +kernel) (by decide +kernel)
theorem kX0_178 : Cond.methodLink RX0 178 (mY mX0_beHeard) ∈ pw_Tb := pw_in 460 (by decide +kernel) (by decide +kernel)
theorem kX0_188 : Cond.methodLink RX0 188 (mY mX2_add) ∈ pw_Tb := pw_in 464 (by decide +kernel) (by decide +kernel)
theorem kX0_202 : Cond.methodLink RX0 202 (mY mX5_tryFirst) ∈ pw_Tb := pw_in 406 (by decide +kernel) (by decide +kernel)
theorem kX0_208 : Cond.methodLink RX0 208 (mY mJ6_bitCount_0f7a4) ∈ pw_Tb := pw_in 474 (by decide +kernel) (by decide +kernel)
theorem kX0_213 : Cond.methodLink RX0 213 Lib.Math.max.name ∈ pw_Tb := pw_in 480 (by decide +kernel) (by decide +kernel)
theorem kX0_219 : Cond.methodLink RX0 219 (mY mX5_countFor) ∈ pw_Tb := pw_in 502 (by decide +kernel) (by decide +kernel)
theorem kX0_222 : Cond.methodLink RX0 222 (mY mX6_fact) ∈ pw_Tb := pw_in 550 (by decide +kernel) (by decide +kernel)
theorem kX1_3 : Cond.methodLink RX1 3 objectInit ∈ pw_Tb := pw_in 182 (by decide +kernel) (by decide +kernel)
theorem kX1_17 : Cond.methodLink RX1 17 (mY mX0_init) ∈ pw_Tb := pw_in 185 (by decide +kernel) (by decide +kernel)
theorem kX1_22 : Cond.methodLink RX1 22 (mY mX0_copyFrom) ∈ pw_Tb := pw_in 274 (by decide +kernel) (by decide +kernel)
theorem kX1_29 : Cond.methodLink RX1 29 Lib.Math.min.name ∈ pw_Tb := pw_in 318 (by decide +kernel) (by decide +kernel)
theorem kX2_3 : Cond.methodLink RX2 3 objectInit ∈ pw_Tb := pw_in 71 (by decide +kernel) (by decide +kernel)
theorem kX2_23 : Cond.methodLink RX2 23 (mY mX2_has) ∈ pw_Tb := pw_in 540 (by decide +kernel) (by decide +kernel)
theorem kX2_27 : Cond.methodLink RX2 27 arraycopyName ∈ pw_Tb := pw_in 468 (by decide +kernel) (by decide +kernel)
theorem kX2_33 : Cond.methodLink RX2 33 Lib.Math.min.name ∈ pw_Tb := pw_in 469 (by decide +kernel) (by decide +kernel)
theorem kX3_3 : Cond.methodLink RX3 3 objectInit ∈ pw_Tb := pw_in 202 (by decide +kernel) (by decide +kernel)
theorem kX3_15 : Cond.methodLink RX3 15 (mY mX3_charactersIn) ∈ pw_Tb := pw_in 597 (by decide +kernel) (by decide +kernel)
theorem kX4_3 : Cond.methodLink RX4 3 objectInit ∈ pw_Tb := pw_in 218 (by decide +kernel) (by decide +kernel)
theorem kX4_24 : Cond.methodLink RX4 24 (mY mX4_readOrder) ∈ pw_Tb := pw_in 619 (by decide +kernel) (by decide +kernel)
theorem kX4_28 : Cond.methodLink RX4 28 (mY mX3_codeAt) ∈ pw_Tb := pw_in 623 (by decide +kernel) (by decide +kernel)
theorem kX4_35 : Cond.methodLink RX4 35 (mY mX4_readSign) ∈ pw_Tb := pw_in 627 (by decide +kernel) (by decide +kernel)
theorem kX4_39 : Cond.methodLink RX4 39 (mY mX4_readWires) ∈ pw_Tb := pw_in 631 (by decide +kernel) (by decide +kernel)
theorem kX4_42 : Cond.methodLink RX4 42 (mY mX4_readStation) ∈ pw_Tb := pw_in 644 (by decide +kernel) (by decide +kernel)
theorem kX4_45 : Cond.methodLink RX4 45 (mY mX4_readWire) ∈ pw_Tb := pw_in 640 (by decide +kernel) (by decide +kernel)
theorem kX4_48 : Cond.methodLink RX4 48 (mY mX4_readNumber) ∈ pw_Tb := pw_in 652 (by decide +kernel) (by decide +kernel)
theorem kX4_61 : Cond.methodLink RX4 61 (mY mX4_isNewWire) ∈ pw_Tb := pw_in 635 (by decide +kernel) (by decide +kernel)
theorem kX4_64 : Cond.methodLink RX4 64 (mY mX4_digitAt) ∈ pw_Tb := pw_in 648 (by decide +kernel) (by decide +kernel)
theorem kX4_74 : Cond.methodLink RX4 74 (mY mX4_canGrowBy) ∈ pw_Tb := pw_in 656 (by decide +kernel) (by decide +kernel)
theorem kX5_3 : Cond.methodLink RX5 3 objectInit ∈ pw_Tb := pw_in 48 (by decide +kernel) (by decide +kernel)
theorem kX5_29 : Cond.methodLink RX5 29 (mY mX5_has) ∈ pw_Tb := pw_in 362 (by decide +kernel) (by decide +kernel)
theorem kX5_33 : Cond.methodLink RX5 33 (mY mX5_wireAt) ∈ pw_Tb := pw_in 506 (by decide +kernel) (by decide +kernel)
theorem kX6_3 : Cond.methodLink RX6 3 objectInit ∈ pw_Tb := pw_in 42 (by decide +kernel) (by decide +kernel)
theorem kX6_32 : Cond.methodLink RX6 32 (mY mX5_copyFrom) ∈ pw_Tb := pw_in 291 (by decide +kernel) (by decide +kernel)
theorem kX6_36 : Cond.methodLink RX6 36 (mY mX2_copyFrom) ∈ pw_Tb := pw_in 296 (by decide +kernel) (by decide +kernel)
theorem kX6_73 : Cond.methodLink RX6 73 (mY mX5_numberAt) ∈ pw_Tb := pw_in 447 (by decide +kernel) (by decide +kernel)
theorem kX6_80 : Cond.methodLink RX6 80 (mY mX6_isSpeaking) ∈ pw_Tb := pw_in 516 (by decide +kernel) (by decide +kernel)
theorem kL_9 : Cond.methodLink RL 9 (mY mX7_init) ∈ pw_Tb := pw_in 15 (by decide +kernel) (by decide +kernel)
theorem kL_12 : Cond.methodLink RL 12 (mY mX8_init) ∈ pw_Tb := pw_in 690 (by decide +kernel) (by decide +kernel)
theorem kL_13 : Cond.methodLink RL 13 (mY mX7_set) ∈ pw_Tb := pw_in 266 (by decide +kernel) (by decide +kernel)
theorem kL_17 : Cond.methodLink RL 17 (mY mX8_set) ∈ pw_Tb := pw_in 754 (by decide +kernel) (by decide +kernel)
theorem kL_18 : Cond.methodLink RL 18 (mY mX7_station) ∈ pw_Tb := pw_in 319 (by decide +kernel) (by decide +kernel)
theorem kL_22 : Cond.methodLink RL 22 (mY mX8_station) ∈ pw_Tb := pw_in 769 (by decide +kernel) (by decide +kernel)
theorem kL_23 : Cond.methodLink RL 23 (mY mX7_word) ∈ pw_Tb := pw_in 327 (by decide +kernel) (by decide +kernel)
theorem kL_27 : Cond.methodLink RL 27 (mY mX8_word) ∈ pw_Tb := pw_in 781 (by decide +kernel) (by decide +kernel)
theorem kL_28 : Cond.methodLink RL 28 (mY mX7_forget) ∈ pw_Tb := pw_in 350 (by decide +kernel) (by decide +kernel)
theorem kL_31 : Cond.methodLink RL 31 (mY mX8_forget) ∈ pw_Tb := pw_in 808 (by decide +kernel) (by decide +kernel)
theorem kL_32 : Cond.methodLink RL 32 (mY mX7_stick) ∈ pw_Tb := pw_in 374 (by decide +kernel) (by decide +kernel)
theorem kL_35 : Cond.methodLink RL 35 (mY mX8_stick) ∈ pw_Tb := pw_in 820 (by decide +kernel) (by decide +kernel)
theorem kL_36 : Cond.methodLink RL 36 (mY mX7_doze) ∈ pw_Tb := pw_in 386 (by decide +kernel) (by decide +kernel)
theorem kL_39 : Cond.methodLink RL 39 (mY mX8_doze) ∈ pw_Tb := pw_in 836 (by decide +kernel) (by decide +kernel)
theorem kL_40 : Cond.methodLink RL 40 (mY mX7_pass) ∈ pw_Tb := pw_in 410 (by decide +kernel) (by decide +kernel)
theorem kL_43 : Cond.methodLink RL 43 (mY mX8_pass) ∈ pw_Tb := pw_in 864 (by decide +kernel) (by decide +kernel)
theorem kL_44 : Cond.methodLink RL 44 (mY mX7_ofWire) ∈ pw_Tb := pw_in 487 (by decide +kernel) (by decide +kernel)
theorem kL_47 : Cond.methodLink RL 47 (mY mX8_ofWire) ∈ pw_Tb := pw_in 921 (by decide +kernel) (by decide +kernel)
theorem kL_48 : Cond.methodLink RL 48 (mY mX7_of) ∈ pw_Tb := pw_in 507 (by decide +kernel) (by decide +kernel)
theorem kL_51 : Cond.methodLink RL 51 (mY mX8_of) ∈ pw_Tb := pw_in 937 (by decide +kernel) (by decide +kernel)
theorem kL_52 : Cond.methodLink RL 52 (mY mX7_row) ∈ pw_Tb := pw_in 517 (by decide +kernel) (by decide +kernel)
theorem kL_55 : Cond.methodLink RL 55 (mY mX8_row) ∈ pw_Tb := pw_in 941 (by decide +kernel) (by decide +kernel)
theorem kL_56 : Cond.methodLink RL 56 (mY mX7_heard) ∈ pw_Tb := pw_in 528 (by decide +kernel) (by decide +kernel)
theorem kL_59 : Cond.methodLink RL 59 (mY mX8_heard) ∈ pw_Tb := pw_in 945 (by decide +kernel) (by decide +kernel)
theorem kL_60 : Cond.methodLink RL 60 (mY mX7_count) ∈ pw_Tb := pw_in 541 (by decide +kernel) (by decide +kernel)
theorem kL_63 : Cond.methodLink RL 63 (mY mX8_count) ∈ pw_Tb := pw_in 949 (by decide +kernel) (by decide +kernel)
theorem kL_64 : Cond.methodLink RL 64 (mY mX7_why) ∈ pw_Tb := pw_in 551 (by decide +kernel) (by decide +kernel)
theorem kL_67 : Cond.methodLink RL 67 (mY mX8_why) ∈ pw_Tb := pw_in 969 (by decide +kernel) (by decide +kernel)
theorem kL_68 : Cond.methodLink RL 68 (mY mX7_endsIn) ∈ pw_Tb := pw_in 557 (by decide +kernel) (by decide +kernel)
theorem kL_71 : Cond.methodLink RL 71 (mY mX8_endsIn) ∈ pw_Tb := pw_in 973 (by decide +kernel) (by decide +kernel)
theorem kL_72 : Cond.methodLink RL 72 (mY mX7_quietIn) ∈ pw_Tb := pw_in 563 (by decide +kernel) (by decide +kernel)
theorem kL_76 : Cond.methodLink RL 76 (mY mX8_quietIn) ∈ pw_Tb := pw_in 985 (by decide +kernel) (by decide +kernel)
theorem kL_77 : Cond.methodLink RL 77 (mY mX7_bestRest) ∈ pw_Tb := pw_in 571 (by decide +kernel) (by decide +kernel)
theorem kL_80 : Cond.methodLink RL 80 (mY mX8_bestRest) ∈ pw_Tb := pw_in 989 (by decide +kernel) (by decide +kernel)
theorem kL_81 : Cond.methodLink RL 81 (mY mX7_busiest) ∈ pw_Tb := pw_in 581 (by decide +kernel) (by decide +kernel)
theorem kL_84 : Cond.methodLink RL 84 (mY mX8_busiest) ∈ pw_Tb := pw_in 993 (by decide +kernel) (by decide +kernel)
theorem kL_85 : Cond.methodLink RL 85 (mY mX7_sleepsIn) ∈ pw_Tb := pw_in 585 (by decide +kernel) (by decide +kernel)
theorem kL_88 : Cond.methodLink RL 88 (mY mX8_sleepsIn) ∈ pw_Tb := pw_in 997 (by decide +kernel) (by decide +kernel)
theorem kL_91 : Cond.methodLink RL 91 (mY mX7_put) ∈ pw_Tb := pw_in 589 (by decide +kernel) (by decide +kernel)
theorem kL_95 : Cond.methodLink RL 95 (mY mX8_put) ∈ pw_Tb := pw_in 1049 (by decide +kernel) (by decide +kernel)
theorem kL_96 : Cond.methodLink RL 96 (mY mX7_wipe) ∈ pw_Tb := pw_in 603 (by decide +kernel) (by decide +kernel)
theorem kL_99 : Cond.methodLink RL 99 (mY mX8_wipe) ∈ pw_Tb := pw_in 1054 (by decide +kernel) (by decide +kernel)
theorem kL_100 : Cond.methodLink RL 100 (mY mX7_fault) ∈ pw_Tb := pw_in 611 (by decide +kernel) (by decide +kernel)
theorem kL_103 : Cond.methodLink RL 103 (mY mX8_fault) ∈ pw_Tb := pw_in 1001 (by decide +kernel) (by decide +kernel)
theorem kL_104 : Cond.methodLink RL 104 (mY mX7_carryOut) ∈ pw_Tb := pw_in 660 (by decide +kernel) (by decide +kernel)
theorem kL_107 : Cond.methodLink RL 107 (mY mX8_carryOut) ∈ pw_Tb := pw_in 1037 (by decide +kernel) (by decide +kernel)
theorem kL_108 : Cond.methodLink RL 108 (mY mX7_undo) ∈ pw_Tb := pw_in 669 (by decide +kernel) (by decide +kernel)
theorem kL_111 : Cond.methodLink RL 111 (mY mX8_undo) ∈ pw_Tb := pw_in 735 (by decide +kernel) (by decide +kernel)
theorem kL_112 : Cond.methodLink RL 112 (mY mX7_save) ∈ pw_Tb := pw_in 677 (by decide +kernel) (by decide +kernel)
theorem kL_115 : Cond.methodLink RL 115 (mY mX8_save) ∈ pw_Tb := pw_in 739 (by decide +kernel) (by decide +kernel)
theorem kL_116 : Cond.methodLink RL 116 (mY mX7_restore) ∈ pw_Tb := pw_in 684 (by decide +kernel) (by decide +kernel)
theorem kL_119 : Cond.methodLink RL 119 (mY mX8_restore) ∈ pw_Tb := pw_in 746 (by decide +kernel) (by decide +kernel)
theorem kX8_1 : Cond.methodLink RX8 1 objectInit ∈ pw_Tb := pw_in 693 (by decide +kernel) (by decide +kernel)
theorem kX8_36 : Cond.methodLink RX8 36 (mY mX8_in) ∈ pw_Tb := pw_in 743 (by decide +kernel) (by decide +kernel)
theorem kX8_40 : Cond.methodLink RX8 40 (mY mX8_at) ∈ pw_Tb := pw_in 761 (by decide +kernel) (by decide +kernel)
theorem kX8_48 : Cond.methodLink RX8 48 (mY mX8_record) ∈ pw_Tb := pw_in 750 (by decide +kernel) (by decide +kernel)
theorem kX8_51 : Cond.methodLink RX8 51 (mY mX8_isValue) ∈ pw_Tb := pw_in 758 (by decide +kernel) (by decide +kernel)
theorem kX8_55 : Cond.methodLink RX8 55 (mY mX8_lay) ∈ pw_Tb := pw_in 765 (by decide +kernel) (by decide +kernel)
theorem kX8_59 : Cond.methodLink RX8 59 (mY mX8_whyNotStation) ∈ pw_Tb := pw_in 773 (by decide +kernel) (by decide +kernel)
theorem kX8_63 : Cond.methodLink RX8 63 (mY mX8_comes) ∈ pw_Tb := pw_in 777 (by decide +kernel) (by decide +kernel)
theorem kX8_66 : Cond.methodLink RX8 66 (mY mX8_isStation) ∈ pw_Tb := pw_in 789 (by decide +kernel) (by decide +kernel)
theorem kX8_70 : Cond.methodLink RX8 70 (mY mX8_isWire) ∈ pw_Tb := pw_in 793 (by decide +kernel) (by decide +kernel)
theorem kX8_73 : Cond.methodLink RX8 73 (mY mX8_isAt) ∈ pw_Tb := pw_in 796 (by decide +kernel) (by decide +kernel)
theorem kX8_76 : Cond.methodLink RX8 76 (mY mX8_add) ∈ pw_Tb := pw_in 804 (by decide +kernel) (by decide +kernel)
theorem kX8_79 : Cond.methodLink RX8 79 (mY mX8_whyNotWord) ∈ pw_Tb := pw_in 785 (by decide +kernel) (by decide +kernel)
theorem kX8_83 : Cond.methodLink RX8 83 (mY mX8_gets) ∈ pw_Tb := pw_in 800 (by decide +kernel) (by decide +kernel)
theorem kX8_86 : Cond.methodLink RX8 86 (mY mX8_quiet) ∈ pw_Tb := pw_in 816 (by decide +kernel) (by decide +kernel)
theorem kX8_90 : Cond.methodLink RX8 90 (mY mX8_firstWire) ∈ pw_Tb := pw_in 856 (by decide +kernel) (by decide +kernel)
theorem kX8_93 : Cond.methodLink RX8 93 (mY mX8_tally) ∈ pw_Tb := pw_in 860 (by decide +kernel) (by decide +kernel)
theorem kX8_97 : Cond.methodLink RX8 97 (mY mX8_leaves) ∈ pw_Tb := pw_in 812 (by decide +kernel) (by decide +kernel)
theorem kX8_100 : Cond.methodLink RX8 100 (mY mX8_wire) ∈ pw_Tb := pw_in 832 (by decide +kernel) (by decide +kernel)
theorem kX8_103 : Cond.methodLink RX8 103 (mY mX8_whyNotWire) ∈ pw_Tb := pw_in 824 (by decide +kernel) (by decide +kernel)
theorem kX8_106 : Cond.methodLink RX8 106 (mY mX8_turnFault) ∈ pw_Tb := pw_in 828 (by decide +kernel) (by decide +kernel)
theorem kX8_109 : Cond.methodLink RX8 109 (mY mX8_speaks) ∈ pw_Tb := pw_in 848 (by decide +kernel) (by decide +kernel)
theorem kX8_112 : Cond.methodLink RX8 112 (mY mX8_giveUp) ∈ pw_Tb := pw_in 852 (by decide +kernel) (by decide +kernel)
theorem kX8_115 : Cond.methodLink RX8 115 (mY mX8_whyNotDoze) ∈ pw_Tb := pw_in 840 (by decide +kernel) (by decide +kernel)
theorem kX8_118 : Cond.methodLink RX8 118 (mY mX8_turnSleep) ∈ pw_Tb := pw_in 844 (by decide +kernel) (by decide +kernel)
theorem kX8_121 : Cond.methodLink RX8 121 (mY mX8_isAwake) ∈ pw_Tb := pw_in 889 (by decide +kernel) (by decide +kernel)
theorem kX8_124 : Cond.methodLink RX8 124 (mY mX8_begins) ∈ pw_Tb := pw_in 885 (by decide +kernel) (by decide +kernel)
theorem kX8_127 : Cond.methodLink RX8 127 (mY mX8_awakeAt) ∈ pw_Tb := pw_in 893 (by decide +kernel) (by decide +kernel)
theorem kX8_130 : Cond.methodLink RX8 130 (mY mX8_bitOf) ∈ pw_Tb := pw_in 901 (by decide +kernel) (by decide +kernel)
theorem kX8_133 : Cond.methodLink RX8 133 (mY mX8_allAwake) ∈ pw_Tb := pw_in 909 (by decide +kernel) (by decide +kernel)
theorem kX8_136 : Cond.methodLink RX8 136 (mY mX8_hears) ∈ pw_Tb := pw_in 913 (by decide +kernel) (by decide +kernel)
theorem kX8_139 : Cond.methodLink RX8 139 (mY mX8_begin) ∈ pw_Tb := pw_in 881 (by decide +kernel) (by decide +kernel)
theorem kX8_142 : Cond.methodLink RX8 142 (mY mX8_pull) ∈ pw_Tb := pw_in 897 (by decide +kernel) (by decide +kernel)
theorem kX8_145 : Cond.methodLink RX8 145 (mY mX8_goesOn) ∈ pw_Tb := pw_in 905 (by decide +kernel) (by decide +kernel)
theorem kX8_148 : Cond.methodLink RX8 148 (mY mX8_charge) ∈ pw_Tb := pw_in 917 (by decide +kernel) (by decide +kernel)
theorem kX8_152 : Cond.methodLink RX8 152 (mY mX8_beat) ∈ pw_Tb := pw_in 877 (by decide +kernel) (by decide +kernel)
theorem kX8_156 : Cond.methodLink RX8 156 (mY mX8_whyNotPass) ∈ pw_Tb := pw_in 868 (by decide +kernel) (by decide +kernel)
theorem kX8_159 : Cond.methodLink RX8 159 (mY mX8_beats) ∈ pw_Tb := pw_in 873 (by decide +kernel) (by decide +kernel)
theorem kX8_162 : Cond.methodLink RX8 162 (mY mX8_stationsAt) ∈ pw_Tb := pw_in 925 (by decide +kernel) (by decide +kernel)
theorem kX8_165 : Cond.methodLink RX8 165 (mY mX8_speakersOn) ∈ pw_Tb := pw_in 929 (by decide +kernel) (by decide +kernel)
theorem kX8_168 : Cond.methodLink RX8 168 (mY mX8_waiting) ∈ pw_Tb := pw_in 933 (by decide +kernel) (by decide +kernel)
theorem kX8_171 : Cond.methodLink RX8 171 (mY mX8_speakers) ∈ pw_Tb := pw_in 953 (by decide +kernel) (by decide +kernel)
theorem kX8_174 : Cond.methodLink RX8 174 (mY mX8_awake) ∈ pw_Tb := pw_in 957 (by decide +kernel) (by decide +kernel)
theorem kX8_177 : Cond.methodLink RX8 177 (mY mX8_sum) ∈ pw_Tb := pw_in 961 (by decide +kernel) (by decide +kernel)
theorem kX8_180 : Cond.methodLink RX8 180 (mY mX8_faults) ∈ pw_Tb := pw_in 965 (by decide +kernel) (by decide +kernel)
theorem kX8_186 : Cond.methodLink RX8 186 (mY mX8_putAside) ∈ pw_Tb := pw_in 977 (by decide +kernel) (by decide +kernel)
theorem kX8_189 : Cond.methodLink RX8 189 (mY mX8_bringBack) ∈ pw_Tb := pw_in 981 (by decide +kernel) (by decide +kernel)
theorem kX8_198 : Cond.methodLink RX8 198 (mY mX8_letter) ∈ pw_Tb := pw_in 1013 (by decide +kernel) (by decide +kernel)
theorem kX8_201 : Cond.methodLink RX8 201 (mY mX8_wants) ∈ pw_Tb := pw_in 1017 (by decide +kernel) (by decide +kernel)
theorem kX8_205 : Cond.methodLink RX8 205 (mY mX8_digit) ∈ pw_Tb := pw_in 1029 (by decide +kernel) (by decide +kernel)
theorem kX8_208 : Cond.methodLink RX8 208 (mY mX8_wireRead) ∈ pw_Tb := pw_in 1025 (by decide +kernel) (by decide +kernel)
theorem kX8_214 : Cond.methodLink RX8 214 (mY mX8_wiresRead) ∈ pw_Tb := pw_in 1021 (by decide +kernel) (by decide +kernel)
theorem kX8_217 : Cond.methodLink RX8 217 (mY mX8_number) ∈ pw_Tb := pw_in 1033 (by decide +kernel) (by decide +kernel)
theorem kX8_220 : Cond.methodLink RX8 220 (mY mX8_readOrder) ∈ pw_Tb := pw_in 1009 (by decide +kernel) (by decide +kernel)
theorem kX8_223 : Cond.methodLink RX8 223 (mY mX8_readPad) ∈ pw_Tb := pw_in 1005 (by decide +kernel) (by decide +kernel)
theorem kX8_226 : Cond.methodLink RX8 226 (mY mX8_whyNot) ∈ pw_Tb := pw_in 1041 (by decide +kernel) (by decide +kernel)
theorem kX8_229 : Cond.methodLink RX8 229 (mY mX8_does) ∈ pw_Tb := pw_in 1045 (by decide +kernel) (by decide +kernel)
theorem kX7_32 : Cond.methodLinkNest RX7 32 (mY mX3_init) RX7 ∈ pw_nest := by decide +kernel
theorem kX0_41 : Cond.methodLinkNest RX0 41 (mY mX7_copyNumbers) RX7 ∈ pw_nest := by decide +kernel
theorem kX0_84 : Cond.methodLinkNest RX0 84 (mY mX7_isWire) RX7 ∈ pw_nest := by decide +kernel
theorem kX2_15 : Cond.methodLinkNest RX2 15 (mY mX7_copyNumbers) RX7 ∈ pw_nest := by decide +kernel
theorem kX4_54 : Cond.methodLinkNest RX4 54 (mY mX7_isWire) RX7 ∈ pw_nest := by decide +kernel
theorem kX5_21 : Cond.methodLinkNest RX5 21 (mY mX7_copyNumbers) RX7 ∈ pw_nest := by decide +kernel
theorem kX6_11 : Cond.methodLinkNest RX6 11 (mY mX5_init) RX7 ∈ pw_nest := by decide +kernel
theorem kX6_20 : Cond.methodLinkNest RX6 20 (mY mX2_init) RX7 ∈ pw_nest := by decide +kernel
theorem fX7_10 : Cond.fieldLink RX7 10 RX7 "now" "LBusSilences$Bus;" ∈ pw_Tb := pw_in 247 (by decide +kernel) (by decide +kernel)
theorem fX7_16 : Cond.fieldLink RX7 16 RX7 "trial" "LBusSilences$Bus;" ∈ pw_Tb := pw_in 248 (by decide +kernel) (by decide +kernel)
theorem fX7_22 : Cond.fieldLink RX7 22 RX7 "history" "LBusSilences$History;" ∈ pw_Tb := pw_in 249 (by decide +kernel) (by decide +kernel)
theorem fX7_26 : Cond.fieldLink RX7 26 RX7 "slots" "[LBusSilences$Bus;" ∈ pw_Tb := pw_in 250 (by decide +kernel) (by decide +kernel)
theorem fX7_33 : Cond.fieldLink RX7 33 RX7 "pad" "LBusSilences$Pad;" ∈ pw_Tb := pw_in 251 (by decide +kernel) (by decide +kernel)
theorem fX7_42 : Cond.fieldLink RX7 42 RX7 "reader" "LBusSilences$Reader;" ∈ pw_Tb := pw_in 252 (by decide +kernel) (by decide +kernel)
theorem fX7_81 : Cond.fieldLink RX7 81 RX0 "highFor" "[I" ∈ pw_Tb := pw_in 148 (by decide +kernel) (by decide +kernel)
theorem fX7_97 : Cond.fieldLink RX7 97 RX0 "heardOn" "[I" ∈ pw_Tb := pw_in 150 (by decide +kernel) (by decide +kernel)
theorem fX7_100 : Cond.fieldLink RX7 100 RX0 "lostOn" "[I" ∈ pw_Tb := pw_in 152 (by decide +kernel) (by decide +kernel)
theorem fX7_112 : Cond.fieldLink RX7 112 RX6 "row" "LBusSilences$Row;" ∈ pw_Tb := pw_in 83 (by decide +kernel) (by decide +kernel)
theorem fX7_130 : Cond.fieldLink RX7 130 RX6 "latest" "LBusSilences$Latest;" ∈ pw_Tb := pw_in 85 (by decide +kernel) (by decide +kernel)
theorem fX7_139 : Cond.fieldLink RX7 139 RX0 "beats" "I" ∈ pw_Tb := pw_in 159 (by decide +kernel) (by decide +kernel)
theorem fX7_143 : Cond.fieldLink RX7 143 RX0 "arrived" "I" ∈ pw_Tb := pw_in 155 (by decide +kernel) (by decide +kernel)
theorem fX7_153 : Cond.fieldLink RX7 153 RX0 "faults" "I" ∈ pw_Tb := pw_in 157 (by decide +kernel) (by decide +kernel)
theorem fX7_156 : Cond.fieldLink RX7 156 RX0 "settings" "[I" ∈ pw_Tb := pw_in 146 (by decide +kernel) (by decide +kernel)
theorem fX7_159 : Cond.fieldLink RX7 159 RX3 "length" "I" ∈ pw_Tb := pw_in 206 (by decide +kernel) (by decide +kernel)
theorem fX7_162 : Cond.fieldLink RX7 162 RX1 "length" "I" ∈ pw_Tb := pw_in 189 (by decide +kernel) (by decide +kernel)
theorem fX7_167 : Cond.fieldLink RX7 167 RX6 "dozing" "Z" ∈ pw_Tb := pw_in 96 (by decide +kernel) (by decide +kernel)
theorem fX7_171 : Cond.fieldLink RX7 171 RX6 "asleep" "Z" ∈ pw_Tb := pw_in 92 (by decide +kernel) (by decide +kernel)
theorem fX7_174 : Cond.fieldLink RX7 174 RX5 "length" "I" ∈ pw_Tb := pw_in 55 (by decide +kernel) (by decide +kernel)
theorem fX7_184 : Cond.fieldLink RX7 184 RX6 "wordsHeard" "I" ∈ pw_Tb := pw_in 105 (by decide +kernel) (by decide +kernel)
theorem fX7_187 : Cond.fieldLink RX7 187 RX6 "wordsLost" "I" ∈ pw_Tb := pw_in 108 (by decide +kernel) (by decide +kernel)
theorem fX7_193 : Cond.fieldLink RX7 193 RX7 "LOWEST" "[I" ∈ pw_Tb := pw_in 575 (by decide +kernel) (by decide +kernel)
theorem fX7_196 : Cond.fieldLink RX7 196 RX7 "GREATEST" "[I" ∈ pw_Tb := pw_in 576 (by decide +kernel) (by decide +kernel)
theorem fX7_212 : Cond.fieldLink RX7 212 RX4 "at" "I" ∈ pw_Tb := pw_in 221 (by decide +kernel) (by decide +kernel)
theorem fX7_221 : Cond.fieldLink RX7 221 RX4 "kind" "I" ∈ pw_Tb := pw_in 223 (by decide +kernel) (by decide +kernel)
theorem fX7_224 : Cond.fieldLink RX7 224 RX4 "wires" "I" ∈ pw_Tb := pw_in 229 (by decide +kernel) (by decide +kernel)
theorem fX7_227 : Cond.fieldLink RX7 227 RX4 "station" "I" ∈ pw_Tb := pw_in 225 (by decide +kernel) (by decide +kernel)
theorem fX7_230 : Cond.fieldLink RX7 230 RX4 "wire" "I" ∈ pw_Tb := pw_in 227 (by decide +kernel) (by decide +kernel)
theorem fX7_233 : Cond.fieldLink RX7 233 RX4 "number" "I" ∈ pw_Tb := pw_in 231 (by decide +kernel) (by decide +kernel)
theorem fX0_18 : Cond.fieldLink RX0 18 RX0 "settings" "[I" ∈ pw_Tb := pw_in 145 (by decide +kernel) (by decide +kernel)
theorem fX0_23 : Cond.fieldLink RX0 23 RX0 "highFor" "[I" ∈ pw_Tb := pw_in 147 (by decide +kernel) (by decide +kernel)
theorem fX0_26 : Cond.fieldLink RX0 26 RX0 "heardOn" "[I" ∈ pw_Tb := pw_in 149 (by decide +kernel) (by decide +kernel)
theorem fX0_29 : Cond.fieldLink RX0 29 RX0 "lostOn" "[I" ∈ pw_Tb := pw_in 151 (by decide +kernel) (by decide +kernel)
theorem fX0_34 : Cond.fieldLink RX0 34 RX0 "stations" "[LBusSilences$Station;" ∈ pw_Tb := pw_in 153 (by decide +kernel) (by decide +kernel)
theorem fX0_49 : Cond.fieldLink RX0 49 RX0 "arrived" "I" ∈ pw_Tb := pw_in 154 (by decide +kernel) (by decide +kernel)
theorem fX0_53 : Cond.fieldLink RX0 53 RX0 "faults" "I" ∈ pw_Tb := pw_in 156 (by decide +kernel) (by decide +kernel)
theorem fX0_56 : Cond.fieldLink RX0 56 RX0 "beats" "I" ∈ pw_Tb := pw_in 158 (by decide +kernel) (by decide +kernel)
theorem fX0_68 : Cond.fieldLink RX0 68 RX6 "charge" "I" ∈ pw_Tb := pw_in 90 (by decide +kernel) (by decide +kernel)
theorem fX0_77 : Cond.fieldLink RX0 77 RX6 "wires" "I" ∈ pw_Tb := pw_in 88 (by decide +kernel) (by decide +kernel)
theorem fX0_91 : Cond.fieldLink RX0 91 RX6 "row" "LBusSilences$Row;" ∈ pw_Tb := pw_in 82 (by decide +kernel) (by decide +kernel)
theorem fX0_95 : Cond.fieldLink RX0 95 RX5 "length" "I" ∈ pw_Tb := pw_in 53 (by decide +kernel) (by decide +kernel)
theorem fX0_117 : Cond.fieldLink RX0 117 RX6 "dozing" "Z" ∈ pw_Tb := pw_in 95 (by decide +kernel) (by decide +kernel)
theorem fX0_169 : Cond.fieldLink RX0 169 RX6 "wireSpokenOn" "I" ∈ pw_Tb := pw_in 100 (by decide +kernel) (by decide +kernel)
theorem fX0_172 : Cond.fieldLink RX0 172 RX6 "nextBeat" "I" ∈ pw_Tb := pw_in 98 (by decide +kernel) (by decide +kernel)
theorem fX0_175 : Cond.fieldLink RX0 175 RX6 "listeners" "I" ∈ pw_Tb := pw_in 103 (by decide +kernel) (by decide +kernel)
theorem fX0_181 : Cond.fieldLink RX0 181 RX6 "name" "I" ∈ pw_Tb := pw_in 80 (by decide +kernel) (by decide +kernel)
theorem fX0_184 : Cond.fieldLink RX0 184 RX6 "latest" "LBusSilences$Latest;" ∈ pw_Tb := pw_in 86 (by decide +kernel) (by decide +kernel)
theorem fX0_193 : Cond.fieldLink RX0 193 RX6 "hearings" "I" ∈ pw_Tb := pw_in 111 (by decide +kernel) (by decide +kernel)
theorem fX0_196 : Cond.fieldLink RX0 196 RX6 "wordsHeard" "I" ∈ pw_Tb := pw_in 106 (by decide +kernel) (by decide +kernel)
theorem fX0_199 : Cond.fieldLink RX0 199 RX6 "timesGivenUp" "I" ∈ pw_Tb := pw_in 113 (by decide +kernel) (by decide +kernel)
theorem fX0_205 : Cond.fieldLink RX0 205 RX6 "wordsLost" "I" ∈ pw_Tb := pw_in 109 (by decide +kernel) (by decide +kernel)
theorem fX0_216 : Cond.fieldLink RX0 216 RX6 "asleep" "Z" ∈ pw_Tb := pw_in 93 (by decide +kernel) (by decide +kernel)
theorem fX1_11 : Cond.fieldLink RX1 11 RX1 "states" "[LBusSilences$Bus;" ∈ pw_Tb := pw_in 186 (by decide +kernel) (by decide +kernel)
theorem fX1_18 : Cond.fieldLink RX1 18 RX1 "next" "I" ∈ pw_Tb := pw_in 187 (by decide +kernel) (by decide +kernel)
theorem fX1_26 : Cond.fieldLink RX1 26 RX1 "length" "I" ∈ pw_Tb := pw_in 188 (by decide +kernel) (by decide +kernel)
theorem fX2_9 : Cond.fieldLink RX2 9 RX2 "facts" "[I" ∈ pw_Tb := pw_in 72 (by decide +kernel) (by decide +kernel)
theorem fX2_19 : Cond.fieldLink RX2 19 RX2 "length" "I" ∈ pw_Tb := pw_in 73 (by decide +kernel) (by decide +kernel)
theorem fX3_9 : Cond.fieldLink RX3 9 RX3 "text" "[C" ∈ pw_Tb := pw_in 203 (by decide +kernel) (by decide +kernel)
theorem fX3_19 : Cond.fieldLink RX3 19 RX3 "length" "I" ∈ pw_Tb := pw_in 204 (by decide +kernel) (by decide +kernel)
theorem fX4_9 : Cond.fieldLink RX4 9 RX4 "pad" "LBusSilences$Pad;" ∈ pw_Tb := pw_in 219 (by decide +kernel) (by decide +kernel)
theorem fX4_15 : Cond.fieldLink RX4 15 RX4 "at" "I" ∈ pw_Tb := pw_in 220 (by decide +kernel) (by decide +kernel)
theorem fX4_19 : Cond.fieldLink RX4 19 RX3 "length" "I" ∈ pw_Tb := pw_in 205 (by decide +kernel) (by decide +kernel)
theorem fX4_32 : Cond.fieldLink RX4 32 RX4 "kind" "I" ∈ pw_Tb := pw_in 222 (by decide +kernel) (by decide +kernel)
theorem fX4_51 : Cond.fieldLink RX4 51 RX4 "wire" "I" ∈ pw_Tb := pw_in 226 (by decide +kernel) (by decide +kernel)
theorem fX4_58 : Cond.fieldLink RX4 58 RX4 "wires" "I" ∈ pw_Tb := pw_in 228 (by decide +kernel) (by decide +kernel)
theorem fX4_68 : Cond.fieldLink RX4 68 RX4 "station" "I" ∈ pw_Tb := pw_in 224 (by decide +kernel) (by decide +kernel)
theorem fX4_71 : Cond.fieldLink RX4 71 RX4 "number" "I" ∈ pw_Tb := pw_in 230 (by decide +kernel) (by decide +kernel)
theorem fX5_9 : Cond.fieldLink RX5 9 RX5 "numbers" "[I" ∈ pw_Tb := pw_in 49 (by decide +kernel) (by decide +kernel)
theorem fX5_15 : Cond.fieldLink RX5 15 RX5 "wires" "[I" ∈ pw_Tb := pw_in 50 (by decide +kernel) (by decide +kernel)
theorem fX5_18 : Cond.fieldLink RX5 18 RX5 "tries" "[I" ∈ pw_Tb := pw_in 51 (by decide +kernel) (by decide +kernel)
theorem fX5_25 : Cond.fieldLink RX5 25 RX5 "length" "I" ∈ pw_Tb := pw_in 52 (by decide +kernel) (by decide +kernel)
theorem fX6_12 : Cond.fieldLink RX6 12 RX6 "row" "LBusSilences$Row;" ∈ pw_Tb := pw_in 81 (by decide +kernel) (by decide +kernel)
theorem fX6_21 : Cond.fieldLink RX6 21 RX6 "latest" "LBusSilences$Latest;" ∈ pw_Tb := pw_in 84 (by decide +kernel) (by decide +kernel)
theorem fX6_25 : Cond.fieldLink RX6 25 RX6 "nextBeat" "I" ∈ pw_Tb := pw_in 97 (by decide +kernel) (by decide +kernel)
theorem fX6_29 : Cond.fieldLink RX6 29 RX6 "name" "I" ∈ pw_Tb := pw_in 79 (by decide +kernel) (by decide +kernel)
theorem fX6_39 : Cond.fieldLink RX6 39 RX6 "wires" "I" ∈ pw_Tb := pw_in 87 (by decide +kernel) (by decide +kernel)
theorem fX6_42 : Cond.fieldLink RX6 42 RX6 "charge" "I" ∈ pw_Tb := pw_in 89 (by decide +kernel) (by decide +kernel)
theorem fX6_45 : Cond.fieldLink RX6 45 RX6 "asleep" "Z" ∈ pw_Tb := pw_in 91 (by decide +kernel) (by decide +kernel)
theorem fX6_49 : Cond.fieldLink RX6 49 RX6 "dozing" "Z" ∈ pw_Tb := pw_in 94 (by decide +kernel) (by decide +kernel)
theorem fX6_52 : Cond.fieldLink RX6 52 RX6 "wireSpokenOn" "I" ∈ pw_Tb := pw_in 99 (by decide +kernel) (by decide +kernel)
theorem fX6_55 : Cond.fieldLink RX6 55 RX6 "spokenBits" "I" ∈ pw_Tb := pw_in 101 (by decide +kernel) (by decide +kernel)
theorem fX6_58 : Cond.fieldLink RX6 58 RX6 "listeners" "I" ∈ pw_Tb := pw_in 102 (by decide +kernel) (by decide +kernel)
theorem fX6_61 : Cond.fieldLink RX6 61 RX6 "wordsHeard" "I" ∈ pw_Tb := pw_in 104 (by decide +kernel) (by decide +kernel)
theorem fX6_64 : Cond.fieldLink RX6 64 RX6 "wordsLost" "I" ∈ pw_Tb := pw_in 107 (by decide +kernel) (by decide +kernel)
theorem fX6_67 : Cond.fieldLink RX6 67 RX6 "hearings" "I" ∈ pw_Tb := pw_in 110 (by decide +kernel) (by decide +kernel)
theorem fX6_70 : Cond.fieldLink RX6 70 RX6 "timesGivenUp" "I" ∈ pw_Tb := pw_in 112 (by decide +kernel) (by decide +kernel)
theorem fX6_77 : Cond.fieldLink RX6 77 RX5 "length" "I" ∈ pw_Tb := pw_in 54 (by decide +kernel) (by decide +kernel)
theorem fX8_7 : Cond.fieldLink RX8 7 RX8 "z" "[I" ∈ pw_Tb := pw_in 694 (by decide +kernel) (by decide +kernel)
theorem fX8_13 : Cond.fieldLink RX8 13 RX8 "past" "[I" ∈ pw_Tb := pw_in 695 (by decide +kernel) (by decide +kernel)
theorem fX8_16 : Cond.fieldLink RX8 16 RX8 "slots" "[I" ∈ pw_Tb := pw_in 697 (by decide +kernel) (by decide +kernel)
theorem fX8_19 : Cond.fieldLink RX8 19 RX8 "isSaved" "[Z" ∈ pw_Tb := pw_in 698 (by decide +kernel) (by decide +kernel)
theorem fX8_23 : Cond.fieldLink RX8 23 RX8 "spare" "[I" ∈ pw_Tb := pw_in 699 (by decide +kernel) (by decide +kernel)
theorem fX8_26 : Cond.fieldLink RX8 26 RX8 "pad" "[C" ∈ pw_Tb := pw_in 700 (by decide +kernel) (by decide +kernel)
theorem fX8_30 : Cond.fieldLink RX8 30 RX8 "isLow" "[Z" ∈ pw_Tb := pw_in 702 (by decide +kernel) (by decide +kernel)
theorem fX8_33 : Cond.fieldLink RX8 33 RX8 "orders" "[I" ∈ pw_Tb := pw_in 703 (by decide +kernel) (by decide +kernel)
theorem fX8_44 : Cond.fieldLink RX8 44 RX8 "pastMany" "I" ∈ pw_Tb := pw_in 696 (by decide +kernel) (by decide +kernel)
theorem fX8_183 : Cond.fieldLink RX8 183 RX8 "typed" "I" ∈ pw_Tb := pw_in 701 (by decide +kernel) (by decide +kernel)
theorem fX8_192 : Cond.fieldLink RX8 192 RX8 "spot" "I" ∈ pw_Tb := pw_in 705 (by decide +kernel) (by decide +kernel)
theorem fX8_195 : Cond.fieldLink RX8 195 RX8 "wrong" "I" ∈ pw_Tb := pw_in 706 (by decide +kernel) (by decide +kernel)
theorem fX8_211 : Cond.fieldLink RX8 211 RX8 "orderMany" "I" ∈ pw_Tb := pw_in 704 (by decide +kernel) (by decide +kernel)
theorem lX7_7 : Cond.classLink RX7 7 RX0 ∈ pw_Tb := pw_in 21 (by decide +kernel) (by decide +kernel)
theorem lX7_19 : Cond.classLink RX7 19 RX1 ∈ pw_Tb := pw_in 177 (by decide +kernel) (by decide +kernel)
theorem lX7_30 : Cond.classLink RX7 30 RX3 ∈ pw_Tb := pw_in 197 (by decide +kernel) (by decide +kernel)
theorem lX7_37 : Cond.classLink RX7 37 RX4 ∈ pw_Tb := pw_in 213 (by decide +kernel) (by decide +kernel)
theorem lX0_14 : Cond.classLink RX0 14 "[I" ∈ pw_Tb := pw_in 35 (by decide +kernel) (by decide +kernel)
theorem lX0_32 : Cond.classLink RX0 32 RX6 ∈ pw_Tb := pw_in 36 (by decide +kernel) (by decide +kernel)
theorem lX1_9 : Cond.classLink RX1 9 RX0 ∈ pw_Tb := pw_in 183 (by decide +kernel) (by decide +kernel)
theorem lX6_9 : Cond.classLink RX6 9 RX5 ∈ pw_Tb := pw_in 43 (by decide +kernel) (by decide +kernel)
theorem lX6_18 : Cond.classLink RX6 18 RX2 ∈ pw_Tb := pw_in 66 (by decide +kernel) (by decide +kernel)
theorem lL_7 : Cond.classLink RL 7 RX7 ∈ pw_Tb := pw_in 13 (by decide +kernel) (by decide +kernel)
theorem lL_10 : Cond.classLink RL 10 RX8 ∈ pw_Tb := pw_in 688 (by decide +kernel) (by decide +kernel)
theorem tX7 : Cond.instantiable RX7 (pw_N 7) ∈ pw_Tb := pw_in 14 (by decide +kernel) (by decide +kernel)
theorem uX7 : Cond.initialized RX7 ∈ pw_Tb := pw_in 1 (by decide +kernel) (by decide +kernel)
theorem tX0 : Cond.instantiable RX0 (pw_N 0) ∈ pw_Tb := pw_in 22 (by decide +kernel) (by decide +kernel)
theorem uX0 : Cond.initialized RX0 ∈ pw_Tb := pw_in 2 (by decide +kernel) (by decide +kernel)
theorem tX6 : Cond.instantiable RX6 (pw_N 6) ∈ pw_Tb := pw_in 38 (by decide +kernel) (by decide +kernel)
theorem uX6 : Cond.initialized RX6 ∈ pw_Tb := pw_in 3 (by decide +kernel) (by decide +kernel)
theorem tX5 : Cond.instantiable RX5 (pw_N 5) ∈ pw_Tb := pw_in 44 (by decide +kernel) (by decide +kernel)
theorem uX5 : Cond.initialized RX5 ∈ pw_Tb := pw_in 4 (by decide +kernel) (by decide +kernel)
theorem ta_int : Cond.arrayClass .int ∈ pw_Tb := pw_in 65 (by decide +kernel) (by decide +kernel)
theorem tX2 : Cond.instantiable RX2 (pw_N 2) ∈ pw_Tb := pw_in 67 (by decide +kernel) (by decide +kernel)
theorem uX2 : Cond.initialized RX2 ∈ pw_Tb := pw_in 5 (by decide +kernel) (by decide +kernel)
theorem tX1 : Cond.instantiable RX1 (pw_N 1) ∈ pw_Tb := pw_in 178 (by decide +kernel) (by decide +kernel)
theorem uX1 : Cond.initialized RX1 ∈ pw_Tb := pw_in 6 (by decide +kernel) (by decide +kernel)
theorem tX3 : Cond.instantiable RX3 (pw_N 3) ∈ pw_Tb := pw_in 198 (by decide +kernel) (by decide +kernel)
theorem uX3 : Cond.initialized RX3 ∈ pw_Tb := pw_in 7 (by decide +kernel) (by decide +kernel)
theorem ta_char : Cond.arrayClass .char ∈ pw_Tb := pw_in 212 (by decide +kernel) (by decide +kernel)
theorem tX4 : Cond.instantiable RX4 (pw_N 4) ∈ pw_Tb := pw_in 214 (by decide +kernel) (by decide +kernel)
theorem uX4 : Cond.initialized RX4 ∈ pw_Tb := pw_in 8 (by decide +kernel) (by decide +kernel)
theorem qX0_128 : Cond.constant RX0 128 99999 ∈ pw_Tb := pw_in 418 (by decide +kernel) (by decide +kernel)
theorem qJ6_265 : Cond.constant RJ6 265 1431655765 ∈ pw_Tb := pw_in 477 (by decide +kernel) (by decide +kernel)
theorem qJ6_266 : Cond.constant RJ6 266 858993459 ∈ pw_Tb := pw_in 478 (by decide +kernel) (by decide +kernel)
theorem qJ6_267 : Cond.constant RJ6 267 252645135 ∈ pw_Tb := pw_in 479 (by decide +kernel) (by decide +kernel)
theorem qX3_23 : Cond.constantLong RX3 23 255 ∈ pw_Tb := pw_in 600 (by decide +kernel) (by decide +kernel)
theorem qX3_25 : Cond.constantLong RX3 25 33 ∈ pw_Tb := pw_in 601 (by decide +kernel) (by decide +kernel)
theorem qX3_27 : Cond.constantLong RX3 27 126 ∈ pw_Tb := pw_in 602 (by decide +kernel) (by decide +kernel)
theorem tX8 : Cond.instantiable RX8 (pw_N 8) ∈ pw_Tb := pw_in 689 (by decide +kernel) (by decide +kernel)
theorem uX8 : Cond.initialized RX8 ∈ pw_Tb := pw_in 9 (by decide +kernel) (by decide +kernel)
theorem ta_boolean : Cond.arrayClass .boolean ∈ pw_Tb := pw_in 734 (by decide +kernel) (by decide +kernel)
theorem qX8_151 : Cond.constant RX8 151 99999 ∈ pw_Tb := pw_in 872 (by decide +kernel) (by decide +kernel)
theorem qX8_232 : Cond.constantLong RX8 232 255 ∈ pw_Tb := pw_in 1053 (by decide +kernel) (by decide +kernel)
theorem qL_89 : Cond.constantLong RL 89 4294967295 ∈ pw_Tb := pw_in 1058 (by decide +kernel) (by decide +kernel)
theorem tm_mins : Cond.static Lib.Math.min.name ∈ pw_Tb := pw_in 282 (by decide +kernel) (by decide +kernel)
theorem tm_minc : Cond.code Lib.Math.min.name Lib.Math.min.code 2 (some .int) ∈ pw_Tb := pw_in 283 (by decide +kernel) (by decide +kernel)
theorem tm_maxs : Cond.static Lib.Math.max.name ∈ pw_Tb := pw_in 481 (by decide +kernel) (by decide +kernel)
theorem tm_maxc : Cond.code Lib.Math.max.name Lib.Math.max.code 2 (some .int) ∈ pw_Tb := pw_in 482 (by decide +kernel) (by decide +kernel)
theorem tm_i : Cond.initialized "java/lang/Math" ∈ pw_Tb := pw_in 10 (by decide +kernel) (by decide +kernel)
theorem ts_i : Cond.initialized "java/lang/System" ∈ pw_Tb := pw_in 11 (by decide +kernel) (by decide +kernel)
theorem ts_n : Cond.native arraycopyName ∈ pw_Tb := pw_in 286 (by decide +kernel) (by decide +kernel)
theorem ts_s : Cond.static arraycopyName ∈ pw_Tb := pw_in 285 (by decide +kernel) (by decide +kernel)
theorem to_i : Cond.instanceMethod objectInit ∈ pw_Tb := pw_in 19 (by decide +kernel) (by decide +kernel)
theorem to_c : Cond.code objectInit ⟨#[0xb1]⟩ 1 none ∈ pw_Tb := pw_in 20 (by decide +kernel) (by decide +kernel)
theorem tc_n : Cond.native ⟨"java/lang/Object", "clone", "()Ljava/lang/Object;"⟩ ∈ pw_Tb := pw_in 31 (by decide +kernel) (by decide +kernel)
theorem tc_i : Cond.instanceMethod ⟨"java/lang/Object", "clone", "()Ljava/lang/Object;"⟩ ∈ pw_Tb := pw_in 32 (by decide +kernel) (by decide +kernel)
theorem tc_s : Cond.selects "[I" ⟨"[I", "clone", "()Ljava/lang/Object;"⟩ ⟨"java/lang/Object", "clone", "()Ljava/lang/Object;"⟩ ∈ pw_Tb := pw_in 33 (by decide +kernel) (by decide +kernel)
theorem tc_m : Cond.sameMethod "[I" "java/lang/Object" "clone" "()Ljava/lang/Object;" ∈ pw_Tb := pw_in 30 (by decide +kernel) (by decide +kernel)
end
section
/-! Shapes; rows at places that are counted -/
def ShA (σ : Sp) (a t l : Nat) : Prop := tg σ a = t ∧ ln σ a = l
/-- a station at a: its row at a + 1, the row's three arrays, its latest at a + 5, their array -/
def ShSt (σ : Sp) (a : Nat) : Prop := tg σ a = 7 ∧ rf σ a 1 = some (a + 1) ∧ rf σ a 2 = some (a + 5) ∧ (tg σ (a + 1) = 6 ∧ rf σ (a + 1) 0 = some (a + 2) ∧ rf σ (a + 1) 1 = some (a + 3) ∧ rf σ (a + 1) 2 = some (a + 4)) ∧ ShA σ (a + 2) 11 4 ∧ ShA σ (a + 3) 11 4 ∧ ShA σ (a + 4) 11 4 ∧ (tg σ (a + 5) = 3 ∧ rf σ (a + 5) 0 = some (a + 6)) ∧ ShA σ (a + 6) 11 16
def st (b i : Nat) : Nat := b + 6 + 7 * i
def ShBus (σ : Sp) (b : Nat) : Prop := (tg σ b = 1 ∧ rf σ b 0 = some (b + 1) ∧ rf σ b 1 = some (b + 2) ∧ rf σ b 2 = some (b + 3) ∧ rf σ b 3 = some (b + 4) ∧ rf σ b 4 = some (b + 5)) ∧ ShA σ (b + 1) 11 5 ∧ ShA σ (b + 2) 11 6 ∧ ShA σ (b + 3) 11 6 ∧ ShA σ (b + 4) 11 6 ∧ ShA σ (b + 5) 14 8 ∧ ∀ i, i < 8 → rf σ (b + 5) i = some (st b i) ∧ ShSt σ (st b i)
def ShPad (σ : Sp) (p : Nat) : Prop := tg σ p = 4 ∧ rf σ p 0 = some (p + 1) ∧ ShA σ (p + 1) 10 80
def ShRd (σ : Sp) (r p : Nat) : Prop := tg σ r = 5 ∧ rf σ r 0 = some p ∧ ShPad σ p
def hb (h j : Nat) : Nat := h + 2 + 62 * j
def ShHist (σ : Sp) (h : Nat) : Prop := tg σ h = 2 ∧ rf σ h 0 = some (h + 1) ∧ ShA σ (h + 1) 13 7 ∧ ∀ j, j < 7 → rf σ (h + 1) j = some (hb h j) ∧ ShBus σ (hb h j)
def ShX (σ : Sp) (o : Nat) : Prop := (tg σ o = 8 ∧ rf σ o 0 = some (o + 1) ∧ rf σ o 1 = some (o + 63) ∧ rf σ o 2 = some (o + 125) ∧ rf σ o 3 = some (o + 561) ∧ rf σ o 4 = some (o + 562) ∧ rf σ o 5 = some (o + 564)) ∧ ShBus σ (o + 1) ∧ ShBus σ (o + 63) ∧ ShHist σ (o + 125) ∧ ShA σ (o + 561) 13 2 ∧ ShPad σ (o + 562) ∧ ShRd σ (o + 564) (o + 562)
def ShM (σ : Sp) (m : Nat) : Prop := (tg σ m = 9 ∧ rf σ m 0 = some (m + 1) ∧ rf σ m 1 = some (m + 2) ∧ rf σ m 3 = some (m + 3) ∧ rf σ m 4 = some (m + 4) ∧ rf σ m 5 = some (m + 5) ∧ rf σ m 6 = some (m + 6) ∧ rf σ m 8 = some (m + 7) ∧ rf σ m 9 = some (m + 8)) ∧ ShA σ (m + 1) 11 351 ∧ ShA σ (m + 2) 11 2106 ∧ ShA σ (m + 3) 11 702 ∧ ShA σ (m + 4) 12 2 ∧ ShA σ (m + 5) 11 351 ∧ ShA σ (m + 6) 10 80 ∧ ShA σ (m + 7) 12 6 ∧ ShA σ (m + 8) 11 168
theorem ShSt.t {σ : Sp} {a : Nat} (h : ShSt σ a) : tg σ a = 6 + 1 := h.1
theorem ShSt.r1 {σ : Sp} {a : Nat} (h : ShSt σ a) : rf σ a 1 = some (a + 1) := h.2.1
theorem ShSt.r2 {σ : Sp} {a : Nat} (h : ShSt σ a) : rf σ a 2 = some (a + 5) := h.2.2.1
theorem ShSt.w {σ : Sp} {a : Nat} (h : ShSt σ a) : tg σ (a + 1) = 5 + 1 := h.2.2.2.1.1
theorem ShSt.w0 {σ : Sp} {a : Nat} (h : ShSt σ a) : rf σ (a + 1) 0 = some (a + 2) := h.2.2.2.1.2.1
theorem ShSt.w1 {σ : Sp} {a : Nat} (h : ShSt σ a) : rf σ (a + 1) 1 = some (a + 3) := h.2.2.2.1.2.2.1
theorem ShSt.w2 {σ : Sp} {a : Nat} (h : ShSt σ a) : rf σ (a + 1) 2 = some (a + 4) := h.2.2.2.1.2.2.2
theorem ShSt.n {σ : Sp} {a : Nat} (h : ShSt σ a) : ShA σ (a + 2) 11 4 := h.2.2.2.2.1
theorem ShSt.x {σ : Sp} {a : Nat} (h : ShSt σ a) : ShA σ (a + 3) 11 4 := h.2.2.2.2.2.1
theorem ShSt.y {σ : Sp} {a : Nat} (h : ShSt σ a) : ShA σ (a + 4) 11 4 := h.2.2.2.2.2.2.1
theorem ShSt.l {σ : Sp} {a : Nat} (h : ShSt σ a) : tg σ (a + 5) = 2 + 1 := h.2.2.2.2.2.2.2.1.1
theorem ShSt.l0 {σ : Sp} {a : Nat} (h : ShSt σ a) : rf σ (a + 5) 0 = some (a + 6) := h.2.2.2.2.2.2.2.1.2
theorem ShSt.f {σ : Sp} {a : Nat} (h : ShSt σ a) : ShA σ (a + 6) 11 16 := h.2.2.2.2.2.2.2.2
theorem ShBus.t {σ : Sp} {b : Nat} (h : ShBus σ b) : tg σ b = 0 + 1 := h.1.1
theorem ShBus.r0 {σ : Sp} {b : Nat} (h : ShBus σ b) : rf σ b 0 = some (b + 1) := h.1.2.1
theorem ShBus.r1 {σ : Sp} {b : Nat} (h : ShBus σ b) : rf σ b 1 = some (b + 2) := h.1.2.2.1
theorem ShBus.r2 {σ : Sp} {b : Nat} (h : ShBus σ b) : rf σ b 2 = some (b + 3) := h.1.2.2.2.1
theorem ShBus.r3 {σ : Sp} {b : Nat} (h : ShBus σ b) : rf σ b 3 = some (b + 4) := h.1.2.2.2.2.1
theorem ShBus.r4 {σ : Sp} {b : Nat} (h : ShBus σ b) : rf σ b 4 = some (b + 5) := h.1.2.2.2.2.2
theorem ShBus.a1 {σ : Sp} {b : Nat} (h : ShBus σ b) : ShA σ (b + 1) 11 5 := h.2.1
theorem ShBus.a2 {σ : Sp} {b : Nat} (h : ShBus σ b) : ShA σ (b + 2) 11 6 := h.2.2.1
theorem ShBus.a3 {σ : Sp} {b : Nat} (h : ShBus σ b) : ShA σ (b + 3) 11 6 := h.2.2.2.1
theorem ShBus.a4 {σ : Sp} {b : Nat} (h : ShBus σ b) : ShA σ (b + 4) 11 6 := h.2.2.2.2.1
theorem ShBus.a5 {σ : Sp} {b : Nat} (h : ShBus σ b) : ShA σ (b + 5) 14 8 := h.2.2.2.2.2.1
theorem ShBus.s {σ : Sp} {b i : Nat} (h : ShBus σ b) (hi : i < 8) : rf σ (b + 5) i = some (st b i) := (h.2.2.2.2.2.2 i hi).1
theorem ShBus.S {σ : Sp} {b i : Nat} (h : ShBus σ b) (hi : i < 8) : ShSt σ (st b i) := (h.2.2.2.2.2.2 i hi).2
theorem ShPad.t {σ : Sp} {p : Nat} (h : ShPad σ p) : tg σ p = 3 + 1 := h.1
theorem ShPad.r0 {σ : Sp} {p : Nat} (h : ShPad σ p) : rf σ p 0 = some (p + 1) := h.2.1
theorem ShPad.a {σ : Sp} {p : Nat} (h : ShPad σ p) : ShA σ (p + 1) 10 80 := h.2.2
theorem ShRd.t {σ : Sp} {r p : Nat} (h : ShRd σ r p) : tg σ r = 4 + 1 := h.1
theorem ShRd.r0 {σ : Sp} {r p : Nat} (h : ShRd σ r p) : rf σ r 0 = some p := h.2.1
theorem ShRd.p {σ : Sp} {r p : Nat} (h : ShRd σ r p) : ShPad σ p := h.2.2
theorem ShHist.t {σ : Sp} {h0 : Nat} (h : ShHist σ h0) : tg σ h0 = 1 + 1 := h.1
theorem ShHist.r0 {σ : Sp} {h0 : Nat} (h : ShHist σ h0) : rf σ h0 0 = some (h0 + 1) := h.2.1
theorem ShHist.a {σ : Sp} {h0 : Nat} (h : ShHist σ h0) : ShA σ (h0 + 1) 13 7 := h.2.2.1
theorem ShHist.s {σ : Sp} {h0 j : Nat} (h : ShHist σ h0) (hj : j < 7) : rf σ (h0 + 1) j = some (hb h0 j) := (h.2.2.2 j hj).1
theorem ShHist.B {σ : Sp} {h0 j : Nat} (h : ShHist σ h0) (hj : j < 7) : ShBus σ (hb h0 j) := (h.2.2.2 j hj).2
theorem ShX.t {σ : Sp} {o : Nat} (h : ShX σ o) : tg σ o = 7 + 1 := h.1.1
theorem ShX.r0 {σ : Sp} {o : Nat} (h : ShX σ o) : rf σ o 0 = some (o + 1) := h.1.2.1
theorem ShX.r1 {σ : Sp} {o : Nat} (h : ShX σ o) : rf σ o 1 = some (o + 63) := h.1.2.2.1
theorem ShX.r2 {σ : Sp} {o : Nat} (h : ShX σ o) : rf σ o 2 = some (o + 125) := h.1.2.2.2.1
theorem ShX.r3 {σ : Sp} {o : Nat} (h : ShX σ o) : rf σ o 3 = some (o + 561) := h.1.2.2.2.2.1
theorem ShX.r4 {σ : Sp} {o : Nat} (h : ShX σ o) : rf σ o 4 = some (o + 562) := h.1.2.2.2.2.2.1
theorem ShX.r5 {σ : Sp} {o : Nat} (h : ShX σ o) : rf σ o 5 = some (o + 564) := h.1.2.2.2.2.2.2
theorem ShX.now {σ : Sp} {o : Nat} (h : ShX σ o) : ShBus σ (o + 1) := h.2.1
theorem ShX.trial {σ : Sp} {o : Nat} (h : ShX σ o) : ShBus σ (o + 63) := h.2.2.1
theorem ShX.hist {σ : Sp} {o : Nat} (h : ShX σ o) : ShHist σ (o + 125) := h.2.2.2.1
theorem ShX.slots {σ : Sp} {o : Nat} (h : ShX σ o) : ShA σ (o + 561) 13 2 := h.2.2.2.2.1
theorem ShX.pad {σ : Sp} {o : Nat} (h : ShX σ o) : ShPad σ (o + 562) := h.2.2.2.2.2.1
theorem ShX.rd {σ : Sp} {o : Nat} (h : ShX σ o) : ShRd σ (o + 564) (o + 562) := h.2.2.2.2.2.2
theorem ShM.t {σ : Sp} {m : Nat} (h : ShM σ m) : tg σ m = 8 + 1 := h.1.1
theorem ShM.r0 {σ : Sp} {m : Nat} (h : ShM σ m) : rf σ m 0 = some (m + 1) := h.1.2.1
theorem ShM.r1 {σ : Sp} {m : Nat} (h : ShM σ m) : rf σ m 1 = some (m + 2) := h.1.2.2.1
theorem ShM.r3 {σ : Sp} {m : Nat} (h : ShM σ m) : rf σ m 3 = some (m + 3) := h.1.2.2.2.1
theorem ShM.r4 {σ : Sp} {m : Nat} (h : ShM σ m) : rf σ m 4 = some (m + 4) := h.1.2.2.2.2.1
theorem ShM.r5 {σ : Sp} {m : Nat} (h : ShM σ m) : rf σ m 5 = some (m + 5) := h.1.2.2.2.2.2.1
theorem ShM.r6 {σ : Sp} {m : Nat} (h : ShM σ m) : rf σ m 6 = some (m + 6) := h.1.2.2.2.2.2.2.1
theorem ShM.r8 {σ : Sp} {m : Nat} (h : ShM σ m) : rf σ m 8 = some (m + 7) := h.1.2.2.2.2.2.2.2.1
theorem ShM.r9 {σ : Sp} {m : Nat} (h : ShM σ m) : rf σ m 9 = some (m + 8) := h.1.2.2.2.2.2.2.2.2
theorem ShM.a1 {σ : Sp} {m : Nat} (h : ShM σ m) : ShA σ (m + 1) 11 351 := h.2.1
theorem ShM.a2 {σ : Sp} {m : Nat} (h : ShM σ m) : ShA σ (m + 2) 11 2106 := h.2.2.1
theorem ShM.a3 {σ : Sp} {m : Nat} (h : ShM σ m) : ShA σ (m + 3) 11 702 := h.2.2.2.1
theorem ShM.a4 {σ : Sp} {m : Nat} (h : ShM σ m) : ShA σ (m + 4) 12 2 := h.2.2.2.2.1
theorem ShM.a5 {σ : Sp} {m : Nat} (h : ShM σ m) : ShA σ (m + 5) 11 351 := h.2.2.2.2.2.1
theorem ShM.a6 {σ : Sp} {m : Nat} (h : ShM σ m) : ShA σ (m + 6) 10 80 := h.2.2.2.2.2.2.1
theorem ShM.a7 {σ : Sp} {m : Nat} (h : ShM σ m) : ShA σ (m + 7) 12 6 := h.2.2.2.2.2.2.2.1
theorem ShM.a8 {σ : Sp} {m : Nat} (h : ShM σ m) : ShA σ (m + 8) 11 168 := h.2.2.2.2.2.2.2.2
section PWN
variable {X : Cx} {M : Mt} {b1 b2 pc : Nat} {ls : List (Option Value)} {st0 : List Value} {σ : Sp} {μ : Mm} {Q : Option Value → Sp → Mm → Prop}
theorem pw_vin {n e : Nat} {a : Nat} (hl : ln σ a = n) (he : e < n) (hn : n < 2 ^ 31) : vp_in (nI e) (ln σ a) := by rw [hl]; exact vp_in_nI he hn
theorem pw_ialdN {a e n : Nat} (d : decode (mB M) pc = .ok (.iaload, 1)) (hA : ShA σ a 11 n) (he : e < n) (hn : n < 2 ^ 31) (kk : PW X M b1 b2 (pc + 1) ls (.int (μ a e) :: st0) σ μ Q) : PW X M b1 b2 pc ls (.int (nI e) :: .ref a :: st0) σ μ Q :=
  pw_iald d hA.1 (pw_vin hA.2 he hn) (by rw [nI_clamp (Nat.lt_trans he hn)]; exact kk)
theorem pw_zaldN {a e n : Nat} (d : decode (mB M) pc = .ok (.baload, 1)) (hA : ShA σ a 12 n) (he : e < n) (hn : n < 2 ^ 31) (kk : PW X M b1 b2 (pc + 1) ls (.int (μ a e) :: st0) σ μ Q) : PW X M b1 b2 pc ls (.int (nI e) :: .ref a :: st0) σ μ Q :=
  pw_zald d hA.1 (pw_vin hA.2 he hn) (by rw [nI_clamp (Nat.lt_trans he hn)]; exact kk)
theorem pw_caldN {a e n : Nat} (d : decode (mB M) pc = .ok (.caload, 1)) (hA : ShA σ a 10 n) (he : e < n) (hn : n < 2 ^ 31) (kk : PW X M b1 b2 (pc + 1) ls (.int (μ a e) :: st0) σ μ Q) : PW X M b1 b2 pc ls (.int (nI e) :: .ref a :: st0) σ μ Q :=
  pw_cald d hA.1 (pw_vin hA.2 he hn) (by rw [nI_clamp (Nat.lt_trans he hn)]; exact kk)
theorem pw_iastN {a e n : Nat} {x : Int32} (d : decode (mB M) pc = .ok (.iastore, 1)) (hA : ShA σ a 11 n) (he : e < n) (hn : n < 2 ^ 31) (kk : PW X M b1 b2 (pc + 1) ls st0 σ (wr μ a e x) Q) : PW X M b1 b2 pc ls (.int x :: .int (nI e) :: .ref a :: st0) σ μ Q :=
  pw_iast d hA.1 (pw_vin hA.2 he hn) (by rw [nI_clamp (Nat.lt_trans he hn)]; exact kk)
theorem pw_zastN {a e n : Nat} {x : Int32} (d : decode (mB M) pc = .ok (.bastore, 1)) (hA : ShA σ a 12 n) (he : e < n) (hn : n < 2 ^ 31) (kk : PW X M b1 b2 (pc + 1) ls st0 σ (wr μ a e (vp_nar .boolean x)) Q) : PW X M b1 b2 pc ls (.int x :: .int (nI e) :: .ref a :: st0) σ μ Q :=
  pw_zast d hA.1 (pw_vin hA.2 he hn) (by rw [nI_clamp (Nat.lt_trans he hn)]; exact kk)
theorem pw_castN {a e n : Nat} {x : Int32} (d : decode (mB M) pc = .ok (.castore, 1)) (hA : ShA σ a 10 n) (he : e < n) (hn : n < 2 ^ 31) (kk : PW X M b1 b2 (pc + 1) ls st0 σ (wr μ a e (vp_nar .char x)) Q) : PW X M b1 b2 pc ls (.int x :: .int (nI e) :: .ref a :: st0) σ μ Q :=
  pw_cast d hA.1 (pw_vin hA.2 he hn) (by rw [nI_clamp (Nat.lt_trans he hn)]; exact kk)
theorem pw_aaldBN {a e n : Nat} {o : Option Nat} (d : decode (mB M) pc = .ok (.aaload, 1)) (hA : ShA σ a 13 n) (he : e < n) (hn : n < 2 ^ 31) (ho : rf σ a e = o) (kk : PW X M b1 b2 (pc + 1) ls (va_rf o :: st0) σ μ Q) : PW X M b1 b2 pc ls (.int (nI e) :: .ref a :: st0) σ μ Q :=
  pw_aaldB d hA.1 (pw_vin hA.2 he hn) (by rw [nI_clamp (Nat.lt_trans he hn)]; exact ho) kk
theorem pw_aaldBr {a e n q : Nat} (d : decode (mB M) pc = .ok (.aaload, 1)) (hA : ShA σ a 13 n) (he : e < n) (hn : n < 2 ^ 31) (ho : rf σ a e = some q) (kk : PW X M b1 b2 (pc + 1) ls (.ref q :: st0) σ μ Q) : PW X M b1 b2 pc ls (.int (nI e) :: .ref a :: st0) σ μ Q :=
  pw_aaldBN d hA he hn ho kk
theorem pw_aaldSN {a e n : Nat} {o : Option Nat} (d : decode (mB M) pc = .ok (.aaload, 1)) (hA : ShA σ a 14 n) (he : e < n) (hn : n < 2 ^ 31) (ho : rf σ a e = o) (kk : PW X M b1 b2 (pc + 1) ls (va_rf o :: st0) σ μ Q) : PW X M b1 b2 pc ls (.int (nI e) :: .ref a :: st0) σ μ Q :=
  pw_aaldS d hA.1 (pw_vin hA.2 he hn) (by rw [nI_clamp (Nat.lt_trans he hn)]; exact ho) kk
theorem pw_aaldSr {a e n q : Nat} (d : decode (mB M) pc = .ok (.aaload, 1)) (hA : ShA σ a 14 n) (he : e < n) (hn : n < 2 ^ 31) (ho : rf σ a e = some q) (kk : PW X M b1 b2 (pc + 1) ls (.ref q :: st0) σ μ Q) : PW X M b1 b2 pc ls (.int (nI e) :: .ref a :: st0) σ μ Q :=
  pw_aaldSN d hA he hn ho kk
theorem pw_iaddN {a b : Nat} (d : decode (mB M) pc = .ok (.iadd, 1)) (k : PW X M b1 b2 (pc + 1) ls (.int (nI (a + b)) :: st0) σ μ Q) : PW X M b1 b2 pc ls (.int (nI b) :: .int (nI a) :: st0) σ μ Q := pw_iadd d (by rw [nI_add]; exact k)
theorem pw_imulN {a b : Nat} (d : decode (mB M) pc = .ok (.imul, 1)) (k : PW X M b1 b2 (pc + 1) ls (.int (nI (a * b)) :: st0) σ μ Q) : PW X M b1 b2 pc ls (.int (nI b) :: .int (nI a) :: st0) σ μ Q := pw_imul d (by rw [pk_mul]; exact k)
theorem pw_isubN {a b : Nat} (d : decode (mB M) pc = .ok (.isub, 1)) (h : b ≤ a) (k : PW X M b1 b2 (pc + 1) ls (.int (nI (a - b)) :: st0) σ μ Q) : PW X M b1 b2 pc ls (.int (nI b) :: .int (nI a) :: st0) σ μ Q := pw_isub d (by rw [pk_sub h]; exact k)
/-- the number on the stack under another name -/
theorem pw_top {x y : Int32} (h : x = y) (k : PW X M b1 b2 pc ls (.int y :: st0) σ μ Q) : PW X M b1 b2 pc ls (.int x :: st0) σ μ Q := h ▸ k
theorem pw_mem {μ' : Mm} (h : μ = μ') (k : PW X M b1 b2 pc ls st0 σ μ' Q) : PW X M b1 b2 pc ls st0 σ μ Q := h ▸ k
theorem pw_st {ls' : List (Option Value)} {st1 : List Value} (h1 : ls = ls') (h2 : st0 = st1) (k : PW X M b1 b2 pc ls' st1 σ μ Q) : PW X M b1 b2 pc ls st0 σ μ Q := h1 ▸ h2 ▸ k
theorem pw_iincN_0 {t : List (Option Value)} {e : Nat} (d : decode (mB M) pc = .ok (.iinc 0 1, 3)) (hn : 0 < mL M) (k : PW X M b1 b2 (pc + 3) (some (.int (nI (e + 1))) :: t) st0 σ μ Q) : PW X M b1 b2 pc (some (.int (nI e)) :: t) st0 σ μ Q := pw_iinc_0 (y := nI 1) d (by decide) hn (by rw [nI_add]; exact k)
theorem pw_iincM_0 {t : List (Option Value)} {e : Nat} (d : decode (mB M) pc = .ok (.iinc 0 (-1), 3)) (hn : 0 < mL M) (he : 0 < e) (k : PW X M b1 b2 (pc + 3) (some (.int (nI (e - 1))) :: t) st0 σ μ Q) : PW X M b1 b2 pc (some (.int (nI e)) :: t) st0 σ μ Q := pw_iinc_0 (y := -1) d (by decide) hn (by rw [show nI e + -1 = nI (e - 1) from sb_m1 he]; exact k)
theorem pw_iincN_1 {v0 : Option Value} {t : List (Option Value)} {e : Nat} (d : decode (mB M) pc = .ok (.iinc 1 1, 3)) (hn : 1 < mL M) (k : PW X M b1 b2 (pc + 3) (v0 :: some (.int (nI (e + 1))) :: t) st0 σ μ Q) (h1 : pw_c1 v0 = v0 := by rfl) : PW X M b1 b2 pc (v0 :: some (.int (nI e)) :: t) st0 σ μ Q := pw_iinc_1 (y := nI 1) d (by decide) hn (by rw [nI_add]; exact k) h1
theorem pw_iincM_1 {v0 : Option Value} {t : List (Option Value)} {e : Nat} (d : decode (mB M) pc = .ok (.iinc 1 (-1), 3)) (hn : 1 < mL M) (he : 0 < e) (k : PW X M b1 b2 (pc + 3) (v0 :: some (.int (nI (e - 1))) :: t) st0 σ μ Q) (h1 : pw_c1 v0 = v0 := by rfl) : PW X M b1 b2 pc (v0 :: some (.int (nI e)) :: t) st0 σ μ Q := pw_iinc_1 (y := -1) d (by decide) hn (by rw [show nI e + -1 = nI (e - 1) from sb_m1 he]; exact k) h1
theorem pw_iincN_2 {v0 v1 : Option Value} {t : List (Option Value)} {e : Nat} (d : decode (mB M) pc = .ok (.iinc 2 1, 3)) (hn : 2 < mL M) (k : PW X M b1 b2 (pc + 3) (v0 :: v1 :: some (.int (nI (e + 1))) :: t) st0 σ μ Q) (h1 : pw_c1 v1 = v1 := by rfl) : PW X M b1 b2 pc (v0 :: v1 :: some (.int (nI e)) :: t) st0 σ μ Q := pw_iinc_2 (y := nI 1) d (by decide) hn (by rw [nI_add]; exact k) h1
theorem pw_iincM_2 {v0 v1 : Option Value} {t : List (Option Value)} {e : Nat} (d : decode (mB M) pc = .ok (.iinc 2 (-1), 3)) (hn : 2 < mL M) (he : 0 < e) (k : PW X M b1 b2 (pc + 3) (v0 :: v1 :: some (.int (nI (e - 1))) :: t) st0 σ μ Q) (h1 : pw_c1 v1 = v1 := by rfl) : PW X M b1 b2 pc (v0 :: v1 :: some (.int (nI e)) :: t) st0 σ μ Q := pw_iinc_2 (y := -1) d (by decide) hn (by rw [show nI e + -1 = nI (e - 1) from sb_m1 he]; exact k) h1
theorem pw_iincN_3 {v0 v1 v2 : Option Value} {t : List (Option Value)} {e : Nat} (d : decode (mB M) pc = .ok (.iinc 3 1, 3)) (hn : 3 < mL M) (k : PW X M b1 b2 (pc + 3) (v0 :: v1 :: v2 :: some (.int (nI (e + 1))) :: t) st0 σ μ Q) (h1 : pw_c1 v2 = v2 := by rfl) : PW X M b1 b2 pc (v0 :: v1 :: v2 :: some (.int (nI e)) :: t) st0 σ μ Q := pw_iinc_3 (y := nI 1) d (by decide) hn (by rw [nI_add]; exact k) h1
theorem pw_iincM_3 {v0 v1 v2 : Option Value} {t : List (Option Value)} {e : Nat} (d : decode (mB M) pc = .ok (.iinc 3 (-1), 3)) (hn : 3 < mL M) (he : 0 < e) (k : PW X M b1 b2 (pc + 3) (v0 :: v1 :: v2 :: some (.int (nI (e - 1))) :: t) st0 σ μ Q) (h1 : pw_c1 v2 = v2 := by rfl) : PW X M b1 b2 pc (v0 :: v1 :: v2 :: some (.int (nI e)) :: t) st0 σ μ Q := pw_iinc_3 (y := -1) d (by decide) hn (by rw [show nI e + -1 = nI (e - 1) from sb_m1 he]; exact k) h1
theorem pw_iincN_4 {v0 v1 v2 v3 : Option Value} {t : List (Option Value)} {e : Nat} (d : decode (mB M) pc = .ok (.iinc 4 1, 3)) (hn : 4 < mL M) (k : PW X M b1 b2 (pc + 3) (v0 :: v1 :: v2 :: v3 :: some (.int (nI (e + 1))) :: t) st0 σ μ Q) (h1 : pw_c1 v3 = v3 := by rfl) : PW X M b1 b2 pc (v0 :: v1 :: v2 :: v3 :: some (.int (nI e)) :: t) st0 σ μ Q := pw_iinc_4 (y := nI 1) d (by decide) hn (by rw [nI_add]; exact k) h1
theorem pw_iincM_4 {v0 v1 v2 v3 : Option Value} {t : List (Option Value)} {e : Nat} (d : decode (mB M) pc = .ok (.iinc 4 (-1), 3)) (hn : 4 < mL M) (he : 0 < e) (k : PW X M b1 b2 (pc + 3) (v0 :: v1 :: v2 :: v3 :: some (.int (nI (e - 1))) :: t) st0 σ μ Q) (h1 : pw_c1 v3 = v3 := by rfl) : PW X M b1 b2 pc (v0 :: v1 :: v2 :: v3 :: some (.int (nI e)) :: t) st0 σ μ Q := pw_iinc_4 (y := -1) d (by decide) hn (by rw [show nI e + -1 = nI (e - 1) from sb_m1 he]; exact k) h1
theorem pw_iincN_5 {v0 v1 v2 v3 v4 : Option Value} {t : List (Option Value)} {e : Nat} (d : decode (mB M) pc = .ok (.iinc 5 1, 3)) (hn : 5 < mL M) (k : PW X M b1 b2 (pc + 3) (v0 :: v1 :: v2 :: v3 :: v4 :: some (.int (nI (e + 1))) :: t) st0 σ μ Q) (h1 : pw_c1 v4 = v4 := by rfl) : PW X M b1 b2 pc (v0 :: v1 :: v2 :: v3 :: v4 :: some (.int (nI e)) :: t) st0 σ μ Q := pw_iinc_5 (y := nI 1) d (by decide) hn (by rw [nI_add]; exact k) h1
theorem pw_iincM_5 {v0 v1 v2 v3 v4 : Option Value} {t : List (Option Value)} {e : Nat} (d : decode (mB M) pc = .ok (.iinc 5 (-1), 3)) (hn : 5 < mL M) (he : 0 < e) (k : PW X M b1 b2 (pc + 3) (v0 :: v1 :: v2 :: v3 :: v4 :: some (.int (nI (e - 1))) :: t) st0 σ μ Q) (h1 : pw_c1 v4 = v4 := by rfl) : PW X M b1 b2 pc (v0 :: v1 :: v2 :: v3 :: v4 :: some (.int (nI e)) :: t) st0 σ μ Q := pw_iinc_5 (y := -1) d (by decide) hn (by rw [show nI e + -1 = nI (e - 1) from sb_m1 he]; exact k) h1
theorem pw_iincN_6 {v0 v1 v2 v3 v4 v5 : Option Value} {t : List (Option Value)} {e : Nat} (d : decode (mB M) pc = .ok (.iinc 6 1, 3)) (hn : 6 < mL M) (k : PW X M b1 b2 (pc + 3) (v0 :: v1 :: v2 :: v3 :: v4 :: v5 :: some (.int (nI (e + 1))) :: t) st0 σ μ Q) (h1 : pw_c1 v5 = v5 := by rfl) : PW X M b1 b2 pc (v0 :: v1 :: v2 :: v3 :: v4 :: v5 :: some (.int (nI e)) :: t) st0 σ μ Q := pw_iinc_6 (y := nI 1) d (by decide) hn (by rw [nI_add]; exact k) h1
theorem pw_iincM_6 {v0 v1 v2 v3 v4 v5 : Option Value} {t : List (Option Value)} {e : Nat} (d : decode (mB M) pc = .ok (.iinc 6 (-1), 3)) (hn : 6 < mL M) (he : 0 < e) (k : PW X M b1 b2 (pc + 3) (v0 :: v1 :: v2 :: v3 :: v4 :: v5 :: some (.int (nI (e - 1))) :: t) st0 σ μ Q) (h1 : pw_c1 v5 = v5 := by rfl) : PW X M b1 b2 pc (v0 :: v1 :: v2 :: v3 :: v4 :: v5 :: some (.int (nI e)) :: t) st0 σ μ Q := pw_iinc_6 (y := -1) d (by decide) hn (by rw [show nI e + -1 = nI (e - 1) from sb_m1 he]; exact k) h1
theorem pw_iincN_7 {v0 v1 v2 v3 v4 v5 v6 : Option Value} {t : List (Option Value)} {e : Nat} (d : decode (mB M) pc = .ok (.iinc 7 1, 3)) (hn : 7 < mL M) (k : PW X M b1 b2 (pc + 3) (v0 :: v1 :: v2 :: v3 :: v4 :: v5 :: v6 :: some (.int (nI (e + 1))) :: t) st0 σ μ Q) (h1 : pw_c1 v6 = v6 := by rfl) : PW X M b1 b2 pc (v0 :: v1 :: v2 :: v3 :: v4 :: v5 :: v6 :: some (.int (nI e)) :: t) st0 σ μ Q := pw_iinc_7 (y := nI 1) d (by decide) hn (by rw [nI_add]; exact k) h1
theorem pw_iincM_7 {v0 v1 v2 v3 v4 v5 v6 : Option Value} {t : List (Option Value)} {e : Nat} (d : decode (mB M) pc = .ok (.iinc 7 (-1), 3)) (hn : 7 < mL M) (he : 0 < e) (k : PW X M b1 b2 (pc + 3) (v0 :: v1 :: v2 :: v3 :: v4 :: v5 :: v6 :: some (.int (nI (e - 1))) :: t) st0 σ μ Q) (h1 : pw_c1 v6 = v6 := by rfl) : PW X M b1 b2 pc (v0 :: v1 :: v2 :: v3 :: v4 :: v5 :: v6 :: some (.int (nI e)) :: t) st0 σ μ Q := pw_iinc_7 (y := -1) d (by decide) hn (by rw [show nI e + -1 = nI (e - 1) from sb_m1 he]; exact k) h1
theorem pw_iincN_8 {v0 v1 v2 v3 v4 v5 v6 v7 : Option Value} {t : List (Option Value)} {e : Nat} (d : decode (mB M) pc = .ok (.iinc 8 1, 3)) (hn : 8 < mL M) (k : PW X M b1 b2 (pc + 3) (v0 :: v1 :: v2 :: v3 :: v4 :: v5 :: v6 :: v7 :: some (.int (nI (e + 1))) :: t) st0 σ μ Q) (h1 : pw_c1 v7 = v7 := by rfl) : PW X M b1 b2 pc (v0 :: v1 :: v2 :: v3 :: v4 :: v5 :: v6 :: v7 :: some (.int (nI e)) :: t) st0 σ μ Q := pw_iinc_8 (y := nI 1) d (by decide) hn (by rw [nI_add]; exact k) h1
theorem pw_iincM_8 {v0 v1 v2 v3 v4 v5 v6 v7 : Option Value} {t : List (Option Value)} {e : Nat} (d : decode (mB M) pc = .ok (.iinc 8 (-1), 3)) (hn : 8 < mL M) (he : 0 < e) (k : PW X M b1 b2 (pc + 3) (v0 :: v1 :: v2 :: v3 :: v4 :: v5 :: v6 :: v7 :: some (.int (nI (e - 1))) :: t) st0 σ μ Q) (h1 : pw_c1 v7 = v7 := by rfl) : PW X M b1 b2 pc (v0 :: v1 :: v2 :: v3 :: v4 :: v5 :: v6 :: v7 :: some (.int (nI e)) :: t) st0 σ μ Q := pw_iinc_8 (y := -1) d (by decide) hn (by rw [show nI e + -1 = nI (e - 1) from sb_m1 he]; exact k) h1
theorem pw_iincN_9 {v0 v1 v2 v3 v4 v5 v6 v7 v8 : Option Value} {t : List (Option Value)} {e : Nat} (d : decode (mB M) pc = .ok (.iinc 9 1, 3)) (hn : 9 < mL M) (k : PW X M b1 b2 (pc + 3) (v0 :: v1 :: v2 :: v3 :: v4 :: v5 :: v6 :: v7 :: v8 :: some (.int (nI (e + 1))) :: t) st0 σ μ Q) (h1 : pw_c1 v8 = v8 := by rfl) : PW X M b1 b2 pc (v0 :: v1 :: v2 :: v3 :: v4 :: v5 :: v6 :: v7 :: v8 :: some (.int (nI e)) :: t) st0 σ μ Q := pw_iinc_9 (y := nI 1) d (by decide) hn (by rw [nI_add]; exact k) h1
theorem pw_iincM_9 {v0 v1 v2 v3 v4 v5 v6 v7 v8 : Option Value} {t : List (Option Value)} {e : Nat} (d : decode (mB M) pc = .ok (.iinc 9 (-1), 3)) (hn : 9 < mL M) (he : 0 < e) (k : PW X M b1 b2 (pc + 3) (v0 :: v1 :: v2 :: v3 :: v4 :: v5 :: v6 :: v7 :: v8 :: some (.int (nI (e - 1))) :: t) st0 σ μ Q) (h1 : pw_c1 v8 = v8 := by rfl) : PW X M b1 b2 pc (v0 :: v1 :: v2 :: v3 :: v4 :: v5 :: v6 :: v7 :: v8 :: some (.int (nI e)) :: t) st0 σ μ Q := pw_iinc_9 (y := -1) d (by decide) hn (by rw [show nI e + -1 = nI (e - 1) from sb_m1 he]; exact k) h1
end PWN
/-- a loop that counts up -/
theorem pw_up {P : Nat → Prop} (n : Nat) (h0 : P n) (hs : ∀ i, i < n → P (i + 1) → P i) : ∀ i, i ≤ n → P i := by
  intro i hi
  obtain ⟨k, rfl⟩ := Nat.exists_eq_add_of_le hi
  induction k generalizing i with
  | zero => exact h0
  | succ k ih => exact hs i (by omega) (by rw [show i + (k + 1) = (i + 1) + k by omega] at h0 hs; exact ih (i + 1) h0 hs (by omega))
def itr {α : Type} (f : Nat → α → α) : Nat → α → α
  | 0, x => x
  | n + 1, x => f n (itr f n x)
end
section
/-! Pure rows, and the contracts of the class's small methods -/
theorem wr_s (μ : Mm) (a k : Nat) (x : Int32) : wr μ a k x a = upd (μ a) k x := by simp [wr]
theorem wr_n (μ : Mm) {a b : Nat} (k : Nat) (x : Int32) (h : b ≠ a) : wr μ a k x b = μ b := by simp [wr, h]
theorem upd_s (f : Nat → Int32) (k : Nat) (x : Int32) : upd f k x k = x := by simp [upd]
theorem upd_n (f : Nat → Int32) {k j : Nat} (x : Int32) (h : j ≠ k) : upd f k x j = f j := by simp [upd, h]
theorem wr_wC_s (μ : Mm) (a k : Nat) (f : Nat → Int32) (x : Int32) : wr (wC μ a f) a k x = wC μ a (upd f k x) := by
  funext b
  by_cases h : b = a <;> simp [wr, wC, h]
theorem wr_wC_n (μ : Mm) {a b : Nat} (k : Nat) (g : Nat → Int32) (x : Int32) (h : a ≠ b) : wr (wC μ b g) a k x = wC (wr μ a k x) b g := by
  funext c
  by_cases h1 : c = a
  · subst h1
    simp [wr, wC, h]
  · by_cases h2 : c = b <;> simp [wr, wC, h1, h2, Ne.symm h]
theorem wC_id (μ : Mm) (a : Nat) : wC μ a (μ a) = μ := by
  funext b
  by_cases h : b = a <;> simp [wC, h]
theorem wC_wC (μ : Mm) (a : Nat) (f g : Nat → Int32) : wC (wC μ a f) a g = wC μ a g := by
  funext b
  by_cases h : b = a <;> simp [wC, h]
theorem wC_comm (μ : Mm) {a b : Nat} (f g : Nat → Int32) (h : a ≠ b) : wC (wC μ a f) b g = wC (wC μ b g) a f := by
  funext c
  by_cases h1 : c = a
  · subst h1
    simp [wC, h]
  · by_cases h2 : c = b <;> simp [wC, h1, h2, Ne.symm h]
theorem ix_of {x : Int32} {n : Nat} (hn : n < 2 ^ 31) (h0 : ¬ x < 0) (h1 : ¬ nI n ≤ x) : ∃ j, j < n ∧ x = nI j := by
  obtain ⟨j, hj, rfl⟩ := nI_of h0
  refine ⟨j, ?_, rfl⟩
  rcases Nat.lt_or_ge j n with h | h
  · exact h
  · exact absurd (nI_le h hj) h1
theorem ix_no {x : Int32} {n : Nat} (hn : n < 2 ^ 31) (h : x < 0 ∨ nI n ≤ x) : ∀ j, j < n → x ≠ nI j := by
  rintro j hj rfl
  rcases h with h | h
  · exact nI_pos (by omega) h
  · exact nI_ge hj hn h
/-- rows shifted by one, up to a place -/
def shf (f : Nat → Int32) (i : Nat) : Nat → Int32 := fun j => if j + 1 < i then f (j + 1) else f j
theorem shf_1 (f : Nat → Int32) : shf f 1 = f := by
  funext j
  simp [shf]
theorem shf_S (f : Nat → Int32) {i : Nat} (h : 1 ≤ i) : upd (shf f i) (i - 1) (shf f i i) = shf f (i + 1) := by
  funext j
  by_cases hj : j = i - 1
  · subst hj
    have : i - 1 + 1 = i := by omega
    simp [shf, upd, this]
    intro hh
    omega
  · simp only [upd, hj, if_false, shf]
    by_cases h2 : j + 1 < i
    · rw [if_pos h2, if_pos (by omega)]
    · rw [if_neg h2, if_neg (by omega)]
def dropW (μ : Mm) (a i : Nat) : Mm := wC (wC (wC μ (a + 2) (shf (μ (a + 2)) i)) (a + 3) (shf (μ (a + 3)) i)) (a + 4) (shf (μ (a + 4)) i)
theorem dropW_1 (μ : Mm) (a : Nat) : dropW μ a 1 = μ := by simp [dropW, shf_1, wC_id]
def dropF (μ : Mm) (a n : Nat) : Mm := if n = 0 then μ else wr (dropW μ a n) (a + 1) 3 (nI (n - 1))
def tryF (μ : Mm) (a : Nat) : Mm := wr μ (a + 4) 0 (μ (a + 4) 0 + nI 1)
def addF (μ : Mm) (a n : Nat) (x y : Int32) : Mm := wr (wr (wr (wr μ (a + 2) n x) (a + 3) n y) (a + 4) n (nI 0)) (a + 1) 3 (nI (n + 1))
def silF (μ : Mm) (a : Nat) : Mm := wr (wr (wr (wr μ a 7 (-1)) a 8 (nI 0)) a 9 (nI 0)) a 10 (nI 0)
def ltF (f : Nat → Int32) (x y z u : Int32) : Nat → Int32 := upd (upd (upd (upd (va_cpy f f 0 4 12) 0 x) 1 y) 2 z) 3 u
def ladF (μ : Mm) (a n : Nat) (x y z u : Int32) : Mm := wr (wC μ (a + 6) (ltF (μ (a + 6)) x y z u)) (a + 5) 1 (nI (if n < 4 then n + 1 else 4))
def begF (μ : Mm) (a : Nat) (x y z : Int32) : Mm := wr (wr (wr (wr μ a 7 (nI 0)) a 8 (nI 1 <<< (x &&& 31))) a 9 ((μ a 0 <<< (nI 8 &&& 31)) ||| y)) a 10 z
theorem min4 {n : Nat} (h : n ≤ 4) : (if nI 4 < nI (n + 1) then nI 4 else nI (n + 1)) = nI (if n < 4 then n + 1 else 4) := by
  rcases Nat.lt_or_ge n 4 with h5 | h5
  · rw [if_pos h5, if_neg (by rw [nI_ltI (by decide) (by omega)]; omega)]
  · have h6 : n = 4 := by omega
    subst h6
    decide
/-- the bit of a number at a place -/
def bi (x y : Int32) : Int32 := (x >>> (y &&& 31)) &&& nI 1
/-- how many words of the row are for a wire -/
def cntF (f : Nat → Int32) (x : Int32) : Nat → Nat
  | 0 => 0
  | n + 1 => cntF f x n + (if f n = x then 1 else 0)
theorem cntF_le (f : Nat → Int32) (x : Int32) : ∀ n, cntF f x n ≤ n
  | 0 => Nat.le_refl _
  | n + 1 => by
    have := cntF_le f x n
    simp only [cntF]
    split <;> omega
set_option maxRecDepth 100000 in
set_option maxHeartbeats 4000000 in
theorem c_X5_has {X : Cx} {σ : Sp} {μ : Mm} {Q : Int32 → Sp → Mm → Prop} {a n : Nat} {x : Int32} (h : ShSt σ a) (hn : μ (a + 1) 3 = nI n) (h4 : n ≤ 4) (q1 : ∀ j, x = nI j → j < n → Q (nI 1) σ μ) (q0 : (∀ j, j < n → x ≠ nI j) → Q (nI 0) σ μ) : CTi X mX5_has [.ref (a + 1), .int x] σ μ Q := by
  refine CT.of (by decide +kernel) (Nat.le_of_ble_eq_true rfl) ?_
  show PW X mX5_has 0 0 0 [some (.ref (a + 1)), some (.int x)] [] σ μ (LI Q)
  refine pw_iload_1 dX5_has_0 ?_
  refine pw_if_lt 21 dX5_has_1 (by decide) (fun h1 => ?_) (fun h1 => ?_)
  · skip
    refine pw_iconst (v := nI 0) dX5_has_21 (by decide) ?_
    refine pw_zreturn dX5_has_22 rfl (by decide) ?_
    exact q0 (ix_no (by omega) (Or.inl h1))
  · skip
    refine pw_iload_1 dX5_has_4 ?_
    refine pw_aload_0 dX5_has_5 ?_
    refine pw_getI 5 3 dX5_has_6 fX5_25 rfl (by decide) rfl h.w ?_
    refine pw_top hn ?_
    refine pw_icmp_ge 21 dX5_has_9 (by decide) (fun h2 => ?_) (fun h2 => ?_)
    · skip
      refine pw_iconst (v := nI 0) dX5_has_21 (by decide) ?_
      refine pw_zreturn dX5_has_22 rfl (by decide) ?_
      exact q0 (ix_no (by omega) (Or.inr h2))
    · skip
      refine pw_iload_1 dX5_has_12 ?_
      refine pw_iconst (v := nI 4) dX5_has_13 (by decide) ?_
      refine pw_icmp_ge 21 dX5_has_14 (by decide) (fun h3 => ?_) (fun h3 => ?_)
      · skip
        refine pw_iconst (v := nI 0) dX5_has_21 (by decide) ?_
        refine pw_zreturn dX5_has_22 rfl (by decide) ?_
        exact q0 (fun j hj e => nI_ge (a := j) (b := 4) (by omega) (by decide) (by rw [← e]; exact h3))
      · skip
        refine pw_iconst (v := nI 1) dX5_has_17 (by decide) ?_
        refine pw_goto 22 dX5_has_18 (by decide) ?_
        refine pw_zreturn dX5_has_22 rfl (by decide) ?_
        obtain ⟨j, hj, rfl⟩ := ix_of (by omega) h1 h2
        exact q1 j rfl hj
theorem c_X5_hasN {X : Cx} {σ : Sp} {μ : Mm} {Q : Int32 → Sp → Mm → Prop} {a n e : Nat} (h : ShSt σ a) (hn : μ (a + 1) 3 = nI n) (h4 : n ≤ 4) (he : e < 2 ^ 31) (q1 : e < n → Q (nI 1) σ μ) (q0 : n ≤ e → Q (nI 0) σ μ) : CTi X mX5_has [.ref (a + 1), .int (nI e)] σ μ Q := by
  refine c_X5_has h hn h4 (fun j hj hjn => ?_) (fun hno => ?_)
  · have : e = j := (nI_eq he (by omega)).mp hj
    subst this
    exact q1 hjn
  · rcases Nat.lt_or_ge e n with h | h
    · exact absurd rfl (hno e h)
    · exact q0 h
set_option maxRecDepth 100000 in
set_option maxHeartbeats 4000000 in
theorem c_X5_numberAt {X : Cx} {σ : Sp} {μ : Mm} {Q : Int32 → Sp → Mm → Prop} {a n e : Nat} (h : ShSt σ a) (hn : μ (a + 1) 3 = nI n) (h4 : n ≤ 4) (he : e < 2 ^ 31) (q1 : e < n → Q (μ (a + 2) e) σ μ) (q0 : n ≤ e → Q (-6) σ μ) : CTi X mX5_numberAt [.ref (a + 1), .int (nI e)] σ μ Q := by
  refine CT.of (by decide +kernel) (Nat.le_of_ble_eq_true rfl) ?_
  show PW X mX5_numberAt 0 0 0 [some (.ref (a + 1)), some (.int (nI e))] [] σ μ (LI Q)
  refine pw_aload_0 dX5_numberAt_0 ?_
  refine pw_iload_1 dX5_numberAt_1 ?_
  refine pw_cV1i 5 dX5_numberAt_2 kX5_29 vX5_has iX5_has ⟨by decide, by decide⟩ ⟨rfl, rfl⟩ (by decide) rfl (Nat.le_of_ble_eq_true rfl) h.w (c_X5_hasN h hn h4 (by omega) (fun h1 => ?_) (fun h2 => ?_))
  · skip
    refine pw_if_eq 17 dX5_numberAt_5 (by decide) (fun hh => absurd hh (by decide)) (fun _ => ?_)
    refine pw_aload_0 dX5_numberAt_8 ?_
    refine pw_getr 5 0 dX5_numberAt_9 fX5_9 rfl (by decide) rfl h.w h.w0 ?_
    refine pw_iload_1 dX5_numberAt_12 ?_
    refine pw_ialdN dX5_numberAt_13 h.n (by omega) (by decide) ?_
    refine pw_goto 19 dX5_numberAt_14 (by decide) ?_
    refine pw_ireturn dX5_numberAt_19 rfl ?_
    exact q1 h1
  · skip
    refine pw_if_eq 17 dX5_numberAt_5 (by decide) (fun _ => ?_) (fun hh => absurd (by decide) hh)
    refine pw_bipush (v := -6) dX5_numberAt_17 (by decide) ?_
    refine pw_ireturn dX5_numberAt_19 rfl ?_
    exact q0 h2
set_option maxRecDepth 100000 in
set_option maxHeartbeats 4000000 in
theorem c_X5_wireAt {X : Cx} {σ : Sp} {μ : Mm} {Q : Int32 → Sp → Mm → Prop} {a n e : Nat} (h : ShSt σ a) (hn : μ (a + 1) 3 = nI n) (h4 : n ≤ 4) (he : e < 2 ^ 31) (q1 : e < n → Q (μ (a + 3) e) σ μ) (q0 : n ≤ e → Q (-6) σ μ) : CTi X mX5_wireAt [.ref (a + 1), .int (nI e)] σ μ Q := by
  refine CT.of (by decide +kernel) (Nat.le_of_ble_eq_true rfl) ?_
  show PW X mX5_wireAt 0 0 0 [some (.ref (a + 1)), some (.int (nI e))] [] σ μ (LI Q)
  refine pw_aload_0 dX5_wireAt_0 ?_
  refine pw_iload_1 dX5_wireAt_1 ?_
  refine pw_cV1i 5 dX5_wireAt_2 kX5_29 vX5_has iX5_has ⟨by decide, by decide⟩ ⟨rfl, rfl⟩ (by decide) rfl (Nat.le_of_ble_eq_true rfl) h.w (c_X5_hasN h hn h4 (by omega) (fun h1 => ?_) (fun h2 => ?_))
  · skip
    refine pw_if_eq 17 dX5_wireAt_5 (by decide) (fun hh => absurd hh (by decide)) (fun _ => ?_)
    refine pw_aload_0 dX5_wireAt_8 ?_
    refine pw_getr 5 1 dX5_wireAt_9 fX5_15 rfl (by decide) rfl h.w h.w1 ?_
    refine pw_iload_1 dX5_wireAt_12 ?_
    refine pw_ialdN dX5_wireAt_13 h.x (by omega) (by decide) ?_
    refine pw_goto 19 dX5_wireAt_14 (by decide) ?_
    refine pw_ireturn dX5_wireAt_19 rfl ?_
    exact q1 h1
  · skip
    refine pw_if_eq 17 dX5_wireAt_5 (by decide) (fun _ => ?_) (fun hh => absurd (by decide) hh)
    refine pw_bipush (v := -6) dX5_wireAt_17 (by decide) ?_
    refine pw_ireturn dX5_wireAt_19 rfl ?_
    exact q0 h2
set_option maxRecDepth 100000 in
set_option maxHeartbeats 4000000 in
theorem c_X5_triesAt {X : Cx} {σ : Sp} {μ : Mm} {Q : Int32 → Sp → Mm → Prop} {a n e : Nat} (h : ShSt σ a) (hn : μ (a + 1) 3 = nI n) (h4 : n ≤ 4) (he : e < 2 ^ 31) (q1 : e < n → Q (μ (a + 4) e) σ μ) (q0 : n ≤ e → Q (-6) σ μ) : CTi X mX5_triesAt [.ref (a + 1), .int (nI e)] σ μ Q := by
  refine CT.of (by decide +kernel) (Nat.le_of_ble_eq_true rfl) ?_
  show PW X mX5_triesAt 0 0 0 [some (.ref (a + 1)), some (.int (nI e))] [] σ μ (LI Q)
  refine pw_aload_0 dX5_triesAt_0 ?_
  refine pw_iload_1 dX5_triesAt_1 ?_
  refine pw_cV1i 5 dX5_triesAt_2 kX5_29 vX5_has iX5_has ⟨by decide, by decide⟩ ⟨rfl, rfl⟩ (by decide) rfl (Nat.le_of_ble_eq_true rfl) h.w (c_X5_hasN h hn h4 (by omega) (fun h1 => ?_) (fun h2 => ?_))
  · skip
    refine pw_if_eq 17 dX5_triesAt_5 (by decide) (fun hh => absurd hh (by decide)) (fun _ => ?_)
    refine pw_aload_0 dX5_triesAt_8 ?_
    refine pw_getr 5 2 dX5_triesAt_9 fX5_18 rfl (by decide) rfl h.w h.w2 ?_
    refine pw_iload_1 dX5_triesAt_12 ?_
    refine pw_ialdN dX5_triesAt_13 h.y (by omega) (by decide) ?_
    refine pw_goto 19 dX5_triesAt_14 (by decide) ?_
    refine pw_ireturn dX5_triesAt_19 rfl ?_
    exact q1 h1
  · skip
    refine pw_if_eq 17 dX5_triesAt_5 (by decide) (fun _ => ?_) (fun hh => absurd (by decide) hh)
    refine pw_bipush (v := -6) dX5_triesAt_17 (by decide) ?_
    refine pw_ireturn dX5_triesAt_19 rfl ?_
    exact q0 h2
set_option maxRecDepth 100000 in
set_option maxHeartbeats 4000000 in
theorem c_X5_countFor {X : Cx} {σ : Sp} {μ : Mm} {Q : Int32 → Sp → Mm → Prop} {a n : Nat} {x : Int32} (h : ShSt σ a) (hn : μ (a + 1) 3 = nI n) (h4 : n ≤ 4) (q : Q (nI (cntF (μ (a + 3)) x n)) σ μ) : CTi X mX5_countFor [.ref (a + 1), .int x] σ μ Q := by
  refine CT.of (by decide +kernel) (Nat.le_of_ble_eq_true rfl) ?_
  show PW X mX5_countFor 0 0 0 [some (.ref (a + 1)), some (.int x), none, none] [] σ μ (LI Q)
  refine pw_iconst (v := nI 0) dX5_countFor_0 (by decide) ?_
  refine pw_istore_2 dX5_countFor_1 (by decide) ?_
  refine pw_iconst (v := nI 0) dX5_countFor_2 (by decide) ?_
  refine pw_istore_3 dX5_countFor_3 (by decide) ?_
  refine pw_up (P := fun i => PW X mX5_countFor 0 0 4 [some (.ref (a + 1)), some (.int x), some (.int (nI (cntF (μ (a + 3)) x i))), some (.int (nI i))] [] σ μ (LI Q)) n ?_ ?_ 0 (by omega)
  · skip
    refine pw_iload_3 dX5_countFor_4 ?_
    refine pw_aload_0 dX5_countFor_5 ?_
    refine pw_getI 5 3 dX5_countFor_6 fX5_25 rfl (by decide) rfl h.w ?_
    refine pw_top hn ?_
    refine pw_icmp_ge 30 dX5_countFor_9 (by decide) (fun _ => ?_) (fun hh => absurd (by rw [nI_leI (by omega) (by omega)]; omega) hh)
    refine pw_iload_2 dX5_countFor_30 ?_
    refine pw_ireturn dX5_countFor_31 rfl ?_
    exact q
  · intro i hi ih
    refine pw_iload_3 dX5_countFor_4 ?_
    refine pw_aload_0 dX5_countFor_5 ?_
    refine pw_getI 5 3 dX5_countFor_6 fX5_25 rfl (by decide) rfl h.w ?_
    refine pw_top hn ?_
    refine pw_icmp_ge 30 dX5_countFor_9 (by decide) (fun hh => absurd hh (by rw [nI_leI (by omega) (by omega)]; omega)) (fun _ => ?_)
    refine pw_aload_0 dX5_countFor_12 ?_
    refine pw_iload_3 dX5_countFor_13 ?_
    refine pw_cV1i 5 dX5_countFor_14 kX5_33 vX5_wireAt iX5_wireAt ⟨by decide, by decide⟩ ⟨rfl, rfl⟩ (by decide) rfl (Nat.le_of_ble_eq_true rfl) h.w (c_X5_wireAt h hn h4 (by omega) (fun h1 => ?_) (fun hh => absurd hh (by omega)))
    refine pw_iload_1 dX5_countFor_17 ?_
    refine pw_icmp_ne 24 dX5_countFor_18 (by decide) (fun h2 => ?_) (fun h2 => ?_)
    · skip
      refine pw_iincN_3 dX5_countFor_24 (by decide) ?_
      refine pw_goto 4 dX5_countFor_27 (by decide) ?_
      simp only [cntF, if_neg h2] at ih
      exact ih
    · skip
      refine pw_iincN_2 dX5_countFor_21 (by decide) ?_
      refine pw_iincN_3 dX5_countFor_24 (by decide) ?_
      refine pw_goto 4 dX5_countFor_27 (by decide) ?_
      simp only [cntF, if_pos h2] at ih
      exact ih
set_option maxRecDepth 100000 in
set_option maxHeartbeats 4000000 in
theorem c_X5_add {X : Cx} {σ : Sp} {μ : Mm} {Q : Sp → Mm → Prop} {a n : Nat} {x y : Int32} (h : ShSt σ a) (hn : μ (a + 1) 3 = nI n) (h4 : n < 4) (q : Q σ (addF μ a n x y)) : CTv X mX5_add [.ref (a + 1), .int x, .int y] σ μ Q := by
  refine CT.of (by decide +kernel) (Nat.le_of_ble_eq_true rfl) ?_
  show PW X mX5_add 0 0 0 [some (.ref (a + 1)), some (.int x), some (.int y)] [] σ μ (LV Q)
  refine pw_aload_0 dX5_add_0 ?_
  refine pw_getI 5 3 dX5_add_1 fX5_25 rfl (by decide) rfl h.w ?_
  refine pw_top hn ?_
  refine pw_iconst (v := nI 4) dX5_add_4 (by decide) ?_
  refine pw_icmp_lt 9 dX5_add_5 (by decide) (fun _ => ?_) (fun hh => absurd (show nI n < nI 4 from nI_lt h4 (by decide)) hh)
  refine pw_aload_0 dX5_add_9 ?_
  refine pw_getr 5 0 dX5_add_10 fX5_9 rfl (by decide) rfl h.w h.w0 ?_
  refine pw_aload_0 dX5_add_13 ?_
  refine pw_getI 5 3 dX5_add_14 fX5_25 rfl (by decide) rfl h.w ?_
  refine pw_top hn ?_
  refine pw_iload_1 dX5_add_17 ?_
  refine pw_iastN dX5_add_18 h.n (by omega) (by decide) ?_
  refine pw_aload_0 dX5_add_19 ?_
  refine pw_getr 5 1 dX5_add_20 fX5_15 rfl (by decide) rfl h.w h.w1 ?_
  refine pw_aload_0 dX5_add_23 ?_
  refine pw_getI 5 3 dX5_add_24 fX5_25 rfl (by decide) rfl h.w ?_
  refine pw_top (by simp (disch := omega) only [wr_s, wr_n, upd_s, upd_n, wC_self, wC_ne]; exact hn) ?_
  refine pw_iload_2 dX5_add_27 ?_
  refine pw_iastN dX5_add_28 h.x (by omega) (by decide) ?_
  refine pw_aload_0 dX5_add_29 ?_
  refine pw_getr 5 2 dX5_add_30 fX5_18 rfl (by decide) rfl h.w h.w2 ?_
  refine pw_aload_0 dX5_add_33 ?_
  refine pw_getI 5 3 dX5_add_34 fX5_25 rfl (by decide) rfl h.w ?_
  refine pw_top (by simp (disch := omega) only [wr_s, wr_n, upd_s, upd_n, wC_self, wC_ne]; exact hn) ?_
  refine pw_iconst (v := nI 0) dX5_add_37 (by decide) ?_
  refine pw_iastN dX5_add_38 h.y (by omega) (by decide) ?_
  refine pw_aload_0 dX5_add_39 ?_
  refine pw_dup dX5_add_40 ?_
  refine pw_getI 5 3 dX5_add_41 fX5_25 rfl (by decide) rfl h.w ?_
  refine pw_top (by simp (disch := omega) only [wr_s, wr_n, upd_s, upd_n, wC_self, wC_ne]; exact hn) ?_
  refine pw_iconst (v := nI 1) dX5_add_44 (by decide) ?_
  refine pw_iaddN dX5_add_45 ?_
  refine pw_putI 5 3 dX5_add_46 fX5_25 rfl (by decide) rfl (Or.inl rfl) rfl (by decide) h.w ?_
  refine pw_return dX5_add_49 rfl ?_
  exact q
set_option maxRecDepth 100000 in
set_option maxHeartbeats 4000000 in
theorem c_X5_tryFirst {X : Cx} {σ : Sp} {μ : Mm} {Q : Int32 → Sp → Mm → Prop} {a n : Nat} (h : ShSt σ a) (hn : μ (a + 1) 3 = nI n) (h4 : n ≤ 4) (h0 : 0 < n) (q : Q (μ (a + 4) 0 + nI 1) σ (tryF μ a)) : CTi X mX5_tryFirst [.ref (a + 1)] σ μ Q := by
  refine CT.of (by decide +kernel) (Nat.le_of_ble_eq_true rfl) ?_
  show PW X mX5_tryFirst 0 0 0 [some (.ref (a + 1))] [] σ μ (LI Q)
  refine pw_aload_0 dX5_tryFirst_0 ?_
  refine pw_getI 5 3 dX5_tryFirst_1 fX5_25 rfl (by decide) rfl h.w ?_
  refine pw_top hn ?_
  refine pw_if_ne 9 dX5_tryFirst_4 (by decide) (fun _ => ?_) (fun hh => absurd hh (nI_ne0 h0 (by omega)))
  refine pw_aload_0 dX5_tryFirst_9 ?_
  refine pw_getr 5 2 dX5_tryFirst_10 fX5_18 rfl (by decide) rfl h.w h.w2 ?_
  refine pw_iconst (v := nI 0) dX5_tryFirst_13 (by decide) ?_
  refine pw_dup2_11 dX5_tryFirst_14 ?_
  refine pw_ialdN dX5_tryFirst_15 h.y (by omega) (by decide) ?_
  refine pw_iconst (v := nI 1) dX5_tryFirst_16 (by decide) ?_
  refine pw_iadd dX5_tryFirst_17 ?_
  refine pw_iastN dX5_tryFirst_18 h.y (by omega) (by decide) ?_
  refine pw_aload_0 dX5_tryFirst_19 ?_
  refine pw_getr 5 2 dX5_tryFirst_20 fX5_18 rfl (by decide) rfl h.w h.w2 ?_
  refine pw_iconst (v := nI 0) dX5_tryFirst_23 (by decide) ?_
  refine pw_ialdN dX5_tryFirst_24 h.y (by omega) (by decide) ?_
  refine pw_ireturn dX5_tryFirst_25 rfl ?_
  refine Eq.mp (congrArg (fun z => Q z σ (tryF μ a)) ?_) q
  simp only [tryF, wr_s, upd_s]
set_option maxRecDepth 100000 in
set_option maxHeartbeats 4000000 in
theorem c_X5_dropFirst {X : Cx} {σ : Sp} {μ : Mm} {Q : Sp → Mm → Prop} {a n : Nat} (h : ShSt σ a) (hn : μ (a + 1) 3 = nI n) (h4 : n ≤ 4) (h0 : 0 < n) (q : Q σ (dropF μ a n)) : CTv X mX5_dropFirst [.ref (a + 1)] σ μ Q := by
  refine CT.of (by decide +kernel) (Nat.le_of_ble_eq_true rfl) ?_
  show PW X mX5_dropFirst 0 0 0 [some (.ref (a + 1)), none] [] σ μ (LV Q)
  refine pw_aload_0 dX5_dropFirst_0 ?_
  refine pw_getI 5 3 dX5_dropFirst_1 fX5_25 rfl (by decide) rfl h.w ?_
  refine pw_top hn ?_
  refine pw_if_ne 8 dX5_dropFirst_4 (by decide) (fun _ => ?_) (fun hh => absurd hh (nI_ne0 h0 (by omega)))
  refine pw_iconst (v := nI 1) dX5_dropFirst_8 (by decide) ?_
  refine pw_istore_1 dX5_dropFirst_9 (by decide) ?_
  rw [← dropW_1 μ a]
  refine pw_up (P := fun i => 1 ≤ i → PW X mX5_dropFirst 0 0 10 [some (.ref (a + 1)), some (.int (nI i))] [] σ (dropW μ a i) (LV Q)) n ?_ ?_ 1 (by omega) (Nat.le_refl 1)
  · intro _
    refine pw_iload_1 dX5_dropFirst_10 ?_
    refine pw_aload_0 dX5_dropFirst_11 ?_
    refine pw_getI 5 3 dX5_dropFirst_12 fX5_25 rfl (by decide) rfl h.w ?_
    refine pw_top (by simp (disch := omega) only [dropW, wr_n, wC_ne]; exact hn) ?_
    refine pw_icmp_ge 66 dX5_dropFirst_15 (by decide) (fun _ => ?_) (fun hh => absurd (Int32.le_refl _) hh)
    refine pw_aload_0 dX5_dropFirst_66 ?_
    refine pw_dup dX5_dropFirst_67 ?_
    refine pw_getI 5 3 dX5_dropFirst_68 fX5_25 rfl (by decide) rfl h.w ?_
    refine pw_top (by simp (disch := omega) only [dropW, wr_n, wC_ne]; exact hn) ?_
    refine pw_iconst (v := nI 1) dX5_dropFirst_71 (by decide) ?_
    refine pw_isubN dX5_dropFirst_72 (by omega) ?_
    refine pw_putI 5 3 dX5_dropFirst_73 fX5_25 rfl (by decide) rfl (Or.inl rfl) rfl (by decide) h.w ?_
    refine pw_return dX5_dropFirst_76 rfl ?_
    unfold dropF at q
    rw [if_neg (by omega)] at q
    exact q
  · intro i hi ih h1
    refine pw_iload_1 dX5_dropFirst_10 ?_
    refine pw_aload_0 dX5_dropFirst_11 ?_
    refine pw_getI 5 3 dX5_dropFirst_12 fX5_25 rfl (by decide) rfl h.w ?_
    refine pw_top (by simp (disch := omega) only [dropW, wr_n, wC_ne]; exact hn) ?_
    refine pw_icmp_ge 66 dX5_dropFirst_15 (by decide) (fun hh => absurd hh (by rw [nI_leI (by omega) (by omega)]; omega)) (fun _ => ?_)
    refine pw_aload_0 dX5_dropFirst_18 ?_
    refine pw_getr 5 0 dX5_dropFirst_19 fX5_9 rfl (by decide) rfl h.w h.w0 ?_
    refine pw_iload_1 dX5_dropFirst_22 ?_
    refine pw_iconst (v := nI 1) dX5_dropFirst_23 (by decide) ?_
    refine pw_isubN dX5_dropFirst_24 (by omega) ?_
    refine pw_aload_0 dX5_dropFirst_25 ?_
    refine pw_getr 5 0 dX5_dropFirst_26 fX5_9 rfl (by decide) rfl h.w h.w0 ?_
    refine pw_iload_1 dX5_dropFirst_29 ?_
    refine pw_ialdN dX5_dropFirst_30 h.n (by omega) (by decide) ?_
    refine pw_iastN dX5_dropFirst_31 h.n (by omega) (by decide) ?_
    refine pw_aload_0 dX5_dropFirst_32 ?_
    refine pw_getr 5 1 dX5_dropFirst_33 fX5_15 rfl (by decide) rfl h.w h.w1 ?_
    refine pw_iload_1 dX5_dropFirst_36 ?_
    refine pw_iconst (v := nI 1) dX5_dropFirst_37 (by decide) ?_
    refine pw_isubN dX5_dropFirst_38 (by omega) ?_
    refine pw_aload_0 dX5_dropFirst_39 ?_
    refine pw_getr 5 1 dX5_dropFirst_40 fX5_15 rfl (by decide) rfl h.w h.w1 ?_
    refine pw_iload_1 dX5_dropFirst_43 ?_
    refine pw_ialdN dX5_dropFirst_44 h.x (by omega) (by decide) ?_
    refine pw_iastN dX5_dropFirst_45 h.x (by omega) (by decide) ?_
    refine pw_aload_0 dX5_dropFirst_46 ?_
    refine pw_getr 5 2 dX5_dropFirst_47 fX5_18 rfl (by decide) rfl h.w h.w2 ?_
    refine pw_iload_1 dX5_dropFirst_50 ?_
    refine pw_iconst (v := nI 1) dX5_dropFirst_51 (by decide) ?_
    refine pw_isubN dX5_dropFirst_52 (by omega) ?_
    refine pw_aload_0 dX5_dropFirst_53 ?_
    refine pw_getr 5 2 dX5_dropFirst_54 fX5_18 rfl (by decide) rfl h.w h.w2 ?_
    refine pw_iload_1 dX5_dropFirst_57 ?_
    refine pw_ialdN dX5_dropFirst_58 h.y (by omega) (by decide) ?_
    refine pw_iastN dX5_dropFirst_59 h.y (by omega) (by decide) ?_
    refine pw_iincN_1 dX5_dropFirst_60 (by decide) ?_
    refine pw_goto 10 dX5_dropFirst_63 (by decide) ?_
    refine pw_mem ?_ (ih (by omega))
    simp (disch := omega) only [dropW, wr_wC_s, wr_wC_n, wC_self, wC_ne, wr_n, shf_S _ h1]
set_option maxRecDepth 100000 in
set_option maxHeartbeats 4000000 in
theorem c_X2_has {X : Cx} {σ : Sp} {μ : Mm} {Q : Int32 → Sp → Mm → Prop} {a n : Nat} {x : Int32} (h : ShSt σ a) (hn : μ (a + 5) 1 = nI n) (h4 : n ≤ 4) (q1 : ∀ j, x = nI j → j < n → Q (nI 1) σ μ) (q0 : (∀ j, j < n → x ≠ nI j) → Q (nI 0) σ μ) : CTi X mX2_has [.ref (a + 5), .int x] σ μ Q := by
  refine CT.of (by decide +kernel) (Nat.le_of_ble_eq_true rfl) ?_
  show PW X mX2_has 0 0 0 [some (.ref (a + 5)), some (.int x)] [] σ μ (LI Q)
  refine pw_iload_1 dX2_has_0 ?_
  refine pw_if_lt 21 dX2_has_1 (by decide) (fun h1 => ?_) (fun h1 => ?_)
  · skip
    refine pw_iconst (v := nI 0) dX2_has_21 (by decide) ?_
    refine pw_zreturn dX2_has_22 rfl (by decide) ?_
    exact q0 (ix_no (by omega) (Or.inl h1))
  · skip
    refine pw_iload_1 dX2_has_4 ?_
    refine pw_aload_0 dX2_has_5 ?_
    refine pw_getI 2 1 dX2_has_6 fX2_19 rfl (by decide) rfl h.l ?_
    refine pw_top hn ?_
    refine pw_icmp_ge 21 dX2_has_9 (by decide) (fun h2 => ?_) (fun h2 => ?_)
    · skip
      refine pw_iconst (v := nI 0) dX2_has_21 (by decide) ?_
      refine pw_zreturn dX2_has_22 rfl (by decide) ?_
      exact q0 (ix_no (by omega) (Or.inr h2))
    · skip
      refine pw_iload_1 dX2_has_12 ?_
      refine pw_iconst (v := nI 4) dX2_has_13 (by decide) ?_
      refine pw_icmp_ge 21 dX2_has_14 (by decide) (fun h3 => ?_) (fun h3 => ?_)
      · skip
        refine pw_iconst (v := nI 0) dX2_has_21 (by decide) ?_
        refine pw_zreturn dX2_has_22 rfl (by decide) ?_
        exact q0 (fun j hj e => nI_ge (a := j) (b := 4) (by omega) (by decide) (by rw [← e]; exact h3))
      · skip
        refine pw_iconst (v := nI 1) dX2_has_17 (by decide) ?_
        refine pw_goto 22 dX2_has_18 (by decide) ?_
        refine pw_zreturn dX2_has_22 rfl (by decide) ?_
        obtain ⟨j, hj, rfl⟩ := ix_of (by omega) h1 h2
        exact q1 j rfl hj
set_option maxRecDepth 100000 in
set_option maxHeartbeats 4000000 in
theorem c_X2_fact {X : Cx} {σ : Sp} {μ : Mm} {Q : Int32 → Sp → Mm → Prop} {a n e : Nat} {y : Int32} (h : ShSt σ a) (hn : μ (a + 5) 1 = nI n) (h4 : n ≤ 4) (he : e < n) (q1 : ∀ k, y = nI k → k < 4 → Q (μ (a + 6) (e * 4 + k)) σ μ) (q0 : (∀ k, k < 4 → y ≠ nI k) → Q (-2) σ μ) : CTi X mX2_fact [.ref (a + 5), .int (nI e), .int y] σ μ Q := by
  refine CT.of (by decide +kernel) (Nat.le_of_ble_eq_true rfl) ?_
  show PW X mX2_fact 0 0 0 [some (.ref (a + 5)), some (.int (nI e)), some (.int y)] [] σ μ (LI Q)
  refine pw_aload_0 dX2_fact_0 ?_
  refine pw_iload_1 dX2_fact_1 ?_
  refine pw_cV1i 2 dX2_fact_2 kX2_23 vX2_has iX2_has ⟨by decide, by decide⟩ ⟨rfl, rfl⟩ (by decide) rfl (Nat.le_of_ble_eq_true rfl) h.l (c_X2_has h hn h4 (fun j h1 h2 => ?_) (fun hh => absurd rfl (hh e he)))
  refine pw_if_ne 10 dX2_fact_5 (by decide) (fun _ => ?_) (fun hh => absurd hh (by decide))
  refine pw_iload_2 dX2_fact_10 ?_
  refine pw_if_lt 19 dX2_fact_11 (by decide) (fun h3 => ?_) (fun h3 => ?_)
  · skip
    refine pw_bipush (v := -2) dX2_fact_19 (by decide) ?_
    refine pw_ireturn dX2_fact_21 rfl ?_
    exact q0 (ix_no (by omega) (Or.inl h3))
  · skip
    refine pw_iload_2 dX2_fact_14 ?_
    refine pw_iconst (v := nI 4) dX2_fact_15 (by decide) ?_
    refine pw_icmp_lt 22 dX2_fact_16 (by decide) (fun h4 => ?_) (fun h4 => ?_)
    · skip
      obtain ⟨k, hk, rfl⟩ := ix_of (x := y) (n := 4) (by omega) h3 (Int32.not_le.mpr h4)
      refine pw_aload_0 dX2_fact_22 ?_
      refine pw_getr 2 0 dX2_fact_23 fX2_9 rfl (by decide) rfl h.l h.l0 ?_
      refine pw_iload_1 dX2_fact_26 ?_
      refine pw_iconst (v := nI 4) dX2_fact_27 (by decide) ?_
      refine pw_imulN dX2_fact_28 ?_
      refine pw_iload_2 dX2_fact_29 ?_
      refine pw_iaddN dX2_fact_30 ?_
      refine pw_ialdN dX2_fact_31 h.f (by omega) (by decide) ?_
      refine pw_ireturn dX2_fact_32 rfl ?_
      exact q1 k rfl hk
    · skip
      refine pw_bipush (v := -2) dX2_fact_19 (by decide) ?_
      refine pw_ireturn dX2_fact_21 rfl ?_
      exact q0 (ix_no (by omega) (Or.inr (Int32.not_lt.mp h4)))
set_option maxRecDepth 100000 in
set_option maxHeartbeats 4000000 in
theorem c_X2_add {X : Cx} {σ : Sp} {μ : Mm} {Q : Sp → Mm → Prop} {a n : Nat} {x y z u : Int32} (h : ShSt σ a) (hn : μ (a + 5) 1 = nI n) (h4 : n ≤ 4) (q : Q σ (ladF μ a n x y z u)) : CTv X mX2_add [.ref (a + 5), .int x, .int y, .int z, .int u] σ μ Q := by
  refine CT.of (by decide +kernel) (Nat.le_of_ble_eq_true rfl) ?_
  show PW X mX2_add 0 0 0 [some (.ref (a + 5)), some (.int x), some (.int y), some (.int z), some (.int u)] [] σ μ (LV Q)
  refine pw_aload_0 dX2_add_0 ?_
  refine pw_getr 2 0 dX2_add_1 fX2_9 rfl (by decide) rfl h.l h.l0 ?_
  refine pw_iconst (v := nI 0) dX2_add_4 (by decide) ?_
  refine pw_aload_0 dX2_add_5 ?_
  refine pw_getr 2 0 dX2_add_6 fX2_9 rfl (by decide) rfl h.l h.l0 ?_
  refine pw_iconst (v := nI 4) dX2_add_9 (by decide) ?_
  refine pw_bipush (v := nI 12) dX2_add_10 (by decide) ?_
  refine pw_acopy dX2_add_12 kX2_27 ts_n ts_s ts_i h.f.1 h.f.1 (by decide) (by decide) (by decide) (by rw [h.f.2]; decide) (by rw [h.f.2]; decide) (by decide) (Nat.le_of_ble_eq_true rfl) ?_
  refine pw_aload_0 dX2_add_15 ?_
  refine pw_getr 2 0 dX2_add_16 fX2_9 rfl (by decide) rfl h.l h.l0 ?_
  refine pw_iconst (v := nI 0) dX2_add_19 (by decide) ?_
  refine pw_iload_1 dX2_add_20 ?_
  refine pw_iastN dX2_add_21 h.f (by omega) (by decide) ?_
  refine pw_aload_0 dX2_add_22 ?_
  refine pw_getr 2 0 dX2_add_23 fX2_9 rfl (by decide) rfl h.l h.l0 ?_
  refine pw_iconst (v := nI 1) dX2_add_26 (by decide) ?_
  refine pw_iload_2 dX2_add_27 ?_
  refine pw_iastN dX2_add_28 h.f (by omega) (by decide) ?_
  refine pw_aload_0 dX2_add_29 ?_
  refine pw_getr 2 0 dX2_add_30 fX2_9 rfl (by decide) rfl h.l h.l0 ?_
  refine pw_iconst (v := nI 2) dX2_add_33 (by decide) ?_
  refine pw_iload_3 dX2_add_34 ?_
  refine pw_iastN dX2_add_35 h.f (by omega) (by decide) ?_
  refine pw_aload_0 dX2_add_36 ?_
  refine pw_getr 2 0 dX2_add_37 fX2_9 rfl (by decide) rfl h.l h.l0 ?_
  refine pw_iconst (v := nI 3) dX2_add_40 (by decide) ?_
  refine pw_iload_4 dX2_add_41 ?_
  refine pw_iastN dX2_add_43 h.f (by omega) (by decide) ?_
  refine pw_aload_0 dX2_add_44 ?_
  refine pw_aload_0 dX2_add_45 ?_
  refine pw_getI 2 1 dX2_add_46 fX2_19 rfl (by decide) rfl h.l ?_
  refine pw_top (by simp (disch := omega) only [wr_s, wr_n, upd_s, upd_n, wC_self, wC_ne]; exact hn) ?_
  refine pw_iconst (v := nI 1) dX2_add_49 (by decide) ?_
  refine pw_iaddN dX2_add_50 ?_
  refine pw_iconst (v := nI 4) dX2_add_51 (by decide) ?_
  refine pw_min dX2_add_52 kX2_33 tm_mins tm_i tm_minc (by decide) (Nat.le_of_ble_eq_true rfl) ?_
  refine pw_top (min4 h4) ?_
  refine pw_putI 2 1 dX2_add_55 fX2_19 rfl (by decide) rfl (Or.inl rfl) rfl (by decide) h.l ?_
  refine pw_return dX2_add_58 rfl ?_
  refine Eq.mp (congrArg (fun m => Q σ m) ?_) q
  unfold ladF ltF
  simp (disch := omega) only [wr_wC_s, nI_clamp]
set_option maxRecDepth 100000 in
set_option maxHeartbeats 4000000 in
theorem c_X6_isAt {X : Cx} {σ : Sp} {μ : Mm} {Q : Int32 → Sp → Mm → Prop} {a : Nat} {x : Int32} (h : ShSt σ a) (q1 : bi (μ a 3) x = nI 1 → Q (nI 1) σ μ) (q0 : bi (μ a 3) x ≠ nI 1 → Q (nI 0) σ μ) : CTi X mX6_isAt [.ref a, .int x] σ μ Q := by
  refine CT.of (by decide +kernel) (Nat.le_of_ble_eq_true rfl) ?_
  show PW X mX6_isAt 0 0 0 [some (.ref a), some (.int x)] [] σ μ (LI Q)
  refine pw_aload_0 dX6_isAt_0 ?_
  refine pw_getI 6 3 dX6_isAt_1 fX6_39 rfl (by decide) rfl h.t ?_
  refine pw_iload_1 dX6_isAt_4 ?_
  refine pw_ishr dX6_isAt_5 ?_
  refine pw_iconst (v := nI 1) dX6_isAt_6 (by decide) ?_
  refine pw_iand dX6_isAt_7 ?_
  refine pw_iconst (v := nI 1) dX6_isAt_8 (by decide) ?_
  refine pw_icmp_ne 16 dX6_isAt_9 (by decide) (fun h1 => ?_) (fun h1 => ?_)
  · skip
    refine pw_iconst (v := nI 0) dX6_isAt_16 (by decide) ?_
    refine pw_zreturn dX6_isAt_17 rfl (by decide) ?_
    exact q0 h1
  · skip
    refine pw_iconst (v := nI 1) dX6_isAt_12 (by decide) ?_
    refine pw_goto 17 dX6_isAt_13 (by decide) ?_
    refine pw_zreturn dX6_isAt_17 rfl (by decide) ?_
    exact q1 h1
set_option maxRecDepth 100000 in
set_option maxHeartbeats 4000000 in
theorem c_X6_isAwake {X : Cx} {σ : Sp} {μ : Mm} {Q : Int32 → Sp → Mm → Prop} {a : Nat} (h : ShSt σ a) (q1 : μ a 5 = 0 → μ a 6 = 0 → Q (nI 1) σ μ) (q0 : ¬ (μ a 5 = 0 ∧ μ a 6 = 0) → Q (nI 0) σ μ) : CTi X mX6_isAwake [.ref a] σ μ Q := by
  refine CT.of (by decide +kernel) (Nat.le_of_ble_eq_true rfl) ?_
  show PW X mX6_isAwake 0 0 0 [some (.ref a)] [] σ μ (LI Q)
  refine pw_aload_0 dX6_isAwake_0 ?_
  refine pw_getI 6 5 dX6_isAwake_1 fX6_45 rfl (by decide) rfl h.t ?_
  refine pw_if_ne 18 dX6_isAwake_4 (by decide) (fun h1 => ?_) (fun h1 => ?_)
  · skip
    refine pw_iconst (v := nI 0) dX6_isAwake_18 (by decide) ?_
    refine pw_zreturn dX6_isAwake_19 rfl (by decide) ?_
    exact q0 (fun hh => h1 hh.1)
  · skip
    refine pw_aload_0 dX6_isAwake_7 ?_
    refine pw_getI 6 6 dX6_isAwake_8 fX6_49 rfl (by decide) rfl h.t ?_
    refine pw_if_ne 18 dX6_isAwake_11 (by decide) (fun h2 => ?_) (fun h2 => ?_)
    · skip
      refine pw_iconst (v := nI 0) dX6_isAwake_18 (by decide) ?_
      refine pw_zreturn dX6_isAwake_19 rfl (by decide) ?_
      exact q0 (fun hh => h2 hh.2)
    · skip
      refine pw_iconst (v := nI 1) dX6_isAwake_14 (by decide) ?_
      refine pw_goto 19 dX6_isAwake_15 (by decide) ?_
      refine pw_zreturn dX6_isAwake_19 rfl (by decide) ?_
      exact q1 h1 h2
set_option maxRecDepth 100000 in
set_option maxHeartbeats 4000000 in
theorem c_X6_isSpeaking {X : Cx} {σ : Sp} {μ : Mm} {Q : Int32 → Sp → Mm → Prop} {a : Nat} (h : ShSt σ a) (q1 : μ a 7 ≠ -1 → Q (nI 1) σ μ) (q0 : μ a 7 = -1 → Q (nI 0) σ μ) : CTi X mX6_isSpeaking [.ref a] σ μ Q := by
  refine CT.of (by decide +kernel) (Nat.le_of_ble_eq_true rfl) ?_
  show PW X mX6_isSpeaking 0 0 0 [some (.ref a)] [] σ μ (LI Q)
  refine pw_aload_0 dX6_isSpeaking_0 ?_
  refine pw_getI 6 7 dX6_isSpeaking_1 fX6_25 rfl (by decide) rfl h.t ?_
  refine pw_iconst (v := -1) dX6_isSpeaking_4 (by decide) ?_
  refine pw_icmp_eq 12 dX6_isSpeaking_5 (by decide) (fun h1 => ?_) (fun h1 => ?_)
  · skip
    refine pw_iconst (v := nI 0) dX6_isSpeaking_12 (by decide) ?_
    refine pw_zreturn dX6_isSpeaking_13 rfl (by decide) ?_
    exact q0 h1
  · skip
    refine pw_iconst (v := nI 1) dX6_isSpeaking_8 (by decide) ?_
    refine pw_goto 13 dX6_isSpeaking_9 (by decide) ?_
    refine pw_zreturn dX6_isSpeaking_13 rfl (by decide) ?_
    exact q1 h1
set_option maxRecDepth 100000 in
set_option maxHeartbeats 4000000 in
theorem c_X6_letsGo {X : Cx} {σ : Sp} {μ : Mm} {Q : Int32 → Sp → Mm → Prop} {a : Nat} (h : ShSt σ a) (q1 : bi (μ a 9) (nI 10 - μ a 7) = nI 1 → Q (nI 1) σ μ) (q0 : bi (μ a 9) (nI 10 - μ a 7) ≠ nI 1 → Q (nI 0) σ μ) : CTi X mX6_letsGo [.ref a] σ μ Q := by
  refine CT.of (by decide +kernel) (Nat.le_of_ble_eq_true rfl) ?_
  show PW X mX6_letsGo 0 0 0 [some (.ref a)] [] σ μ (LI Q)
  refine pw_aload_0 dX6_letsGo_0 ?_
  refine pw_getI 6 9 dX6_letsGo_1 fX6_55 rfl (by decide) rfl h.t ?_
  refine pw_bipush (v := nI 10) dX6_letsGo_4 (by decide) ?_
  refine pw_aload_0 dX6_letsGo_6 ?_
  refine pw_getI 6 7 dX6_letsGo_7 fX6_25 rfl (by decide) rfl h.t ?_
  refine pw_isub dX6_letsGo_10 ?_
  refine pw_ishr dX6_letsGo_11 ?_
  refine pw_iconst (v := nI 1) dX6_letsGo_12 (by decide) ?_
  refine pw_iand dX6_letsGo_13 ?_
  refine pw_iconst (v := nI 1) dX6_letsGo_14 (by decide) ?_
  refine pw_icmp_ne 22 dX6_letsGo_15 (by decide) (fun h1 => ?_) (fun h1 => ?_)
  · skip
    refine pw_iconst (v := nI 0) dX6_letsGo_22 (by decide) ?_
    refine pw_zreturn dX6_letsGo_23 rfl (by decide) ?_
    exact q0 h1
  · skip
    refine pw_iconst (v := nI 1) dX6_letsGo_18 (by decide) ?_
    refine pw_goto 23 dX6_letsGo_19 (by decide) ?_
    refine pw_zreturn dX6_letsGo_23 rfl (by decide) ?_
    exact q1 h1
set_option maxRecDepth 100000 in
set_option maxHeartbeats 4000000 in
theorem c_X6_fallSilent {X : Cx} {σ : Sp} {μ : Mm} {Q : Sp → Mm → Prop} {a : Nat} (h : ShSt σ a) (q : Q σ (silF μ a)) : CTv X mX6_fallSilent [.ref a] σ μ Q := by
  refine CT.of (by decide +kernel) (Nat.le_of_ble_eq_true rfl) ?_
  show PW X mX6_fallSilent 0 0 0 [some (.ref a)] [] σ μ (LV Q)
  refine pw_aload_0 dX6_fallSilent_0 ?_
  refine pw_iconst (v := -1) dX6_fallSilent_1 (by decide) ?_
  refine pw_putI 6 7 dX6_fallSilent_2 fX6_25 rfl (by decide) rfl (Or.inl rfl) rfl (by decide) h.t ?_
  refine pw_aload_0 dX6_fallSilent_5 ?_
  refine pw_iconst (v := nI 0) dX6_fallSilent_6 (by decide) ?_
  refine pw_putI 6 8 dX6_fallSilent_7 fX6_52 rfl (by decide) rfl (Or.inl rfl) rfl (by decide) h.t ?_
  refine pw_aload_0 dX6_fallSilent_10 ?_
  refine pw_iconst (v := nI 0) dX6_fallSilent_11 (by decide) ?_
  refine pw_putI 6 9 dX6_fallSilent_12 fX6_55 rfl (by decide) rfl (Or.inl rfl) rfl (by decide) h.t ?_
  refine pw_aload_0 dX6_fallSilent_15 ?_
  refine pw_iconst (v := nI 0) dX6_fallSilent_16 (by decide) ?_
  refine pw_putI 6 10 dX6_fallSilent_17 fX6_58 rfl (by decide) rfl (Or.inl rfl) rfl (by decide) h.t ?_
  refine pw_return dX6_fallSilent_20 rfl ?_
  exact q
set_option maxRecDepth 100000 in
set_option maxHeartbeats 4000000 in
theorem c_X6_begin {X : Cx} {σ : Sp} {μ : Mm} {Q : Sp → Mm → Prop} {a n : Nat} {x y : Int32} (h : ShSt σ a) (hn : μ (a + 1) 3 = nI n) (h4 : n ≤ 4) (h0 : 0 < n) (q : Q σ (begF μ a x (μ (a + 2) 0) y)) : CTv X mX6_begin [.ref a, .int x, .int y] σ μ Q := by
  refine CT.of (by decide +kernel) (Nat.le_of_ble_eq_true rfl) ?_
  show PW X mX6_begin 0 0 0 [some (.ref a), some (.int x), some (.int y)] [] σ μ (LV Q)
  refine pw_aload_0 dX6_begin_0 ?_
  refine pw_iconst (v := nI 0) dX6_begin_1 (by decide) ?_
  refine pw_putI 6 7 dX6_begin_2 fX6_25 rfl (by decide) rfl (Or.inl rfl) rfl (by decide) h.t ?_
  refine pw_aload_0 dX6_begin_5 ?_
  refine pw_iconst (v := nI 1) dX6_begin_6 (by decide) ?_
  refine pw_iload_1 dX6_begin_7 ?_
  refine pw_ishl dX6_begin_8 ?_
  refine pw_putI 6 8 dX6_begin_9 fX6_52 rfl (by decide) rfl (Or.inl rfl) rfl (by decide) h.t ?_
  refine pw_aload_0 dX6_begin_12 ?_
  refine pw_aload_0 dX6_begin_13 ?_
  refine pw_getI 6 0 dX6_begin_14 fX6_29 rfl (by decide) rfl h.t ?_
  refine pw_bipush (v := nI 8) dX6_begin_17 (by decide) ?_
  refine pw_ishl dX6_begin_19 ?_
  refine pw_aload_0 dX6_begin_20 ?_
  refine pw_getr 6 1 dX6_begin_21 fX6_12 rfl (by decide) rfl h.t h.r1 ?_
  refine pw_iconst (v := nI 0) dX6_begin_24 (by decide) ?_
  refine pw_cV1i 5 dX6_begin_25 kX6_73 vX5_numberAt iX5_numberAt ⟨by decide, by decide⟩ ⟨rfl, rfl⟩ (by decide) rfl (Nat.le_of_ble_eq_true rfl) h.w (c_X5_numberAt h (n := n) (by simp (disch := omega) only [wr_n]; exact hn) h4 (by decide) (fun _ => ?_) (fun hh => absurd hh (by omega)))
  refine pw_ior dX6_begin_28 ?_
  refine pw_putI 6 9 dX6_begin_29 fX6_55 rfl (by decide) rfl (Or.inl rfl) rfl (by decide) h.t ?_
  refine pw_aload_0 dX6_begin_32 ?_
  refine pw_iload_2 dX6_begin_33 ?_
  refine pw_putI 6 10 dX6_begin_34 fX6_58 rfl (by decide) rfl (Or.inl rfl) rfl (by decide) h.t ?_
  refine pw_return dX6_begin_37 rfl ?_
  refine Eq.mp (congrArg (fun m => Q σ m) ?_) q
  unfold begF
  simp (disch := omega) only [wr_s, wr_n, upd_s, upd_n]
end
section
/-! What both sides compute: a bus as numbers (globals, wires, stations), and what happens to it -/
abbrev Bs : Type := (Nat → Int32) × (Nat → Nat → Int32) × (Nat → Nat → Int32)
def bG (B : Bs) : Nat → Int32 := B.1
def bW (B : Bs) : Nat → Nat → Int32 := B.2.1
def bS (B : Bs) : Nat → Nat → Int32 := B.2.2
def setG (B : Bs) (k : Nat) (x : Int32) : Bs := (upd (bG B) k x, bW B, bS B)
def setW (B : Bs) (w k : Nat) (x : Int32) : Bs := (bG B, (fun v => if v = w then upd (bW B w) k x else bW B v), bS B)
def setS (B : Bs) (i : Nat) (f : Nat → Int32) : Bs := (bG B, bW B, fun j => if j = i then f else bS B j)
theorem bG_setG (B : Bs) (k : Nat) (x : Int32) : bG (setG B k x) = upd (bG B) k x := rfl
theorem bW_setG (B : Bs) (k : Nat) (x : Int32) : bW (setG B k x) = bW B := rfl
theorem bS_setG (B : Bs) (k : Nat) (x : Int32) : bS (setG B k x) = bS B := rfl
theorem bG_setW (B : Bs) (w k : Nat) (x : Int32) : bG (setW B w k x) = bG B := rfl
theorem bS_setW (B : Bs) (w k : Nat) (x : Int32) : bS (setW B w k x) = bS B := rfl
theorem bW_setW_s (B : Bs) (w k : Nat) (x : Int32) : bW (setW B w k x) w = upd (bW B w) k x := by simp [bW, setW]
theorem bW_setW_n (B : Bs) {w v : Nat} (k : Nat) (x : Int32) (h : v ≠ w) : bW (setW B w k x) v = bW B v := by simp [bW, setW, h]
theorem bG_setS (B : Bs) (i : Nat) (f : Nat → Int32) : bG (setS B i f) = bG B := rfl
theorem bW_setS (B : Bs) (i : Nat) (f : Nat → Int32) : bW (setS B i f) = bW B := rfl
theorem bS_setS_s (B : Bs) (i : Nat) (f : Nat → Int32) : bS (setS B i f) i = f := by simp [bS, setS]
theorem bS_setS_n (B : Bs) {i j : Nat} (f : Nat → Int32) (h : j ≠ i) : bS (setS B i f) j = bS B j := by simp [bS, setS, h]
theorem setS_setS (B : Bs) (i : Nat) (f g : Nat → Int32) : setS (setS B i f) i g = setS B i g := by
  refine Prod.ext rfl (Prod.ext rfl (funext fun j => ?_))
  by_cases h : j = i <;> simp [setS, bS, h]
theorem setS_id (B : Bs) (i : Nat) : setS B i (bS B i) = B := by
  refine Prod.ext rfl (Prod.ext rfl (funext fun j => ?_))
  by_cases h : j = i <;> simp [setS, bS, h]
theorem setS_setW (B : Bs) (i w k : Nat) (x : Int32) (f : Nat → Int32) : setS (setW B w k x) i f = setW (setS B i f) w k x := rfl
/-- a row of 351 numbers that holds a bus -/
def ZR (z : Nat → Int32) (B : Bs) : Prop := (∀ k, k < 7 → z k = bG B k) ∧ (∀ w, w < 6 → ∀ k, k < 4 → z (7 + 4 * w + k) = bW B w k) ∧ (∀ i, i < 8 → ∀ k, k < 40 → z (31 + 40 * i + k) = bS B i k)
theorem ZR.s {z : Nat → Int32} {B : Bs} {i k : Nat} (h : ZR z B) (hi : i < 8) (hk : k < 40) : z (31 + 40 * i + k) = bS B i k := h.2.2 i hi k hk
theorem ZR.w {z : Nat → Int32} {B : Bs} {w k : Nat} (h : ZR z B) (hw : w < 6) (hk : k < 4) : z (7 + 4 * w + k) = bW B w k := h.2.1 w hw k hk
theorem ZR.g {z : Nat → Int32} {B : Bs} {k : Nat} (h : ZR z B) (hk : k < 7) : z k = bG B k := h.1 k hk
theorem ZR.stS {z z' : Nat → Int32} {B : Bs} {i : Nat} {f : Nat → Int32} (h : ZR z B) (hi : i < 8) (h1 : ∀ k, k < 40 → z' (31 + 40 * i + k) = f k) (h2 : ∀ j, j < 351 → (j < 31 + 40 * i ∨ 31 + 40 * i + 40 ≤ j) → z' j = z j) : ZR z' (setS B i f) := by
  refine ⟨fun k hk => ?_, fun w hw k hk => ?_, fun j hj k hk => ?_⟩
  · rw [h2 k (by omega) (Or.inl (by omega)), bG_setS]
    exact h.g hk
  · rw [h2 _ (by omega) (Or.inl (by omega)), bW_setS]
    exact h.w hw hk
  · by_cases hji : j = i
    · subst hji
      rw [h1 k hk, bS_setS_s]
    · rw [h2 _ (by omega) (by rcases Nat.lt_or_gt_of_ne hji with q | q <;> omega), bS_setS_n _ _ hji]
      exact h.s hj hk
theorem ZR.updS {z : Nat → Int32} {B : Bs} {i k : Nat} (h : ZR z B) (hi : i < 8) (hk : k < 40) (x : Int32) : ZR (upd z (31 + 40 * i + k) x) (setS B i (upd (bS B i) k x)) := by
  refine h.stS hi (fun j hj => ?_) (fun j _ hj => ?_)
  · by_cases hjk : j = k
    · subst hjk
      simp [upd]
    · rw [upd_n _ _ (by omega), upd_n _ _ hjk]
      exact h.s hi hj
  · exact upd_n _ _ (by omega)
theorem ZR.updW {z : Nat → Int32} {B : Bs} {w k : Nat} (h : ZR z B) (hw : w < 6) (hk : k < 4) (x : Int32) : ZR (upd z (7 + 4 * w + k) x) (setW B w k x) := by
  refine ⟨fun j hj => ?_, fun v hv j hj => ?_, fun i hi j hj => ?_⟩
  · rw [upd_n _ _ (by omega), bG_setW]
    exact h.g hj
  · by_cases hvw : v = w
    · subst hvw
      rw [bW_setW_s]
      by_cases hjk : j = k
      · subst hjk
        simp [upd]
      · rw [upd_n _ _ (by omega), upd_n _ _ hjk]
        exact h.w hw hj
    · rw [bW_setW_n _ _ _ hvw, upd_n _ _ (by omega)]
      exact h.w hv hj
  · rw [upd_n _ _ (by omega), bS_setW]
    exact h.s hi hj
theorem ZR.updG {z : Nat → Int32} {B : Bs} {k : Nat} (h : ZR z B) (hk : k < 7) (x : Int32) : ZR (upd z k x) (setG B k x) := by
  refine ⟨fun j hj => ?_, fun v hv j hj => ?_, fun i hi j hj => ?_⟩
  · rw [bG_setG]
    by_cases hjk : j = k
    · subst hjk
      simp [upd]
    · rw [upd_n _ _ hjk, upd_n _ _ hjk]
      exact h.g hj
  · rw [bW_setG, upd_n _ _ (by omega)]
    exact h.w hv hj
  · rw [bS_setG, upd_n _ _ (by omega)]
    exact h.s hi hj
/-- stations: awake, speaking, at a wire; the first word's wire; how many words -/
def awB (B : Bs) (i : Nat) : Prop := bS B i 2 = 0 ∧ bS B i 3 = 0
def spB (B : Bs) (i : Nat) : Prop := bS B i 17 ≠ -6
def atB (B : Bs) (i : Nat) (x : Int32) : Prop := bi (bS B i 0) x = nI 1
/-- a set of those for which something holds, below a bound -/
noncomputable def msk (p : Nat → Prop) : Nat → Int32
  | 0 => nI 0
  | n + 1 => @ite _ (p n) (Classical.propDecidable _) (msk p n ||| (nI 1 <<< (nI n &&& 31))) (msk p n)
theorem msk_y {p : Nat → Prop} {n : Nat} (h : p n) : msk p (n + 1) = msk p n ||| (nI 1 <<< (nI n &&& 31)) := by simp [msk, h]
theorem msk_n {p : Nat → Prop} {n : Nat} (h : ¬ p n) : msk p (n + 1) = msk p n := by simp [msk, h]
theorem msk_cong {p q : Nat → Prop} : ∀ {n : Nat}, (∀ i, i < n → (p i ↔ q i)) → msk p n = msk q n
  | 0, _ => rfl
  | n + 1, h => by
    have ih := msk_cong (n := n) (fun i hi => h i (by omega))
    by_cases hp : p n
    · rw [msk_y hp, msk_y ((h n (by omega)).mp hp), ih]
    · rw [msk_n hp, msk_n (fun hq => hp ((h n (by omega)).mpr hq)), ih]
/-- the first word leaves the row; giving up -/
def qtF (f : Nat → Int32) : Nat → Int32 := upd (upd f 17 (-6)) 18 (nI 0)
def nwF (f : Nat → Int32) : Nat := (f 4).toNatClampNeg
def lvF (f : Nat → Int32) : Nat → Int32 := fun k => if 5 ≤ k ∧ k < 5 + 3 * (nwF f - 1) then f (k + 3) else upd (qtF f) 4 (nI (nwF f - 1)) k
def guF (f : Nat → Int32) : Nat → Int32 := qtF (upd (upd f 7 (f 7 + nI 1)) 22 (f 22 + nI 1))
def glF (f : Nat → Int32) : Nat → Int32 := lvF (upd (guF f) 20 (f 20 + nI 1))
def fwB (B : Bs) (i : Nat) : Nat := (bS B i 6).toNatClampNeg
def lvB (B : Bs) (i : Nat) : Bs := setS B i (lvF (bS B i))
/-- a wire's tally grows by one -/
def tyB (B : Bs) (w k : Nat) : Bs := setW B w k (bW B w k + nI 1)
def guB (B : Bs) (i : Nat) : Bs := if bG B 4 ≤ bS B i 7 + nI 1 then tyB (setS B i (glF (bS B i))) (fwB B i) 3 else setS B i (guF (bS B i))
end
section
/-! The model's small methods, over a row of 351 numbers that holds a bus -/
set_option maxRecDepth 100000 in
set_option maxHeartbeats 4000000 in
theorem c_X8_in {X : Cx} {σ : Sp} {μ : Mm} {Q : Int32 → Sp → Mm → Prop} {x lo hi : Int32} (q1 : ¬ x < lo → ¬ hi < x → Q (nI 1) σ μ) (q0 : x < lo ∨ hi < x → Q (nI 0) σ μ) : CTi X mX8_in [.int x, .int lo, .int hi] σ μ Q := by
  refine CT.of (by decide +kernel) (Nat.le_of_ble_eq_true rfl) ?_
  show PW X mX8_in 0 0 0 [some (.int x), some (.int lo), some (.int hi)] [] σ μ (LI Q)
  refine pw_iload_0 dX8_in_0 ?_
  refine pw_iload_1 dX8_in_1 ?_
  refine pw_icmp_lt 14 dX8_in_2 (by decide) (fun h1 => ?_) (fun h1 => ?_)
  · skip
    refine pw_iconst (v := nI 0) dX8_in_14 (by decide) ?_
    refine pw_zreturn dX8_in_15 rfl (by decide) ?_
    exact q0 (Or.inl h1)
  · skip
    refine pw_iload_0 dX8_in_5 ?_
    refine pw_iload_2 dX8_in_6 ?_
    refine pw_icmp_gt 14 dX8_in_7 (by decide) (fun h2 => ?_) (fun h2 => ?_)
    · skip
      refine pw_iconst (v := nI 0) dX8_in_14 (by decide) ?_
      refine pw_zreturn dX8_in_15 rfl (by decide) ?_
      exact q0 (Or.inr h2)
    · skip
      refine pw_iconst (v := nI 1) dX8_in_10 (by decide) ?_
      refine pw_goto 15 dX8_in_11 (by decide) ?_
      refine pw_zreturn dX8_in_15 rfl (by decide) ?_
      exact q1 h1 h2
theorem c_X8_inN {X : Cx} {σ : Sp} {μ : Mm} {Q : Int32 → Sp → Mm → Prop} {x : Int32} {lo hi : Nat} (h1 : lo ≤ hi) (h2 : hi < 2 ^ 30) (q1 : ∀ j, x = nI j → lo ≤ j → j ≤ hi → Q (nI 1) σ μ) (q0 : (∀ j, lo ≤ j → j ≤ hi → x ≠ nI j) → Q (nI 0) σ μ) : CTi X mX8_in [.int x, .int (nI lo), .int (nI hi)] σ μ Q := by
  refine c_X8_in (fun a b => ?_) (fun a => q0 ?_)
  · have h0 : ¬ x < 0 := fun hx => a (by have e1 := Int32.lt_iff_toInt_lt.mp hx; refine Int32.lt_iff_toInt_lt.mpr ?_; rw [nI_toInt (by omega)]; have e2 : (0 : Int32).toInt = 0 := (by decide); omega)
    obtain ⟨j, hj, rfl⟩ := nI_of h0
    rw [nI_ltI (by omega) (by omega)] at a b
    exact q1 j rfl (by omega) (by omega)
  · rintro j hj1 hj2 rfl
    rw [nI_ltI (by omega) (by omega), nI_ltI (by omega) (by omega)] at a
    omega
set_option maxRecDepth 100000 in
set_option maxHeartbeats 4000000 in
theorem c_X8_isWire {X : Cx} {σ : Sp} {μ : Mm} {Q : Int32 → Sp → Mm → Prop} {x : Int32} (q1 : ∀ j, x = nI j → j < 6 → Q (nI 1) σ μ) (q0 : (∀ j, j < 6 → x ≠ nI j) → Q (nI 0) σ μ) : CTi X mX8_isWire [.int x] σ μ Q := by
  refine CT.of (by decide +kernel) (Nat.le_of_ble_eq_true rfl) ?_
  show PW X mX8_isWire 0 0 0 [some (.int x)] [] σ μ (LI Q)
  refine pw_iload_0 dX8_isWire_0 ?_
  refine pw_iconst (v := nI 0) dX8_isWire_1 (by decide) ?_
  refine pw_iconst (v := nI 5) dX8_isWire_2 (by decide) ?_
  refine pw_cS3i dX8_isWire_3 kX8_36 vX8_in sX8_in ⟨by decide, by decide⟩ ⟨rfl, rfl⟩ (Nat.le_of_ble_eq_true rfl) (c_X8_inN (by decide) (by decide) (fun jh1 h1 h2 h3 => ?_) (fun h1 => ?_))
  · skip
    refine pw_zreturn dX8_isWire_6 rfl (by decide) ?_
    exact q1 jh1 h1 (by omega)
  · skip
    refine pw_zreturn dX8_isWire_6 rfl (by decide) ?_
    exact q0 (fun j hj => h1 j (by omega) (by omega))
set_option maxRecDepth 100000 in
set_option maxHeartbeats 4000000 in
theorem c_X8_isStation {X : Cx} {σ : Sp} {μ : Mm} {Q : Int32 → Sp → Mm → Prop} {m n : Nat} {z : Nat → Int32} {B : Bs} {x : Int32} (h : ShM σ m) (hz : ZR z B) (hn : bG B 6 = nI n) (h8 : n ≤ 8) (q1 : ∀ j, x = nI j → j < n → Q (nI 1) σ (wC μ (m + 1) z)) (q0 : (∀ j, j < n → x ≠ nI j) → Q (nI 0) σ (wC μ (m + 1) z)) : CTi X mX8_isStation [.ref m, .int x] σ ((wC μ (m + 1) z)) Q := by
  refine CT.of (by decide +kernel) (Nat.le_of_ble_eq_true rfl) ?_
  show PW X mX8_isStation 0 0 0 [some (.ref m), some (.int x)] [] σ ((wC μ (m + 1) z)) (LI Q)
  refine pw_iload_1 dX8_isStation_0 ?_
  refine pw_if_lt 19 dX8_isStation_1 (by decide) (fun h1 => ?_) (fun h1 => ?_)
  · skip
    refine pw_iconst (v := nI 0) dX8_isStation_19 (by decide) ?_
    refine pw_zreturn dX8_isStation_20 rfl (by decide) ?_
    exact q0 (ix_no (by omega) (Or.inl h1))
  · skip
    refine pw_iload_1 dX8_isStation_4 ?_
    refine pw_aload_0 dX8_isStation_5 ?_
    refine pw_getr 8 0 dX8_isStation_6 fX8_7 rfl (by decide) rfl h.t h.r0 ?_
    refine pw_bipush (v := nI 6) dX8_isStation_9 (by decide) ?_
    refine pw_ialdN dX8_isStation_11 h.a1 (by omega) (by decide) ?_
    refine pw_top (show _ = nI n from by rw [wC_self, hz.g (by decide)]; exact hn) ?_
    refine pw_icmp_ge 19 dX8_isStation_12 (by decide) (fun h2 => ?_) (fun h2 => ?_)
    · skip
      refine pw_iconst (v := nI 0) dX8_isStation_19 (by decide) ?_
      refine pw_zreturn dX8_isStation_20 rfl (by decide) ?_
      exact q0 (ix_no (by omega) (Or.inr h2))
    · skip
      refine pw_iconst (v := nI 1) dX8_isStation_15 (by decide) ?_
      refine pw_goto 20 dX8_isStation_16 (by decide) ?_
      refine pw_zreturn dX8_isStation_20 rfl (by decide) ?_
      obtain ⟨j, hj, rfl⟩ := ix_of (by omega) h1 h2
      exact q1 j rfl hj
set_option maxRecDepth 100000 in
set_option maxHeartbeats 4000000 in
theorem c_X8_at {X : Cx} {σ : Sp} {μ : Mm} {Q : Int32 → Sp → Mm → Prop} {m i k : Nat} {z : Nat → Int32} {B : Bs} (h : ShM σ m) (hz : ZR z B) (hi : i < 8) (hk : k < 40) (q : Q (bS B i k) σ (wC μ (m + 1) z)) : CTi X mX8_at [.ref m, .int (nI i), .int (nI k)] σ ((wC μ (m + 1) z)) Q := by
  refine CT.of (by decide +kernel) (Nat.le_of_ble_eq_true rfl) ?_
  show PW X mX8_at 0 0 0 [some (.ref m), some (.int (nI i)), some (.int (nI k))] [] σ ((wC μ (m + 1) z)) (LI Q)
  refine pw_aload_0 dX8_at_0 ?_
  refine pw_getr 8 0 dX8_at_1 fX8_7 rfl (by decide) rfl h.t h.r0 ?_
  refine pw_bipush (v := nI 31) dX8_at_4 (by decide) ?_
  refine pw_bipush (v := nI 40) dX8_at_6 (by decide) ?_
  refine pw_iload_1 dX8_at_8 ?_
  refine pw_imulN dX8_at_9 ?_
  refine pw_iaddN dX8_at_10 ?_
  refine pw_iload_2 dX8_at_11 ?_
  refine pw_iaddN dX8_at_12 ?_
  refine pw_ialdN dX8_at_13 h.a1 (by omega) (by decide) ?_
  refine pw_ireturn dX8_at_14 rfl ?_
  rw [wC_self, hz.s hi hk]
  exact q
set_option maxRecDepth 100000 in
set_option maxHeartbeats 4000000 in
theorem c_X8_lay {X : Cx} {σ : Sp} {μ : Mm} {Q : Sp → Mm → Prop} {m i k : Nat} {z : Nat → Int32} {B : Bs} {x : Int32} (h : ShM σ m) (hz : ZR z B) (hi : i < 8) (hk : k < 40) (q : ∀ z', ZR z' (setS B i (upd (bS B i) k x)) → Q σ (wC μ (m + 1) z')) : CTv X mX8_lay [.ref m, .int (nI i), .int (nI k), .int x] σ ((wC μ (m + 1) z)) Q := by
  refine CT.of (by decide +kernel) (Nat.le_of_ble_eq_true rfl) ?_
  show PW X mX8_lay 0 0 0 [some (.ref m), some (.int (nI i)), some (.int (nI k)), some (.int x)] [] σ ((wC μ (m + 1) z)) (LV Q)
  refine pw_aload_0 dX8_lay_0 ?_
  refine pw_getr 8 0 dX8_lay_1 fX8_7 rfl (by decide) rfl h.t h.r0 ?_
  refine pw_bipush (v := nI 31) dX8_lay_4 (by decide) ?_
  refine pw_bipush (v := nI 40) dX8_lay_6 (by decide) ?_
  refine pw_iload_1 dX8_lay_8 ?_
  refine pw_imulN dX8_lay_9 ?_
  refine pw_iaddN dX8_lay_10 ?_
  refine pw_iload_2 dX8_lay_11 ?_
  refine pw_iaddN dX8_lay_12 ?_
  refine pw_iload_3 dX8_lay_13 ?_
  refine pw_iastN dX8_lay_14 h.a1 (by omega) (by decide) ?_
  refine pw_return dX8_lay_15 rfl ?_
  rw [wr_wC_s]
  exact q _ (hz.updS hi hk x)
set_option maxRecDepth 100000 in
set_option maxHeartbeats 4000000 in
theorem c_X8_add {X : Cx} {σ : Sp} {μ : Mm} {Q : Sp → Mm → Prop} {m i k : Nat} {z : Nat → Int32} {B : Bs} {x : Int32} (h : ShM σ m) (hz : ZR z B) (hi : i < 8) (hk : k < 40) (q : ∀ z', ZR z' (setS B i (upd (bS B i) k (bS B i k + x))) → Q σ (wC μ (m + 1) z')) : CTv X mX8_add [.ref m, .int (nI i), .int (nI k), .int x] σ ((wC μ (m + 1) z)) Q := by
  refine CT.of (by decide +kernel) (Nat.le_of_ble_eq_true rfl) ?_
  show PW X mX8_add 0 0 0 [some (.ref m), some (.int (nI i)), some (.int (nI k)), some (.int x)] [] σ ((wC μ (m + 1) z)) (LV Q)
  refine pw_aload_0 dX8_add_0 ?_
  refine pw_getr 8 0 dX8_add_1 fX8_7 rfl (by decide) rfl h.t h.r0 ?_
  refine pw_bipush (v := nI 31) dX8_add_4 (by decide) ?_
  refine pw_bipush (v := nI 40) dX8_add_6 (by decide) ?_
  refine pw_iload_1 dX8_add_8 ?_
  refine pw_imulN dX8_add_9 ?_
  refine pw_iaddN dX8_add_10 ?_
  refine pw_iload_2 dX8_add_11 ?_
  refine pw_iaddN dX8_add_12 ?_
  refine pw_dup2_11 dX8_add_13 ?_
  refine pw_ialdN dX8_add_14 h.a1 (by omega) (by decide) ?_
  refine pw_iload_3 dX8_add_15 ?_
  refine pw_iadd dX8_add_16 ?_
  refine pw_iastN dX8_add_17 h.a1 (by omega) (by decide) ?_
  refine pw_return dX8_add_18 rfl ?_
  rw [wr_wC_s, wC_self, hz.s hi hk]
  exact q _ (hz.updS hi hk _)
set_option maxRecDepth 100000 in
set_option maxHeartbeats 4000000 in
theorem c_X8_wire {X : Cx} {σ : Sp} {μ : Mm} {Q : Int32 → Sp → Mm → Prop} {m i k : Nat} {z : Nat → Int32} {B : Bs} (h : ShM σ m) (hz : ZR z B) (hi : i < 6) (hk : k < 4) (q : Q (bW B i k) σ (wC μ (m + 1) z)) : CTi X mX8_wire [.ref m, .int (nI i), .int (nI k)] σ ((wC μ (m + 1) z)) Q := by
  refine CT.of (by decide +kernel) (Nat.le_of_ble_eq_true rfl) ?_
  show PW X mX8_wire 0 0 0 [some (.ref m), some (.int (nI i)), some (.int (nI k))] [] σ ((wC μ (m + 1) z)) (LI Q)
  refine pw_aload_0 dX8_wire_0 ?_
  refine pw_getr 8 0 dX8_wire_1 fX8_7 rfl (by decide) rfl h.t h.r0 ?_
  refine pw_bipush (v := nI 7) dX8_wire_4 (by decide) ?_
  refine pw_iconst (v := nI 4) dX8_wire_6 (by decide) ?_
  refine pw_iload_1 dX8_wire_7 ?_
  refine pw_imulN dX8_wire_8 ?_
  refine pw_iaddN dX8_wire_9 ?_
  refine pw_iload_2 dX8_wire_10 ?_
  refine pw_iaddN dX8_wire_11 ?_
  refine pw_ialdN dX8_wire_12 h.a1 (by omega) (by decide) ?_
  refine pw_ireturn dX8_wire_13 rfl ?_
  rw [wC_self, hz.w hi hk]
  exact q
set_option maxRecDepth 100000 in
set_option maxHeartbeats 4000000 in
theorem c_X8_tally {X : Cx} {σ : Sp} {μ : Mm} {Q : Sp → Mm → Prop} {m i k : Nat} {z : Nat → Int32} {B : Bs} (h : ShM σ m) (hz : ZR z B) (hi : i < 6) (hk : k < 4) (q : ∀ z', ZR z' (tyB B i k) → Q σ (wC μ (m + 1) z')) : CTv X mX8_tally [.ref m, .int (nI i), .int (nI k)] σ ((wC μ (m + 1) z)) Q := by
  refine CT.of (by decide +kernel) (Nat.le_of_ble_eq_true rfl) ?_
  show PW X mX8_tally 0 0 0 [some (.ref m), some (.int (nI i)), some (.int (nI k))] [] σ ((wC μ (m + 1) z)) (LV Q)
  refine pw_aload_0 dX8_tally_0 ?_
  refine pw_getr 8 0 dX8_tally_1 fX8_7 rfl (by decide) rfl h.t h.r0 ?_
  refine pw_bipush (v := nI 7) dX8_tally_4 (by decide) ?_
  refine pw_iconst (v := nI 4) dX8_tally_6 (by decide) ?_
  refine pw_iload_1 dX8_tally_7 ?_
  refine pw_imulN dX8_tally_8 ?_
  refine pw_iaddN dX8_tally_9 ?_
  refine pw_iload_2 dX8_tally_10 ?_
  refine pw_iaddN dX8_tally_11 ?_
  refine pw_dup2_11 dX8_tally_12 ?_
  refine pw_ialdN dX8_tally_13 h.a1 (by omega) (by decide) ?_
  refine pw_iconst (v := nI 1) dX8_tally_14 (by decide) ?_
  refine pw_iadd dX8_tally_15 ?_
  refine pw_iastN dX8_tally_16 h.a1 (by omega) (by decide) ?_
  refine pw_return dX8_tally_17 rfl ?_
  rw [wr_wC_s, wC_self, hz.w hi hk]
  exact q _ (hz.updW hi hk _)
set_option maxRecDepth 100000 in
set_option maxHeartbeats 4000000 in
theorem c_X8_isAwake {X : Cx} {σ : Sp} {μ : Mm} {Q : Int32 → Sp → Mm → Prop} {m i : Nat} {z : Nat → Int32} {B : Bs} (h : ShM σ m) (hz : ZR z B) (hi : i < 8) (q1 : awB B i → Q (nI 1) σ (wC μ (m + 1) z)) (q0 : ¬ awB B i → Q (nI 0) σ (wC μ (m + 1) z)) : CTi X mX8_isAwake [.ref m, .int (nI i)] σ ((wC μ (m + 1) z)) Q := by
  refine CT.of (by decide +kernel) (Nat.le_of_ble_eq_true rfl) ?_
  show PW X mX8_isAwake 0 0 0 [some (.ref m), some (.int (nI i))] [] σ ((wC μ (m + 1) z)) (LI Q)
  refine pw_aload_0 dX8_isAwake_0 ?_
  refine pw_iload_1 dX8_isAwake_1 ?_
  refine pw_iconst (v := nI 2) dX8_isAwake_2 (by decide) ?_
  refine pw_cV2i 8 dX8_isAwake_3 kX8_40 vX8_at iX8_at ⟨by decide, by decide⟩ ⟨rfl, rfl⟩ (by decide) rfl (Nat.le_of_ble_eq_true rfl) h.t (c_X8_at h hz (by omega) (by decide) ?_)
  refine pw_if_ne 22 dX8_isAwake_6 (by decide) (fun h1 => ?_) (fun h1 => ?_)
  · skip
    refine pw_iconst (v := nI 0) dX8_isAwake_22 (by decide) ?_
    refine pw_zreturn dX8_isAwake_23 rfl (by decide) ?_
    exact q0 (fun hh => h1 hh.1)
  · skip
    refine pw_aload_0 dX8_isAwake_9 ?_
    refine pw_iload_1 dX8_isAwake_10 ?_
    refine pw_iconst (v := nI 3) dX8_isAwake_11 (by decide) ?_
    refine pw_cV2i 8 dX8_isAwake_12 kX8_40 vX8_at iX8_at ⟨by decide, by decide⟩ ⟨rfl, rfl⟩ (by decide) rfl (Nat.le_of_ble_eq_true rfl) h.t (c_X8_at h hz (by omega) (by decide) ?_)
    refine pw_if_ne 22 dX8_isAwake_15 (by decide) (fun h2 => ?_) (fun h2 => ?_)
    · skip
      refine pw_iconst (v := nI 0) dX8_isAwake_22 (by decide) ?_
      refine pw_zreturn dX8_isAwake_23 rfl (by decide) ?_
      exact q0 (fun hh => h2 hh.2)
    · skip
      refine pw_iconst (v := nI 1) dX8_isAwake_18 (by decide) ?_
      refine pw_goto 23 dX8_isAwake_19 (by decide) ?_
      refine pw_zreturn dX8_isAwake_23 rfl (by decide) ?_
      exact q1 ⟨h1, h2⟩
set_option maxRecDepth 100000 in
set_option maxHeartbeats 4000000 in
theorem c_X8_speaks {X : Cx} {σ : Sp} {μ : Mm} {Q : Int32 → Sp → Mm → Prop} {m i : Nat} {z : Nat → Int32} {B : Bs} (h : ShM σ m) (hz : ZR z B) (hi : i < 8) (q1 : spB B i → Q (nI 1) σ (wC μ (m + 1) z)) (q0 : ¬ spB B i → Q (nI 0) σ (wC μ (m + 1) z)) : CTi X mX8_speaks [.ref m, .int (nI i)] σ ((wC μ (m + 1) z)) Q := by
  refine CT.of (by decide +kernel) (Nat.le_of_ble_eq_true rfl) ?_
  show PW X mX8_speaks 0 0 0 [some (.ref m), some (.int (nI i))] [] σ ((wC μ (m + 1) z)) (LI Q)
  refine pw_aload_0 dX8_speaks_0 ?_
  refine pw_iload_1 dX8_speaks_1 ?_
  refine pw_bipush (v := nI 17) dX8_speaks_2 (by decide) ?_
  refine pw_cV2i 8 dX8_speaks_4 kX8_40 vX8_at iX8_at ⟨by decide, by decide⟩ ⟨rfl, rfl⟩ (by decide) rfl (Nat.le_of_ble_eq_true rfl) h.t (c_X8_at h hz (by omega) (by decide) ?_)
  refine pw_bipush (v := -6) dX8_speaks_7 (by decide) ?_
  refine pw_icmp_eq 16 dX8_speaks_9 (by decide) (fun h1 => ?_) (fun h1 => ?_)
  · skip
    refine pw_iconst (v := nI 0) dX8_speaks_16 (by decide) ?_
    refine pw_zreturn dX8_speaks_17 rfl (by decide) ?_
    exact q0 (fun hh => hh h1)
  · skip
    refine pw_iconst (v := nI 1) dX8_speaks_12 (by decide) ?_
    refine pw_goto 17 dX8_speaks_13 (by decide) ?_
    refine pw_zreturn dX8_speaks_17 rfl (by decide) ?_
    exact q1 h1
set_option maxRecDepth 100000 in
set_option maxHeartbeats 4000000 in
theorem c_X8_firstWire {X : Cx} {σ : Sp} {μ : Mm} {Q : Int32 → Sp → Mm → Prop} {m i : Nat} {z : Nat → Int32} {B : Bs} (h : ShM σ m) (hz : ZR z B) (hi : i < 8) (q : Q (bS B i 6) σ (wC μ (m + 1) z)) : CTi X mX8_firstWire [.ref m, .int (nI i)] σ ((wC μ (m + 1) z)) Q := by
  refine CT.of (by decide +kernel) (Nat.le_of_ble_eq_true rfl) ?_
  show PW X mX8_firstWire 0 0 0 [some (.ref m), some (.int (nI i))] [] σ ((wC μ (m + 1) z)) (LI Q)
  refine pw_aload_0 dX8_firstWire_0 ?_
  refine pw_iload_1 dX8_firstWire_1 ?_
  refine pw_bipush (v := nI 6) dX8_firstWire_2 (by decide) ?_
  refine pw_cV2i 8 dX8_firstWire_4 kX8_40 vX8_at iX8_at ⟨by decide, by decide⟩ ⟨rfl, rfl⟩ (by decide) rfl (Nat.le_of_ble_eq_true rfl) h.t (c_X8_at h hz (by omega) (by decide) ?_)
  refine pw_ireturn dX8_firstWire_7 rfl ?_
  exact q
set_option maxRecDepth 100000 in
set_option maxHeartbeats 4000000 in
theorem c_X8_isAt {X : Cx} {σ : Sp} {μ : Mm} {Q : Int32 → Sp → Mm → Prop} {m i : Nat} {x : Int32} {z : Nat → Int32} {B : Bs} (h : ShM σ m) (hz : ZR z B) (hi : i < 8) (q1 : atB B i x → Q (nI 1) σ (wC μ (m + 1) z)) (q0 : ¬ atB B i x → Q (nI 0) σ (wC μ (m + 1) z)) : CTi X mX8_isAt [.ref m, .int (nI i), .int x] σ ((wC μ (m + 1) z)) Q := by
  refine CT.of (by decide +kernel) (Nat.le_of_ble_eq_true rfl) ?_
  show PW X mX8_isAt 0 0 0 [some (.ref m), some (.int (nI i)), some (.int x)] [] σ ((wC μ (m + 1) z)) (LI Q)
  refine pw_aload_0 dX8_isAt_0 ?_
  refine pw_iload_1 dX8_isAt_1 ?_
  refine pw_iconst (v := nI 0) dX8_isAt_2 (by decide) ?_
  refine pw_cV2i 8 dX8_isAt_3 kX8_40 vX8_at iX8_at ⟨by decide, by decide⟩ ⟨rfl, rfl⟩ (by decide) rfl (Nat.le_of_ble_eq_true rfl) h.t (c_X8_at h hz (by omega) (by decide) ?_)
  refine pw_iload_2 dX8_isAt_6 ?_
  refine pw_ishr dX8_isAt_7 ?_
  refine pw_iconst (v := nI 1) dX8_isAt_8 (by decide) ?_
  refine pw_iand dX8_isAt_9 ?_
  refine pw_iconst (v := nI 1) dX8_isAt_10 (by decide) ?_
  refine pw_icmp_ne 18 dX8_isAt_11 (by decide) (fun h1 => ?_) (fun h1 => ?_)
  · skip
    refine pw_iconst (v := nI 0) dX8_isAt_18 (by decide) ?_
    refine pw_zreturn dX8_isAt_19 rfl (by decide) ?_
    exact q0 h1
  · skip
    refine pw_iconst (v := nI 1) dX8_isAt_14 (by decide) ?_
    refine pw_goto 19 dX8_isAt_15 (by decide) ?_
    refine pw_zreturn dX8_isAt_19 rfl (by decide) ?_
    exact q1 h1
set_option maxRecDepth 100000 in
set_option maxHeartbeats 4000000 in
theorem c_X8_quiet {X : Cx} {σ : Sp} {μ : Mm} {Q : Sp → Mm → Prop} {m i : Nat} {z : Nat → Int32} {B : Bs} (h : ShM σ m) (hz : ZR z B) (hi : i < 8) (q : ∀ z', ZR z' (setS B i (qtF (bS B i))) → Q σ (wC μ (m + 1) z')) : CTv X mX8_quiet [.ref m, .int (nI i)] σ ((wC μ (m + 1) z)) Q := by
  refine CT.of (by decide +kernel) (Nat.le_of_ble_eq_true rfl) ?_
  show PW X mX8_quiet 0 0 0 [some (.ref m), some (.int (nI i))] [] σ ((wC μ (m + 1) z)) (LV Q)
  refine pw_aload_0 dX8_quiet_0 ?_
  refine pw_iload_1 dX8_quiet_1 ?_
  refine pw_bipush (v := nI 17) dX8_quiet_2 (by decide) ?_
  refine pw_bipush (v := -6) dX8_quiet_4 (by decide) ?_
  refine pw_cV3v 8 dX8_quiet_6 kX8_55 vX8_lay iX8_lay ⟨by decide, by decide⟩ ⟨rfl, rfl⟩ (by decide) rfl (Nat.le_of_ble_eq_true rfl) h.t (c_X8_lay h hz (by omega) (by decide) (fun z1 hz1 => ?_))
  refine pw_aload_0 dX8_quiet_9 ?_
  refine pw_iload_1 dX8_quiet_10 ?_
  refine pw_bipush (v := nI 18) dX8_quiet_11 (by decide) ?_
  refine pw_iconst (v := nI 0) dX8_quiet_13 (by decide) ?_
  refine pw_cV3v 8 dX8_quiet_14 kX8_55 vX8_lay iX8_lay ⟨by decide, by decide⟩ ⟨rfl, rfl⟩ (by decide) rfl (Nat.le_of_ble_eq_true rfl) h.t (c_X8_lay h hz1 (by omega) (by decide) (fun z2 hz2 => ?_))
  refine pw_return dX8_quiet_17 rfl ?_
  refine q _ (Eq.mp (congrArg (fun b => ZR z2 b) ?_) hz2)
  simp only [setS_setS, bS_setS_s]
  rfl
def lvJ (f : Nat → Int32) (w j : Nat) : Nat → Int32 := fun k => if 5 ≤ k ∧ k < 5 + j then f (k + 3) else upd (qtF f) 4 (nI (w - 1)) k
theorem lvJ_0 (f : Nat → Int32) (w : Nat) : lvJ f w 0 = upd (qtF f) 4 (nI (w - 1)) := by
  funext k
  unfold lvJ
  rw [if_neg (by omega)]
theorem qt_hi (f : Nat → Int32) {k : Nat} (h : k < 17) : qtF f k = f k := by
  unfold qtF
  rw [upd_n _ _ (by omega), upd_n _ _ (by omega)]
theorem lvJ_4 (f : Nat → Int32) (w j : Nat) : lvJ f w j 4 = nI (w - 1) := by
  unfold lvJ
  rw [if_neg (by omega), upd_s]
theorem lvJ_S (f : Nat → Int32) (w : Nat) {j : Nat} (h : j < 9) : upd (lvJ f w j) (5 + j) (lvJ f w j (5 + j + 3)) = lvJ f w (j + 1) := by
  funext k
  by_cases hk : k = 5 + j
  · subst hk
    rw [upd_s]
    unfold lvJ
    rw [if_neg (by omega), if_pos (by omega), upd_n _ _ (by omega), qt_hi _ (by omega)]
  · rw [upd_n _ _ hk]
    unfold lvJ
    by_cases h5 : 5 ≤ k ∧ k < 5 + j
    · rw [if_pos h5, if_pos (by omega)]
    · rw [if_neg h5, if_neg (by omega)]
theorem nw_of {f : Nat → Int32} {w : Nat} (h : f 4 = nI w) (h4 : w ≤ 4) : nwF f = w := by
  unfold nwF
  rw [h, nI_clamp (by omega)]
theorem lvJ_F {f : Nat → Int32} {w : Nat} (h : f 4 = nI w) (h4 : w ≤ 4) : lvJ f w (3 * (w - 1)) = lvF f := by
  funext k
  unfold lvJ lvF
  rw [nw_of h h4]
set_option maxRecDepth 100000 in
set_option maxHeartbeats 4000000 in
theorem c_X8_leaves {X : Cx} {σ : Sp} {μ : Mm} {Q : Sp → Mm → Prop} {m i w : Nat} {z : Nat → Int32} {B : Bs} (h : ShM σ m) (hz : ZR z B) (hi : i < 8) (hw : bS B i 4 = nI w) (h4 : w ≤ 4) (h0 : 0 < w) (q : ∀ z', ZR z' (lvB B i) → Q σ (wC μ (m + 1) z')) : CTv X mX8_leaves [.ref m, .int (nI i)] σ ((wC μ (m + 1) z)) Q := by
  refine CT.of (by decide +kernel) (Nat.le_of_ble_eq_true rfl) ?_
  show PW X mX8_leaves 0 0 0 [some (.ref m), some (.int (nI i)), none] [] σ ((wC μ (m + 1) z)) (LV Q)
  refine pw_aload_0 dX8_leaves_0 ?_
  refine pw_iload_1 dX8_leaves_1 ?_
  refine pw_cV1v 8 dX8_leaves_2 kX8_86 vX8_quiet iX8_quiet ⟨by decide, by decide⟩ ⟨rfl, rfl⟩ (by decide) rfl (Nat.le_of_ble_eq_true rfl) h.t (c_X8_quiet h hz (by omega) (fun z1 hz1 => ?_))
  refine pw_aload_0 dX8_leaves_5 ?_
  refine pw_iload_1 dX8_leaves_6 ?_
  refine pw_iconst (v := nI 4) dX8_leaves_7 (by decide) ?_
  refine pw_iconst (v := -1) dX8_leaves_8 (by decide) ?_
  refine pw_cV3v 8 dX8_leaves_9 kX8_76 vX8_add iX8_add ⟨by decide, by decide⟩ ⟨rfl, rfl⟩ (by decide) rfl (Nat.le_of_ble_eq_true rfl) h.t (c_X8_add h hz1 (by omega) (by decide) (fun z2 hz2 => ?_))
  refine pw_iconst (v := nI 5) dX8_leaves_12 (by decide) ?_
  refine pw_istore_2 dX8_leaves_13 (by decide) ?_
  have hB : setS (setS B i (qtF (bS B i))) i (upd (bS (setS B i (qtF (bS B i))) i) 4 (bS (setS B i (qtF (bS B i))) i 4 + ((-1)))) = setS B i (lvJ (bS B i) w 0) := by
    simp only [setS_setS, bS_setS_s, lvJ_0]
    rw [qt_hi _ (by decide), hw, show nI w + -1 = nI (w - 1) from sb_m1 h0]
  rw [hB] at hz2
  refine pw_up (P := fun j => ∀ z, ZR z (setS B i (lvJ (bS B i) w j)) → PW X mX8_leaves 0 0 14 [some (.ref m), some (.int (nI i)), some (.int (nI (5 + j)))] [] σ (wC μ (m + 1) z) (LV Q)) (3 * (w - 1)) ?_ ?_ 0 (by omega) _ hz2
  · intro z9 hz9
    refine pw_iload_2 dX8_leaves_14 ?_
    refine pw_iconst (v := nI 5) dX8_leaves_15 (by decide) ?_
    refine pw_iconst (v := nI 3) dX8_leaves_16 (by decide) ?_
    refine pw_aload_0 dX8_leaves_17 ?_
    refine pw_iload_1 dX8_leaves_18 ?_
    refine pw_iconst (v := nI 4) dX8_leaves_19 (by decide) ?_
    refine pw_cV2i 8 dX8_leaves_20 kX8_40 vX8_at iX8_at ⟨by decide, by decide⟩ ⟨rfl, rfl⟩ (by decide) rfl (Nat.le_of_ble_eq_true rfl) h.t (c_X8_at h hz9 (by omega) (by decide) ?_)
    refine pw_top (show _ = nI (w - 1) by rw [bS_setS_s, lvJ_4]) ?_
    refine pw_imulN dX8_leaves_23 ?_
    refine pw_iaddN dX8_leaves_24 ?_
    refine pw_icmp_ge 48 dX8_leaves_25 (by decide) (fun _ => ?_) (fun hh => absurd (by rw [nI_leI (by omega) (by omega)]; omega) hh)
    refine pw_return dX8_leaves_48 rfl ?_
    rw [lvJ_F hw h4] at hz9
    exact q _ hz9
  · intro j hj ih z9 hz9
    refine pw_iload_2 dX8_leaves_14 ?_
    refine pw_iconst (v := nI 5) dX8_leaves_15 (by decide) ?_
    refine pw_iconst (v := nI 3) dX8_leaves_16 (by decide) ?_
    refine pw_aload_0 dX8_leaves_17 ?_
    refine pw_iload_1 dX8_leaves_18 ?_
    refine pw_iconst (v := nI 4) dX8_leaves_19 (by decide) ?_
    refine pw_cV2i 8 dX8_leaves_20 kX8_40 vX8_at iX8_at ⟨by decide, by decide⟩ ⟨rfl, rfl⟩ (by decide) rfl (Nat.le_of_ble_eq_true rfl) h.t (c_X8_at h hz9 (by omega) (by decide) ?_)
    refine pw_top (show _ = nI (w - 1) by rw [bS_setS_s, lvJ_4]) ?_
    refine pw_imulN dX8_leaves_23 ?_
    refine pw_iaddN dX8_leaves_24 ?_
    refine pw_icmp_ge 48 dX8_leaves_25 (by decide) (fun hh => absurd hh (by rw [nI_leI (by omega) (by omega)]; omega)) (fun _ => ?_)
    refine pw_aload_0 dX8_leaves_28 ?_
    refine pw_iload_1 dX8_leaves_29 ?_
    refine pw_iload_2 dX8_leaves_30 ?_
    refine pw_aload_0 dX8_leaves_31 ?_
    refine pw_iload_1 dX8_leaves_32 ?_
    refine pw_iload_2 dX8_leaves_33 ?_
    refine pw_iconst (v := nI 3) dX8_leaves_34 (by decide) ?_
    refine pw_iaddN dX8_leaves_35 ?_
    refine pw_cV2i 8 dX8_leaves_36 kX8_40 vX8_at iX8_at ⟨by decide, by decide⟩ ⟨rfl, rfl⟩ (by decide) rfl (Nat.le_of_ble_eq_true rfl) h.t (c_X8_at h hz9 (by omega) (by omega) ?_)
    refine pw_cV3v 8 dX8_leaves_39 kX8_55 vX8_lay iX8_lay ⟨by decide, by decide⟩ ⟨rfl, rfl⟩ (by decide) rfl (Nat.le_of_ble_eq_true rfl) h.t (c_X8_lay h hz9 (by omega) (by omega) (fun z3 hz3 => ?_))
    refine pw_iincN_2 dX8_leaves_42 (by decide) ?_
    refine pw_goto 14 dX8_leaves_45 (by decide) ?_
    refine ih _ (Eq.mp (congrArg (fun b => ZR z3 b) ?_) hz3)
    simp only [setS_setS, bS_setS_s]
    rw [lvJ_S _ _ (by omega)]
set_option maxRecDepth 100000 in
set_option maxHeartbeats 4000000 in
theorem c_X8_giveUp {X : Cx} {σ : Sp} {μ : Mm} {Q : Sp → Mm → Prop} {m i w x : Nat} {z : Nat → Int32} {B : Bs} (h : ShM σ m) (hz : ZR z B) (hi : i < 8) (hw : bS B i 4 = nI w) (h4 : w ≤ 4) (h0 : 0 < w) (hf : bS B i 6 = nI x) (hx : x < 6) (q : ∀ z', ZR z' (guB B i) → Q σ (wC μ (m + 1) z')) : CTv X mX8_giveUp [.ref m, .int (nI i)] σ ((wC μ (m + 1) z)) Q := by
  refine CT.of (by decide +kernel) (Nat.le_of_ble_eq_true rfl) ?_
  show PW X mX8_giveUp 0 0 0 [some (.ref m), some (.int (nI i))] [] σ ((wC μ (m + 1) z)) (LV Q)
  refine pw_aload_0 dX8_giveUp_0 ?_
  refine pw_iload_1 dX8_giveUp_1 ?_
  refine pw_bipush (v := nI 7) dX8_giveUp_2 (by decide) ?_
  refine pw_iconst (v := nI 1) dX8_giveUp_4 (by decide) ?_
  refine pw_cV3v 8 dX8_giveUp_5 kX8_76 vX8_add iX8_add ⟨by decide, by decide⟩ ⟨rfl, rfl⟩ (by decide) rfl (Nat.le_of_ble_eq_true rfl) h.t (c_X8_add h hz (by omega) (by decide) (fun z1 hz1 => ?_))
  refine pw_aload_0 dX8_giveUp_8 ?_
  refine pw_iload_1 dX8_giveUp_9 ?_
  refine pw_bipush (v := nI 22) dX8_giveUp_10 (by decide) ?_
  refine pw_iconst (v := nI 1) dX8_giveUp_12 (by decide) ?_
  refine pw_cV3v 8 dX8_giveUp_13 kX8_76 vX8_add iX8_add ⟨by decide, by decide⟩ ⟨rfl, rfl⟩ (by decide) rfl (Nat.le_of_ble_eq_true rfl) h.t (c_X8_add h hz1 (by omega) (by decide) (fun z2 hz2 => ?_))
  refine pw_aload_0 dX8_giveUp_16 ?_
  refine pw_iload_1 dX8_giveUp_17 ?_
  refine pw_cV1v 8 dX8_giveUp_18 kX8_86 vX8_quiet iX8_quiet ⟨by decide, by decide⟩ ⟨rfl, rfl⟩ (by decide) rfl (Nat.le_of_ble_eq_true rfl) h.t (c_X8_quiet h hz2 (by omega) (fun z3 hz3 => ?_))
  refine pw_aload_0 dX8_giveUp_21 ?_
  refine pw_iload_1 dX8_giveUp_22 ?_
  refine pw_bipush (v := nI 7) dX8_giveUp_23 (by decide) ?_
  refine pw_cV2i 8 dX8_giveUp_25 kX8_40 vX8_at iX8_at ⟨by decide, by decide⟩ ⟨rfl, rfl⟩ (by decide) rfl (Nat.le_of_ble_eq_true rfl) h.t (c_X8_at h hz3 (by omega) (by decide) ?_)
  refine pw_aload_0 dX8_giveUp_28 ?_
  refine pw_getr 8 0 dX8_giveUp_29 fX8_7 rfl (by decide) rfl h.t h.r0 ?_
  refine pw_iconst (v := nI 4) dX8_giveUp_32 (by decide) ?_
  refine pw_ialdN dX8_giveUp_33 h.a1 (by omega) (by decide) ?_
  refine pw_top (show _ = bG (setS (setS (setS B i (upd (bS B i) 7 (bS B i 7 + (nI 1)))) i (upd (bS (setS B i (upd (bS B i) 7 (bS B i 7 + (nI 1)))) i) 22 (bS (setS B i (upd (bS B i) 7 (bS B i 7 + (nI 1)))) i 22 + (nI 1)))) i (qtF (bS (setS (setS B i (upd (bS B i) 7 (bS B i 7 + (nI 1)))) i (upd (bS (setS B i (upd (bS B i) 7 (bS B i 7 + (nI 1)))) i) 22 (bS (setS B i (upd (bS B i) 7 (bS B i 7 + (nI 1)))) i 22 + (nI 1)))) i))) 4 from by rw [wC_self, hz3.g (by decide)]) ?_
  refine pw_icmp_lt 60 dX8_giveUp_34 (by decide) (fun h1 => ?_) (fun h1 => ?_)
  · skip
    refine pw_return dX8_giveUp_60 rfl ?_
    refine q _ (Eq.mp (congrArg (fun b => ZR z3 b) ?_) hz3)
    have e7 : guF (bS B i) 7 = bS B i 7 + nI 1 := by unfold guF; rw [qt_hi _ (by decide)]; rfl
    unfold guB
    rw [if_neg (fun hh => Int32.not_le.mpr h1 (by simpa [setS_setS, bS_setS_s, bG_setS, qtF, upd] using hh))]
    simp only [setS_setS, bS_setS_s]
    rfl
  · skip
    refine pw_aload_0 dX8_giveUp_37 ?_
    refine pw_iload_1 dX8_giveUp_38 ?_
    refine pw_bipush (v := nI 20) dX8_giveUp_39 (by decide) ?_
    refine pw_iconst (v := nI 1) dX8_giveUp_41 (by decide) ?_
    refine pw_cV3v 8 dX8_giveUp_42 kX8_76 vX8_add iX8_add ⟨by decide, by decide⟩ ⟨rfl, rfl⟩ (by decide) rfl (Nat.le_of_ble_eq_true rfl) h.t (c_X8_add h hz3 (by omega) (by decide) (fun z4 hz4 => ?_))
    refine pw_aload_0 dX8_giveUp_45 ?_
    refine pw_aload_0 dX8_giveUp_46 ?_
    refine pw_iload_1 dX8_giveUp_47 ?_
    refine pw_cV1i 8 dX8_giveUp_48 kX8_90 vX8_firstWire iX8_firstWire ⟨by decide, by decide⟩ ⟨rfl, rfl⟩ (by decide) rfl (Nat.le_of_ble_eq_true rfl) h.t (c_X8_firstWire h hz4 (by omega) ?_)
    refine pw_top (show _ = nI x by simp only [setS_setS, bS_setS_s]; simpa [qtF, upd] using hf) ?_
    refine pw_iconst (v := nI 3) dX8_giveUp_51 (by decide) ?_
    refine pw_cV2v 8 dX8_giveUp_52 kX8_93 vX8_tally iX8_tally ⟨by decide, by decide⟩ ⟨rfl, rfl⟩ (by decide) rfl (Nat.le_of_ble_eq_true rfl) h.t (c_X8_tally h hz4 (by omega) (by decide) (fun z5 hz5 => ?_))
    refine pw_aload_0 dX8_giveUp_55 ?_
    refine pw_iload_1 dX8_giveUp_56 ?_
    refine pw_cV1v 8 dX8_giveUp_57 kX8_97 vX8_leaves iX8_leaves ⟨by decide, by decide⟩ ⟨rfl, rfl⟩ (by decide) rfl (Nat.le_of_ble_eq_true rfl) h.t (c_X8_leaves h hz5 (by omega) (w := w) (by simp only [tyB, bS_setW, setS_setS, bS_setS_s]; simpa [qtF, upd] using hw) h4 h0 (fun z6 hz6 => ?_))
    refine pw_return dX8_giveUp_60 rfl ?_
    refine q _ (Eq.mp (congrArg (fun b => ZR z6 b) ?_) hz6)
    have e7 : guF (bS B i) 7 = bS B i 7 + nI 1 := by unfold guF; rw [qt_hi _ (by decide)]; rfl
    unfold guB
    rw [if_pos (by have := Int32.not_lt.mp h1; simpa [setS_setS, bS_setS_s, bG_setS, qtF, upd] using this)]
    simp only [lvB, tyB, bS_setW, bW_setS, setS_setW, setS_setS, bS_setS_s]
    unfold fwB
    rw [hf, nI_clamp (by omega)]
    rfl
end
section
/-! Bits of an Int32: the rows bt to b_sshr are a starting text, kit/laws/BITS.to-paste; sets as bits -/
def bt (x : Int32) (i : Nat) : Bool := x.toBitVec.getLsbD i
theorem b_ext {x y : Int32} (h : ∀ i, i < 32 → bt x i = bt y i) : x = y := Int32.toBitVec_inj.mp (BitVec.eq_of_getLsbD_eq (fun i hi => h i hi))
theorem b_or (x y : Int32) (i : Nat) : bt (x ||| y) i = (bt x i || bt y i) := by unfold bt; rw [Int32.toBitVec_or, BitVec.getLsbD_or]
theorem b_and (x y : Int32) (i : Nat) : bt (x &&& y) i = (bt x i && bt y i) := by unfold bt; rw [Int32.toBitVec_and, BitVec.getLsbD_and]
theorem b_xor (x y : Int32) (i : Nat) : bt (x ^^^ y) i = (bt x i ^^ bt y i) := by unfold bt; rw [Int32.toBitVec_xor, BitVec.getLsbD_xor]
theorem b_m1 : ∀ i, i < 32 → bt (-1) i = true := by decide +kernel
theorem b_0 (i : Nat) : bt 0 i = false := BitVec.getLsbD_zero
theorem s_l : ∀ n, n < 32 → ((nI n &&& 31).toBitVec.smod 32).toNat = n := by decide +kernel
theorem b_shl (n : Nat) (hn : n < 32) (x : Int32) {i : Nat} (hi : i < 32) : bt (x <<< (nI n &&& 31)) i = (decide (n ≤ i) && bt x (i - n)) := by
  unfold bt
  rw [Int32.toBitVec_shiftLeft]
  show (x.toBitVec <<< ((nI n &&& 31).toBitVec.smod 32).toNat).getLsbD i = _
  rw [s_l n hn, BitVec.getLsbD_shiftLeft]
  rcases Nat.lt_or_ge i n with h | h
  · simp [h, Nat.not_le.mpr h]
  · simp [hi, h, Nat.not_lt.mpr h]
theorem b_sshr (n : Nat) (hn : n < 32) (x : Int32) {i : Nat} (hi : i < 32) : bt (x >>> (nI n &&& 31)) i = if n + i < 32 then bt x (n + i) else bt x 31 := by
  unfold bt
  rw [Int32.toBitVec_shiftRight]
  show (x.toBitVec.sshiftRight ((nI n &&& 31).toBitVec.smod 32).toNat).getLsbD i = _
  rw [s_l n hn, BitVec.getLsbD_sshiftRight, BitVec.msb_eq_getLsbD_last]
  simp [hi]
theorem b_xm1 (x : Int32) {i : Nat} (hi : i < 32) : bt (x ^^^ (-1)) i = !bt x i := by
  rw [b_xor, b_m1 i hi]
  cases bt x i <;> rfl
theorem b_one : ∀ i, i < 32 → bt (nI 1) i = decide (i = 0) := by decide +kernel
theorem b_sh1 {n i : Nat} (hn : n < 32) (hi : i < 32) : bt (nI 1 <<< (nI n &&& 31)) i = decide (i = n) := by
  rw [b_shl n hn _ hi, b_one _ (by omega)]
  by_cases h : i = n
  · subst h
    simp
  · rw [decide_eq_false h]
    rcases Nat.lt_or_ge i n with h2 | h2
    · rw [decide_eq_false (by omega), Bool.false_and]
    · rw [decide_eq_true h2, Bool.true_and, decide_eq_false (by omega)]
theorem b_and1 (z : Int32) : z &&& nI 1 = if bt z 0 = true then nI 1 else nI 0 := by
  refine b_ext fun i hi => ?_
  rw [b_and, b_one i hi]
  by_cases h : i = 0
  · subst h
    cases hz : bt z 0
    · rw [if_neg (by decide)]
      exact (b_0 0).symm
    · rw [if_pos rfl, b_one 0 (by decide)]
      rfl
  · rw [decide_eq_false h, Bool.and_false]
    split
    · rw [b_one i hi, decide_eq_false h]
    · exact (b_0 i).symm
theorem bi_if (x : Int32) {j : Nat} (hj : j < 32) : bi x (nI j) = if bt x j = true then nI 1 else nI 0 := by
  unfold bi
  rw [b_and1, b_sshr j hj x (by decide), if_pos (show j + 0 < 32 by omega)]
  rfl
theorem bi_01 (x y : Int32) : bi x y = nI 0 ∨ bi x y = nI 1 := by
  unfold bi
  rw [b_and1]
  split
  · exact Or.inr rfl
  · exact Or.inl rfl
theorem bi_1 {x : Int32} {j : Nat} (hj : j < 32) : bi x (nI j) = nI 1 ↔ bt x j = true := by
  rw [bi_if x hj]
  by_cases h : bt x j = true
  · rw [if_pos h]
    exact ⟨fun _ => h, fun _ => rfl⟩
  · rw [if_neg h]
    exact ⟨fun hh => absurd hh (by decide), fun hh => absurd hh h⟩
theorem bi_n1 {x y : Int32} (h : bi x y ≠ nI 1) : bi x y = nI 0 := (bi_01 x y).resolve_right h
theorem bi_n0 {x y : Int32} (h : bi x y ≠ nI 0) : bi x y = nI 1 := (bi_01 x y).resolve_left h
theorem bi_10 {x y : Int32} (h : bi x y = nI 1) : bi x y ≠ nI 0 := by rw [h]; decide
theorem bi_z (j : Nat) (hj : j < 32) : bi (nI 0) (nI j) = nI 0 := by
  rw [bi_if _ hj, if_neg]
  rw [show bt (nI 0) j = false from b_0 j]
  decide
theorem msk_bt {p : Nat → Prop} : ∀ {n : Nat}, n ≤ 31 → ∀ {i : Nat}, i < 32 → (bt (msk p n) i = true ↔ i < n ∧ p i)
  | 0, _, i, _ => ⟨fun h => by (rw [show msk p 0 = 0 from rfl, b_0] at h; cases h), fun h => absurd h.1 (by omega)⟩
  | n + 1, hn, i, hi => by
    have ih := msk_bt (p := p) (n := n) (by omega) hi
    by_cases hp : p n
    · rw [msk_y hp, b_or, b_sh1 (by omega) hi]
      by_cases h : i = n
      · subst h
        simp [hp]
      · rw [decide_eq_false h, Bool.or_false, ih]
        constructor
        · exact fun q => ⟨by omega, q.2⟩
        · exact fun q => ⟨by omega, q.2⟩
    · rw [msk_n hp, ih]
      constructor
      · exact fun q => ⟨by omega, q.2⟩
      · rintro ⟨q1, q2⟩
        refine ⟨?_, q2⟩
        rcases Nat.lt_or_ge i n with h | h
        · exact h
        · have : i = n := by omega
          subst this
          exact absurd q2 hp
theorem msk_of {x : Int32} {p : Nat → Prop} {n : Nat} (hn : n ≤ 31) (h : ∀ i, i < 32 → (bt x i = true ↔ i < n ∧ p i)) : x = msk p n :=
  b_ext fun i hi => Bool.eq_iff_iff.mpr ((h i hi).trans (msk_bt hn hi).symm)
theorem msk_bi {p : Nat → Prop} {n i : Nat} (hn : n ≤ 31) (hi : i < n) : bi (msk p n) (nI i) = nI 1 ↔ p i := by
  rw [bi_1 (by omega), msk_bt hn (by omega)]
  exact ⟨fun h => h.2, fun h => ⟨hi, h⟩⟩
theorem msk_and {p q : Nat → Prop} {n : Nat} (hn : n ≤ 31) : msk p n &&& msk q n = msk (fun i => p i ∧ q i) n := by
  refine msk_of hn fun i hi => ?_
  rw [b_and, Bool.and_eq_true, msk_bt hn hi, msk_bt hn hi]
  exact ⟨fun h => ⟨h.1.1, h.1.2, h.2.2⟩, fun h => ⟨⟨h.1, h.2.1⟩, h.1, h.2.2⟩⟩
theorem and_msk {x : Int32} {p : Nat → Prop} {n : Nat} (hn : n ≤ 31) : x &&& msk p n = msk (fun i => bi x (nI i) = nI 1 ∧ p i) n := by
  refine msk_of hn fun i hi => ?_
  rw [b_and, Bool.and_eq_true, msk_bt hn hi, bi_1 hi]
  exact ⟨fun h => ⟨h.2.1, h.1, h.2.2⟩, fun h => ⟨h.2.1, h.1, h.2.2⟩⟩
theorem msk_or1 {p : Nat → Prop} {n w : Nat} (hn : n ≤ 31) (hw : w < n) : msk p n ||| (nI 1 <<< (nI w &&& 31)) = msk (fun i => p i ∨ w = i) n := by
  refine msk_of hn fun i hi => ?_
  rw [b_or, Bool.or_eq_true, msk_bt hn hi, b_sh1 (by omega) hi, decide_eq_true_iff]
  constructor
  · rintro (h | h)
    · exact ⟨h.1, Or.inl h.2⟩
    · exact ⟨by omega, Or.inr h.symm⟩
  · rintro ⟨h1, h | h⟩
    · exact Or.inl ⟨h1, h⟩
    · exact Or.inr h.symm
theorem msk_x1 {p : Nat → Prop} {n w : Nat} (hn : n ≤ 31) (hw : w < n) : msk p n ^^^ (nI 1 <<< (nI w &&& 31)) = msk (fun i => (w = i ∧ ¬ p i) ∨ (w ≠ i ∧ p i)) n := by
  refine msk_of hn fun i hi => ?_
  rw [b_xor, b_sh1 (by omega) hi]
  by_cases h : i = w
  · subst h
    rw [decide_eq_true rfl]
    have h2 := msk_bt (p := p) hn hi
    cases hb : bt (msk p n) i
    · rw [hb] at h2
      refine ⟨fun _ => ⟨hw, Or.inl ⟨rfl, fun hp => ?_⟩⟩, fun _ => rfl⟩
      exact absurd (h2.mpr ⟨hw, hp⟩) (by decide)
    · rw [hb] at h2
      refine ⟨fun h => (by cases h), ?_⟩
      rintro ⟨_, h | h⟩
      · exact absurd (h2.mp rfl).2 h.2
      · exact absurd rfl h.1
  · rw [decide_eq_false h, Bool.xor_false, msk_bt hn hi]
    exact ⟨fun q => ⟨q.1, Or.inr ⟨Ne.symm h, q.2⟩⟩, fun q => ⟨q.1, q.2.elim (fun r => absurd r.1.symm h) (fun r => r.2)⟩⟩
theorem msk_hi {p q : Nat → Prop} : nI 63 &&& ((msk p 6 ||| msk q 6) ^^^ (-1)) = msk (fun w => ¬ (p w ∨ q w)) 6 := by
  refine msk_of (by decide) fun i hi => ?_
  have h63 : ∀ i, i < 32 → bt (nI 63) i = decide (i < 6) := by decide +kernel
  rw [b_and, b_xm1 _ hi, b_or, h63 i hi, Bool.and_eq_true, decide_eq_true_iff, Bool.not_eq_true', Bool.or_eq_false_iff]
  constructor
  · rintro ⟨h1, h2, h3⟩
    refine ⟨h1, ?_⟩
    rintro (h | h)
    · rw [(msk_bt (by decide) hi).mpr ⟨h1, h⟩] at h2
      cases h2
    · rw [(msk_bt (by decide) hi).mpr ⟨h1, h⟩] at h3
      cases h3
  · rintro ⟨h1, h2⟩
    refine ⟨h1, ?_, ?_⟩
    · exact Bool.eq_false_iff.mpr fun h => h2 (Or.inl ((msk_bt (by decide) hi).mp h).2)
    · exact Bool.eq_false_iff.mpr fun h => h2 (Or.inr ((msk_bt (by decide) hi).mp h).2)
theorem i0_bits {x : Int32} : x = 0 ↔ ∀ i, i < 32 → bt x i = false :=
  ⟨fun h i _ => by rw [h]; exact b_0 i, fun h => b_ext fun i hi => by rw [h i hi]; exact (b_0 i).symm⟩
theorem sh1_msk {p : Nat → Prop} {n w : Nat} (hn : n ≤ 31) (hw : w < n) : (nI 1 <<< (nI w &&& 31)) &&& msk p n = 0 ↔ ¬ p w := by
  rw [i0_bits]
  constructor
  · intro h hp
    have := h w (by omega)
    rw [b_and, b_sh1 (by omega) (by omega), decide_eq_true rfl, Bool.true_and, (msk_bt hn (by omega)).mpr ⟨hw, hp⟩] at this
    cases this
  · intro h i hi
    rw [b_and, b_sh1 (by omega) hi]
    by_cases e : i = w
    · subst e
      rw [decide_eq_true rfl, Bool.true_and]
      exact Bool.eq_false_iff.mpr fun hh => h ((msk_bt hn hi).mp hh).2
    · rw [decide_eq_false e, Bool.false_and]
theorem sub_msk {x : Int32} {q : Nat → Prop} {n : Nat} (hn : n ≤ 31) (hx : ∀ i, i < 32 → bt x i = true → i < n) : x &&& (msk q n ^^^ (-1)) = 0 ↔ ∀ s, s < n → bi x (nI s) = nI 1 → q s := by
  rw [i0_bits]
  constructor
  · intro h s hs hb
    have := h s (by omega)
    rw [b_and, b_xm1 _ (by omega), (bi_1 (by omega)).mp hb, Bool.true_and, Bool.not_eq_false'] at this
    exact ((msk_bt hn (by omega)).mp this).2
  · intro h i hi
    rw [b_and, b_xm1 _ hi]
    cases hb : bt x i
    · rfl
    · rw [Bool.true_and, (msk_bt hn hi).mpr ⟨hx i hi hb, h i (hx i hi hb) ((bi_1 hi).mpr hb)⟩]
      rfl
theorem msk_sub {p : Nat → Prop} {n : Nat} (hn : n ≤ 31) : ∀ i, i < 32 → bt (msk p n) i = true → i < n := fun _ hi h => ((msk_bt hn hi).mp h).1
/-- all but one -/
theorem bi_but {x : Int32} {i s : Nat} (hi : i < 32) (hs : s < 32) : bi (x &&& ((nI 1 <<< (nI i &&& 31)) ^^^ (-1))) (nI s) = nI 1 ↔ s ≠ i ∧ bi x (nI s) = nI 1 := by
  rw [bi_1 hs, bi_1 hs, b_and, b_xm1 _ hs, b_sh1 hi hs, Bool.and_eq_true, Bool.not_eq_true', decide_eq_false_iff_not]
  exact And.comm
theorem msk_0 {p : Nat → Prop} {n : Nat} (h : ∀ i, i < n → ¬ p i) : msk p n = nI 0 := by
  induction n with
  | zero => rfl
  | succ n ih =>
    rw [msk_n (h n (by omega))]
    exact ih fun i hi => h i (by omega)
theorem msk_ne0 {p : Nat → Prop} {n i : Nat} (hn : n ≤ 31) (hi : i < n) (h : p i) : msk p n ≠ nI 0 := by
  intro e
  have := (msk_bt (p := p) hn (i := i) (by omega)).mpr ⟨hi, h⟩
  rw [e] at this
  rw [show bt (nI 0) i = false from b_0 i] at this
  cases this
/-- how many -/
noncomputable def cntP (p : Nat → Prop) : Nat → Nat
  | 0 => 0
  | n + 1 => cntP p n + @ite _ (p n) (Classical.propDecidable _) 1 0
theorem cntP_y {p : Nat → Prop} {n : Nat} (h : p n) : cntP p (n + 1) = cntP p n + 1 := by simp [cntP, h]
theorem cntP_n {p : Nat → Prop} {n : Nat} (h : ¬ p n) : cntP p (n + 1) = cntP p n := by simp [cntP, h]
theorem cntP_cong {p q : Nat → Prop} : ∀ {n : Nat}, (∀ i, i < n → (p i ↔ q i)) → cntP p n = cntP q n
  | 0, _ => rfl
  | n + 1, h => by
    have ih := cntP_cong (n := n) (fun i hi => h i (by omega))
    by_cases hp : p n
    · rw [cntP_y hp, cntP_y ((h n (by omega)).mp hp), ih]
    · rw [cntP_n hp, cntP_n (fun hq => hp ((h n (by omega)).mpr hq)), ih]
theorem cntP_le (p : Nat → Prop) : ∀ n, cntP p n ≤ n
  | 0 => Nat.le_refl _
  | n + 1 => by
    have := cntP_le p n
    by_cases h : p n
    · rw [cntP_y h]
      omega
    · rw [cntP_n h]
      omega
noncomputable def cif {α : Type} (p : Prop) (a b : α) : α := @ite α p (Classical.propDecidable p) a b
theorem cif_y {α : Type} {p : Prop} {a b : α} (h : p) : cif p a b = a := by simp [cif, h]
theorem cif_n {α : Type} {p : Prop} {a b : α} (h : ¬ p) : cif p a b = b := by simp [cif, h]
theorem cif_cong {α : Type} {p q : Prop} {a b : α} (h : p ↔ q) : cif p a b = cif q a b := by
  rw [show p = q from propext h]
end
