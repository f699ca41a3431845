section
-- ===== PART A: goes FIRST, ahead of the names: the tables' words, and 'selects' of the private methods out of them =====
/-- a private method of a class that the tables say can be made, by its rows of tables_1 -/
def lw_okq (q : MethodName × Nat) : Prop := (q.1.cls ≠ "java/lang/invoke/MethodHandle" ∧ q.1.cls ≠ "java/lang/invoke/VarHandle") ∧ Cond.instantiable q.1.cls q.2 ∈ tables_1 ∧ Cond.privateMethod q.1 ∈ tables_1 ∧ Cond.instanceMethod q.1 ∈ tables_1
theorem lw_p0 : lw_okq (⟨"SumsOver", "forget", "()V"⟩, 7) := ⟨⟨by decide +kernel, by decide +kernel⟩, List.mem_of_getElem? (i := 13) (by decide +kernel), List.mem_of_getElem? (i := 297) (by decide +kernel), List.mem_of_getElem? (i := 298) (by decide +kernel)⟩
theorem lw_p1 : lw_okq (⟨"SumsOver", "canFollow", "(I)Z"⟩, 7) := ⟨⟨by decide +kernel, by decide +kernel⟩, List.mem_of_getElem? (i := 13) (by decide +kernel), List.mem_of_getElem? (i := 314) (by decide +kernel), List.mem_of_getElem? (i := 315) (by decide +kernel)⟩
theorem lw_p2 : lw_okq (⟨"SumsOver$Steps", "retrace", "()V"⟩, 9) := ⟨⟨by decide +kernel, by decide +kernel⟩, List.mem_of_getElem? (i := 83) (by decide +kernel), List.mem_of_getElem? (i := 344) (by decide +kernel), List.mem_of_getElem? (i := 345) (by decide +kernel)⟩
theorem lw_p3 : lw_okq (⟨"SumsOver$Steps", "endOf", "(I)I"⟩, 9) := ⟨⟨by decide +kernel, by decide +kernel⟩, List.mem_of_getElem? (i := 83) (by decide +kernel), List.mem_of_getElem? (i := 348) (by decide +kernel), List.mem_of_getElem? (i := 349) (by decide +kernel)⟩
theorem lw_p4 : lw_okq (⟨"SumsOver$Steps", "trace", "(II)V"⟩, 9) := ⟨⟨by decide +kernel, by decide +kernel⟩, List.mem_of_getElem? (i := 83) (by decide +kernel), List.mem_of_getElem? (i := 352) (by decide +kernel), List.mem_of_getElem? (i := 353) (by decide +kernel)⟩
theorem lw_p5 : lw_okq (⟨"SumsOver$Names", "wrapped", "(IJ)J"⟩, 5) := ⟨⟨by decide +kernel, by decide +kernel⟩, List.mem_of_getElem? (i := 21) (by decide +kernel), List.mem_of_getElem? (i := 398) (by decide +kernel), List.mem_of_getElem? (i := 399) (by decide +kernel)⟩
theorem lw_p6 : lw_okq (⟨"SumsOver$Runner", "perform", "(I)V"⟩, 6) := ⟨⟨by decide +kernel, by decide +kernel⟩, List.mem_of_getElem? (i := 136) (by decide +kernel), List.mem_of_getElem? (i := 405) (by decide +kernel), List.mem_of_getElem? (i := 406) (by decide +kernel)⟩
theorem lw_p7 : lw_okq (⟨"SumsOver$Runner", "answer", "(I)J"⟩, 6) := ⟨⟨by decide +kernel, by decide +kernel⟩, List.mem_of_getElem? (i := 136) (by decide +kernel), List.mem_of_getElem? (i := 409) (by decide +kernel), List.mem_of_getElem? (i := 410) (by decide +kernel)⟩
theorem lw_p8 : lw_okq (⟨"SumsOver$Runner", "noteOver", "(I)V"⟩, 6) := ⟨⟨by decide +kernel, by decide +kernel⟩, List.mem_of_getElem? (i := 136) (by decide +kernel), List.mem_of_getElem? (i := 440) (by decide +kernel), List.mem_of_getElem? (i := 441) (by decide +kernel)⟩
theorem lw_p9 : lw_okq (⟨"SumsOver", "isStep", "(I)Z"⟩, 7) := ⟨⟨by decide +kernel, by decide +kernel⟩, List.mem_of_getElem? (i := 13) (by decide +kernel), List.mem_of_getElem? (i := 452) (by decide +kernel), List.mem_of_getElem? (i := 453) (by decide +kernel)⟩
theorem lw_p10 : lw_okq (⟨"SumsOver$Reach", "settle", "(I)V"⟩, 9) := ⟨⟨by decide +kernel, by decide +kernel⟩, List.mem_of_getElem? (i := 198) (by decide +kernel), List.mem_of_getElem? (i := 461) (by decide +kernel), List.mem_of_getElem? (i := 462) (by decide +kernel)⟩
theorem lw_p11 : lw_okq (⟨"SumsOver$Reach", "fits", "(I)Z"⟩, 9) := ⟨⟨by decide +kernel, by decide +kernel⟩, List.mem_of_getElem? (i := 198) (by decide +kernel), List.mem_of_getElem? (i := 465) (by decide +kernel), List.mem_of_getElem? (i := 466) (by decide +kernel)⟩
theorem lw_p12 : lw_okq (⟨"SumsOver$Reach", "perform", "(I)V"⟩, 9) := ⟨⟨by decide +kernel, by decide +kernel⟩, List.mem_of_getElem? (i := 198) (by decide +kernel), List.mem_of_getElem? (i := 471) (by decide +kernel), List.mem_of_getElem? (i := 472) (by decide +kernel)⟩
theorem lw_p13 : lw_okq (⟨"SumsOver$Reach", "reckon", "(I)V"⟩, 9) := ⟨⟨by decide +kernel, by decide +kernel⟩, List.mem_of_getElem? (i := 198) (by decide +kernel), List.mem_of_getElem? (i := 475) (by decide +kernel), List.mem_of_getElem? (i := 476) (by decide +kernel)⟩
theorem lw_p14 : lw_okq (⟨"SumsOver$Tally", "note", "(I)V"⟩, 7) := ⟨⟨by decide +kernel, by decide +kernel⟩, List.mem_of_getElem? (i := 165) (by decide +kernel), List.mem_of_getElem? (i := 493) (by decide +kernel), List.mem_of_getElem? (i := 494) (by decide +kernel)⟩
theorem lw_p15 : lw_okq (⟨"SumsOver$Tally", "noteOver", "(II)V"⟩, 7) := ⟨⟨by decide +kernel, by decide +kernel⟩, List.mem_of_getElem? (i := 165) (by decide +kernel), List.mem_of_getElem? (i := 497) (by decide +kernel), List.mem_of_getElem? (i := 498) (by decide +kernel)⟩
def lw_privs_1 : List (MethodName × Nat) := [(⟨"SumsOver", "forget", "()V"⟩, 7), (⟨"SumsOver", "canFollow", "(I)Z"⟩, 7), (⟨"SumsOver$Steps", "retrace", "()V"⟩, 9), (⟨"SumsOver$Steps", "endOf", "(I)I"⟩, 9), (⟨"SumsOver$Steps", "trace", "(II)V"⟩, 9), (⟨"SumsOver$Names", "wrapped", "(IJ)J"⟩, 5), (⟨"SumsOver$Runner", "perform", "(I)V"⟩, 6), (⟨"SumsOver$Runner", "answer", "(I)J"⟩, 6), (⟨"SumsOver$Runner", "noteOver", "(I)V"⟩, 6), (⟨"SumsOver", "isStep", "(I)Z"⟩, 7), (⟨"SumsOver$Reach", "settle", "(I)V"⟩, 9), (⟨"SumsOver$Reach", "fits", "(I)Z"⟩, 9), (⟨"SumsOver$Reach", "perform", "(I)V"⟩, 9), (⟨"SumsOver$Reach", "reckon", "(I)V"⟩, 9), (⟨"SumsOver$Tally", "note", "(I)V"⟩, 7), (⟨"SumsOver$Tally", "noteOver", "(II)V"⟩, 7)]
theorem lw_r1 : ∀ q ∈ lw_privs_1, lw_okq q := List.forall_mem_cons.mpr ⟨lw_p0, List.forall_mem_cons.mpr ⟨lw_p1, List.forall_mem_cons.mpr ⟨lw_p2, List.forall_mem_cons.mpr ⟨lw_p3, List.forall_mem_cons.mpr ⟨lw_p4, List.forall_mem_cons.mpr ⟨lw_p5, List.forall_mem_cons.mpr ⟨lw_p6, List.forall_mem_cons.mpr ⟨lw_p7, List.forall_mem_cons.mpr ⟨lw_p8, List.forall_mem_cons.mpr ⟨lw_p9, List.forall_mem_cons.mpr ⟨lw_p10, List.forall_mem_cons.mpr ⟨lw_p11, List.forall_mem_cons.mpr ⟨lw_p12, List.forall_mem_cons.mpr ⟨lw_p13, List.forall_mem_cons.mpr ⟨lw_p14, List.forall_mem_cons.mpr ⟨lw_p15, fun _ h => absurd h List.not_mem_nil⟩⟩⟩⟩⟩⟩⟩⟩⟩⟩⟩⟩⟩⟩⟩⟩
theorem lw_p16 : lw_okq (⟨"SumsOver$Tally", "noteTurned", "(I)V"⟩, 7) := ⟨⟨by decide +kernel, by decide +kernel⟩, List.mem_of_getElem? (i := 165) (by decide +kernel), List.mem_of_getElem? (i := 501) (by decide +kernel), List.mem_of_getElem? (i := 502) (by decide +kernel)⟩
theorem lw_p17 : lw_okq (⟨"SumsOver", "judged", "(I)I"⟩, 7) := ⟨⟨by decide +kernel, by decide +kernel⟩, List.mem_of_getElem? (i := 13) (by decide +kernel), List.mem_of_getElem? (i := 505) (by decide +kernel), List.mem_of_getElem? (i := 506) (by decide +kernel)⟩
theorem lw_p18 : lw_okq (⟨"SumsOver$Trues", "follow", "(II)V"⟩, 7) := ⟨⟨by decide +kernel, by decide +kernel⟩, List.mem_of_getElem? (i := 235) (by decide +kernel), List.mem_of_getElem? (i := 542) (by decide +kernel), List.mem_of_getElem? (i := 543) (by decide +kernel)⟩
theorem lw_p19 : lw_okq (⟨"SumsOver$Trues", "give", "(IJ)V"⟩, 7) := ⟨⟨by decide +kernel, by decide +kernel⟩, List.mem_of_getElem? (i := 235) (by decide +kernel), List.mem_of_getElem? (i := 546) (by decide +kernel), List.mem_of_getElem? (i := 547) (by decide +kernel)⟩
theorem lw_p20 : lw_okq (⟨"SumsOver$Trues", "perform", "(I)V"⟩, 7) := ⟨⟨by decide +kernel, by decide +kernel⟩, List.mem_of_getElem? (i := 235) (by decide +kernel), List.mem_of_getElem? (i := 556) (by decide +kernel), List.mem_of_getElem? (i := 557) (by decide +kernel)⟩
theorem lw_p21 : lw_okq (⟨"SumsOver", "needed", "(I)I"⟩, 7) := ⟨⟨by decide +kernel, by decide +kernel⟩, List.mem_of_getElem? (i := 13) (by decide +kernel), List.mem_of_getElem? (i := 566) (by decide +kernel), List.mem_of_getElem? (i := 567) (by decide +kernel)⟩
theorem lw_p22 : lw_okq (⟨"SumsOver", "canMend", "()Z"⟩, 7) := ⟨⟨by decide +kernel, by decide +kernel⟩, List.mem_of_getElem? (i := 13) (by decide +kernel), List.mem_of_getElem? (i := 576) (by decide +kernel), List.mem_of_getElem? (i := 577) (by decide +kernel)⟩
theorem lw_p23 : lw_okq (⟨"SumsOver", "isListed", "(I)Z"⟩, 7) := ⟨⟨by decide +kernel, by decide +kernel⟩, List.mem_of_getElem? (i := 13) (by decide +kernel), List.mem_of_getElem? (i := 593) (by decide +kernel), List.mem_of_getElem? (i := 594) (by decide +kernel)⟩
theorem lw_p24 : lw_okq (⟨"SumsOver", "listedBefore", "(I)I"⟩, 7) := ⟨⟨by decide +kernel, by decide +kernel⟩, List.mem_of_getElem? (i := 13) (by decide +kernel), List.mem_of_getElem? (i := 597) (by decide +kernel), List.mem_of_getElem? (i := 598) (by decide +kernel)⟩
theorem lw_p25 : lw_okq (⟨"SumsOver", "comesBefore", "(II)Z"⟩, 7) := ⟨⟨by decide +kernel, by decide +kernel⟩, List.mem_of_getElem? (i := 13) (by decide +kernel), List.mem_of_getElem? (i := 601) (by decide +kernel), List.mem_of_getElem? (i := 602) (by decide +kernel)⟩
theorem lw_p26 : lw_okq (⟨"SumsOverModel", "canBe", "(IIII)Z"⟩, 26) := ⟨⟨by decide +kernel, by decide +kernel⟩, List.mem_of_getElem? (i := 613) (by decide +kernel), List.mem_of_getElem? (i := 721) (by decide +kernel), List.mem_of_getElem? (i := 722) (by decide +kernel)⟩
theorem lw_p27 : lw_okq (⟨"SumsOverModel", "isOpen", "()Z"⟩, 26) := ⟨⟨by decide +kernel, by decide +kernel⟩, List.mem_of_getElem? (i := 613) (by decide +kernel), List.mem_of_getElem? (i := 726) (by decide +kernel), List.mem_of_getElem? (i := 727) (by decide +kernel)⟩
theorem lw_p28 : lw_okq (⟨"SumsOverModel", "isRun", "(II)Z"⟩, 26) := ⟨⟨by decide +kernel, by decide +kernel⟩, List.mem_of_getElem? (i := 613) (by decide +kernel), List.mem_of_getElem? (i := 742) (by decide +kernel), List.mem_of_getElem? (i := 743) (by decide +kernel)⟩
theorem lw_p29 : lw_okq (⟨"SumsOverModel", "lays", "()V"⟩, 26) := ⟨⟨by decide +kernel, by decide +kernel⟩, List.mem_of_getElem? (i := 613) (by decide +kernel), List.mem_of_getElem? (i := 747) (by decide +kernel), List.mem_of_getElem? (i := 748) (by decide +kernel)⟩
theorem lw_p30 : lw_okq (⟨"SumsOverModel", "runs", "(II)V"⟩, 26) := ⟨⟨by decide +kernel, by decide +kernel⟩, List.mem_of_getElem? (i := 613) (by decide +kernel), List.mem_of_getElem? (i := 751) (by decide +kernel), List.mem_of_getElem? (i := 752) (by decide +kernel)⟩
theorem lw_p31 : lw_okq (⟨"SumsOverModel", "put", "(IJ)J"⟩, 26) := ⟨⟨by decide +kernel, by decide +kernel⟩, List.mem_of_getElem? (i := 613) (by decide +kernel), List.mem_of_getElem? (i := 755) (by decide +kernel), List.mem_of_getElem? (i := 756) (by decide +kernel)⟩
def lw_privs_2 : List (MethodName × Nat) := [(⟨"SumsOver$Tally", "noteTurned", "(I)V"⟩, 7), (⟨"SumsOver", "judged", "(I)I"⟩, 7), (⟨"SumsOver$Trues", "follow", "(II)V"⟩, 7), (⟨"SumsOver$Trues", "give", "(IJ)V"⟩, 7), (⟨"SumsOver$Trues", "perform", "(I)V"⟩, 7), (⟨"SumsOver", "needed", "(I)I"⟩, 7), (⟨"SumsOver", "canMend", "()Z"⟩, 7), (⟨"SumsOver", "isListed", "(I)Z"⟩, 7), (⟨"SumsOver", "listedBefore", "(I)I"⟩, 7), (⟨"SumsOver", "comesBefore", "(II)Z"⟩, 7), (⟨"SumsOverModel", "canBe", "(IIII)Z"⟩, 26), (⟨"SumsOverModel", "isOpen", "()Z"⟩, 26), (⟨"SumsOverModel", "isRun", "(II)Z"⟩, 26), (⟨"SumsOverModel", "lays", "()V"⟩, 26), (⟨"SumsOverModel", "runs", "(II)V"⟩, 26), (⟨"SumsOverModel", "put", "(IJ)J"⟩, 26)]
theorem lw_r2 : ∀ q ∈ lw_privs_2, lw_okq q := List.forall_mem_cons.mpr ⟨lw_p16, List.forall_mem_cons.mpr ⟨lw_p17, List.forall_mem_cons.mpr ⟨lw_p18, List.forall_mem_cons.mpr ⟨lw_p19, List.forall_mem_cons.mpr ⟨lw_p20, List.forall_mem_cons.mpr ⟨lw_p21, List.forall_mem_cons.mpr ⟨lw_p22, List.forall_mem_cons.mpr ⟨lw_p23, List.forall_mem_cons.mpr ⟨lw_p24, List.forall_mem_cons.mpr ⟨lw_p25, List.forall_mem_cons.mpr ⟨lw_p26, List.forall_mem_cons.mpr ⟨lw_p27, List.forall_mem_cons.mpr ⟨lw_p28, List.forall_mem_cons.mpr ⟨lw_p29, List.forall_mem_cons.mpr ⟨lw_p30, List.forall_mem_cons.mpr ⟨lw_p31, fun _ h => absurd h List.not_mem_nil⟩⟩⟩⟩⟩⟩⟩⟩⟩⟩⟩⟩⟩⟩⟩⟩
theorem lw_p32 : lw_okq (⟨"SumsOverModel", "low", "(I)J"⟩, 26) := ⟨⟨by decide +kernel, by decide +kernel⟩, List.mem_of_getElem? (i := 613) (by decide +kernel), List.mem_of_getElem? (i := 759) (by decide +kernel), List.mem_of_getElem? (i := 760) (by decide +kernel)⟩
theorem lw_p33 : lw_okq (⟨"SumsOverModel", "high", "(I)J"⟩, 26) := ⟨⟨by decide +kernel, by decide +kernel⟩, List.mem_of_getElem? (i := 613) (by decide +kernel), List.mem_of_getElem? (i := 763) (by decide +kernel), List.mem_of_getElem? (i := 764) (by decide +kernel)⟩
theorem lw_p34 : lw_okq (⟨"SumsOverModel", "valueOf", "(I)J"⟩, 26) := ⟨⟨by decide +kernel, by decide +kernel⟩, List.mem_of_getElem? (i := 613) (by decide +kernel), List.mem_of_getElem? (i := 770) (by decide +kernel), List.mem_of_getElem? (i := 771) (by decide +kernel)⟩
theorem lw_p35 : lw_okq (⟨"SumsOverModel", "belowOf", "(I)Z"⟩, 26) := ⟨⟨by decide +kernel, by decide +kernel⟩, List.mem_of_getElem? (i := 613) (by decide +kernel), List.mem_of_getElem? (i := 775) (by decide +kernel), List.mem_of_getElem? (i := 776) (by decide +kernel)⟩
theorem lw_p36 : lw_okq (⟨"SumsOverModel", "goesOver", "(IJ)Z"⟩, 26) := ⟨⟨by decide +kernel, by decide +kernel⟩, List.mem_of_getElem? (i := 613) (by decide +kernel), List.mem_of_getElem? (i := 780) (by decide +kernel), List.mem_of_getElem? (i := 781) (by decide +kernel)⟩
theorem lw_p37 : lw_okq (⟨"SumsOverModel", "spans", "()V"⟩, 26) := ⟨⟨by decide +kernel, by decide +kernel⟩, List.mem_of_getElem? (i := 613) (by decide +kernel), List.mem_of_getElem? (i := 792) (by decide +kernel), List.mem_of_getElem? (i := 793) (by decide +kernel)⟩
theorem lw_p38 : lw_okq (⟨"SumsOverModel", "ends", "(IJJ)Z"⟩, 26) := ⟨⟨by decide +kernel, by decide +kernel⟩, List.mem_of_getElem? (i := 613) (by decide +kernel), List.mem_of_getElem? (i := 796) (by decide +kernel), List.mem_of_getElem? (i := 797) (by decide +kernel)⟩
theorem lw_p39 : lw_okq (⟨"SumsOverModel", "goes", "(I)Z"⟩, 26) := ⟨⟨by decide +kernel, by decide +kernel⟩, List.mem_of_getElem? (i := 613) (by decide +kernel), List.mem_of_getElem? (i := 800) (by decide +kernel), List.mem_of_getElem? (i := 801) (by decide +kernel)⟩
theorem lw_p40 : lw_okq (⟨"SumsOverModel", "products", "(I)Z"⟩, 26) := ⟨⟨by decide +kernel, by decide +kernel⟩, List.mem_of_getElem? (i := 613) (by decide +kernel), List.mem_of_getElem? (i := 804) (by decide +kernel), List.mem_of_getElem? (i := 805) (by decide +kernel)⟩
theorem lw_p41 : lw_okq (⟨"SumsOverModel", "belows", "(I)Z"⟩, 26) := ⟨⟨by decide +kernel, by decide +kernel⟩, List.mem_of_getElem? (i := 613) (by decide +kernel), List.mem_of_getElem? (i := 809) (by decide +kernel), List.mem_of_getElem? (i := 810) (by decide +kernel)⟩
theorem lw_p42 : lw_okq (⟨"SumsOverModel", "isStep", "(I)Z"⟩, 26) := ⟨⟨by decide +kernel, by decide +kernel⟩, List.mem_of_getElem? (i := 613) (by decide +kernel), List.mem_of_getElem? (i := 817) (by decide +kernel), List.mem_of_getElem? (i := 818) (by decide +kernel)⟩
theorem lw_p43 : lw_okq (⟨"SumsOverModel", "all", "()V"⟩, 26) := ⟨⟨by decide +kernel, by decide +kernel⟩, List.mem_of_getElem? (i := 613) (by decide +kernel), List.mem_of_getElem? (i := 821) (by decide +kernel), List.mem_of_getElem? (i := 822) (by decide +kernel)⟩
theorem lw_p44 : lw_okq (⟨"SumsOverModel", "judged", "(I)I"⟩, 26) := ⟨⟨by decide +kernel, by decide +kernel⟩, List.mem_of_getElem? (i := 613) (by decide +kernel), List.mem_of_getElem? (i := 825) (by decide +kernel), List.mem_of_getElem? (i := 826) (by decide +kernel)⟩
theorem lw_p45 : lw_okq (⟨"SumsOverModel", "many", "()I"⟩, 26) := ⟨⟨by decide +kernel, by decide +kernel⟩, List.mem_of_getElem? (i := 613) (by decide +kernel), List.mem_of_getElem? (i := 829) (by decide +kernel), List.mem_of_getElem? (i := 830) (by decide +kernel)⟩
theorem lw_p46 : lw_okq (⟨"SumsOverModel", "needs", "()Z"⟩, 26) := ⟨⟨by decide +kernel, by decide +kernel⟩, List.mem_of_getElem? (i := 613) (by decide +kernel), List.mem_of_getElem? (i := 849) (by decide +kernel), List.mem_of_getElem? (i := 850) (by decide +kernel)⟩
theorem lw_p47 : lw_okq (⟨"SumsOverModel", "isNear", "(II)Z"⟩, 26) := ⟨⟨by decide +kernel, by decide +kernel⟩, List.mem_of_getElem? (i := 613) (by decide +kernel), List.mem_of_getElem? (i := 853) (by decide +kernel), List.mem_of_getElem? (i := 854) (by decide +kernel)⟩
def lw_privs_3 : List (MethodName × Nat) := [(⟨"SumsOverModel", "low", "(I)J"⟩, 26), (⟨"SumsOverModel", "high", "(I)J"⟩, 26), (⟨"SumsOverModel", "valueOf", "(I)J"⟩, 26), (⟨"SumsOverModel", "belowOf", "(I)Z"⟩, 26), (⟨"SumsOverModel", "goesOver", "(IJ)Z"⟩, 26), (⟨"SumsOverModel", "spans", "()V"⟩, 26), (⟨"SumsOverModel", "ends", "(IJJ)Z"⟩, 26), (⟨"SumsOverModel", "goes", "(I)Z"⟩, 26), (⟨"SumsOverModel", "products", "(I)Z"⟩, 26), (⟨"SumsOverModel", "belows", "(I)Z"⟩, 26), (⟨"SumsOverModel", "isStep", "(I)Z"⟩, 26), (⟨"SumsOverModel", "all", "()V"⟩, 26), (⟨"SumsOverModel", "judged", "(I)I"⟩, 26), (⟨"SumsOverModel", "many", "()I"⟩, 26), (⟨"SumsOverModel", "needs", "()Z"⟩, 26), (⟨"SumsOverModel", "isNear", "(II)Z"⟩, 26)]
theorem lw_r3 : ∀ q ∈ lw_privs_3, lw_okq q := List.forall_mem_cons.mpr ⟨lw_p32, List.forall_mem_cons.mpr ⟨lw_p33, List.forall_mem_cons.mpr ⟨lw_p34, List.forall_mem_cons.mpr ⟨lw_p35, List.forall_mem_cons.mpr ⟨lw_p36, List.forall_mem_cons.mpr ⟨lw_p37, List.forall_mem_cons.mpr ⟨lw_p38, List.forall_mem_cons.mpr ⟨lw_p39, List.forall_mem_cons.mpr ⟨lw_p40, List.forall_mem_cons.mpr ⟨lw_p41, List.forall_mem_cons.mpr ⟨lw_p42, List.forall_mem_cons.mpr ⟨lw_p43, List.forall_mem_cons.mpr ⟨lw_p44, List.forall_mem_cons.mpr ⟨lw_p45, List.forall_mem_cons.mpr ⟨lw_p46, List.forall_mem_cons.mpr ⟨lw_p47, fun _ h => absurd h List.not_mem_nil⟩⟩⟩⟩⟩⟩⟩⟩⟩⟩⟩⟩⟩⟩⟩⟩
theorem lw_p48 : lw_okq (⟨"SumsOverModel", "given", "(IJ)Z"⟩, 26) := ⟨⟨by decide +kernel, by decide +kernel⟩, List.mem_of_getElem? (i := 613) (by decide +kernel), List.mem_of_getElem? (i := 857) (by decide +kernel), List.mem_of_getElem? (i := 858) (by decide +kernel)⟩
theorem lw_p49 : lw_okq (⟨"SumsOverModel", "needOf", "(I)I"⟩, 26) := ⟨⟨by decide +kernel, by decide +kernel⟩, List.mem_of_getElem? (i := 613) (by decide +kernel), List.mem_of_getElem? (i := 870) (by decide +kernel), List.mem_of_getElem? (i := 871) (by decide +kernel)⟩
def lw_privs_4 : List (MethodName × Nat) := [(⟨"SumsOverModel", "given", "(IJ)Z"⟩, 26), (⟨"SumsOverModel", "needOf", "(I)I"⟩, 26)]
theorem lw_r4 : ∀ q ∈ lw_privs_4, lw_okq q := List.forall_mem_cons.mpr ⟨lw_p48, List.forall_mem_cons.mpr ⟨lw_p49, fun _ h => absurd h List.not_mem_nil⟩⟩
def lw_privs : List (MethodName × Nat) := lw_privs_1 ++ (lw_privs_2 ++ (lw_privs_3 ++ (lw_privs_4)))
def lw_tbl : List Cond := k2_sels lw_privs ++ tables_1
theorem lw_privs_ok : ∀ q ∈ lw_privs, lw_okq q := by
  show ∀ q ∈ lw_privs_1 ++ (lw_privs_2 ++ (lw_privs_3 ++ (lw_privs_4))), lw_okq q
  exact List.forall_mem_append.mpr ⟨lw_r1, List.forall_mem_append.mpr ⟨lw_r2, List.forall_mem_append.mpr ⟨lw_r3, lw_r4⟩⟩⟩
end
section
/-! ===== BEGIN words of one list among another's, by their places ===== -/
theorem goodIn_r {big : List Cond} (ws : List Cond) (ps : List Nat) (hp : ws = ps.filterMap (fun i => big[i]?)) (h : ws.all goodWord = true) : GoodIn big ws := by
  intro w hw
  have h1 := List.all_eq_true.mp h w hw
  rw [hp] at hw
  obtain ⟨i, -, hi⟩ := List.mem_filterMap.mp hw
  have hm : w ∈ big := by first | exact List.mem_of_getElem? hi | exact List.getElem?_mem hi
  exact ⟨hm, good_of_word h1⟩
theorem goodIn_app {big a b : List Cond} (ha : GoodIn big a) (hb : GoodIn big b) : GoodIn big (a ++ b) := fun w h => (List.mem_append.mp h).elim (ha w) (hb w)
theorem goodIn_ca {big a b : List Cond} {c : Cond} (ha : GoodIn big (c :: a)) (hb : GoodIn big b) : GoodIn big (c :: (a ++ b)) := fun w h => (List.mem_cons.mp h).elim (fun e => ha w (List.mem_cons.mpr (Or.inl e))) (fun h => (List.mem_append.mp h).elim (fun h => ha w (List.mem_cons.mpr (Or.inr h))) (hb w))
theorem goodIn_sub {big ws : List Cond} (hm : ∀ w ∈ ws, w ∈ big) (h : ws.all goodWord = true) : GoodIn big ws := fun w hw => ⟨hm w hw, good_of_word (List.all_eq_true.mp h w hw)⟩
/-! ===== END ===== -/

/-! ===== BEGIN printed: names, fields, word lists, decode rows ===== -/
def RX0 : String := "SumsOver$Inputs"
def TX0 : u_T := fun k => match k with
  | 0 => ("SumsOver$Inputs", "from", "[I", true)
  | _ => ("SumsOver$Inputs", "to", "[I", true)
def tyX0 : Nat → FieldType := fun k => match k with
  | 0 => .array .int
  | _ => .array .int
abbrev wsX00 : List Cond := u_ws RX0 TX0 2
theorem nmX0 : ∀ a, a < 2 → ∀ b, b < 2 → a ≠ b → (TX0 a).2.1 ≠ (TX0 b).2.1 := by decide +kernel
theorem tyX0_ok : ∀ k, k < 2 → parseFieldDescriptor (TX0 k).2.2.1 = some (tyX0 k) := by decide +kernel
abbrev cX0_init : ByteArray := prog_2_method_1_code
def yX0_init : MethodName := ⟨RX0, "<init>", "()V"⟩
abbrev cX0_hold : ByteArray := prog_2_method_2_code
def yX0_hold : MethodName := ⟨RX0, "hold", "(II)Z"⟩
abbrev cX0_runs : ByteArray := prog_2_method_3_code
def yX0_runs : MethodName := ⟨RX0, "runs", "()I"⟩
def RX1 : String := "SumsOver$Names"
def TX1 : u_T := fun k => match k with
  | 0 => ("SumsOver$Names", "widths", "[I", true)
  | 1 => ("SumsOver$Names", "signs", "[Z", true)
  | 2 => ("SumsOver$Names", "least", "[J", true)
  | 3 => ("SumsOver$Names", "greatest", "[J", true)
  | _ => ("SumsOver$Names", "nearest", "Z", false)
def tyX1 : Nat → FieldType := fun k => match k with
  | 0 => .array .int
  | 1 => .array .boolean
  | 2 => .array .long
  | 3 => .array .long
  | _ => .boolean
abbrev wsX10 : List Cond := u_ws RX1 TX1 5
theorem nmX1 : ∀ a, a < 5 → ∀ b, b < 5 → a ≠ b → (TX1 a).2.1 ≠ (TX1 b).2.1 := by decide +kernel
theorem tyX1_ok : ∀ k, k < 5 → parseFieldDescriptor (TX1 k).2.2.1 = some (tyX1 k) := by decide +kernel
abbrev cX1_init : ByteArray := prog_3_method_1_code
def yX1_init : MethodName := ⟨RX1, "<init>", "()V"⟩
abbrev cX1_tell : ByteArray := prog_3_method_2_code
def yX1_tell : MethodName := ⟨RX1, "tell", "(IIZ)V"⟩
abbrev cX1_holds : ByteArray := prog_3_method_3_code
def yX1_holds : MethodName := ⟨RX1, "holds", "(IJ)Z"⟩
abbrev cX1_fitted : ByteArray := prog_3_method_4_code
def yX1_fitted : MethodName := ⟨RX1, "fitted", "(IJ)J"⟩
abbrev cX1_nearestTo : ByteArray := prog_3_method_5_code
def yX1_nearestTo : MethodName := ⟨RX1, "nearestTo", "(IJ)J"⟩
abbrev cX1_wrapped : ByteArray := prog_3_method_6_code
def yX1_wrapped : MethodName := ⟨RX1, "wrapped", "(IJ)J"⟩
abbrev cX1_signedAlike : ByteArray := prog_3_method_7_code
def yX1_signedAlike : MethodName := ⟨RX1, "signedAlike", "(II)Z"⟩
abbrev cX1_belowByRests : ByteArray := prog_3_method_8_code
def yX1_belowByRests : MethodName := ⟨RX1, "belowByRests", "(IIJJ)J"⟩
abbrev cX1_rest : ByteArray := prog_3_method_9_code
def yX1_rest : MethodName := ⟨RX1, "rest", "(JI)J"⟩
def RX2 : String := "SumsOver$Reach"
def TX2 : u_T := fun k => match k with
  | 0 => ("SumsOver$Reach", "least", "[J", true)
  | 1 => ("SumsOver$Reach", "greatest", "[J", true)
  | 2 => ("SumsOver$Reach", "known", "Z", false)
  | 3 => ("SumsOver$Reach", "couldBits", "I", false)
  | 4 => ("SumsOver$Reach", "low", "J", false)
  | 5 => ("SumsOver$Reach", "high", "J", false)
  | 6 => ("SumsOver$Reach", "names", "LSumsOver$Names;", true)
  | 7 => ("SumsOver$Reach", "steps", "LSumsOver$Steps;", true)
  | _ => ("SumsOver$Reach", "inputs", "LSumsOver$Inputs;", true)
def tyX2 : Nat → FieldType := fun k => match k with
  | 0 => .array .long
  | 1 => .array .long
  | 2 => .boolean
  | 3 => .int
  | 4 => .long
  | 5 => .long
  | 6 => .object "SumsOver$Names"
  | 7 => .object "SumsOver$Steps"
  | _ => .object "SumsOver$Inputs"
abbrev wsX20 : List Cond := u_ws RX2 TX2 9
theorem nmX2 : ∀ a, a < 9 → ∀ b, b < 9 → a ≠ b → (TX2 a).2.1 ≠ (TX2 b).2.1 := by decide +kernel
theorem tyX2_ok : ∀ k, k < 9 → parseFieldDescriptor (TX2 k).2.2.1 = some (tyX2 k) := by decide +kernel
abbrev cX2_init : ByteArray := prog_4_method_1_code
def yX2_init : MethodName := ⟨RX2, "<init>", "(LSumsOver$Names;LSumsOver$Steps;LSumsOver$Inputs;)V"⟩
abbrev cX2_couldGoOver : ByteArray := prog_4_method_2_code
def yX2_couldGoOver : MethodName := ⟨RX2, "couldGoOver", "(I)Z"⟩
abbrev cX2_learn : ByteArray := prog_4_method_3_code
def yX2_learn : MethodName := ⟨RX2, "learn", "()V"⟩
abbrev cX2_perform : ByteArray := prog_4_method_4_code
def yX2_perform : MethodName := ⟨RX2, "perform", "(I)V"⟩
abbrev cX2_fits : ByteArray := prog_4_method_5_code
def yX2_fits : MethodName := ⟨RX2, "fits", "(I)Z"⟩
abbrev cX2_settle : ByteArray := prog_4_method_6_code
def yX2_settle : MethodName := ⟨RX2, "settle", "(I)V"⟩
abbrev cX2_reckon : ByteArray := prog_4_method_7_code
def yX2_reckon : MethodName := ⟨RX2, "reckon", "(I)V"⟩
def RX3 : String := "SumsOver$Runner"
def TX3 : u_T := fun k => match k with
  | 0 => ("SumsOver$Runner", "names", "LSumsOver$Names;", true)
  | 1 => ("SumsOver$Runner", "steps", "LSumsOver$Steps;", true)
  | 2 => ("SumsOver$Runner", "values", "[J", true)
  | 3 => ("SumsOver$Runner", "overBits", "I", false)
  | 4 => ("SumsOver$Runner", "turnedBits", "I", false)
  | _ => ("SumsOver$Runner", "firstOver", "I", false)
def tyX3 : Nat → FieldType := fun k => match k with
  | 0 => .object "SumsOver$Names"
  | 1 => .object "SumsOver$Steps"
  | 2 => .array .long
  | 3 => .int
  | 4 => .int
  | _ => .int
abbrev wsX30 : List Cond := u_ws RX3 TX3 6
theorem nmX3 : ∀ a, a < 6 → ∀ b, b < 6 → a ≠ b → (TX3 a).2.1 ≠ (TX3 b).2.1 := by decide +kernel
theorem tyX3_ok : ∀ k, k < 6 → parseFieldDescriptor (TX3 k).2.2.1 = some (tyX3 k) := by decide +kernel
abbrev cX3_init : ByteArray := prog_5_method_1_code
def yX3_init : MethodName := ⟨RX3, "<init>", "(LSumsOver$Names;LSumsOver$Steps;)V"⟩
abbrev cX3_follow : ByteArray := prog_5_method_2_code
def yX3_follow : MethodName := ⟨RX3, "follow", "(II)V"⟩
abbrev cX3_perform : ByteArray := prog_5_method_3_code
def yX3_perform : MethodName := ⟨RX3, "perform", "(I)V"⟩
abbrev cX3_noteOver : ByteArray := prog_5_method_4_code
def yX3_noteOver : MethodName := ⟨RX3, "noteOver", "(I)V"⟩
abbrev cX3_answer : ByteArray := prog_5_method_5_code
def yX3_answer : MethodName := ⟨RX3, "answer", "(I)J"⟩
def RX4 : String := "SumsOver$Steps"
def TX4 : u_T := fun k => match k with
  | 0 => ("SumsOver$Steps", "kinds", "[I", true)
  | 1 => ("SumsOver$Steps", "targets", "[I", true)
  | 2 => ("SumsOver$Steps", "as", "[I", true)
  | 3 => ("SumsOver$Steps", "bs", "[I", true)
  | 4 => ("SumsOver$Steps", "bIsName", "[Z", true)
  | 5 => ("SumsOver$Steps", "meant", "[Z", true)
  | 6 => ("SumsOver$Steps", "size", "I", false)
  | 7 => ("SumsOver$Steps", "path", "[I", true)
  | _ => ("SumsOver$Steps", "pathLength", "I", false)
def tyX4 : Nat → FieldType := fun k => match k with
  | 0 => .array .int
  | 1 => .array .int
  | 2 => .array .int
  | 3 => .array .int
  | 4 => .array .boolean
  | 5 => .array .boolean
  | 6 => .int
  | 7 => .array .int
  | _ => .int
abbrev wsX40 : List Cond := u_ws RX4 TX4 9
theorem nmX4 : ∀ a, a < 9 → ∀ b, b < 9 → a ≠ b → (TX4 a).2.1 ≠ (TX4 b).2.1 := by decide +kernel
theorem tyX4_ok : ∀ k, k < 9 → parseFieldDescriptor (TX4 k).2.2.1 = some (tyX4 k) := by decide +kernel
abbrev cX4_init : ByteArray := prog_6_method_1_code
def yX4_init : MethodName := ⟨RX4, "<init>", "()V"⟩
abbrev cX4_append : ByteArray := prog_6_method_2_code
def yX4_append : MethodName := ⟨RX4, "append", "(IIII)V"⟩
abbrev cX4_dropLast : ByteArray := prog_6_method_3_code
def yX4_dropLast : MethodName := ⟨RX4, "dropLast", "()V"⟩
abbrev cX4_inLoop : ByteArray := prog_6_method_4_code
def yX4_inLoop : MethodName := ⟨RX4, "inLoop", "()Z"⟩
abbrev cX4_marks : ByteArray := prog_6_method_5_code
def yX4_marks : MethodName := ⟨RX4, "marks", "()I"⟩
abbrev cX4_valueOfA : ByteArray := prog_6_method_6_code
def yX4_valueOfA : MethodName := ⟨RX4, "valueOfA", "(I[J)J"⟩
abbrev cX4_valueOfB : ByteArray := prog_6_method_7_code
def yX4_valueOfB : MethodName := ⟨RX4, "valueOfB", "(I[J)J"⟩
abbrev cX4_retrace : ByteArray := prog_6_method_8_code
def yX4_retrace : MethodName := ⟨RX4, "retrace", "()V"⟩
abbrev cX4_endOf : ByteArray := prog_6_method_9_code
def yX4_endOf : MethodName := ⟨RX4, "endOf", "(I)I"⟩
abbrev cX4_trace : ByteArray := prog_6_method_10_code
def yX4_trace : MethodName := ⟨RX4, "trace", "(II)V"⟩
def RX5 : String := "SumsOver$Tally"
def TX5 : u_T := fun k => match k with
  | 0 => ("SumsOver$Tally", "over", "[I", true)
  | 1 => ("SumsOver$Tally", "shown", "[I", true)
  | 2 => ("SumsOver$Tally", "turned", "[I", true)
  | 3 => ("SumsOver$Tally", "runsOver", "I", false)
  | 4 => ("SumsOver$Tally", "known", "Z", false)
  | 5 => ("SumsOver$Tally", "runner", "LSumsOver$Runner;", true)
  | _ => ("SumsOver$Tally", "inputs", "LSumsOver$Inputs;", true)
def tyX5 : Nat → FieldType := fun k => match k with
  | 0 => .array .int
  | 1 => .array .int
  | 2 => .array .int
  | 3 => .int
  | 4 => .boolean
  | 5 => .object "SumsOver$Runner"
  | _ => .object "SumsOver$Inputs"
abbrev wsX50 : List Cond := u_ws RX5 TX5 7
theorem nmX5 : ∀ a, a < 7 → ∀ b, b < 7 → a ≠ b → (TX5 a).2.1 ≠ (TX5 b).2.1 := by decide +kernel
theorem tyX5_ok : ∀ k, k < 7 → parseFieldDescriptor (TX5 k).2.2.1 = some (tyX5 k) := by decide +kernel
abbrev cX5_init : ByteArray := prog_7_method_1_code
def yX5_init : MethodName := ⟨RX5, "<init>", "(LSumsOver$Runner;LSumsOver$Inputs;)V"⟩
abbrev cX5_learn : ByteArray := prog_7_method_2_code
def yX5_learn : MethodName := ⟨RX5, "learn", "()V"⟩
abbrev cX5_note : ByteArray := prog_7_method_3_code
def yX5_note : MethodName := ⟨RX5, "note", "(I)V"⟩
abbrev cX5_noteOver : ByteArray := prog_7_method_4_code
def yX5_noteOver : MethodName := ⟨RX5, "noteOver", "(II)V"⟩
abbrev cX5_noteTurned : ByteArray := prog_7_method_5_code
def yX5_noteTurned : MethodName := ⟨RX5, "noteTurned", "(I)V"⟩
def RX6 : String := "SumsOver$Trues"
def TX6 : u_T := fun k => match k with
  | 0 => ("SumsOver$Trues", "least", "[J", true)
  | 1 => ("SumsOver$Trues", "greatest", "[J", true)
  | 2 => ("SumsOver$Trues", "tooFar", "Z", false)
  | 3 => ("SumsOver$Trues", "known", "Z", false)
  | 4 => ("SumsOver$Trues", "values", "[J", true)
  | 5 => ("SumsOver$Trues", "steps", "LSumsOver$Steps;", true)
  | _ => ("SumsOver$Trues", "inputs", "LSumsOver$Inputs;", true)
def tyX6 : Nat → FieldType := fun k => match k with
  | 0 => .array .long
  | 1 => .array .long
  | 2 => .boolean
  | 3 => .boolean
  | 4 => .array .long
  | 5 => .object "SumsOver$Steps"
  | _ => .object "SumsOver$Inputs"
abbrev wsX60 : List Cond := u_ws RX6 TX6 7
theorem nmX6 : ∀ a, a < 7 → ∀ b, b < 7 → a ≠ b → (TX6 a).2.1 ≠ (TX6 b).2.1 := by decide +kernel
theorem tyX6_ok : ∀ k, k < 7 → parseFieldDescriptor (TX6 k).2.2.1 = some (tyX6 k) := by decide +kernel
abbrev cX6_init : ByteArray := prog_8_method_1_code
def yX6_init : MethodName := ⟨RX6, "<init>", "(LSumsOver$Steps;LSumsOver$Inputs;)V"⟩
abbrev cX6_learn : ByteArray := prog_8_method_2_code
def yX6_learn : MethodName := ⟨RX6, "learn", "()V"⟩
abbrev cX6_follow : ByteArray := prog_8_method_3_code
def yX6_follow : MethodName := ⟨RX6, "follow", "(II)V"⟩
abbrev cX6_perform : ByteArray := prog_8_method_4_code
def yX6_perform : MethodName := ⟨RX6, "perform", "(I)V"⟩
abbrev cX6_isProductTooFar : ByteArray := prog_8_method_5_code
def yX6_isProductTooFar : MethodName := ⟨RX6, "isProductTooFar", "(JJ)Z"⟩
abbrev cX6_give : ByteArray := prog_8_method_6_code
def yX6_give : MethodName := ⟨RX6, "give", "(IJ)V"⟩
def RX7 : String := "SumsOver"
def TX7 : u_T := fun k => match k with
  | 0 => ("SumsOver", "names", "LSumsOver$Names;", true)
  | 1 => ("SumsOver", "inputs", "LSumsOver$Inputs;", true)
  | 2 => ("SumsOver", "steps", "LSumsOver$Steps;", true)
  | 3 => ("SumsOver", "runner", "LSumsOver$Runner;", true)
  | 4 => ("SumsOver", "tally", "LSumsOver$Tally;", true)
  | 5 => ("SumsOver", "reach", "LSumsOver$Reach;", true)
  | _ => ("SumsOver", "trues", "LSumsOver$Trues;", true)
def tyX7 : Nat → FieldType := fun k => match k with
  | 0 => .object "SumsOver$Names"
  | 1 => .object "SumsOver$Inputs"
  | 2 => .object "SumsOver$Steps"
  | 3 => .object "SumsOver$Runner"
  | 4 => .object "SumsOver$Tally"
  | 5 => .object "SumsOver$Reach"
  | _ => .object "SumsOver$Trues"
abbrev wsX70 : List Cond := u_ws RX7 TX7 7
theorem nmX7 : ∀ a, a < 7 → ∀ b, b < 7 → a ≠ b → (TX7 a).2.1 ≠ (TX7 b).2.1 := by decide +kernel
theorem tyX7_ok : ∀ k, k < 7 → parseFieldDescriptor (TX7 k).2.2.1 = some (tyX7 k) := by decide +kernel
abbrev cX7_init : ByteArray := prog_1_method_1_code
def yX7_init : MethodName := ⟨RX7, "<init>", "()V"⟩
abbrev cX7_name : ByteArray := prog_1_method_2_code
def yX7_name : MethodName := ⟨RX7, "name", "(IIZ)Z"⟩
abbrev cX7_span : ByteArray := prog_1_method_3_code
def yX7_span : MethodName := ⟨RX7, "span", "(III)Z"⟩
abbrev cX7_step : ByteArray := prog_1_method_4_code
def yX7_step : MethodName := ⟨RX7, "step", "(IIII)I"⟩
abbrev cX7_back : ByteArray := prog_1_method_5_code
def yX7_back : MethodName := ⟨RX7, "back", "()Z"⟩
abbrev cX7_mode : ByteArray := prog_1_method_6_code
def yX7_mode : MethodName := ⟨RX7, "mode", "(I)Z"⟩
abbrev cX7_run : ByteArray := prog_1_method_7_code
def yX7_run : MethodName := ⟨RX7, "run", "(III)I"⟩
abbrev cX7_first : ByteArray := prog_1_method_8_code
def yX7_first : MethodName := ⟨RX7, "first", "(II)I"⟩
abbrev cX7_judge : ByteArray := prog_1_method_9_code
def yX7_judge : MethodName := ⟨RX7, "judge", "(I)I"⟩
abbrev cX7_over : ByteArray := prog_1_method_10_code
def yX7_over : MethodName := ⟨RX7, "over", "(I)I"⟩
abbrev cX7_shown : ByteArray := prog_1_method_11_code
def yX7_shown : MethodName := ⟨RX7, "shown", "(I)I"⟩
abbrev cX7_turned : ByteArray := prog_1_method_12_code
def yX7_turned : MethodName := ⟨RX7, "turned", "(I)I"⟩
abbrev cX7_ends : ByteArray := prog_1_method_13_code
def yX7_ends : MethodName := ⟨RX7, "ends", "(II)I"⟩
abbrev cX7_need : ByteArray := prog_1_method_14_code
def yX7_need : MethodName := ⟨RX7, "need", "(I)I"⟩
abbrev cX7_price : ByteArray := prog_1_method_15_code
def yX7_price : MethodName := ⟨RX7, "price", "()I"⟩
abbrev cX7_mend : ByteArray := prog_1_method_16_code
def yX7_mend : MethodName := ⟨RX7, "mend", "()I"⟩
abbrev cX7_mean : ByteArray := prog_1_method_17_code
def yX7_mean : MethodName := ⟨RX7, "mean", "(IZ)Z"⟩
abbrev cX7_listed : ByteArray := prog_1_method_18_code
def yX7_listed : MethodName := ⟨RX7, "listed", "(I)I"⟩
abbrev cX7_count : ByteArray := prog_1_method_19_code
def yX7_count : MethodName := ⟨RX7, "count", "(I)I"⟩
abbrev cX7_isName : ByteArray := prog_1_method_20_code
def yX7_isName : MethodName := ⟨RX7, "isName", "(I)Z"⟩
abbrev cX7_isTold : ByteArray := prog_1_method_21_code
def yX7_isTold : MethodName := ⟨RX7, "isTold", "(I)Z"⟩
abbrev cX7_isStep : ByteArray := prog_1_method_22_code
def yX7_isStep : MethodName := ⟨RX7, "isStep", "(I)Z"⟩
abbrev cX7_canFollow : ByteArray := prog_1_method_23_code
def yX7_canFollow : MethodName := ⟨RX7, "canFollow", "(I)Z"⟩
abbrev cX7_canBe : ByteArray := prog_1_method_24_code
def yX7_canBe : MethodName := ⟨RX7, "canBe", "(IIII)Z"⟩
abbrev cX7_canBeB : ByteArray := prog_1_method_25_code
def yX7_canBeB : MethodName := ⟨RX7, "canBeB", "(II)Z"⟩
abbrev cX7_hasTarget : ByteArray := prog_1_method_26_code
def yX7_hasTarget : MethodName := ⟨RX7, "hasTarget", "(I)Z"⟩
abbrev cX7_readsA : ByteArray := prog_1_method_27_code
def yX7_readsA : MethodName := ⟨RX7, "readsA", "(I)Z"⟩
abbrev cX7_readsB : ByteArray := prog_1_method_28_code
def yX7_readsB : MethodName := ⟨RX7, "readsB", "(I)Z"⟩
abbrev cX7_made : ByteArray := prog_1_method_29_code
def yX7_made : MethodName := ⟨RX7, "made", "(IJJ)J"⟩
abbrev cX7_leastOf : ByteArray := prog_1_method_30_code
def yX7_leastOf : MethodName := ⟨RX7, "leastOf", "(IZ)J"⟩
abbrev cX7_greatestOf : ByteArray := prog_1_method_31_code
def yX7_greatestOf : MethodName := ⟨RX7, "greatestOf", "(IZ)J"⟩
abbrev cX7_forget : ByteArray := prog_1_method_32_code
def yX7_forget : MethodName := ⟨RX7, "forget", "()V"⟩
abbrev cX7_judged : ByteArray := prog_1_method_33_code
def yX7_judged : MethodName := ⟨RX7, "judged", "(I)I"⟩
abbrev cX7_needed : ByteArray := prog_1_method_34_code
def yX7_needed : MethodName := ⟨RX7, "needed", "(I)I"⟩
abbrev cX7_canMend : ByteArray := prog_1_method_35_code
def yX7_canMend : MethodName := ⟨RX7, "canMend", "()Z"⟩
abbrev cX7_isListed : ByteArray := prog_1_method_36_code
def yX7_isListed : MethodName := ⟨RX7, "isListed", "(I)Z"⟩
abbrev cX7_listedBefore : ByteArray := prog_1_method_37_code
def yX7_listedBefore : MethodName := ⟨RX7, "listedBefore", "(I)I"⟩
abbrev cX7_comesBefore : ByteArray := prog_1_method_38_code
def yX7_comesBefore : MethodName := ⟨RX7, "comesBefore", "(II)Z"⟩
def RX8 : String := "SumsOverModel"
def TX8 : u_T := fun k => match k with
  | 0 => ("SumsOverModel", "width", "[I", true)
  | 1 => ("SumsOverModel", "isSigned", "[Z", true)
  | 2 => ("SumsOverModel", "from", "[I", true)
  | 3 => ("SumsOverModel", "to", "[I", true)
  | 4 => ("SumsOverModel", "kind", "[I", true)
  | 5 => ("SumsOverModel", "target", "[I", true)
  | 6 => ("SumsOverModel", "a", "[I", true)
  | 7 => ("SumsOverModel", "b", "[I", true)
  | 8 => ("SumsOverModel", "isMeant", "[Z", true)
  | 9 => ("SumsOverModel", "steps", "I", false)
  | 10 => ("SumsOverModel", "mode", "I", false)
  | 11 => ("SumsOverModel", "line", "[I", true)
  | 12 => ("SumsOverModel", "lineMany", "I", false)
  | 13 => ("SumsOverModel", "values", "[J", true)
  | 14 => ("SumsOverModel", "isOver", "[Z", true)
  | 15 => ("SumsOverModel", "isTurned", "[Z", true)
  | 16 => ("SumsOverModel", "firstOver", "I", false)
  | 17 => ("SumsOverModel", "overs", "[I", true)
  | 18 => ("SumsOverModel", "turns", "[I", true)
  | 19 => ("SumsOverModel", "shows", "[I", true)
  | 20 => ("SumsOverModel", "runsOver", "I", false)
  | 21 => ("SumsOverModel", "least", "[J", true)
  | 22 => ("SumsOverModel", "most", "[J", true)
  | 23 => ("SumsOverModel", "could", "[Z", true)
  | 24 => ("SumsOverModel", "lowest", "[J", true)
  | _ => ("SumsOverModel", "highest", "[J", true)
def tyX8 : Nat → FieldType := fun k => match k with
  | 0 => .array .int
  | 1 => .array .boolean
  | 2 => .array .int
  | 3 => .array .int
  | 4 => .array .int
  | 5 => .array .int
  | 6 => .array .int
  | 7 => .array .int
  | 8 => .array .boolean
  | 9 => .int
  | 10 => .int
  | 11 => .array .int
  | 12 => .int
  | 13 => .array .long
  | 14 => .array .boolean
  | 15 => .array .boolean
  | 16 => .int
  | 17 => .array .int
  | 18 => .array .int
  | 19 => .array .int
  | 20 => .int
  | 21 => .array .long
  | 22 => .array .long
  | 23 => .array .boolean
  | 24 => .array .long
  | _ => .array .long
abbrev wsX80 : List Cond := u_ws RX8 TX8 26
theorem nmX8 : ∀ a, a < 26 → ∀ b, b < 26 → a ≠ b → (TX8 a).2.1 ≠ (TX8 b).2.1 := by decide +kernel
theorem tyX8_ok : ∀ k, k < 26 → parseFieldDescriptor (TX8 k).2.2.1 = some (tyX8 k) := by decide +kernel
abbrev cX8_init : ByteArray := prog_10_method_1_code
def yX8_init : MethodName := ⟨RX8, "<init>", "()V"⟩
abbrev cX8_in : ByteArray := prog_10_method_2_code
def yX8_in : MethodName := ⟨RX8, "in", "(JJJ)Z"⟩
abbrev cX8_isStep : ByteArray := prog_10_method_3_code
def yX8_isStep : MethodName := ⟨RX8, "isStep", "(I)Z"⟩
abbrev cX8_isName : ByteArray := prog_10_method_4_code
def yX8_isName : MethodName := ⟨RX8, "isName", "(I)Z"⟩
abbrev cX8_name : ByteArray := prog_10_method_5_code
def yX8_name : MethodName := ⟨RX8, "name", "(IIZ)Z"⟩
abbrev cX8_span : ByteArray := prog_10_method_6_code
def yX8_span : MethodName := ⟨RX8, "span", "(III)Z"⟩
abbrev cX8_isOpen : ByteArray := prog_10_method_7_code
def yX8_isOpen : MethodName := ⟨RX8, "isOpen", "()Z"⟩
abbrev cX8_canBe : ByteArray := prog_10_method_8_code
def yX8_canBe : MethodName := ⟨RX8, "canBe", "(IIII)Z"⟩
abbrev cX8_step : ByteArray := prog_10_method_9_code
def yX8_step : MethodName := ⟨RX8, "step", "(IIII)I"⟩
abbrev cX8_back : ByteArray := prog_10_method_10_code
def yX8_back : MethodName := ⟨RX8, "back", "()Z"⟩
abbrev cX8_mode : ByteArray := prog_10_method_11_code
def yX8_mode : MethodName := ⟨RX8, "mode", "(I)Z"⟩
abbrev cX8_lays : ByteArray := prog_10_method_12_code
def yX8_lays : MethodName := ⟨RX8, "lays", "()V"⟩
abbrev cX8_low : ByteArray := prog_10_method_13_code
def yX8_low : MethodName := ⟨RX8, "low", "(I)J"⟩
abbrev cX8_high : ByteArray := prog_10_method_14_code
def yX8_high : MethodName := ⟨RX8, "high", "(I)J"⟩
abbrev cX8_rest : ByteArray := prog_10_method_15_code
def yX8_rest : MethodName := ⟨RX8, "rest", "(JJ)J"⟩
abbrev cX8_put : ByteArray := prog_10_method_16_code
def yX8_put : MethodName := ⟨RX8, "put", "(IJ)J"⟩
abbrev cX8_goesOver : ByteArray := prog_10_method_17_code
def yX8_goesOver : MethodName := ⟨RX8, "goesOver", "(IJ)Z"⟩
abbrev cX8_belowOf : ByteArray := prog_10_method_18_code
def yX8_belowOf : MethodName := ⟨RX8, "belowOf", "(I)Z"⟩
abbrev cX8_valueOf : ByteArray := prog_10_method_19_code
def yX8_valueOf : MethodName := ⟨RX8, "valueOf", "(I)J"⟩
abbrev cX8_runs : ByteArray := prog_10_method_20_code
def yX8_runs : MethodName := ⟨RX8, "runs", "(II)V"⟩
abbrev cX8_many : ByteArray := prog_10_method_21_code
def yX8_many : MethodName := ⟨RX8, "many", "()I"⟩
abbrev cX8_all : ByteArray := prog_10_method_22_code
def yX8_all : MethodName := ⟨RX8, "all", "()V"⟩
abbrev cX8_isRun : ByteArray := prog_10_method_23_code
def yX8_isRun : MethodName := ⟨RX8, "isRun", "(II)Z"⟩
abbrev cX8_run : ByteArray := prog_10_method_24_code
def yX8_run : MethodName := ⟨RX8, "run", "(III)I"⟩
abbrev cX8_first : ByteArray := prog_10_method_25_code
def yX8_first : MethodName := ⟨RX8, "first", "(II)I"⟩
abbrev cX8_ends : ByteArray := prog_10_method_26_code
def yX8_ends : MethodName := ⟨RX8, "ends", "(IJJ)Z"⟩
abbrev cX8_products : ByteArray := prog_10_method_27_code
def yX8_products : MethodName := ⟨RX8, "products", "(I)Z"⟩
abbrev cX8_belows : ByteArray := prog_10_method_28_code
def yX8_belows : MethodName := ⟨RX8, "belows", "(I)Z"⟩
abbrev cX8_goes : ByteArray := prog_10_method_29_code
def yX8_goes : MethodName := ⟨RX8, "goes", "(I)Z"⟩
abbrev cX8_spans : ByteArray := prog_10_method_30_code
def yX8_spans : MethodName := ⟨RX8, "spans", "()V"⟩
abbrev cX8_ends_ : ByteArray := prog_10_method_31_code
def yX8_ends_ : MethodName := ⟨RX8, "ends", "(II)I"⟩
abbrev cX8_judged : ByteArray := prog_10_method_32_code
def yX8_judged : MethodName := ⟨RX8, "judged", "(I)I"⟩
abbrev cX8_judge : ByteArray := prog_10_method_33_code
def yX8_judge : MethodName := ⟨RX8, "judge", "(I)I"⟩
abbrev cX8_over : ByteArray := prog_10_method_34_code
def yX8_over : MethodName := ⟨RX8, "over", "(I)I"⟩
abbrev cX8_shown : ByteArray := prog_10_method_35_code
def yX8_shown : MethodName := ⟨RX8, "shown", "(I)I"⟩
abbrev cX8_turned : ByteArray := prog_10_method_36_code
def yX8_turned : MethodName := ⟨RX8, "turned", "(I)I"⟩
abbrev cX8_isFar : ByteArray := prog_10_method_37_code
def yX8_isFar : MethodName := ⟨RX8, "isFar", "(J)Z"⟩
abbrev cX8_isFarProduct : ByteArray := prog_10_method_38_code
def yX8_isFarProduct : MethodName := ⟨RX8, "isFarProduct", "(JJ)Z"⟩
abbrev cX8_given : ByteArray := prog_10_method_39_code
def yX8_given : MethodName := ⟨RX8, "given", "(IJ)Z"⟩
abbrev cX8_isNear : ByteArray := prog_10_method_40_code
def yX8_isNear : MethodName := ⟨RX8, "isNear", "(II)Z"⟩
abbrev cX8_needs : ByteArray := prog_10_method_41_code
def yX8_needs : MethodName := ⟨RX8, "needs", "()Z"⟩
abbrev cX8_needOf : ByteArray := prog_10_method_42_code
def yX8_needOf : MethodName := ⟨RX8, "needOf", "(I)I"⟩
abbrev cX8_need : ByteArray := prog_10_method_43_code
def yX8_need : MethodName := ⟨RX8, "need", "(I)I"⟩
abbrev cX8_price : ByteArray := prog_10_method_44_code
def yX8_price : MethodName := ⟨RX8, "price", "()I"⟩
abbrev cX8_mend : ByteArray := prog_10_method_45_code
def yX8_mend : MethodName := ⟨RX8, "mend", "()I"⟩
abbrev cX8_mean : ByteArray := prog_10_method_46_code
def yX8_mean : MethodName := ⟨RX8, "mean", "(IZ)Z"⟩
abbrev cX8_listed : ByteArray := prog_10_method_47_code
def yX8_listed : MethodName := ⟨RX8, "listed", "(I)I"⟩
abbrev cX8_count : ByteArray := prog_10_method_48_code
def yX8_count : MethodName := ⟨RX8, "count", "(I)I"⟩
def RJ9 : String := "java/lang/Math"
def TJ9 : u_T := fun k => match k with
  | _ => ("", "", "", false)
def tyJ9 : Nat → FieldType := fun k => match k with
  | _ => .int
abbrev wsJ90 : List Cond := u_ws RJ9 TJ9 0
theorem nmJ9 : ∀ a, a < 0 → ∀ b, b < 0 → a ≠ b → (TJ9 a).2.1 ≠ (TJ9 b).2.1 := by decide +kernel
theorem tyJ9_ok : ∀ k, k < 0 → parseFieldDescriptor (TJ9 k).2.2.1 = some (tyJ9 k) := by decide +kernel
abbrev cJ9_abs_067f4 : ByteArray := prog_11_method_61_code
def yJ9_abs_067f4 : MethodName := ⟨RJ9, "abs", "(J)J"⟩
abbrev cJ9_max_7cf53 : ByteArray := prog_11_method_65_code
def yJ9_max_7cf53 : MethodName := ⟨RJ9, "max", "(II)I"⟩
abbrev cJ9_max_f86c9 : ByteArray := prog_11_method_66_code
def yJ9_max_f86c9 : MethodName := ⟨RJ9, "max", "(JJ)J"⟩
abbrev cJ9_min_f86c9 : ByteArray := prog_11_method_70_code
def yJ9_min_f86c9 : MethodName := ⟨RJ9, "min", "(JJ)J"⟩
def RJ7 : String := "java/util/Arrays"
def TJ7 : u_T := fun k => match k with
  | _ => ("", "", "", false)
def tyJ7 : Nat → FieldType := fun k => match k with
  | _ => .int
abbrev wsJ70 : List Cond := u_ws RJ7 TJ7 0
theorem nmJ7 : ∀ a, a < 0 → ∀ b, b < 0 → a ≠ b → (TJ7 a).2.1 ≠ (TJ7 b).2.1 := by decide +kernel
theorem tyJ7_ok : ∀ k, k < 0 → parseFieldDescriptor (TJ7 k).2.2.1 = some (tyJ7 k) := by decide +kernel
abbrev cJ7_fill_d0a16 : ByteArray := prog_12_method_101_code
def yJ7_fill_d0a16 : MethodName := ⟨RJ7, "fill", "([JJ)V"⟩
abbrev cJ7_fill_53178 : ByteArray := prog_12_method_103_code
def yJ7_fill_53178 : MethodName := ⟨RJ7, "fill", "([II)V"⟩
def RL : String := "SumsOverLaw"
abbrev cL_law : ByteArray := code
def yL_law : MethodName := ⟨RL, "law", "([I)Z"⟩
def wsX0_init : List Cond := .code yX0_init cX0_init 1 none :: ([.methodLink RX0 3 objectInit, .instanceMethod objectInit, .code objectInit ⟨#[0xb1]⟩ 1 none, .arrayClass .int, .fieldLink RX0 9 "SumsOver$Inputs" "from" "[I", .fieldLink RX0 15 "SumsOver$Inputs" "to" "[I"] ++ wsX00)
def wsX0_hold : List Cond := .code yX0_hold cX0_hold 3 (some .boolean) :: ([.fieldLink RX0 9 "SumsOver$Inputs" "from" "[I", .fieldLink RX0 15 "SumsOver$Inputs" "to" "[I"] ++ wsX00)
def wsX0_runs : List Cond := .code yX0_runs cX0_runs 1 (some .int) :: ([.fieldLink RX0 15 "SumsOver$Inputs" "to" "[I", .fieldLink RX0 9 "SumsOver$Inputs" "from" "[I"] ++ wsX00)
def wsX7_leastOf : List Cond := .code yX7_leastOf cX7_leastOf 2 (some .long) :: ([])
def wsX7_greatestOf : List Cond := .code yX7_greatestOf cX7_greatestOf 2 (some .long) :: ([])
def wsX1_tell : List Cond := .code yX1_tell cX1_tell 4 none :: ([.fieldLink RX1 9 "SumsOver$Names" "widths" "[I", .fieldLink RX1 15 "SumsOver$Names" "signs" "[Z", .fieldLink RX1 19 "SumsOver$Names" "least" "[J", .fieldLink RX1 23 "SumsOver$Names" "greatest" "[J", .static yX7_leastOf, .initialized RX7, .code yX7_leastOf cX7_leastOf 2 (some .long), .static yX7_greatestOf, .code yX7_greatestOf cX7_greatestOf 2 (some .long)] ++ wsX10)
def wsX1_init : List Cond := .code yX1_init cX1_init 2 none :: ([.methodLink RX1 3 objectInit, .instanceMethod objectInit, .code objectInit ⟨#[0xb1]⟩ 1 none, .arrayClass .int, .fieldLink RX1 9 "SumsOver$Names" "widths" "[I", .arrayClass .boolean, .fieldLink RX1 15 "SumsOver$Names" "signs" "[Z", .arrayClass .long, .fieldLink RX1 19 "SumsOver$Names" "least" "[J", .fieldLink RX1 23 "SumsOver$Names" "greatest" "[J", .methodLink RX1 26 yX1_tell, .instanceMethod yX1_tell, .selects RX1 yX1_tell yX1_tell, .initialized RX1, .code yX1_tell cX1_tell 4 none, .static yX7_leastOf, .initialized RX7, .code yX7_leastOf cX7_leastOf 2 (some .long), .static yX7_greatestOf, .code yX7_greatestOf cX7_greatestOf 2 (some .long)] ++ wsX10)
def wsX1_holds : List Cond := .code yX1_holds cX1_holds 4 (some .boolean) :: ([.fieldLink RX1 19 "SumsOver$Names" "least" "[J", .fieldLink RX1 23 "SumsOver$Names" "greatest" "[J"] ++ wsX10)
def wsX1_nearestTo : List Cond := .code yX1_nearestTo cX1_nearestTo 4 (some .long) :: ([.fieldLink RX1 19 "SumsOver$Names" "least" "[J", .fieldLink RX1 23 "SumsOver$Names" "greatest" "[J", .methodLink RX1 48 Lib.MathLoose.min_long.x, .static Lib.MathLoose.min_long.x, .initialized "java/lang/Math", .code Lib.MathLoose.min_long.x Lib.MathLoose.min_long.code 4 (some .long), .methodLink RX1 54 Lib.MathLoose.max_long.x, .static Lib.MathLoose.max_long.x, .code Lib.MathLoose.max_long.x Lib.MathLoose.max_long.code 4 (some .long)] ++ wsX10)
def wsX1_rest : List Cond := .code yX1_rest cX1_rest 3 (some .long) :: ([])
def wsX1_wrapped : List Cond := .code yX1_wrapped cX1_wrapped 4 (some .long) :: ([.fieldLink RX1 19 "SumsOver$Names" "least" "[J", .fieldLink RX1 9 "SumsOver$Names" "widths" "[I", .methodLink RX1 57 yX1_rest, .static yX1_rest, .initialized RX1, .code yX1_rest cX1_rest 3 (some .long)] ++ wsX10)
def wsX1_fitted : List Cond := .code yX1_fitted cX1_fitted 4 (some .long) :: ([.fieldLink RX1 37 "SumsOver$Names" "nearest" "Z", .methodLink RX1 41 yX1_nearestTo, .instanceMethod yX1_nearestTo, .selects RX1 yX1_nearestTo yX1_nearestTo, .initialized RX1, .code yX1_nearestTo cX1_nearestTo 4 (some .long), .fieldLink RX1 19 "SumsOver$Names" "least" "[J", .fieldLink RX1 23 "SumsOver$Names" "greatest" "[J", .methodLink RX1 48 Lib.MathLoose.min_long.x, .static Lib.MathLoose.min_long.x, .initialized "java/lang/Math", .code Lib.MathLoose.min_long.x Lib.MathLoose.min_long.code 4 (some .long), .methodLink RX1 54 Lib.MathLoose.max_long.x, .static Lib.MathLoose.max_long.x, .code Lib.MathLoose.max_long.x Lib.MathLoose.max_long.code 4 (some .long), .methodLink RX1 45 yX1_wrapped, .instanceMethod yX1_wrapped, .selects RX1 yX1_wrapped yX1_wrapped, .code yX1_wrapped cX1_wrapped 4 (some .long), .fieldLink RX1 9 "SumsOver$Names" "widths" "[I", .methodLink RX1 57 yX1_rest, .static yX1_rest, .code yX1_rest cX1_rest 3 (some .long)] ++ wsX10)
def wsX1_signedAlike : List Cond := .code yX1_signedAlike cX1_signedAlike 3 (some .boolean) :: ([.fieldLink RX1 15 "SumsOver$Names" "signs" "[Z"] ++ wsX10)
def wsX1_belowByRests : List Cond := .code yX1_belowByRests cX1_belowByRests 8 (some .long) :: ([.fieldLink RX1 9 "SumsOver$Names" "widths" "[I", .methodLink RX1 61 Lib.Math.max.name, .static Lib.Math.max.name, .initialized "java/lang/Math", .code Lib.Math.max.name Lib.Math.max.code 2 (some .int), .methodLink RX1 57 yX1_rest, .static yX1_rest, .initialized RX1, .code yX1_rest cX1_rest 3 (some .long)] ++ wsX10)
def wsX2_init : List Cond := .code yX2_init cX2_init 4 none :: ([.methodLink RX2 3 objectInit, .instanceMethod objectInit, .code objectInit ⟨#[0xb1]⟩ 1 none, .arrayClass .long, .fieldLink RX2 9 "SumsOver$Reach" "least" "[J", .fieldLink RX2 15 "SumsOver$Reach" "greatest" "[J", .fieldLink RX2 18 "SumsOver$Reach" "names" "LSumsOver$Names;", .fieldLink RX2 22 "SumsOver$Reach" "steps" "LSumsOver$Steps;", .fieldLink RX2 26 "SumsOver$Reach" "inputs" "LSumsOver$Inputs;"] ++ wsX20)
def wsX2_couldGoOver : List Cond := .code yX2_couldGoOver cX2_couldGoOver 2 (some .boolean) :: ([.fieldLink RX2 30 "SumsOver$Reach" "couldBits" "I"] ++ wsX20)
def wsJ7_fill_d0a16 : List Cond := .code yJ7_fill_d0a16 cJ7_fill_d0a16 5 none :: ([])
def wsX2_fits : List Cond := .code yX2_fits cX2_fits 2 (some .boolean) :: ([.fieldLink RX2 18 "SumsOver$Reach" "names" "LSumsOver$Names;", .fieldLink RX2 50 "SumsOver$Reach" "low" "J", .fieldLink RX2 57 "SumsOver$Reach" "high" "J", .methodLink RX2 85 yX1_holds, .instanceMethod yX1_holds, .selects RX1 yX1_holds yX1_holds, .initialized RX1, .code yX1_holds cX1_holds 4 (some .boolean), .fieldLink RX1 19 "SumsOver$Names" "least" "[J", .fieldLink RX1 23 "SumsOver$Names" "greatest" "[J"] ++ wsX20 ++ wsX10)
def wsX2_settle_r1 : List Cond := [Cond.fieldLink RX2 9 "SumsOver$Reach" "least" "[J", Cond.fieldLink RX2 50 "SumsOver$Reach" "low" "J", Cond.fieldLink RX2 15 "SumsOver$Reach" "greatest" "[J", Cond.fieldLink RX2 57 "SumsOver$Reach" "high" "J", Cond.fieldLink RX2 18 "SumsOver$Reach" "names" "LSumsOver$Names;", Cond.fieldLink RX2 91 "SumsOver$Names" "nearest" "Z", Cond.fieldLink RX2 98 "SumsOver$Names" "least" "[J", Cond.fieldLink RX2 99 "SumsOver$Names" "greatest" "[J", Cond.methodLink RX2 81 yX2_fits, Cond.instanceMethod yX2_fits, Cond.selects RX2 yX2_fits yX2_fits, Cond.initialized RX2, Cond.code yX2_fits cX2_fits 2 (some .boolean), Cond.methodLink RX2 85 yX1_holds, Cond.instanceMethod yX1_holds, Cond.selects RX1 yX1_holds yX1_holds, Cond.initialized RX1, Cond.code yX1_holds cX1_holds 4 (some .boolean), Cond.fieldLink RX1 19 "SumsOver$Names" "least" "[J", Cond.fieldLink RX1 23 "SumsOver$Names" "greatest" "[J", Cond.methodLink RX2 94 yX1_nearestTo, Cond.instanceMethod yX1_nearestTo, Cond.selects RX1 yX1_nearestTo yX1_nearestTo, Cond.code yX1_nearestTo cX1_nearestTo 4 (some .long)]
def wsX2_settle_r2 : List Cond := [Cond.methodLink RX1 48 Lib.MathLoose.min_long.x, Cond.static Lib.MathLoose.min_long.x, Cond.initialized "java/lang/Math", Cond.code Lib.MathLoose.min_long.x Lib.MathLoose.min_long.code 4 (some .long), Cond.methodLink RX1 54 Lib.MathLoose.max_long.x, Cond.static Lib.MathLoose.max_long.x, Cond.code Lib.MathLoose.max_long.x Lib.MathLoose.max_long.code 4 (some .long)]
def wsX2_settle : List Cond := .code yX2_settle cX2_settle 2 none :: ((wsX2_settle_r1 ++ wsX2_settle_r2) ++ wsX20 ++ wsX10)
def wsX4_valueOfA : List Cond := .code yX4_valueOfA cX4_valueOfA 3 (some .long) :: ([.fieldLink RX4 18 "SumsOver$Steps" "as" "[I"] ++ wsX40)
def wsX4_valueOfB : List Cond := .code yX4_valueOfB cX4_valueOfB 3 (some .long) :: ([.fieldLink RX4 24 "SumsOver$Steps" "bIsName" "[Z", .fieldLink RX4 21 "SumsOver$Steps" "bs" "[I"] ++ wsX40)
def wsX7_made : List Cond := .code yX7_made cX7_made 5 (some .long) :: ([.methodLink RX7 211 Lib.MathLoose.min_long.x, .static Lib.MathLoose.min_long.x, .initialized "java/lang/Math", .code Lib.MathLoose.min_long.x Lib.MathLoose.min_long.code 4 (some .long)])
def wsX2_reckon_r1 : List Cond := [Cond.fieldLink RX2 22 "SumsOver$Reach" "steps" "LSumsOver$Steps;", Cond.fieldLink RX2 9 "SumsOver$Reach" "least" "[J", Cond.fieldLink RX2 15 "SumsOver$Reach" "greatest" "[J", Cond.fieldLink RX2 107 "SumsOver$Steps" "kinds" "[I", Cond.fieldLink RX2 50 "SumsOver$Reach" "low" "J", Cond.fieldLink RX2 57 "SumsOver$Reach" "high" "J", Cond.methodLink RX2 110 Lib.MathLoose.min_long.x, Cond.static Lib.MathLoose.min_long.x, Cond.initialized "java/lang/Math", Cond.code Lib.MathLoose.min_long.x Lib.MathLoose.min_long.code 4 (some .long), Cond.methodLink RX2 116 Lib.MathLoose.max_long.x, Cond.static Lib.MathLoose.max_long.x, Cond.code Lib.MathLoose.max_long.x Lib.MathLoose.max_long.code 4 (some .long), Cond.fieldLink RX2 18 "SumsOver$Reach" "names" "LSumsOver$Names;", Cond.fieldLink RX2 119 "SumsOver$Steps" "as" "[I", Cond.fieldLink RX2 122 "SumsOver$Steps" "bs" "[I", Cond.methodLink RX2 100 yX4_valueOfA, Cond.instanceMethod yX4_valueOfA, Cond.selects RX4 yX4_valueOfA yX4_valueOfA, Cond.initialized RX4, Cond.code yX4_valueOfA cX4_valueOfA 3 (some .long), Cond.fieldLink RX4 18 "SumsOver$Steps" "as" "[I", Cond.methodLink RX2 104 yX4_valueOfB, Cond.instanceMethod yX4_valueOfB]
def wsX2_reckon_r2 : List Cond := [Cond.selects RX4 yX4_valueOfB yX4_valueOfB, Cond.code yX4_valueOfB cX4_valueOfB 3 (some .long), Cond.fieldLink RX4 24 "SumsOver$Steps" "bIsName" "[Z", Cond.fieldLink RX4 21 "SumsOver$Steps" "bs" "[I", Cond.methodLink RX2 125 yX1_signedAlike, Cond.instanceMethod yX1_signedAlike, Cond.selects RX1 yX1_signedAlike yX1_signedAlike, Cond.initialized RX1, Cond.code yX1_signedAlike cX1_signedAlike 3 (some .boolean), Cond.fieldLink RX1 15 "SumsOver$Names" "signs" "[Z", Cond.static yX7_made, Cond.initialized RX7, Cond.code yX7_made cX7_made 5 (some .long), Cond.methodLink RX7 211 Lib.MathLoose.min_long.x]
def wsX2_reckon : List Cond := .code yX2_reckon cX2_reckon 12 none :: ((wsX2_reckon_r1 ++ wsX2_reckon_r2) ++ wsX20 ++ wsX40 ++ wsX10)
def wsX2_perform_r1 : List Cond := [Cond.fieldLink RX2 22 "SumsOver$Reach" "steps" "LSumsOver$Steps;", Cond.fieldLink RX2 75 "SumsOver$Steps" "targets" "[I", Cond.fieldLink RX2 30 "SumsOver$Reach" "couldBits" "I", Cond.methodLink RX2 78 yX2_reckon, Cond.instanceMethod yX2_reckon, Cond.selects RX2 yX2_reckon yX2_reckon, Cond.initialized RX2, Cond.code yX2_reckon cX2_reckon 12 none, Cond.fieldLink RX2 9 "SumsOver$Reach" "least" "[J", Cond.fieldLink RX2 15 "SumsOver$Reach" "greatest" "[J", Cond.fieldLink RX2 107 "SumsOver$Steps" "kinds" "[I", Cond.fieldLink RX2 50 "SumsOver$Reach" "low" "J", Cond.fieldLink RX2 57 "SumsOver$Reach" "high" "J", Cond.methodLink RX2 110 Lib.MathLoose.min_long.x, Cond.static Lib.MathLoose.min_long.x, Cond.initialized "java/lang/Math", Cond.code Lib.MathLoose.min_long.x Lib.MathLoose.min_long.code 4 (some .long), Cond.methodLink RX2 116 Lib.MathLoose.max_long.x, Cond.static Lib.MathLoose.max_long.x, Cond.code Lib.MathLoose.max_long.x Lib.MathLoose.max_long.code 4 (some .long), Cond.fieldLink RX2 18 "SumsOver$Reach" "names" "LSumsOver$Names;", Cond.fieldLink RX2 119 "SumsOver$Steps" "as" "[I", Cond.fieldLink RX2 122 "SumsOver$Steps" "bs" "[I", Cond.methodLink RX2 100 yX4_valueOfA]
def wsX2_perform_r2 : List Cond := [Cond.instanceMethod yX4_valueOfA, Cond.selects RX4 yX4_valueOfA yX4_valueOfA, Cond.initialized RX4, Cond.code yX4_valueOfA cX4_valueOfA 3 (some .long), Cond.fieldLink RX4 18 "SumsOver$Steps" "as" "[I", Cond.methodLink RX2 104 yX4_valueOfB, Cond.instanceMethod yX4_valueOfB, Cond.selects RX4 yX4_valueOfB yX4_valueOfB, Cond.code yX4_valueOfB cX4_valueOfB 3 (some .long), Cond.fieldLink RX4 24 "SumsOver$Steps" "bIsName" "[Z", Cond.fieldLink RX4 21 "SumsOver$Steps" "bs" "[I", Cond.methodLink RX2 125 yX1_signedAlike, Cond.instanceMethod yX1_signedAlike, Cond.selects RX1 yX1_signedAlike yX1_signedAlike, Cond.initialized RX1, Cond.code yX1_signedAlike cX1_signedAlike 3 (some .boolean), Cond.fieldLink RX1 15 "SumsOver$Names" "signs" "[Z", Cond.static yX7_made, Cond.initialized RX7, Cond.code yX7_made cX7_made 5 (some .long), Cond.methodLink RX7 211 Lib.MathLoose.min_long.x, Cond.methodLink RX2 81 yX2_fits, Cond.instanceMethod yX2_fits, Cond.selects RX2 yX2_fits yX2_fits]
def wsX2_perform_r3 : List Cond := [Cond.code yX2_fits cX2_fits 2 (some .boolean), Cond.methodLink RX2 85 yX1_holds, Cond.instanceMethod yX1_holds, Cond.selects RX1 yX1_holds yX1_holds, Cond.code yX1_holds cX1_holds 4 (some .boolean), Cond.fieldLink RX1 19 "SumsOver$Names" "least" "[J", Cond.fieldLink RX1 23 "SumsOver$Names" "greatest" "[J", Cond.methodLink RX2 60 yX2_settle, Cond.instanceMethod yX2_settle, Cond.selects RX2 yX2_settle yX2_settle, Cond.code yX2_settle cX2_settle 2 none, Cond.fieldLink RX2 91 "SumsOver$Names" "nearest" "Z", Cond.fieldLink RX2 98 "SumsOver$Names" "least" "[J", Cond.fieldLink RX2 99 "SumsOver$Names" "greatest" "[J", Cond.methodLink RX2 94 yX1_nearestTo, Cond.instanceMethod yX1_nearestTo, Cond.selects RX1 yX1_nearestTo yX1_nearestTo, Cond.code yX1_nearestTo cX1_nearestTo 4 (some .long), Cond.methodLink RX1 48 Lib.MathLoose.min_long.x, Cond.methodLink RX1 54 Lib.MathLoose.max_long.x]
def wsX2_perform : List Cond := .code yX2_perform cX2_perform 3 none :: ((wsX2_perform_r1 ++ (wsX2_perform_r2 ++ wsX2_perform_r3)) ++ wsX20 ++ wsX40 ++ wsX10)
def wsX2_learn_r1 : List Cond := [Cond.fieldLink RX2 34 "SumsOver$Reach" "known" "Z", Cond.fieldLink RX2 30 "SumsOver$Reach" "couldBits" "I", Cond.fieldLink RX2 9 "SumsOver$Reach" "least" "[J", Cond.fieldLink RX2 15 "SumsOver$Reach" "greatest" "[J", Cond.fieldLink RX2 26 "SumsOver$Reach" "inputs" "LSumsOver$Inputs;", Cond.fieldLink RX2 44 "SumsOver$Inputs" "from" "[I", Cond.fieldLink RX2 50 "SumsOver$Reach" "low" "J", Cond.fieldLink RX2 54 "SumsOver$Inputs" "to" "[I", Cond.fieldLink RX2 57 "SumsOver$Reach" "high" "J", Cond.fieldLink RX2 22 "SumsOver$Reach" "steps" "LSumsOver$Steps;", Cond.fieldLink RX2 64 "SumsOver$Steps" "pathLength" "I", Cond.fieldLink RX2 69 "SumsOver$Steps" "path" "[I", Cond.methodLink RX2 38 yJ7_fill_d0a16, Cond.static yJ7_fill_d0a16, Cond.initialized RJ7, Cond.code yJ7_fill_d0a16 cJ7_fill_d0a16 5 none, Cond.methodLink RX2 60 yX2_settle, Cond.instanceMethod yX2_settle, Cond.selects RX2 yX2_settle yX2_settle, Cond.initialized RX2, Cond.code yX2_settle cX2_settle 2 none, Cond.fieldLink RX2 18 "SumsOver$Reach" "names" "LSumsOver$Names;", Cond.fieldLink RX2 91 "SumsOver$Names" "nearest" "Z", Cond.fieldLink RX2 98 "SumsOver$Names" "least" "[J"]
def wsX2_learn_r2 : List Cond := [Cond.fieldLink RX2 99 "SumsOver$Names" "greatest" "[J", Cond.methodLink RX2 81 yX2_fits, Cond.instanceMethod yX2_fits, Cond.selects RX2 yX2_fits yX2_fits, Cond.code yX2_fits cX2_fits 2 (some .boolean), Cond.methodLink RX2 85 yX1_holds, Cond.instanceMethod yX1_holds, Cond.selects RX1 yX1_holds yX1_holds, Cond.initialized RX1, Cond.code yX1_holds cX1_holds 4 (some .boolean), Cond.fieldLink RX1 19 "SumsOver$Names" "least" "[J", Cond.fieldLink RX1 23 "SumsOver$Names" "greatest" "[J", Cond.methodLink RX2 94 yX1_nearestTo, Cond.instanceMethod yX1_nearestTo, Cond.selects RX1 yX1_nearestTo yX1_nearestTo, Cond.code yX1_nearestTo cX1_nearestTo 4 (some .long), Cond.methodLink RX1 48 Lib.MathLoose.min_long.x, Cond.static Lib.MathLoose.min_long.x, Cond.initialized "java/lang/Math", Cond.code Lib.MathLoose.min_long.x Lib.MathLoose.min_long.code 4 (some .long), Cond.methodLink RX1 54 Lib.MathLoose.max_long.x, Cond.static Lib.MathLoose.max_long.x, Cond.code Lib.MathLoose.max_long.x Lib.MathLoose.max_long.code 4 (some .long), Cond.methodLink RX2 72 yX2_perform]
def wsX2_learn_r3 : List Cond := [Cond.instanceMethod yX2_perform, Cond.selects RX2 yX2_perform yX2_perform, Cond.code yX2_perform cX2_perform 3 none, Cond.fieldLink RX2 75 "SumsOver$Steps" "targets" "[I", Cond.methodLink RX2 78 yX2_reckon, Cond.instanceMethod yX2_reckon, Cond.selects RX2 yX2_reckon yX2_reckon, Cond.code yX2_reckon cX2_reckon 12 none, Cond.fieldLink RX2 107 "SumsOver$Steps" "kinds" "[I", Cond.methodLink RX2 110 Lib.MathLoose.min_long.x, Cond.methodLink RX2 116 Lib.MathLoose.max_long.x, Cond.fieldLink RX2 119 "SumsOver$Steps" "as" "[I", Cond.fieldLink RX2 122 "SumsOver$Steps" "bs" "[I", Cond.methodLink RX2 100 yX4_valueOfA, Cond.instanceMethod yX4_valueOfA, Cond.selects RX4 yX4_valueOfA yX4_valueOfA, Cond.initialized RX4, Cond.code yX4_valueOfA cX4_valueOfA 3 (some .long), Cond.fieldLink RX4 18 "SumsOver$Steps" "as" "[I", Cond.methodLink RX2 104 yX4_valueOfB, Cond.instanceMethod yX4_valueOfB, Cond.selects RX4 yX4_valueOfB yX4_valueOfB, Cond.code yX4_valueOfB cX4_valueOfB 3 (some .long), Cond.fieldLink RX4 24 "SumsOver$Steps" "bIsName" "[Z"]
def wsX2_learn_r4 : List Cond := [Cond.fieldLink RX4 21 "SumsOver$Steps" "bs" "[I", Cond.methodLink RX2 125 yX1_signedAlike, Cond.instanceMethod yX1_signedAlike, Cond.selects RX1 yX1_signedAlike yX1_signedAlike, Cond.code yX1_signedAlike cX1_signedAlike 3 (some .boolean), Cond.fieldLink RX1 15 "SumsOver$Names" "signs" "[Z", Cond.static yX7_made, Cond.initialized RX7, Cond.code yX7_made cX7_made 5 (some .long), Cond.methodLink RX7 211 Lib.MathLoose.min_long.x]
def wsX2_learn : List Cond := .code yX2_learn cX2_learn 2 none :: ((wsX2_learn_r1 ++ (wsX2_learn_r2 ++ (wsX2_learn_r3 ++ wsX2_learn_r4))) ++ wsX20 ++ wsX00 ++ wsX40 ++ wsX10)
def wsX3_init : List Cond := .code yX3_init cX3_init 3 none :: ([.methodLink RX3 3 objectInit, .instanceMethod objectInit, .code objectInit ⟨#[0xb1]⟩ 1 none, .arrayClass .long, .fieldLink RX3 9 "SumsOver$Runner" "values" "[J", .fieldLink RX3 15 "SumsOver$Runner" "names" "LSumsOver$Names;", .fieldLink RX3 19 "SumsOver$Runner" "steps" "LSumsOver$Steps;"] ++ wsX30)
def wsX3_answer_r1 : List Cond := [Cond.fieldLink RX3 19 "SumsOver$Runner" "steps" "LSumsOver$Steps;", Cond.fieldLink RX3 72 "SumsOver$Steps" "kinds" "[I", Cond.fieldLink RX3 9 "SumsOver$Runner" "values" "[J", Cond.fieldLink RX3 15 "SumsOver$Runner" "names" "LSumsOver$Names;", Cond.fieldLink RX3 86 "SumsOver$Steps" "as" "[I", Cond.fieldLink RX3 89 "SumsOver$Steps" "bs" "[I", Cond.fieldLink RX3 27 "SumsOver$Runner" "turnedBits" "I", Cond.methodLink RX3 75 yX4_valueOfA, Cond.instanceMethod yX4_valueOfA, Cond.selects RX4 yX4_valueOfA yX4_valueOfA, Cond.initialized RX4, Cond.code yX4_valueOfA cX4_valueOfA 3 (some .long), Cond.fieldLink RX4 18 "SumsOver$Steps" "as" "[I", Cond.methodLink RX3 79 yX4_valueOfB, Cond.instanceMethod yX4_valueOfB, Cond.selects RX4 yX4_valueOfB yX4_valueOfB, Cond.code yX4_valueOfB cX4_valueOfB 3 (some .long), Cond.fieldLink RX4 24 "SumsOver$Steps" "bIsName" "[Z", Cond.fieldLink RX4 21 "SumsOver$Steps" "bs" "[I", Cond.static yX7_made, Cond.initialized RX7, Cond.code yX7_made cX7_made 5 (some .long), Cond.methodLink RX7 211 Lib.MathLoose.min_long.x, Cond.static Lib.MathLoose.min_long.x]
def wsX3_answer_r2 : List Cond := [Cond.initialized "java/lang/Math", Cond.code Lib.MathLoose.min_long.x Lib.MathLoose.min_long.code 4 (some .long), Cond.methodLink RX3 92 yX1_signedAlike, Cond.instanceMethod yX1_signedAlike, Cond.selects RX1 yX1_signedAlike yX1_signedAlike, Cond.initialized RX1, Cond.code yX1_signedAlike cX1_signedAlike 3 (some .boolean), Cond.fieldLink RX1 15 "SumsOver$Names" "signs" "[Z", Cond.methodLink RX3 96 yX1_belowByRests, Cond.instanceMethod yX1_belowByRests, Cond.selects RX1 yX1_belowByRests yX1_belowByRests, Cond.code yX1_belowByRests cX1_belowByRests 8 (some .long), Cond.fieldLink RX1 9 "SumsOver$Names" "widths" "[I", Cond.methodLink RX1 61 Lib.Math.max.name, Cond.static Lib.Math.max.name, Cond.code Lib.Math.max.name Lib.Math.max.code 2 (some .int), Cond.methodLink RX1 57 yX1_rest, Cond.static yX1_rest, Cond.code yX1_rest cX1_rest 3 (some .long)]
def wsX3_answer : List Cond := .code yX3_answer cX3_answer 11 (some .long) :: ((wsX3_answer_r1 ++ wsX3_answer_r2) ++ wsX30 ++ wsX40 ++ wsX10)
def wsX3_noteOver : List Cond := .code yX3_noteOver cX3_noteOver 2 none :: ([.fieldLink RX3 23 "SumsOver$Runner" "overBits" "I", .fieldLink RX3 30 "SumsOver$Runner" "firstOver" "I"] ++ wsX30)
def wsX3_perform_r1 : List Cond := [Cond.fieldLink RX3 19 "SumsOver$Runner" "steps" "LSumsOver$Steps;", Cond.fieldLink RX3 58 "SumsOver$Steps" "targets" "[I", Cond.fieldLink RX3 15 "SumsOver$Runner" "names" "LSumsOver$Names;", Cond.fieldLink RX3 9 "SumsOver$Runner" "values" "[J", Cond.methodLink RX3 61 yX3_answer, Cond.instanceMethod yX3_answer, Cond.selects RX3 yX3_answer yX3_answer, Cond.initialized RX3, Cond.code yX3_answer cX3_answer 11 (some .long), Cond.fieldLink RX3 72 "SumsOver$Steps" "kinds" "[I", Cond.fieldLink RX3 86 "SumsOver$Steps" "as" "[I", Cond.fieldLink RX3 89 "SumsOver$Steps" "bs" "[I", Cond.fieldLink RX3 27 "SumsOver$Runner" "turnedBits" "I", Cond.methodLink RX3 75 yX4_valueOfA, Cond.instanceMethod yX4_valueOfA, Cond.selects RX4 yX4_valueOfA yX4_valueOfA, Cond.initialized RX4, Cond.code yX4_valueOfA cX4_valueOfA 3 (some .long), Cond.fieldLink RX4 18 "SumsOver$Steps" "as" "[I", Cond.methodLink RX3 79 yX4_valueOfB, Cond.instanceMethod yX4_valueOfB, Cond.selects RX4 yX4_valueOfB yX4_valueOfB, Cond.code yX4_valueOfB cX4_valueOfB 3 (some .long), Cond.fieldLink RX4 24 "SumsOver$Steps" "bIsName" "[Z"]
def wsX3_perform_r2 : List Cond := [Cond.fieldLink RX4 21 "SumsOver$Steps" "bs" "[I", Cond.static yX7_made, Cond.initialized RX7, Cond.code yX7_made cX7_made 5 (some .long), Cond.methodLink RX7 211 Lib.MathLoose.min_long.x, Cond.static Lib.MathLoose.min_long.x, Cond.initialized "java/lang/Math", Cond.code Lib.MathLoose.min_long.x Lib.MathLoose.min_long.code 4 (some .long), Cond.methodLink RX3 92 yX1_signedAlike, Cond.instanceMethod yX1_signedAlike, Cond.selects RX1 yX1_signedAlike yX1_signedAlike, Cond.initialized RX1, Cond.code yX1_signedAlike cX1_signedAlike 3 (some .boolean), Cond.fieldLink RX1 15 "SumsOver$Names" "signs" "[Z", Cond.methodLink RX3 96 yX1_belowByRests, Cond.instanceMethod yX1_belowByRests, Cond.selects RX1 yX1_belowByRests yX1_belowByRests, Cond.code yX1_belowByRests cX1_belowByRests 8 (some .long), Cond.fieldLink RX1 9 "SumsOver$Names" "widths" "[I", Cond.methodLink RX1 61 Lib.Math.max.name, Cond.static Lib.Math.max.name, Cond.code Lib.Math.max.name Lib.Math.max.code 2 (some .int), Cond.methodLink RX1 57 yX1_rest, Cond.static yX1_rest]
def wsX3_perform_r3 : List Cond := [Cond.code yX1_rest cX1_rest 3 (some .long), Cond.methodLink RX3 65 yX1_holds, Cond.instanceMethod yX1_holds, Cond.selects RX1 yX1_holds yX1_holds, Cond.code yX1_holds cX1_holds 4 (some .boolean), Cond.fieldLink RX1 19 "SumsOver$Names" "least" "[J", Cond.fieldLink RX1 23 "SumsOver$Names" "greatest" "[J", Cond.methodLink RX3 69 yX3_noteOver, Cond.instanceMethod yX3_noteOver, Cond.selects RX3 yX3_noteOver yX3_noteOver, Cond.code yX3_noteOver cX3_noteOver 2 none, Cond.fieldLink RX3 23 "SumsOver$Runner" "overBits" "I", Cond.fieldLink RX3 30 "SumsOver$Runner" "firstOver" "I", Cond.methodLink RX3 39 yX1_fitted, Cond.instanceMethod yX1_fitted, Cond.selects RX1 yX1_fitted yX1_fitted, Cond.code yX1_fitted cX1_fitted 4 (some .long), Cond.fieldLink RX1 37 "SumsOver$Names" "nearest" "Z", Cond.methodLink RX1 41 yX1_nearestTo, Cond.instanceMethod yX1_nearestTo, Cond.selects RX1 yX1_nearestTo yX1_nearestTo, Cond.code yX1_nearestTo cX1_nearestTo 4 (some .long), Cond.methodLink RX1 48 Lib.MathLoose.min_long.x, Cond.methodLink RX1 54 Lib.MathLoose.max_long.x]
def wsX3_perform_r4 : List Cond := [Cond.static Lib.MathLoose.max_long.x, Cond.code Lib.MathLoose.max_long.x Lib.MathLoose.max_long.code 4 (some .long), Cond.methodLink RX1 45 yX1_wrapped, Cond.instanceMethod yX1_wrapped, Cond.selects RX1 yX1_wrapped yX1_wrapped, Cond.code yX1_wrapped cX1_wrapped 4 (some .long)]
def wsX3_perform : List Cond := .code yX3_perform cX3_perform 5 none :: ((wsX3_perform_r1 ++ (wsX3_perform_r2 ++ (wsX3_perform_r3 ++ wsX3_perform_r4))) ++ wsX30 ++ wsX40 ++ wsX10)
def wsX3_follow_r1 : List Cond := [Cond.fieldLink RX3 23 "SumsOver$Runner" "overBits" "I", Cond.fieldLink RX3 27 "SumsOver$Runner" "turnedBits" "I", Cond.fieldLink RX3 30 "SumsOver$Runner" "firstOver" "I", Cond.fieldLink RX3 9 "SumsOver$Runner" "values" "[J", Cond.fieldLink RX3 15 "SumsOver$Runner" "names" "LSumsOver$Names;", Cond.fieldLink RX3 19 "SumsOver$Runner" "steps" "LSumsOver$Steps;", Cond.fieldLink RX3 45 "SumsOver$Steps" "pathLength" "I", Cond.fieldLink RX3 50 "SumsOver$Steps" "path" "[I", Cond.methodLink RX3 33 yJ7_fill_d0a16, Cond.static yJ7_fill_d0a16, Cond.initialized RJ7, Cond.code yJ7_fill_d0a16 cJ7_fill_d0a16 5 none, Cond.methodLink RX3 39 yX1_fitted, Cond.instanceMethod yX1_fitted, Cond.selects RX1 yX1_fitted yX1_fitted, Cond.initialized RX1, Cond.code yX1_fitted cX1_fitted 4 (some .long), Cond.fieldLink RX1 37 "SumsOver$Names" "nearest" "Z", Cond.methodLink RX1 41 yX1_nearestTo, Cond.instanceMethod yX1_nearestTo, Cond.selects RX1 yX1_nearestTo yX1_nearestTo, Cond.code yX1_nearestTo cX1_nearestTo 4 (some .long), Cond.fieldLink RX1 19 "SumsOver$Names" "least" "[J", Cond.fieldLink RX1 23 "SumsOver$Names" "greatest" "[J"]
def wsX3_follow_r2 : List Cond := [Cond.methodLink RX1 48 Lib.MathLoose.min_long.x, Cond.static Lib.MathLoose.min_long.x, Cond.initialized "java/lang/Math", Cond.code Lib.MathLoose.min_long.x Lib.MathLoose.min_long.code 4 (some .long), Cond.methodLink RX1 54 Lib.MathLoose.max_long.x, Cond.static Lib.MathLoose.max_long.x, Cond.code Lib.MathLoose.max_long.x Lib.MathLoose.max_long.code 4 (some .long), Cond.methodLink RX1 45 yX1_wrapped, Cond.instanceMethod yX1_wrapped, Cond.selects RX1 yX1_wrapped yX1_wrapped, Cond.code yX1_wrapped cX1_wrapped 4 (some .long), Cond.fieldLink RX1 9 "SumsOver$Names" "widths" "[I", Cond.methodLink RX1 57 yX1_rest, Cond.static yX1_rest, Cond.code yX1_rest cX1_rest 3 (some .long), Cond.methodLink RX3 54 yX3_perform, Cond.instanceMethod yX3_perform, Cond.selects RX3 yX3_perform yX3_perform, Cond.initialized RX3, Cond.code yX3_perform cX3_perform 5 none, Cond.fieldLink RX3 58 "SumsOver$Steps" "targets" "[I", Cond.methodLink RX3 61 yX3_answer, Cond.instanceMethod yX3_answer, Cond.selects RX3 yX3_answer yX3_answer]
def wsX3_follow_r3 : List Cond := [Cond.code yX3_answer cX3_answer 11 (some .long), Cond.fieldLink RX3 72 "SumsOver$Steps" "kinds" "[I", Cond.fieldLink RX3 86 "SumsOver$Steps" "as" "[I", Cond.fieldLink RX3 89 "SumsOver$Steps" "bs" "[I", Cond.methodLink RX3 75 yX4_valueOfA, Cond.instanceMethod yX4_valueOfA, Cond.selects RX4 yX4_valueOfA yX4_valueOfA, Cond.initialized RX4, Cond.code yX4_valueOfA cX4_valueOfA 3 (some .long), Cond.fieldLink RX4 18 "SumsOver$Steps" "as" "[I", Cond.methodLink RX3 79 yX4_valueOfB, Cond.instanceMethod yX4_valueOfB, Cond.selects RX4 yX4_valueOfB yX4_valueOfB, Cond.code yX4_valueOfB cX4_valueOfB 3 (some .long), Cond.fieldLink RX4 24 "SumsOver$Steps" "bIsName" "[Z", Cond.fieldLink RX4 21 "SumsOver$Steps" "bs" "[I", Cond.static yX7_made, Cond.initialized RX7, Cond.code yX7_made cX7_made 5 (some .long), Cond.methodLink RX7 211 Lib.MathLoose.min_long.x, Cond.methodLink RX3 92 yX1_signedAlike, Cond.instanceMethod yX1_signedAlike, Cond.selects RX1 yX1_signedAlike yX1_signedAlike, Cond.code yX1_signedAlike cX1_signedAlike 3 (some .boolean)]
def wsX3_follow_r4 : List Cond := [Cond.fieldLink RX1 15 "SumsOver$Names" "signs" "[Z", Cond.methodLink RX3 96 yX1_belowByRests, Cond.instanceMethod yX1_belowByRests, Cond.selects RX1 yX1_belowByRests yX1_belowByRests, Cond.code yX1_belowByRests cX1_belowByRests 8 (some .long), Cond.methodLink RX1 61 Lib.Math.max.name, Cond.static Lib.Math.max.name, Cond.code Lib.Math.max.name Lib.Math.max.code 2 (some .int), Cond.methodLink RX3 65 yX1_holds, Cond.instanceMethod yX1_holds, Cond.selects RX1 yX1_holds yX1_holds, Cond.code yX1_holds cX1_holds 4 (some .boolean), Cond.methodLink RX3 69 yX3_noteOver, Cond.instanceMethod yX3_noteOver, Cond.selects RX3 yX3_noteOver yX3_noteOver, Cond.code yX3_noteOver cX3_noteOver 2 none]
def wsX3_follow : List Cond := .code yX3_follow cX3_follow 4 none :: ((wsX3_follow_r1 ++ (wsX3_follow_r2 ++ (wsX3_follow_r3 ++ wsX3_follow_r4))) ++ wsX30 ++ wsX40 ++ wsX10)
def wsX4_init : List Cond := .code yX4_init cX4_init 1 none :: ([.methodLink RX4 3 objectInit, .instanceMethod objectInit, .code objectInit ⟨#[0xb1]⟩ 1 none, .arrayClass .int, .fieldLink RX4 9 "SumsOver$Steps" "kinds" "[I", .fieldLink RX4 15 "SumsOver$Steps" "targets" "[I", .fieldLink RX4 18 "SumsOver$Steps" "as" "[I", .fieldLink RX4 21 "SumsOver$Steps" "bs" "[I", .arrayClass .boolean, .fieldLink RX4 24 "SumsOver$Steps" "bIsName" "[Z", .fieldLink RX4 28 "SumsOver$Steps" "meant" "[Z", .fieldLink RX4 31 "SumsOver$Steps" "path" "[I"] ++ wsX40)
def wsX7_hasTarget : List Cond := .code yX7_hasTarget cX7_hasTarget 1 (some .boolean) :: ([])
def wsX7_readsA : List Cond := .code yX7_readsA cX7_readsA 1 (some .boolean) :: ([])
def wsX7_readsB : List Cond := .code yX7_readsB cX7_readsB 1 (some .boolean) :: ([])
def wsX4_endOf : List Cond := .code yX4_endOf cX4_endOf 3 (some .int) :: ([.fieldLink RX4 34 "SumsOver$Steps" "size" "I", .fieldLink RX4 9 "SumsOver$Steps" "kinds" "[I"] ++ wsX40)
def wsX4_trace : List Cond := .code yX4_trace cX4_trace 4 none :: ([.fieldLink RX4 51 "SumsOver$Steps" "pathLength" "I", .fieldLink RX4 31 "SumsOver$Steps" "path" "[I"] ++ wsX40)
def wsX4_retrace : List Cond := .code yX4_retrace cX4_retrace 4 none :: ([.fieldLink RX4 51 "SumsOver$Steps" "pathLength" "I", .fieldLink RX4 34 "SumsOver$Steps" "size" "I", .fieldLink RX4 9 "SumsOver$Steps" "kinds" "[I", .fieldLink RX4 21 "SumsOver$Steps" "bs" "[I", .methodLink RX4 54 yX4_endOf, .instanceMethod yX4_endOf, .selects RX4 yX4_endOf yX4_endOf, .initialized RX4, .code yX4_endOf cX4_endOf 3 (some .int), .methodLink RX4 58 yX4_trace, .instanceMethod yX4_trace, .selects RX4 yX4_trace yX4_trace, .code yX4_trace cX4_trace 4 none, .fieldLink RX4 31 "SumsOver$Steps" "path" "[I"] ++ wsX40)
def wsX4_append_r1 : List Cond := [Cond.fieldLink RX4 9 "SumsOver$Steps" "kinds" "[I", Cond.fieldLink RX4 34 "SumsOver$Steps" "size" "I", Cond.fieldLink RX4 15 "SumsOver$Steps" "targets" "[I", Cond.fieldLink RX4 18 "SumsOver$Steps" "as" "[I", Cond.fieldLink RX4 21 "SumsOver$Steps" "bs" "[I", Cond.fieldLink RX4 24 "SumsOver$Steps" "bIsName" "[Z", Cond.static yX7_hasTarget, Cond.initialized RX7, Cond.code yX7_hasTarget cX7_hasTarget 1 (some .boolean), Cond.static yX7_readsA, Cond.code yX7_readsA cX7_readsA 1 (some .boolean), Cond.static yX7_readsB, Cond.code yX7_readsB cX7_readsB 1 (some .boolean), Cond.methodLink RX4 48 yX4_retrace, Cond.instanceMethod yX4_retrace, Cond.selects RX4 yX4_retrace yX4_retrace, Cond.initialized RX4, Cond.code yX4_retrace cX4_retrace 4 none, Cond.fieldLink RX4 51 "SumsOver$Steps" "pathLength" "I", Cond.methodLink RX4 54 yX4_endOf, Cond.instanceMethod yX4_endOf, Cond.selects RX4 yX4_endOf yX4_endOf, Cond.code yX4_endOf cX4_endOf 3 (some .int), Cond.methodLink RX4 58 yX4_trace]
def wsX4_append_r2 : List Cond := [Cond.instanceMethod yX4_trace, Cond.selects RX4 yX4_trace yX4_trace, Cond.code yX4_trace cX4_trace 4 none, Cond.fieldLink RX4 31 "SumsOver$Steps" "path" "[I"]
def wsX4_append : List Cond := .code yX4_append cX4_append 5 none :: ((wsX4_append_r1 ++ wsX4_append_r2) ++ wsX40)
def wsX4_dropLast : List Cond := .code yX4_dropLast cX4_dropLast 1 none :: ([.fieldLink RX4 34 "SumsOver$Steps" "size" "I", .fieldLink RX4 28 "SumsOver$Steps" "meant" "[Z", .methodLink RX4 48 yX4_retrace, .instanceMethod yX4_retrace, .selects RX4 yX4_retrace yX4_retrace, .initialized RX4, .code yX4_retrace cX4_retrace 4 none, .fieldLink RX4 51 "SumsOver$Steps" "pathLength" "I", .fieldLink RX4 9 "SumsOver$Steps" "kinds" "[I", .fieldLink RX4 21 "SumsOver$Steps" "bs" "[I", .methodLink RX4 54 yX4_endOf, .instanceMethod yX4_endOf, .selects RX4 yX4_endOf yX4_endOf, .code yX4_endOf cX4_endOf 3 (some .int), .methodLink RX4 58 yX4_trace, .instanceMethod yX4_trace, .selects RX4 yX4_trace yX4_trace, .code yX4_trace cX4_trace 4 none, .fieldLink RX4 31 "SumsOver$Steps" "path" "[I"] ++ wsX40)
def wsX4_inLoop : List Cond := .code yX4_inLoop cX4_inLoop 3 (some .boolean) :: ([.fieldLink RX4 34 "SumsOver$Steps" "size" "I", .fieldLink RX4 9 "SumsOver$Steps" "kinds" "[I"] ++ wsX40)
def wsX4_marks : List Cond := .code yX4_marks cX4_marks 3 (some .int) :: ([.fieldLink RX4 34 "SumsOver$Steps" "size" "I", .fieldLink RX4 28 "SumsOver$Steps" "meant" "[Z"] ++ wsX40)
def wsX5_init : List Cond := .code yX5_init cX5_init 3 none :: ([.methodLink RX5 3 objectInit, .instanceMethod objectInit, .code objectInit ⟨#[0xb1]⟩ 1 none, .arrayClass .int, .fieldLink RX5 9 "SumsOver$Tally" "over" "[I", .fieldLink RX5 15 "SumsOver$Tally" "shown" "[I", .fieldLink RX5 18 "SumsOver$Tally" "turned" "[I", .fieldLink RX5 21 "SumsOver$Tally" "runner" "LSumsOver$Runner;", .fieldLink RX5 25 "SumsOver$Tally" "inputs" "LSumsOver$Inputs;"] ++ wsX50)
def wsJ7_fill_53178 : List Cond := .code yJ7_fill_53178 cJ7_fill_53178 4 none :: ([])
def wsX5_noteOver : List Cond := .code yX5_noteOver cX5_noteOver 4 none :: ([.fieldLink RX5 9 "SumsOver$Tally" "over" "[I", .fieldLink RX5 15 "SumsOver$Tally" "shown" "[I"] ++ wsX50)
def wsX5_noteTurned : List Cond := .code yX5_noteTurned cX5_noteTurned 3 none :: ([.fieldLink RX5 18 "SumsOver$Tally" "turned" "[I"] ++ wsX50)
def wsX5_note : List Cond := .code yX5_note cX5_note 2 none :: ([.fieldLink RX5 21 "SumsOver$Tally" "runner" "LSumsOver$Runner;", .fieldLink RX5 61 "SumsOver$Runner" "overBits" "I", .fieldLink RX5 39 "SumsOver$Tally" "runsOver" "I", .fieldLink RX5 67 "SumsOver$Runner" "turnedBits" "I", .methodLink RX5 64 yX5_noteOver, .instanceMethod yX5_noteOver, .selects RX5 yX5_noteOver yX5_noteOver, .initialized RX5, .code yX5_noteOver cX5_noteOver 4 none, .fieldLink RX5 9 "SumsOver$Tally" "over" "[I", .fieldLink RX5 15 "SumsOver$Tally" "shown" "[I", .methodLink RX5 70 yX5_noteTurned, .instanceMethod yX5_noteTurned, .selects RX5 yX5_noteTurned yX5_noteTurned, .code yX5_noteTurned cX5_noteTurned 3 none, .fieldLink RX5 18 "SumsOver$Tally" "turned" "[I"] ++ wsX50 ++ wsX30)
def wsX5_learn_r1 : List Cond := [Cond.fieldLink RX5 29 "SumsOver$Tally" "known" "Z", Cond.fieldLink RX5 9 "SumsOver$Tally" "over" "[I", Cond.fieldLink RX5 15 "SumsOver$Tally" "shown" "[I", Cond.fieldLink RX5 18 "SumsOver$Tally" "turned" "[I", Cond.fieldLink RX5 39 "SumsOver$Tally" "runsOver" "I", Cond.fieldLink RX5 25 "SumsOver$Tally" "inputs" "LSumsOver$Inputs;", Cond.fieldLink RX5 43 "SumsOver$Inputs" "from" "[I", Cond.fieldLink RX5 48 "SumsOver$Inputs" "to" "[I", Cond.fieldLink RX5 21 "SumsOver$Tally" "runner" "LSumsOver$Runner;", Cond.methodLink RX5 33 yJ7_fill_53178, Cond.static yJ7_fill_53178, Cond.initialized RJ7, Cond.code yJ7_fill_53178 cJ7_fill_53178 4 none, Cond.methodLink RX5 51 yX3_follow, Cond.instanceMethod yX3_follow, Cond.selects RX3 yX3_follow yX3_follow, Cond.initialized RX3, Cond.code yX3_follow cX3_follow 4 none, Cond.fieldLink RX3 23 "SumsOver$Runner" "overBits" "I", Cond.fieldLink RX3 27 "SumsOver$Runner" "turnedBits" "I", Cond.fieldLink RX3 30 "SumsOver$Runner" "firstOver" "I", Cond.fieldLink RX3 9 "SumsOver$Runner" "values" "[J", Cond.fieldLink RX3 15 "SumsOver$Runner" "names" "LSumsOver$Names;", Cond.fieldLink RX3 19 "SumsOver$Runner" "steps" "LSumsOver$Steps;"]
def wsX5_learn_r2 : List Cond := [Cond.fieldLink RX3 45 "SumsOver$Steps" "pathLength" "I", Cond.fieldLink RX3 50 "SumsOver$Steps" "path" "[I", Cond.methodLink RX3 33 yJ7_fill_d0a16, Cond.static yJ7_fill_d0a16, Cond.code yJ7_fill_d0a16 cJ7_fill_d0a16 5 none, Cond.methodLink RX3 39 yX1_fitted, Cond.instanceMethod yX1_fitted, Cond.selects RX1 yX1_fitted yX1_fitted, Cond.initialized RX1, Cond.code yX1_fitted cX1_fitted 4 (some .long), Cond.fieldLink RX1 37 "SumsOver$Names" "nearest" "Z", Cond.methodLink RX1 41 yX1_nearestTo, Cond.instanceMethod yX1_nearestTo, Cond.selects RX1 yX1_nearestTo yX1_nearestTo, Cond.code yX1_nearestTo cX1_nearestTo 4 (some .long), Cond.fieldLink RX1 19 "SumsOver$Names" "least" "[J", Cond.fieldLink RX1 23 "SumsOver$Names" "greatest" "[J", Cond.methodLink RX1 48 Lib.MathLoose.min_long.x, Cond.static Lib.MathLoose.min_long.x, Cond.initialized "java/lang/Math", Cond.code Lib.MathLoose.min_long.x Lib.MathLoose.min_long.code 4 (some .long), Cond.methodLink RX1 54 Lib.MathLoose.max_long.x, Cond.static Lib.MathLoose.max_long.x, Cond.code Lib.MathLoose.max_long.x Lib.MathLoose.max_long.code 4 (some .long)]
def wsX5_learn_r3 : List Cond := [Cond.methodLink RX1 45 yX1_wrapped, Cond.instanceMethod yX1_wrapped, Cond.selects RX1 yX1_wrapped yX1_wrapped, Cond.code yX1_wrapped cX1_wrapped 4 (some .long), Cond.fieldLink RX1 9 "SumsOver$Names" "widths" "[I", Cond.methodLink RX1 57 yX1_rest, Cond.static yX1_rest, Cond.code yX1_rest cX1_rest 3 (some .long), Cond.methodLink RX3 54 yX3_perform, Cond.instanceMethod yX3_perform, Cond.selects RX3 yX3_perform yX3_perform, Cond.code yX3_perform cX3_perform 5 none, Cond.fieldLink RX3 58 "SumsOver$Steps" "targets" "[I", Cond.methodLink RX3 61 yX3_answer, Cond.instanceMethod yX3_answer, Cond.selects RX3 yX3_answer yX3_answer, Cond.code yX3_answer cX3_answer 11 (some .long), Cond.fieldLink RX3 72 "SumsOver$Steps" "kinds" "[I", Cond.fieldLink RX3 86 "SumsOver$Steps" "as" "[I", Cond.fieldLink RX3 89 "SumsOver$Steps" "bs" "[I", Cond.methodLink RX3 75 yX4_valueOfA, Cond.instanceMethod yX4_valueOfA, Cond.selects RX4 yX4_valueOfA yX4_valueOfA, Cond.initialized RX4]
def wsX5_learn_r4 : List Cond := [Cond.code yX4_valueOfA cX4_valueOfA 3 (some .long), Cond.fieldLink RX4 18 "SumsOver$Steps" "as" "[I", Cond.methodLink RX3 79 yX4_valueOfB, Cond.instanceMethod yX4_valueOfB, Cond.selects RX4 yX4_valueOfB yX4_valueOfB, Cond.code yX4_valueOfB cX4_valueOfB 3 (some .long), Cond.fieldLink RX4 24 "SumsOver$Steps" "bIsName" "[Z", Cond.fieldLink RX4 21 "SumsOver$Steps" "bs" "[I", Cond.static yX7_made, Cond.initialized RX7, Cond.code yX7_made cX7_made 5 (some .long), Cond.methodLink RX7 211 Lib.MathLoose.min_long.x, Cond.methodLink RX3 92 yX1_signedAlike, Cond.instanceMethod yX1_signedAlike, Cond.selects RX1 yX1_signedAlike yX1_signedAlike, Cond.code yX1_signedAlike cX1_signedAlike 3 (some .boolean), Cond.fieldLink RX1 15 "SumsOver$Names" "signs" "[Z", Cond.methodLink RX3 96 yX1_belowByRests, Cond.instanceMethod yX1_belowByRests, Cond.selects RX1 yX1_belowByRests yX1_belowByRests, Cond.code yX1_belowByRests cX1_belowByRests 8 (some .long), Cond.methodLink RX1 61 Lib.Math.max.name, Cond.static Lib.Math.max.name, Cond.code Lib.Math.max.name Lib.Math.max.code 2 (some .int)]
def wsX5_learn_r5 : List Cond := [Cond.methodLink RX3 65 yX1_holds, Cond.instanceMethod yX1_holds, Cond.selects RX1 yX1_holds yX1_holds, Cond.code yX1_holds cX1_holds 4 (some .boolean), Cond.methodLink RX3 69 yX3_noteOver, Cond.instanceMethod yX3_noteOver, Cond.selects RX3 yX3_noteOver yX3_noteOver, Cond.code yX3_noteOver cX3_noteOver 2 none, Cond.methodLink RX5 57 yX5_note, Cond.instanceMethod yX5_note, Cond.selects RX5 yX5_note yX5_note, Cond.initialized RX5, Cond.code yX5_note cX5_note 2 none, Cond.fieldLink RX5 61 "SumsOver$Runner" "overBits" "I", Cond.fieldLink RX5 67 "SumsOver$Runner" "turnedBits" "I", Cond.methodLink RX5 64 yX5_noteOver, Cond.instanceMethod yX5_noteOver, Cond.selects RX5 yX5_noteOver yX5_noteOver, Cond.code yX5_noteOver cX5_noteOver 4 none, Cond.methodLink RX5 70 yX5_noteTurned, Cond.instanceMethod yX5_noteTurned, Cond.selects RX5 yX5_noteTurned yX5_noteTurned, Cond.code yX5_noteTurned cX5_noteTurned 3 none]
def wsX5_learn : List Cond := .code yX5_learn cX5_learn 3 none :: ((wsX5_learn_r1 ++ (wsX5_learn_r2 ++ (wsX5_learn_r3 ++ (wsX5_learn_r4 ++ wsX5_learn_r5)))) ++ wsX50 ++ wsX00 ++ wsX30 ++ wsX40 ++ wsX10)
def wsX6_init : List Cond := .code yX6_init cX6_init 3 none :: ([.methodLink RX6 3 objectInit, .instanceMethod objectInit, .code objectInit ⟨#[0xb1]⟩ 1 none, .arrayClass .long, .fieldLink RX6 9 "SumsOver$Trues" "least" "[J", .fieldLink RX6 15 "SumsOver$Trues" "greatest" "[J", .fieldLink RX6 18 "SumsOver$Trues" "values" "[J", .fieldLink RX6 21 "SumsOver$Trues" "steps" "LSumsOver$Steps;", .fieldLink RX6 25 "SumsOver$Trues" "inputs" "LSumsOver$Inputs;"] ++ wsX60)
def wsX6_give : List Cond := .code yX6_give cX6_give 4 none :: ([.fieldLink RX6 18 "SumsOver$Trues" "values" "[J", .fieldLink RX6 9 "SumsOver$Trues" "least" "[J", .methodLink RX6 101 Lib.MathLoose.min_long.x, .static Lib.MathLoose.min_long.x, .initialized "java/lang/Math", .code Lib.MathLoose.min_long.x Lib.MathLoose.min_long.code 4 (some .long), .fieldLink RX6 15 "SumsOver$Trues" "greatest" "[J", .methodLink RX6 105 Lib.MathLoose.max_long.x, .static Lib.MathLoose.max_long.x, .code Lib.MathLoose.max_long.x Lib.MathLoose.max_long.code 4 (some .long), .methodLink RX6 93 Lib.MathLoose.abs_long.x, .static Lib.MathLoose.abs_long.x, .code Lib.MathLoose.abs_long.x Lib.MathLoose.abs_long.code 2 (some .long), .constantLong RX6 99 (1099511627776), .fieldLink RX6 33 "SumsOver$Trues" "tooFar" "Z"] ++ wsX60)
def wsX6_isProductTooFar : List Cond := .code yX6_isProductTooFar cX6_isProductTooFar 4 (some .boolean) :: ([.methodLink RX6 93 Lib.MathLoose.abs_long.x, .static Lib.MathLoose.abs_long.x, .initialized "java/lang/Math", .code Lib.MathLoose.abs_long.x Lib.MathLoose.abs_long.code 2 (some .long), .constantLong RX6 99 (1099511627776)])
def wsX6_perform_r1 : List Cond := [Cond.fieldLink RX6 21 "SumsOver$Trues" "steps" "LSumsOver$Steps;", Cond.fieldLink RX6 72 "SumsOver$Steps" "kinds" "[I", Cond.fieldLink RX6 18 "SumsOver$Trues" "values" "[J", Cond.fieldLink RX6 33 "SumsOver$Trues" "tooFar" "Z", Cond.fieldLink RX6 86 "SumsOver$Steps" "targets" "[I", Cond.methodLink RX6 75 yX4_valueOfA, Cond.instanceMethod yX4_valueOfA, Cond.selects RX4 yX4_valueOfA yX4_valueOfA, Cond.initialized RX4, Cond.code yX4_valueOfA cX4_valueOfA 3 (some .long), Cond.fieldLink RX4 18 "SumsOver$Steps" "as" "[I", Cond.methodLink RX6 79 yX4_valueOfB, Cond.instanceMethod yX4_valueOfB, Cond.selects RX4 yX4_valueOfB yX4_valueOfB, Cond.code yX4_valueOfB cX4_valueOfB 3 (some .long), Cond.fieldLink RX4 24 "SumsOver$Steps" "bIsName" "[Z", Cond.fieldLink RX4 21 "SumsOver$Steps" "bs" "[I", Cond.methodLink RX6 82 yX6_isProductTooFar, Cond.static yX6_isProductTooFar, Cond.initialized RX6, Cond.code yX6_isProductTooFar cX6_isProductTooFar 4 (some .boolean), Cond.methodLink RX6 93 Lib.MathLoose.abs_long.x, Cond.static Lib.MathLoose.abs_long.x, Cond.initialized "java/lang/Math"]
def wsX6_perform_r2 : List Cond := [Cond.code Lib.MathLoose.abs_long.x Lib.MathLoose.abs_long.code 2 (some .long), Cond.constantLong RX6 99 (1099511627776), Cond.static yX7_made, Cond.initialized RX7, Cond.code yX7_made cX7_made 5 (some .long), Cond.methodLink RX7 211 Lib.MathLoose.min_long.x, Cond.static Lib.MathLoose.min_long.x, Cond.code Lib.MathLoose.min_long.x Lib.MathLoose.min_long.code 4 (some .long), Cond.methodLink RX6 55 yX6_give, Cond.instanceMethod yX6_give, Cond.selects RX6 yX6_give yX6_give, Cond.code yX6_give cX6_give 4 none, Cond.fieldLink RX6 9 "SumsOver$Trues" "least" "[J", Cond.methodLink RX6 101 Lib.MathLoose.min_long.x, Cond.fieldLink RX6 15 "SumsOver$Trues" "greatest" "[J", Cond.methodLink RX6 105 Lib.MathLoose.max_long.x, Cond.static Lib.MathLoose.max_long.x, Cond.code Lib.MathLoose.max_long.x Lib.MathLoose.max_long.code 4 (some .long)]
def wsX6_perform : List Cond := .code yX6_perform cX6_perform 7 none :: ((wsX6_perform_r1 ++ wsX6_perform_r2) ++ wsX60 ++ wsX40)
def wsX6_follow_r1 : List Cond := [Cond.fieldLink RX6 18 "SumsOver$Trues" "values" "[J", Cond.fieldLink RX6 21 "SumsOver$Trues" "steps" "LSumsOver$Steps;", Cond.fieldLink RX6 59 "SumsOver$Steps" "pathLength" "I", Cond.fieldLink RX6 33 "SumsOver$Trues" "tooFar" "Z", Cond.fieldLink RX6 65 "SumsOver$Steps" "path" "[I", Cond.methodLink RX6 36 yJ7_fill_d0a16, Cond.static yJ7_fill_d0a16, Cond.initialized RJ7, Cond.code yJ7_fill_d0a16 cJ7_fill_d0a16 5 none, Cond.methodLink RX6 55 yX6_give, Cond.instanceMethod yX6_give, Cond.selects RX6 yX6_give yX6_give, Cond.initialized RX6, Cond.code yX6_give cX6_give 4 none, Cond.fieldLink RX6 9 "SumsOver$Trues" "least" "[J", Cond.methodLink RX6 101 Lib.MathLoose.min_long.x, Cond.static Lib.MathLoose.min_long.x, Cond.initialized "java/lang/Math", Cond.code Lib.MathLoose.min_long.x Lib.MathLoose.min_long.code 4 (some .long), Cond.fieldLink RX6 15 "SumsOver$Trues" "greatest" "[J", Cond.methodLink RX6 105 Lib.MathLoose.max_long.x, Cond.static Lib.MathLoose.max_long.x, Cond.code Lib.MathLoose.max_long.x Lib.MathLoose.max_long.code 4 (some .long), Cond.methodLink RX6 93 Lib.MathLoose.abs_long.x]
def wsX6_follow_r2 : List Cond := [Cond.static Lib.MathLoose.abs_long.x, Cond.code Lib.MathLoose.abs_long.x Lib.MathLoose.abs_long.code 2 (some .long), Cond.constantLong RX6 99 (1099511627776), Cond.methodLink RX6 68 yX6_perform, Cond.instanceMethod yX6_perform, Cond.selects RX6 yX6_perform yX6_perform, Cond.code yX6_perform cX6_perform 7 none, Cond.fieldLink RX6 72 "SumsOver$Steps" "kinds" "[I", Cond.fieldLink RX6 86 "SumsOver$Steps" "targets" "[I", Cond.methodLink RX6 75 yX4_valueOfA, Cond.instanceMethod yX4_valueOfA, Cond.selects RX4 yX4_valueOfA yX4_valueOfA, Cond.initialized RX4, Cond.code yX4_valueOfA cX4_valueOfA 3 (some .long), Cond.fieldLink RX4 18 "SumsOver$Steps" "as" "[I", Cond.methodLink RX6 79 yX4_valueOfB, Cond.instanceMethod yX4_valueOfB, Cond.selects RX4 yX4_valueOfB yX4_valueOfB, Cond.code yX4_valueOfB cX4_valueOfB 3 (some .long), Cond.fieldLink RX4 24 "SumsOver$Steps" "bIsName" "[Z", Cond.fieldLink RX4 21 "SumsOver$Steps" "bs" "[I", Cond.methodLink RX6 82 yX6_isProductTooFar, Cond.static yX6_isProductTooFar, Cond.code yX6_isProductTooFar cX6_isProductTooFar 4 (some .boolean)]
def wsX6_follow_r3 : List Cond := [Cond.static yX7_made, Cond.initialized RX7, Cond.code yX7_made cX7_made 5 (some .long), Cond.methodLink RX7 211 Lib.MathLoose.min_long.x]
def wsX6_follow : List Cond := .code yX6_follow cX6_follow 4 none :: ((wsX6_follow_r1 ++ (wsX6_follow_r2 ++ wsX6_follow_r3)) ++ wsX60 ++ wsX40)
def wsX6_learn_r1 : List Cond := [Cond.fieldLink RX6 29 "SumsOver$Trues" "known" "Z", Cond.fieldLink RX6 33 "SumsOver$Trues" "tooFar" "Z", Cond.fieldLink RX6 9 "SumsOver$Trues" "least" "[J", Cond.fieldLink RX6 15 "SumsOver$Trues" "greatest" "[J", Cond.fieldLink RX6 25 "SumsOver$Trues" "inputs" "LSumsOver$Inputs;", Cond.fieldLink RX6 42 "SumsOver$Inputs" "from" "[I", Cond.fieldLink RX6 48 "SumsOver$Inputs" "to" "[I", Cond.methodLink RX6 36 yJ7_fill_d0a16, Cond.static yJ7_fill_d0a16, Cond.initialized RJ7, Cond.code yJ7_fill_d0a16 cJ7_fill_d0a16 5 none, Cond.methodLink RX6 51 yX6_follow, Cond.instanceMethod yX6_follow, Cond.selects RX6 yX6_follow yX6_follow, Cond.initialized RX6, Cond.code yX6_follow cX6_follow 4 none, Cond.fieldLink RX6 18 "SumsOver$Trues" "values" "[J", Cond.fieldLink RX6 21 "SumsOver$Trues" "steps" "LSumsOver$Steps;", Cond.fieldLink RX6 59 "SumsOver$Steps" "pathLength" "I", Cond.fieldLink RX6 65 "SumsOver$Steps" "path" "[I", Cond.methodLink RX6 55 yX6_give, Cond.instanceMethod yX6_give, Cond.selects RX6 yX6_give yX6_give, Cond.code yX6_give cX6_give 4 none]
def wsX6_learn_r2 : List Cond := [Cond.methodLink RX6 101 Lib.MathLoose.min_long.x, Cond.static Lib.MathLoose.min_long.x, Cond.initialized "java/lang/Math", Cond.code Lib.MathLoose.min_long.x Lib.MathLoose.min_long.code 4 (some .long), Cond.methodLink RX6 105 Lib.MathLoose.max_long.x, Cond.static Lib.MathLoose.max_long.x, Cond.code Lib.MathLoose.max_long.x Lib.MathLoose.max_long.code 4 (some .long), Cond.methodLink RX6 93 Lib.MathLoose.abs_long.x, Cond.static Lib.MathLoose.abs_long.x, Cond.code Lib.MathLoose.abs_long.x Lib.MathLoose.abs_long.code 2 (some .long), Cond.constantLong RX6 99 (1099511627776), Cond.methodLink RX6 68 yX6_perform, Cond.instanceMethod yX6_perform, Cond.selects RX6 yX6_perform yX6_perform, Cond.code yX6_perform cX6_perform 7 none, Cond.fieldLink RX6 72 "SumsOver$Steps" "kinds" "[I", Cond.fieldLink RX6 86 "SumsOver$Steps" "targets" "[I", Cond.methodLink RX6 75 yX4_valueOfA, Cond.instanceMethod yX4_valueOfA, Cond.selects RX4 yX4_valueOfA yX4_valueOfA, Cond.initialized RX4, Cond.code yX4_valueOfA cX4_valueOfA 3 (some .long), Cond.fieldLink RX4 18 "SumsOver$Steps" "as" "[I", Cond.methodLink RX6 79 yX4_valueOfB]
def wsX6_learn_r3 : List Cond := [Cond.instanceMethod yX4_valueOfB, Cond.selects RX4 yX4_valueOfB yX4_valueOfB, Cond.code yX4_valueOfB cX4_valueOfB 3 (some .long), Cond.fieldLink RX4 24 "SumsOver$Steps" "bIsName" "[Z", Cond.fieldLink RX4 21 "SumsOver$Steps" "bs" "[I", Cond.methodLink RX6 82 yX6_isProductTooFar, Cond.static yX6_isProductTooFar, Cond.code yX6_isProductTooFar cX6_isProductTooFar 4 (some .boolean), Cond.static yX7_made, Cond.initialized RX7, Cond.code yX7_made cX7_made 5 (some .long), Cond.methodLink RX7 211 Lib.MathLoose.min_long.x]
def wsX6_learn : List Cond := .code yX6_learn cX6_learn 3 none :: ((wsX6_learn_r1 ++ (wsX6_learn_r2 ++ wsX6_learn_r3)) ++ wsX60 ++ wsX00 ++ wsX40)
def wsX7_init_r1 : List Cond := [Cond.methodLink RX7 1 objectInit, Cond.instanceMethod objectInit, Cond.code objectInit ⟨#[0xb1]⟩ 1 none, Cond.classLink RX7 7 RX1, Cond.instantiable RX1 5, Cond.initialized RX1, Cond.fieldLink RX7 10 "SumsOver" "names" "LSumsOver$Names;", Cond.classLink RX7 16 RX0, Cond.instantiable RX0 2, Cond.initialized RX0, Cond.fieldLink RX7 19 "SumsOver" "inputs" "LSumsOver$Inputs;", Cond.classLink RX7 23 RX4, Cond.instantiable RX4 9, Cond.initialized RX4, Cond.fieldLink RX7 26 "SumsOver" "steps" "LSumsOver$Steps;", Cond.classLink RX7 30 RX3, Cond.instantiable RX3 6, Cond.initialized RX3, Cond.fieldLink RX7 35 "SumsOver" "runner" "LSumsOver$Runner;", Cond.classLink RX7 39 RX5, Cond.instantiable RX5 7, Cond.initialized RX5, Cond.fieldLink RX7 44 "SumsOver" "tally" "LSumsOver$Tally;", Cond.classLink RX7 48 RX2]
def wsX7_init_r2 : List Cond := [Cond.instantiable RX2 9, Cond.initialized RX2, Cond.fieldLink RX7 53 "SumsOver" "reach" "LSumsOver$Reach;", Cond.classLink RX7 57 RX6, Cond.instantiable RX6 7, Cond.initialized RX6, Cond.fieldLink RX7 62 "SumsOver" "trues" "LSumsOver$Trues;", Cond.methodLink RX7 9 yX1_init, Cond.instanceMethod yX1_init, Cond.code yX1_init cX1_init 2 none, Cond.methodLink RX1 3 objectInit, Cond.arrayClass .int, Cond.fieldLink RX1 9 "SumsOver$Names" "widths" "[I", Cond.arrayClass .boolean, Cond.fieldLink RX1 15 "SumsOver$Names" "signs" "[Z", Cond.arrayClass .long, Cond.fieldLink RX1 19 "SumsOver$Names" "least" "[J", Cond.fieldLink RX1 23 "SumsOver$Names" "greatest" "[J", Cond.methodLink RX1 26 yX1_tell, Cond.instanceMethod yX1_tell, Cond.selects RX1 yX1_tell yX1_tell, Cond.code yX1_tell cX1_tell 4 none, Cond.static yX7_leastOf, Cond.initialized RX7]
def wsX7_init_r3 : List Cond := [Cond.code yX7_leastOf cX7_leastOf 2 (some .long), Cond.static yX7_greatestOf, Cond.code yX7_greatestOf cX7_greatestOf 2 (some .long), Cond.instanceMethod yX0_init, Cond.code yX0_init cX0_init 1 none, Cond.methodLink RX0 3 objectInit, Cond.fieldLink RX0 9 "SumsOver$Inputs" "from" "[I", Cond.fieldLink RX0 15 "SumsOver$Inputs" "to" "[I", Cond.instanceMethod yX4_init, Cond.code yX4_init cX4_init 1 none, Cond.methodLink RX4 3 objectInit, Cond.fieldLink RX4 9 "SumsOver$Steps" "kinds" "[I", Cond.fieldLink RX4 15 "SumsOver$Steps" "targets" "[I", Cond.fieldLink RX4 18 "SumsOver$Steps" "as" "[I", Cond.fieldLink RX4 21 "SumsOver$Steps" "bs" "[I", Cond.fieldLink RX4 24 "SumsOver$Steps" "bIsName" "[Z", Cond.fieldLink RX4 28 "SumsOver$Steps" "meant" "[Z", Cond.fieldLink RX4 31 "SumsOver$Steps" "path" "[I", Cond.methodLink RX7 32 yX3_init, Cond.instanceMethod yX3_init, Cond.code yX3_init cX3_init 3 none, Cond.methodLink RX3 3 objectInit, Cond.fieldLink RX3 9 "SumsOver$Runner" "values" "[J", Cond.fieldLink RX3 15 "SumsOver$Runner" "names" "LSumsOver$Names;"]
def wsX7_init_r4 : List Cond := [Cond.fieldLink RX3 19 "SumsOver$Runner" "steps" "LSumsOver$Steps;", Cond.methodLink RX7 41 yX5_init, Cond.instanceMethod yX5_init, Cond.code yX5_init cX5_init 3 none, Cond.methodLink RX5 3 objectInit, Cond.fieldLink RX5 9 "SumsOver$Tally" "over" "[I", Cond.fieldLink RX5 15 "SumsOver$Tally" "shown" "[I", Cond.fieldLink RX5 18 "SumsOver$Tally" "turned" "[I", Cond.fieldLink RX5 21 "SumsOver$Tally" "runner" "LSumsOver$Runner;", Cond.fieldLink RX5 25 "SumsOver$Tally" "inputs" "LSumsOver$Inputs;", Cond.methodLink RX7 50 yX2_init, Cond.instanceMethod yX2_init, Cond.code yX2_init cX2_init 4 none, Cond.methodLink RX2 3 objectInit, Cond.fieldLink RX2 9 "SumsOver$Reach" "least" "[J", Cond.fieldLink RX2 15 "SumsOver$Reach" "greatest" "[J", Cond.fieldLink RX2 18 "SumsOver$Reach" "names" "LSumsOver$Names;", Cond.fieldLink RX2 22 "SumsOver$Reach" "steps" "LSumsOver$Steps;", Cond.fieldLink RX2 26 "SumsOver$Reach" "inputs" "LSumsOver$Inputs;", Cond.methodLink RX7 59 yX6_init, Cond.instanceMethod yX6_init, Cond.code yX6_init cX6_init 3 none, Cond.methodLink RX6 3 objectInit, Cond.fieldLink RX6 9 "SumsOver$Trues" "least" "[J"]
def wsX7_init_r5 : List Cond := [Cond.fieldLink RX6 15 "SumsOver$Trues" "greatest" "[J", Cond.fieldLink RX6 18 "SumsOver$Trues" "values" "[J", Cond.fieldLink RX6 21 "SumsOver$Trues" "steps" "LSumsOver$Steps;", Cond.fieldLink RX6 25 "SumsOver$Trues" "inputs" "LSumsOver$Inputs;"]
def wsX7_init : List Cond := .code yX7_init cX7_init 1 none :: ((wsX7_init_r1 ++ (wsX7_init_r2 ++ (wsX7_init_r3 ++ (wsX7_init_r4 ++ wsX7_init_r5)))) ++ wsX10 ++ wsX70 ++ wsX00 ++ wsX40 ++ wsX30 ++ wsX50 ++ wsX20 ++ wsX60)
def wsX7_isName : List Cond := .code yX7_isName cX7_isName 1 (some .boolean) :: ([])
def wsX7_forget : List Cond := .code yX7_forget cX7_forget 1 none :: ([.fieldLink RX7 44 "SumsOver" "tally" "LSumsOver$Tally;", .fieldLink RX7 215 "SumsOver$Tally" "known" "Z", .fieldLink RX7 53 "SumsOver" "reach" "LSumsOver$Reach;", .fieldLink RX7 218 "SumsOver$Reach" "known" "Z", .fieldLink RX7 62 "SumsOver" "trues" "LSumsOver$Trues;", .fieldLink RX7 219 "SumsOver$Trues" "known" "Z"] ++ wsX70 ++ wsX50 ++ wsX20 ++ wsX60)
def wsX7_name_r1 : List Cond := [Cond.fieldLink RX7 10 "SumsOver" "names" "LSumsOver$Names;", Cond.methodLink RX7 66 yX7_isName, Cond.static yX7_isName, Cond.initialized RX7, Cond.code yX7_isName cX7_isName 1 (some .boolean), Cond.methodLink RX7 70 yX1_tell, Cond.instanceMethod yX1_tell, Cond.selects RX1 yX1_tell yX1_tell, Cond.initialized RX1, Cond.code yX1_tell cX1_tell 4 none, Cond.fieldLink RX1 9 "SumsOver$Names" "widths" "[I", Cond.fieldLink RX1 15 "SumsOver$Names" "signs" "[Z", Cond.fieldLink RX1 19 "SumsOver$Names" "least" "[J", Cond.fieldLink RX1 23 "SumsOver$Names" "greatest" "[J", Cond.static yX7_leastOf, Cond.code yX7_leastOf cX7_leastOf 2 (some .long), Cond.static yX7_greatestOf, Cond.code yX7_greatestOf cX7_greatestOf 2 (some .long), Cond.methodLink RX7 74 yX7_forget, Cond.instanceMethod yX7_forget, Cond.selects RX7 yX7_forget yX7_forget, Cond.code yX7_forget cX7_forget 1 none, Cond.fieldLink RX7 44 "SumsOver" "tally" "LSumsOver$Tally;", Cond.fieldLink RX7 215 "SumsOver$Tally" "known" "Z"]
def wsX7_name_r2 : List Cond := [Cond.fieldLink RX7 53 "SumsOver" "reach" "LSumsOver$Reach;", Cond.fieldLink RX7 218 "SumsOver$Reach" "known" "Z", Cond.fieldLink RX7 62 "SumsOver" "trues" "LSumsOver$Trues;", Cond.fieldLink RX7 219 "SumsOver$Trues" "known" "Z"]
def wsX7_name : List Cond := .code yX7_name cX7_name 4 (some .boolean) :: ((wsX7_name_r1 ++ wsX7_name_r2) ++ wsX70 ++ wsX10 ++ wsX50 ++ wsX20 ++ wsX60)
def wsX7_isTold : List Cond := .code yX7_isTold cX7_isTold 1 (some .boolean) :: ([.constant RX7 194 (-100000), .constant RX7 195 (100000)])
def wsX7_span : List Cond := .code yX7_span cX7_span 4 (some .boolean) :: ([.fieldLink RX7 19 "SumsOver" "inputs" "LSumsOver$Inputs;", .fieldLink RX7 80 "SumsOver$Inputs" "from" "[I", .fieldLink RX7 84 "SumsOver$Inputs" "to" "[I", .methodLink RX7 77 yX7_isTold, .static yX7_isTold, .initialized RX7, .code yX7_isTold cX7_isTold 1 (some .boolean), .constant RX7 194 (-100000), .constant RX7 195 (100000), .methodLink RX7 74 yX7_forget, .instanceMethod yX7_forget, .selects RX7 yX7_forget yX7_forget, .code yX7_forget cX7_forget 1 none, .fieldLink RX7 44 "SumsOver" "tally" "LSumsOver$Tally;", .fieldLink RX7 215 "SumsOver$Tally" "known" "Z", .fieldLink RX7 53 "SumsOver" "reach" "LSumsOver$Reach;", .fieldLink RX7 218 "SumsOver$Reach" "known" "Z", .fieldLink RX7 62 "SumsOver" "trues" "LSumsOver$Trues;", .fieldLink RX7 219 "SumsOver$Trues" "known" "Z"] ++ wsX70 ++ wsX00 ++ wsX50 ++ wsX20 ++ wsX60)
def wsX7_canFollow : List Cond := .code yX7_canFollow cX7_canFollow 2 (some .boolean) :: ([.fieldLink RX7 26 "SumsOver" "steps" "LSumsOver$Steps;", .methodLink RX7 196 yX4_inLoop, .instanceMethod yX4_inLoop, .selects RX4 yX4_inLoop yX4_inLoop, .initialized RX4, .code yX4_inLoop cX4_inLoop 3 (some .boolean), .fieldLink RX4 34 "SumsOver$Steps" "size" "I", .fieldLink RX4 9 "SumsOver$Steps" "kinds" "[I"] ++ wsX70 ++ wsX40)
def wsX7_canBeB : List Cond := .code yX7_canBeB cX7_canBeB 2 (some .boolean) :: ([.methodLink RX7 208 yX7_readsB, .static yX7_readsB, .initialized RX7, .code yX7_readsB cX7_readsB 1 (some .boolean), .methodLink RX7 66 yX7_isName, .static yX7_isName, .code yX7_isName cX7_isName 1 (some .boolean), .methodLink RX7 77 yX7_isTold, .static yX7_isTold, .code yX7_isTold cX7_isTold 1 (some .boolean), .constant RX7 194 (-100000), .constant RX7 195 (100000)])
def wsX7_canBe : List Cond := .code yX7_canBe cX7_canBe 4 (some .boolean) :: ([.methodLink RX7 199 yX7_hasTarget, .static yX7_hasTarget, .initialized RX7, .code yX7_hasTarget cX7_hasTarget 1 (some .boolean), .methodLink RX7 66 yX7_isName, .static yX7_isName, .code yX7_isName cX7_isName 1 (some .boolean), .methodLink RX7 202 yX7_readsA, .static yX7_readsA, .code yX7_readsA cX7_readsA 1 (some .boolean), .methodLink RX7 205 yX7_canBeB, .static yX7_canBeB, .code yX7_canBeB cX7_canBeB 2 (some .boolean), .methodLink RX7 208 yX7_readsB, .static yX7_readsB, .code yX7_readsB cX7_readsB 1 (some .boolean), .methodLink RX7 77 yX7_isTold, .static yX7_isTold, .code yX7_isTold cX7_isTold 1 (some .boolean), .constant RX7 194 (-100000), .constant RX7 195 (100000)])
def wsX7_step_r1 : List Cond := [Cond.fieldLink RX7 26 "SumsOver" "steps" "LSumsOver$Steps;", Cond.fieldLink RX7 87 "SumsOver$Steps" "size" "I", Cond.methodLink RX7 91 yX7_canFollow, Cond.instanceMethod yX7_canFollow, Cond.selects RX7 yX7_canFollow yX7_canFollow, Cond.initialized RX7, Cond.code yX7_canFollow cX7_canFollow 2 (some .boolean), Cond.methodLink RX7 196 yX4_inLoop, Cond.instanceMethod yX4_inLoop, Cond.selects RX4 yX4_inLoop yX4_inLoop, Cond.initialized RX4, Cond.code yX4_inLoop cX4_inLoop 3 (some .boolean), Cond.fieldLink RX4 34 "SumsOver$Steps" "size" "I", Cond.fieldLink RX4 9 "SumsOver$Steps" "kinds" "[I", Cond.methodLink RX7 94 yX7_canBe, Cond.static yX7_canBe, Cond.code yX7_canBe cX7_canBe 4 (some .boolean), Cond.methodLink RX7 199 yX7_hasTarget, Cond.static yX7_hasTarget, Cond.code yX7_hasTarget cX7_hasTarget 1 (some .boolean), Cond.methodLink RX7 66 yX7_isName, Cond.static yX7_isName, Cond.code yX7_isName cX7_isName 1 (some .boolean), Cond.methodLink RX7 202 yX7_readsA]
def wsX7_step_r2 : List Cond := [Cond.static yX7_readsA, Cond.code yX7_readsA cX7_readsA 1 (some .boolean), Cond.methodLink RX7 205 yX7_canBeB, Cond.static yX7_canBeB, Cond.code yX7_canBeB cX7_canBeB 2 (some .boolean), Cond.methodLink RX7 208 yX7_readsB, Cond.static yX7_readsB, Cond.code yX7_readsB cX7_readsB 1 (some .boolean), Cond.methodLink RX7 77 yX7_isTold, Cond.static yX7_isTold, Cond.code yX7_isTold cX7_isTold 1 (some .boolean), Cond.constant RX7 194 (-100000), Cond.constant RX7 195 (100000), Cond.methodLink RX7 98 yX4_append, Cond.instanceMethod yX4_append, Cond.selects RX4 yX4_append yX4_append, Cond.code yX4_append cX4_append 5 none, Cond.fieldLink RX4 15 "SumsOver$Steps" "targets" "[I", Cond.fieldLink RX4 18 "SumsOver$Steps" "as" "[I", Cond.fieldLink RX4 21 "SumsOver$Steps" "bs" "[I", Cond.fieldLink RX4 24 "SumsOver$Steps" "bIsName" "[Z", Cond.methodLink RX4 48 yX4_retrace, Cond.instanceMethod yX4_retrace, Cond.selects RX4 yX4_retrace yX4_retrace]
def wsX7_step_r3 : List Cond := [Cond.code yX4_retrace cX4_retrace 4 none, Cond.fieldLink RX4 51 "SumsOver$Steps" "pathLength" "I", Cond.methodLink RX4 54 yX4_endOf, Cond.instanceMethod yX4_endOf, Cond.selects RX4 yX4_endOf yX4_endOf, Cond.code yX4_endOf cX4_endOf 3 (some .int), Cond.methodLink RX4 58 yX4_trace, Cond.instanceMethod yX4_trace, Cond.selects RX4 yX4_trace yX4_trace, Cond.code yX4_trace cX4_trace 4 none, Cond.fieldLink RX4 31 "SumsOver$Steps" "path" "[I", Cond.methodLink RX7 74 yX7_forget, Cond.instanceMethod yX7_forget, Cond.selects RX7 yX7_forget yX7_forget, Cond.code yX7_forget cX7_forget 1 none, Cond.fieldLink RX7 44 "SumsOver" "tally" "LSumsOver$Tally;", Cond.fieldLink RX7 215 "SumsOver$Tally" "known" "Z", Cond.fieldLink RX7 53 "SumsOver" "reach" "LSumsOver$Reach;", Cond.fieldLink RX7 218 "SumsOver$Reach" "known" "Z", Cond.fieldLink RX7 62 "SumsOver" "trues" "LSumsOver$Trues;", Cond.fieldLink RX7 219 "SumsOver$Trues" "known" "Z"]
def wsX7_step : List Cond := .code yX7_step cX7_step 5 (some .int) :: ((wsX7_step_r1 ++ (wsX7_step_r2 ++ wsX7_step_r3)) ++ wsX70 ++ wsX40 ++ wsX50 ++ wsX20 ++ wsX60)
def wsX7_back_r1 : List Cond := [Cond.fieldLink RX7 26 "SumsOver" "steps" "LSumsOver$Steps;", Cond.fieldLink RX7 87 "SumsOver$Steps" "size" "I", Cond.methodLink RX7 102 yX4_dropLast, Cond.instanceMethod yX4_dropLast, Cond.selects RX4 yX4_dropLast yX4_dropLast, Cond.initialized RX4, Cond.code yX4_dropLast cX4_dropLast 1 none, Cond.fieldLink RX4 34 "SumsOver$Steps" "size" "I", Cond.fieldLink RX4 28 "SumsOver$Steps" "meant" "[Z", Cond.methodLink RX4 48 yX4_retrace, Cond.instanceMethod yX4_retrace, Cond.selects RX4 yX4_retrace yX4_retrace, Cond.code yX4_retrace cX4_retrace 4 none, Cond.fieldLink RX4 51 "SumsOver$Steps" "pathLength" "I", Cond.fieldLink RX4 9 "SumsOver$Steps" "kinds" "[I", Cond.fieldLink RX4 21 "SumsOver$Steps" "bs" "[I", Cond.methodLink RX4 54 yX4_endOf, Cond.instanceMethod yX4_endOf, Cond.selects RX4 yX4_endOf yX4_endOf, Cond.code yX4_endOf cX4_endOf 3 (some .int), Cond.methodLink RX4 58 yX4_trace, Cond.instanceMethod yX4_trace, Cond.selects RX4 yX4_trace yX4_trace, Cond.code yX4_trace cX4_trace 4 none]
def wsX7_back_r2 : List Cond := [Cond.fieldLink RX4 31 "SumsOver$Steps" "path" "[I", Cond.methodLink RX7 74 yX7_forget, Cond.instanceMethod yX7_forget, Cond.selects RX7 yX7_forget yX7_forget, Cond.initialized RX7, Cond.code yX7_forget cX7_forget 1 none, Cond.fieldLink RX7 44 "SumsOver" "tally" "LSumsOver$Tally;", Cond.fieldLink RX7 215 "SumsOver$Tally" "known" "Z", Cond.fieldLink RX7 53 "SumsOver" "reach" "LSumsOver$Reach;", Cond.fieldLink RX7 218 "SumsOver$Reach" "known" "Z", Cond.fieldLink RX7 62 "SumsOver" "trues" "LSumsOver$Trues;", Cond.fieldLink RX7 219 "SumsOver$Trues" "known" "Z"]
def wsX7_back : List Cond := .code yX7_back cX7_back 1 (some .boolean) :: ((wsX7_back_r1 ++ wsX7_back_r2) ++ wsX70 ++ wsX40 ++ wsX50 ++ wsX20 ++ wsX60)
def wsX7_mode : List Cond := .code yX7_mode cX7_mode 2 (some .boolean) :: ([.fieldLink RX7 10 "SumsOver" "names" "LSumsOver$Names;", .fieldLink RX7 105 "SumsOver$Names" "nearest" "Z", .methodLink RX7 74 yX7_forget, .instanceMethod yX7_forget, .selects RX7 yX7_forget yX7_forget, .initialized RX7, .code yX7_forget cX7_forget 1 none, .fieldLink RX7 44 "SumsOver" "tally" "LSumsOver$Tally;", .fieldLink RX7 215 "SumsOver$Tally" "known" "Z", .fieldLink RX7 53 "SumsOver" "reach" "LSumsOver$Reach;", .fieldLink RX7 218 "SumsOver$Reach" "known" "Z", .fieldLink RX7 62 "SumsOver" "trues" "LSumsOver$Trues;", .fieldLink RX7 219 "SumsOver$Trues" "known" "Z"] ++ wsX70 ++ wsX10 ++ wsX50 ++ wsX20 ++ wsX60)
def wsX7_run_r1 : List Cond := [Cond.fieldLink RX7 19 "SumsOver" "inputs" "LSumsOver$Inputs;", Cond.constant RX7 113 (-2147483648), Cond.fieldLink RX7 35 "SumsOver" "runner" "LSumsOver$Runner;", Cond.fieldLink RX7 118 "SumsOver$Runner" "values" "[J", Cond.methodLink RX7 66 yX7_isName, Cond.static yX7_isName, Cond.initialized RX7, Cond.code yX7_isName cX7_isName 1 (some .boolean), Cond.methodLink RX7 109 yX0_hold, Cond.instanceMethod yX0_hold, Cond.selects RX0 yX0_hold yX0_hold, Cond.initialized RX0, Cond.code yX0_hold cX0_hold 3 (some .boolean), Cond.fieldLink RX0 9 "SumsOver$Inputs" "from" "[I", Cond.fieldLink RX0 15 "SumsOver$Inputs" "to" "[I", Cond.methodLink RX7 114 yX3_follow, Cond.instanceMethod yX3_follow, Cond.selects RX3 yX3_follow yX3_follow, Cond.initialized RX3, Cond.code yX3_follow cX3_follow 4 none, Cond.fieldLink RX3 23 "SumsOver$Runner" "overBits" "I", Cond.fieldLink RX3 27 "SumsOver$Runner" "turnedBits" "I", Cond.fieldLink RX3 30 "SumsOver$Runner" "firstOver" "I", Cond.fieldLink RX3 9 "SumsOver$Runner" "values" "[J"]
def wsX7_run_r2 : List Cond := [Cond.fieldLink RX3 15 "SumsOver$Runner" "names" "LSumsOver$Names;", Cond.fieldLink RX3 19 "SumsOver$Runner" "steps" "LSumsOver$Steps;", Cond.fieldLink RX3 45 "SumsOver$Steps" "pathLength" "I", Cond.fieldLink RX3 50 "SumsOver$Steps" "path" "[I", Cond.methodLink RX3 33 yJ7_fill_d0a16, Cond.static yJ7_fill_d0a16, Cond.initialized RJ7, Cond.code yJ7_fill_d0a16 cJ7_fill_d0a16 5 none, Cond.methodLink RX3 39 yX1_fitted, Cond.instanceMethod yX1_fitted, Cond.selects RX1 yX1_fitted yX1_fitted, Cond.initialized RX1, Cond.code yX1_fitted cX1_fitted 4 (some .long), Cond.fieldLink RX1 37 "SumsOver$Names" "nearest" "Z", Cond.methodLink RX1 41 yX1_nearestTo, Cond.instanceMethod yX1_nearestTo, Cond.selects RX1 yX1_nearestTo yX1_nearestTo, Cond.code yX1_nearestTo cX1_nearestTo 4 (some .long), Cond.fieldLink RX1 19 "SumsOver$Names" "least" "[J", Cond.fieldLink RX1 23 "SumsOver$Names" "greatest" "[J", Cond.methodLink RX1 48 Lib.MathLoose.min_long.x, Cond.static Lib.MathLoose.min_long.x, Cond.initialized "java/lang/Math", Cond.code Lib.MathLoose.min_long.x Lib.MathLoose.min_long.code 4 (some .long)]
def wsX7_run_r3 : List Cond := [Cond.methodLink RX1 54 Lib.MathLoose.max_long.x, Cond.static Lib.MathLoose.max_long.x, Cond.code Lib.MathLoose.max_long.x Lib.MathLoose.max_long.code 4 (some .long), Cond.methodLink RX1 45 yX1_wrapped, Cond.instanceMethod yX1_wrapped, Cond.selects RX1 yX1_wrapped yX1_wrapped, Cond.code yX1_wrapped cX1_wrapped 4 (some .long), Cond.fieldLink RX1 9 "SumsOver$Names" "widths" "[I", Cond.methodLink RX1 57 yX1_rest, Cond.static yX1_rest, Cond.code yX1_rest cX1_rest 3 (some .long), Cond.methodLink RX3 54 yX3_perform, Cond.instanceMethod yX3_perform, Cond.selects RX3 yX3_perform yX3_perform, Cond.code yX3_perform cX3_perform 5 none, Cond.fieldLink RX3 58 "SumsOver$Steps" "targets" "[I", Cond.methodLink RX3 61 yX3_answer, Cond.instanceMethod yX3_answer, Cond.selects RX3 yX3_answer yX3_answer, Cond.code yX3_answer cX3_answer 11 (some .long), Cond.fieldLink RX3 72 "SumsOver$Steps" "kinds" "[I", Cond.fieldLink RX3 86 "SumsOver$Steps" "as" "[I", Cond.fieldLink RX3 89 "SumsOver$Steps" "bs" "[I", Cond.methodLink RX3 75 yX4_valueOfA]
def wsX7_run_r4 : List Cond := [Cond.instanceMethod yX4_valueOfA, Cond.selects RX4 yX4_valueOfA yX4_valueOfA, Cond.initialized RX4, Cond.code yX4_valueOfA cX4_valueOfA 3 (some .long), Cond.fieldLink RX4 18 "SumsOver$Steps" "as" "[I", Cond.methodLink RX3 79 yX4_valueOfB, Cond.instanceMethod yX4_valueOfB, Cond.selects RX4 yX4_valueOfB yX4_valueOfB, Cond.code yX4_valueOfB cX4_valueOfB 3 (some .long), Cond.fieldLink RX4 24 "SumsOver$Steps" "bIsName" "[Z", Cond.fieldLink RX4 21 "SumsOver$Steps" "bs" "[I", Cond.static yX7_made, Cond.code yX7_made cX7_made 5 (some .long), Cond.methodLink RX7 211 Lib.MathLoose.min_long.x, Cond.methodLink RX3 92 yX1_signedAlike, Cond.instanceMethod yX1_signedAlike, Cond.selects RX1 yX1_signedAlike yX1_signedAlike, Cond.code yX1_signedAlike cX1_signedAlike 3 (some .boolean), Cond.fieldLink RX1 15 "SumsOver$Names" "signs" "[Z", Cond.methodLink RX3 96 yX1_belowByRests, Cond.instanceMethod yX1_belowByRests, Cond.selects RX1 yX1_belowByRests yX1_belowByRests, Cond.code yX1_belowByRests cX1_belowByRests 8 (some .long), Cond.methodLink RX1 61 Lib.Math.max.name]
def wsX7_run_r5 : List Cond := [Cond.static Lib.Math.max.name, Cond.code Lib.Math.max.name Lib.Math.max.code 2 (some .int), Cond.methodLink RX3 65 yX1_holds, Cond.instanceMethod yX1_holds, Cond.selects RX1 yX1_holds yX1_holds, Cond.code yX1_holds cX1_holds 4 (some .boolean), Cond.methodLink RX3 69 yX3_noteOver, Cond.instanceMethod yX3_noteOver, Cond.selects RX3 yX3_noteOver yX3_noteOver, Cond.code yX3_noteOver cX3_noteOver 2 none]
def wsX7_run : List Cond := .code yX7_run cX7_run 4 (some .int) :: ((wsX7_run_r1 ++ (wsX7_run_r2 ++ (wsX7_run_r3 ++ (wsX7_run_r4 ++ wsX7_run_r5)))) ++ wsX70 ++ wsX30 ++ wsX00 ++ wsX40 ++ wsX10)
def wsX7_first_r1 : List Cond := [Cond.fieldLink RX7 19 "SumsOver" "inputs" "LSumsOver$Inputs;", Cond.fieldLink RX7 35 "SumsOver" "runner" "LSumsOver$Runner;", Cond.fieldLink RX7 122 "SumsOver$Runner" "firstOver" "I", Cond.methodLink RX7 109 yX0_hold, Cond.instanceMethod yX0_hold, Cond.selects RX0 yX0_hold yX0_hold, Cond.initialized RX0, Cond.code yX0_hold cX0_hold 3 (some .boolean), Cond.fieldLink RX0 9 "SumsOver$Inputs" "from" "[I", Cond.fieldLink RX0 15 "SumsOver$Inputs" "to" "[I", Cond.methodLink RX7 114 yX3_follow, Cond.instanceMethod yX3_follow, Cond.selects RX3 yX3_follow yX3_follow, Cond.initialized RX3, Cond.code yX3_follow cX3_follow 4 none, Cond.fieldLink RX3 23 "SumsOver$Runner" "overBits" "I", Cond.fieldLink RX3 27 "SumsOver$Runner" "turnedBits" "I", Cond.fieldLink RX3 30 "SumsOver$Runner" "firstOver" "I", Cond.fieldLink RX3 9 "SumsOver$Runner" "values" "[J", Cond.fieldLink RX3 15 "SumsOver$Runner" "names" "LSumsOver$Names;", Cond.fieldLink RX3 19 "SumsOver$Runner" "steps" "LSumsOver$Steps;", Cond.fieldLink RX3 45 "SumsOver$Steps" "pathLength" "I", Cond.fieldLink RX3 50 "SumsOver$Steps" "path" "[I", Cond.methodLink RX3 33 yJ7_fill_d0a16]
def wsX7_first_r2 : List Cond := [Cond.static yJ7_fill_d0a16, Cond.initialized RJ7, Cond.code yJ7_fill_d0a16 cJ7_fill_d0a16 5 none, Cond.methodLink RX3 39 yX1_fitted, Cond.instanceMethod yX1_fitted, Cond.selects RX1 yX1_fitted yX1_fitted, Cond.initialized RX1, Cond.code yX1_fitted cX1_fitted 4 (some .long), Cond.fieldLink RX1 37 "SumsOver$Names" "nearest" "Z", Cond.methodLink RX1 41 yX1_nearestTo, Cond.instanceMethod yX1_nearestTo, Cond.selects RX1 yX1_nearestTo yX1_nearestTo, Cond.code yX1_nearestTo cX1_nearestTo 4 (some .long), Cond.fieldLink RX1 19 "SumsOver$Names" "least" "[J", Cond.fieldLink RX1 23 "SumsOver$Names" "greatest" "[J", Cond.methodLink RX1 48 Lib.MathLoose.min_long.x, Cond.static Lib.MathLoose.min_long.x, Cond.initialized "java/lang/Math", Cond.code Lib.MathLoose.min_long.x Lib.MathLoose.min_long.code 4 (some .long), Cond.methodLink RX1 54 Lib.MathLoose.max_long.x, Cond.static Lib.MathLoose.max_long.x, Cond.code Lib.MathLoose.max_long.x Lib.MathLoose.max_long.code 4 (some .long), Cond.methodLink RX1 45 yX1_wrapped, Cond.instanceMethod yX1_wrapped]
def wsX7_first_r3 : List Cond := [Cond.selects RX1 yX1_wrapped yX1_wrapped, Cond.code yX1_wrapped cX1_wrapped 4 (some .long), Cond.fieldLink RX1 9 "SumsOver$Names" "widths" "[I", Cond.methodLink RX1 57 yX1_rest, Cond.static yX1_rest, Cond.code yX1_rest cX1_rest 3 (some .long), Cond.methodLink RX3 54 yX3_perform, Cond.instanceMethod yX3_perform, Cond.selects RX3 yX3_perform yX3_perform, Cond.code yX3_perform cX3_perform 5 none, Cond.fieldLink RX3 58 "SumsOver$Steps" "targets" "[I", Cond.methodLink RX3 61 yX3_answer, Cond.instanceMethod yX3_answer, Cond.selects RX3 yX3_answer yX3_answer, Cond.code yX3_answer cX3_answer 11 (some .long), Cond.fieldLink RX3 72 "SumsOver$Steps" "kinds" "[I", Cond.fieldLink RX3 86 "SumsOver$Steps" "as" "[I", Cond.fieldLink RX3 89 "SumsOver$Steps" "bs" "[I", Cond.methodLink RX3 75 yX4_valueOfA, Cond.instanceMethod yX4_valueOfA, Cond.selects RX4 yX4_valueOfA yX4_valueOfA, Cond.initialized RX4, Cond.code yX4_valueOfA cX4_valueOfA 3 (some .long), Cond.fieldLink RX4 18 "SumsOver$Steps" "as" "[I"]
def wsX7_first_r4 : List Cond := [Cond.methodLink RX3 79 yX4_valueOfB, Cond.instanceMethod yX4_valueOfB, Cond.selects RX4 yX4_valueOfB yX4_valueOfB, Cond.code yX4_valueOfB cX4_valueOfB 3 (some .long), Cond.fieldLink RX4 24 "SumsOver$Steps" "bIsName" "[Z", Cond.fieldLink RX4 21 "SumsOver$Steps" "bs" "[I", Cond.static yX7_made, Cond.initialized RX7, Cond.code yX7_made cX7_made 5 (some .long), Cond.methodLink RX7 211 Lib.MathLoose.min_long.x, Cond.methodLink RX3 92 yX1_signedAlike, Cond.instanceMethod yX1_signedAlike, Cond.selects RX1 yX1_signedAlike yX1_signedAlike, Cond.code yX1_signedAlike cX1_signedAlike 3 (some .boolean), Cond.fieldLink RX1 15 "SumsOver$Names" "signs" "[Z", Cond.methodLink RX3 96 yX1_belowByRests, Cond.instanceMethod yX1_belowByRests, Cond.selects RX1 yX1_belowByRests yX1_belowByRests, Cond.code yX1_belowByRests cX1_belowByRests 8 (some .long), Cond.methodLink RX1 61 Lib.Math.max.name, Cond.static Lib.Math.max.name, Cond.code Lib.Math.max.name Lib.Math.max.code 2 (some .int), Cond.methodLink RX3 65 yX1_holds, Cond.instanceMethod yX1_holds]
def wsX7_first_r5 : List Cond := [Cond.selects RX1 yX1_holds yX1_holds, Cond.code yX1_holds cX1_holds 4 (some .boolean), Cond.methodLink RX3 69 yX3_noteOver, Cond.instanceMethod yX3_noteOver, Cond.selects RX3 yX3_noteOver yX3_noteOver, Cond.code yX3_noteOver cX3_noteOver 2 none]
def wsX7_first : List Cond := .code yX7_first cX7_first 3 (some .int) :: ((wsX7_first_r1 ++ (wsX7_first_r2 ++ (wsX7_first_r3 ++ (wsX7_first_r4 ++ wsX7_first_r5)))) ++ wsX70 ++ wsX30 ++ wsX00 ++ wsX40 ++ wsX10)
def wsX7_isStep : List Cond := .code yX7_isStep cX7_isStep 2 (some .boolean) :: ([.fieldLink RX7 26 "SumsOver" "steps" "LSumsOver$Steps;", .fieldLink RX7 87 "SumsOver$Steps" "size" "I"] ++ wsX70 ++ wsX40)
def wsX7_judged : List Cond := .code yX7_judged cX7_judged 2 (some .int) :: ([.fieldLink RX7 53 "SumsOver" "reach" "LSumsOver$Reach;", .fieldLink RX7 44 "SumsOver" "tally" "LSumsOver$Tally;", .fieldLink RX7 136 "SumsOver$Tally" "over" "[I", .fieldLink RX7 19 "SumsOver" "inputs" "LSumsOver$Inputs;", .methodLink RX7 220 yX2_couldGoOver, .instanceMethod yX2_couldGoOver, .selects RX2 yX2_couldGoOver yX2_couldGoOver, .initialized RX2, .code yX2_couldGoOver cX2_couldGoOver 2 (some .boolean), .fieldLink RX2 30 "SumsOver$Reach" "couldBits" "I", .methodLink RX7 184 yX0_runs, .instanceMethod yX0_runs, .selects RX0 yX0_runs yX0_runs, .initialized RX0, .code yX0_runs cX0_runs 1 (some .int), .fieldLink RX0 15 "SumsOver$Inputs" "to" "[I", .fieldLink RX0 9 "SumsOver$Inputs" "from" "[I"] ++ wsX70 ++ wsX50 ++ wsX20 ++ wsX00)
def wsX7_judge_r1 : List Cond := [Cond.fieldLink RX7 53 "SumsOver" "reach" "LSumsOver$Reach;", Cond.fieldLink RX7 44 "SumsOver" "tally" "LSumsOver$Tally;", Cond.methodLink RX7 125 yX7_isStep, Cond.instanceMethod yX7_isStep, Cond.selects RX7 yX7_isStep yX7_isStep, Cond.initialized RX7, Cond.code yX7_isStep cX7_isStep 2 (some .boolean), Cond.fieldLink RX7 26 "SumsOver" "steps" "LSumsOver$Steps;", Cond.fieldLink RX7 87 "SumsOver$Steps" "size" "I", Cond.methodLink RX7 128 yX2_learn, Cond.instanceMethod yX2_learn, Cond.selects RX2 yX2_learn yX2_learn, Cond.initialized RX2, Cond.code yX2_learn cX2_learn 2 none, Cond.fieldLink RX2 34 "SumsOver$Reach" "known" "Z", Cond.fieldLink RX2 30 "SumsOver$Reach" "couldBits" "I", Cond.fieldLink RX2 9 "SumsOver$Reach" "least" "[J", Cond.fieldLink RX2 15 "SumsOver$Reach" "greatest" "[J", Cond.fieldLink RX2 26 "SumsOver$Reach" "inputs" "LSumsOver$Inputs;", Cond.fieldLink RX2 44 "SumsOver$Inputs" "from" "[I", Cond.fieldLink RX2 50 "SumsOver$Reach" "low" "J", Cond.fieldLink RX2 54 "SumsOver$Inputs" "to" "[I", Cond.fieldLink RX2 57 "SumsOver$Reach" "high" "J", Cond.fieldLink RX2 22 "SumsOver$Reach" "steps" "LSumsOver$Steps;"]
def wsX7_judge_r2 : List Cond := [Cond.fieldLink RX2 64 "SumsOver$Steps" "pathLength" "I", Cond.fieldLink RX2 69 "SumsOver$Steps" "path" "[I", Cond.methodLink RX2 38 yJ7_fill_d0a16, Cond.static yJ7_fill_d0a16, Cond.initialized RJ7, Cond.code yJ7_fill_d0a16 cJ7_fill_d0a16 5 none, Cond.methodLink RX2 60 yX2_settle, Cond.instanceMethod yX2_settle, Cond.selects RX2 yX2_settle yX2_settle, Cond.code yX2_settle cX2_settle 2 none, Cond.fieldLink RX2 18 "SumsOver$Reach" "names" "LSumsOver$Names;", Cond.fieldLink RX2 91 "SumsOver$Names" "nearest" "Z", Cond.fieldLink RX2 98 "SumsOver$Names" "least" "[J", Cond.fieldLink RX2 99 "SumsOver$Names" "greatest" "[J", Cond.methodLink RX2 81 yX2_fits, Cond.instanceMethod yX2_fits, Cond.selects RX2 yX2_fits yX2_fits, Cond.code yX2_fits cX2_fits 2 (some .boolean), Cond.methodLink RX2 85 yX1_holds, Cond.instanceMethod yX1_holds, Cond.selects RX1 yX1_holds yX1_holds, Cond.initialized RX1, Cond.code yX1_holds cX1_holds 4 (some .boolean), Cond.fieldLink RX1 19 "SumsOver$Names" "least" "[J"]
def wsX7_judge_r3 : List Cond := [Cond.fieldLink RX1 23 "SumsOver$Names" "greatest" "[J", Cond.methodLink RX2 94 yX1_nearestTo, Cond.instanceMethod yX1_nearestTo, Cond.selects RX1 yX1_nearestTo yX1_nearestTo, Cond.code yX1_nearestTo cX1_nearestTo 4 (some .long), Cond.methodLink RX1 48 Lib.MathLoose.min_long.x, Cond.static Lib.MathLoose.min_long.x, Cond.initialized "java/lang/Math", Cond.code Lib.MathLoose.min_long.x Lib.MathLoose.min_long.code 4 (some .long), Cond.methodLink RX1 54 Lib.MathLoose.max_long.x, Cond.static Lib.MathLoose.max_long.x, Cond.code Lib.MathLoose.max_long.x Lib.MathLoose.max_long.code 4 (some .long), Cond.methodLink RX2 72 yX2_perform, Cond.instanceMethod yX2_perform, Cond.selects RX2 yX2_perform yX2_perform, Cond.code yX2_perform cX2_perform 3 none, Cond.fieldLink RX2 75 "SumsOver$Steps" "targets" "[I", Cond.methodLink RX2 78 yX2_reckon, Cond.instanceMethod yX2_reckon, Cond.selects RX2 yX2_reckon yX2_reckon, Cond.code yX2_reckon cX2_reckon 12 none, Cond.fieldLink RX2 107 "SumsOver$Steps" "kinds" "[I", Cond.methodLink RX2 110 Lib.MathLoose.min_long.x, Cond.methodLink RX2 116 Lib.MathLoose.max_long.x]
def wsX7_judge_r4 : List Cond := [Cond.fieldLink RX2 119 "SumsOver$Steps" "as" "[I", Cond.fieldLink RX2 122 "SumsOver$Steps" "bs" "[I", Cond.methodLink RX2 100 yX4_valueOfA, Cond.instanceMethod yX4_valueOfA, Cond.selects RX4 yX4_valueOfA yX4_valueOfA, Cond.initialized RX4, Cond.code yX4_valueOfA cX4_valueOfA 3 (some .long), Cond.fieldLink RX4 18 "SumsOver$Steps" "as" "[I", Cond.methodLink RX2 104 yX4_valueOfB, Cond.instanceMethod yX4_valueOfB, Cond.selects RX4 yX4_valueOfB yX4_valueOfB, Cond.code yX4_valueOfB cX4_valueOfB 3 (some .long), Cond.fieldLink RX4 24 "SumsOver$Steps" "bIsName" "[Z", Cond.fieldLink RX4 21 "SumsOver$Steps" "bs" "[I", Cond.methodLink RX2 125 yX1_signedAlike, Cond.instanceMethod yX1_signedAlike, Cond.selects RX1 yX1_signedAlike yX1_signedAlike, Cond.code yX1_signedAlike cX1_signedAlike 3 (some .boolean), Cond.fieldLink RX1 15 "SumsOver$Names" "signs" "[Z", Cond.static yX7_made, Cond.code yX7_made cX7_made 5 (some .long), Cond.methodLink RX7 211 Lib.MathLoose.min_long.x, Cond.methodLink RX7 131 yX5_learn, Cond.instanceMethod yX5_learn]
def wsX7_judge_r5 : List Cond := [Cond.selects RX5 yX5_learn yX5_learn, Cond.initialized RX5, Cond.code yX5_learn cX5_learn 3 none, Cond.fieldLink RX5 29 "SumsOver$Tally" "known" "Z", Cond.fieldLink RX5 9 "SumsOver$Tally" "over" "[I", Cond.fieldLink RX5 15 "SumsOver$Tally" "shown" "[I", Cond.fieldLink RX5 18 "SumsOver$Tally" "turned" "[I", Cond.fieldLink RX5 39 "SumsOver$Tally" "runsOver" "I", Cond.fieldLink RX5 25 "SumsOver$Tally" "inputs" "LSumsOver$Inputs;", Cond.fieldLink RX5 43 "SumsOver$Inputs" "from" "[I", Cond.fieldLink RX5 48 "SumsOver$Inputs" "to" "[I", Cond.fieldLink RX5 21 "SumsOver$Tally" "runner" "LSumsOver$Runner;", Cond.methodLink RX5 33 yJ7_fill_53178, Cond.static yJ7_fill_53178, Cond.code yJ7_fill_53178 cJ7_fill_53178 4 none, Cond.methodLink RX5 51 yX3_follow, Cond.instanceMethod yX3_follow, Cond.selects RX3 yX3_follow yX3_follow, Cond.initialized RX3, Cond.code yX3_follow cX3_follow 4 none, Cond.fieldLink RX3 23 "SumsOver$Runner" "overBits" "I", Cond.fieldLink RX3 27 "SumsOver$Runner" "turnedBits" "I", Cond.fieldLink RX3 30 "SumsOver$Runner" "firstOver" "I", Cond.fieldLink RX3 9 "SumsOver$Runner" "values" "[J"]
def wsX7_judge_r6 : List Cond := [Cond.fieldLink RX3 15 "SumsOver$Runner" "names" "LSumsOver$Names;", Cond.fieldLink RX3 19 "SumsOver$Runner" "steps" "LSumsOver$Steps;", Cond.fieldLink RX3 45 "SumsOver$Steps" "pathLength" "I", Cond.fieldLink RX3 50 "SumsOver$Steps" "path" "[I", Cond.methodLink RX3 33 yJ7_fill_d0a16, Cond.methodLink RX3 39 yX1_fitted, Cond.instanceMethod yX1_fitted, Cond.selects RX1 yX1_fitted yX1_fitted, Cond.code yX1_fitted cX1_fitted 4 (some .long), Cond.fieldLink RX1 37 "SumsOver$Names" "nearest" "Z", Cond.methodLink RX1 41 yX1_nearestTo, Cond.methodLink RX1 45 yX1_wrapped, Cond.instanceMethod yX1_wrapped, Cond.selects RX1 yX1_wrapped yX1_wrapped, Cond.code yX1_wrapped cX1_wrapped 4 (some .long), Cond.fieldLink RX1 9 "SumsOver$Names" "widths" "[I", Cond.methodLink RX1 57 yX1_rest, Cond.static yX1_rest, Cond.code yX1_rest cX1_rest 3 (some .long), Cond.methodLink RX3 54 yX3_perform, Cond.instanceMethod yX3_perform, Cond.selects RX3 yX3_perform yX3_perform, Cond.code yX3_perform cX3_perform 5 none, Cond.fieldLink RX3 58 "SumsOver$Steps" "targets" "[I"]
def wsX7_judge_r7 : List Cond := [Cond.methodLink RX3 61 yX3_answer, Cond.instanceMethod yX3_answer, Cond.selects RX3 yX3_answer yX3_answer, Cond.code yX3_answer cX3_answer 11 (some .long), Cond.fieldLink RX3 72 "SumsOver$Steps" "kinds" "[I", Cond.fieldLink RX3 86 "SumsOver$Steps" "as" "[I", Cond.fieldLink RX3 89 "SumsOver$Steps" "bs" "[I", Cond.methodLink RX3 75 yX4_valueOfA, Cond.methodLink RX3 79 yX4_valueOfB, Cond.methodLink RX3 92 yX1_signedAlike, Cond.methodLink RX3 96 yX1_belowByRests, Cond.instanceMethod yX1_belowByRests, Cond.selects RX1 yX1_belowByRests yX1_belowByRests, Cond.code yX1_belowByRests cX1_belowByRests 8 (some .long), Cond.methodLink RX1 61 Lib.Math.max.name, Cond.static Lib.Math.max.name, Cond.code Lib.Math.max.name Lib.Math.max.code 2 (some .int), Cond.methodLink RX3 65 yX1_holds, Cond.methodLink RX3 69 yX3_noteOver, Cond.instanceMethod yX3_noteOver, Cond.selects RX3 yX3_noteOver yX3_noteOver, Cond.code yX3_noteOver cX3_noteOver 2 none, Cond.methodLink RX5 57 yX5_note, Cond.instanceMethod yX5_note]
def wsX7_judge_r8 : List Cond := [Cond.selects RX5 yX5_note yX5_note, Cond.code yX5_note cX5_note 2 none, Cond.fieldLink RX5 61 "SumsOver$Runner" "overBits" "I", Cond.fieldLink RX5 67 "SumsOver$Runner" "turnedBits" "I", Cond.methodLink RX5 64 yX5_noteOver, Cond.instanceMethod yX5_noteOver, Cond.selects RX5 yX5_noteOver yX5_noteOver, Cond.code yX5_noteOver cX5_noteOver 4 none, Cond.methodLink RX5 70 yX5_noteTurned, Cond.instanceMethod yX5_noteTurned, Cond.selects RX5 yX5_noteTurned yX5_noteTurned, Cond.code yX5_noteTurned cX5_noteTurned 3 none, Cond.methodLink RX7 132 yX7_judged, Cond.instanceMethod yX7_judged, Cond.selects RX7 yX7_judged yX7_judged, Cond.code yX7_judged cX7_judged 2 (some .int), Cond.fieldLink RX7 136 "SumsOver$Tally" "over" "[I", Cond.fieldLink RX7 19 "SumsOver" "inputs" "LSumsOver$Inputs;", Cond.methodLink RX7 220 yX2_couldGoOver, Cond.instanceMethod yX2_couldGoOver, Cond.selects RX2 yX2_couldGoOver yX2_couldGoOver, Cond.code yX2_couldGoOver cX2_couldGoOver 2 (some .boolean), Cond.methodLink RX7 184 yX0_runs, Cond.instanceMethod yX0_runs]
def wsX7_judge_r9 : List Cond := [Cond.selects RX0 yX0_runs yX0_runs, Cond.initialized RX0, Cond.code yX0_runs cX0_runs 1 (some .int), Cond.fieldLink RX0 15 "SumsOver$Inputs" "to" "[I", Cond.fieldLink RX0 9 "SumsOver$Inputs" "from" "[I"]
def wsX7_judge : List Cond := .code yX7_judge cX7_judge 2 (some .int) :: ((wsX7_judge_r1 ++ (wsX7_judge_r2 ++ (wsX7_judge_r3 ++ (wsX7_judge_r4 ++ (wsX7_judge_r5 ++ (wsX7_judge_r6 ++ (wsX7_judge_r7 ++ (wsX7_judge_r8 ++ wsX7_judge_r9)))))))) ++ wsX70 ++ wsX40 ++ wsX20 ++ wsX00 ++ wsX10 ++ wsX50 ++ wsX30)
def wsX7_over_r1 : List Cond := [Cond.fieldLink RX7 44 "SumsOver" "tally" "LSumsOver$Tally;", Cond.fieldLink RX7 136 "SumsOver$Tally" "over" "[I", Cond.methodLink RX7 125 yX7_isStep, Cond.instanceMethod yX7_isStep, Cond.selects RX7 yX7_isStep yX7_isStep, Cond.initialized RX7, Cond.code yX7_isStep cX7_isStep 2 (some .boolean), Cond.fieldLink RX7 26 "SumsOver" "steps" "LSumsOver$Steps;", Cond.fieldLink RX7 87 "SumsOver$Steps" "size" "I", Cond.methodLink RX7 131 yX5_learn, Cond.instanceMethod yX5_learn, Cond.selects RX5 yX5_learn yX5_learn, Cond.initialized RX5, Cond.code yX5_learn cX5_learn 3 none, Cond.fieldLink RX5 29 "SumsOver$Tally" "known" "Z", Cond.fieldLink RX5 9 "SumsOver$Tally" "over" "[I", Cond.fieldLink RX5 15 "SumsOver$Tally" "shown" "[I", Cond.fieldLink RX5 18 "SumsOver$Tally" "turned" "[I", Cond.fieldLink RX5 39 "SumsOver$Tally" "runsOver" "I", Cond.fieldLink RX5 25 "SumsOver$Tally" "inputs" "LSumsOver$Inputs;", Cond.fieldLink RX5 43 "SumsOver$Inputs" "from" "[I", Cond.fieldLink RX5 48 "SumsOver$Inputs" "to" "[I", Cond.fieldLink RX5 21 "SumsOver$Tally" "runner" "LSumsOver$Runner;", Cond.methodLink RX5 33 yJ7_fill_53178]
def wsX7_over_r2 : List Cond := [Cond.static yJ7_fill_53178, Cond.initialized RJ7, Cond.code yJ7_fill_53178 cJ7_fill_53178 4 none, Cond.methodLink RX5 51 yX3_follow, Cond.instanceMethod yX3_follow, Cond.selects RX3 yX3_follow yX3_follow, Cond.initialized RX3, Cond.code yX3_follow cX3_follow 4 none, Cond.fieldLink RX3 23 "SumsOver$Runner" "overBits" "I", Cond.fieldLink RX3 27 "SumsOver$Runner" "turnedBits" "I", Cond.fieldLink RX3 30 "SumsOver$Runner" "firstOver" "I", Cond.fieldLink RX3 9 "SumsOver$Runner" "values" "[J", Cond.fieldLink RX3 15 "SumsOver$Runner" "names" "LSumsOver$Names;", Cond.fieldLink RX3 19 "SumsOver$Runner" "steps" "LSumsOver$Steps;", Cond.fieldLink RX3 45 "SumsOver$Steps" "pathLength" "I", Cond.fieldLink RX3 50 "SumsOver$Steps" "path" "[I", Cond.methodLink RX3 33 yJ7_fill_d0a16, Cond.static yJ7_fill_d0a16, Cond.code yJ7_fill_d0a16 cJ7_fill_d0a16 5 none, Cond.methodLink RX3 39 yX1_fitted, Cond.instanceMethod yX1_fitted, Cond.selects RX1 yX1_fitted yX1_fitted, Cond.initialized RX1, Cond.code yX1_fitted cX1_fitted 4 (some .long)]
def wsX7_over_r3 : List Cond := [Cond.fieldLink RX1 37 "SumsOver$Names" "nearest" "Z", Cond.methodLink RX1 41 yX1_nearestTo, Cond.instanceMethod yX1_nearestTo, Cond.selects RX1 yX1_nearestTo yX1_nearestTo, Cond.code yX1_nearestTo cX1_nearestTo 4 (some .long), Cond.fieldLink RX1 19 "SumsOver$Names" "least" "[J", Cond.fieldLink RX1 23 "SumsOver$Names" "greatest" "[J", Cond.methodLink RX1 48 Lib.MathLoose.min_long.x, Cond.static Lib.MathLoose.min_long.x, Cond.initialized "java/lang/Math", Cond.code Lib.MathLoose.min_long.x Lib.MathLoose.min_long.code 4 (some .long), Cond.methodLink RX1 54 Lib.MathLoose.max_long.x, Cond.static Lib.MathLoose.max_long.x, Cond.code Lib.MathLoose.max_long.x Lib.MathLoose.max_long.code 4 (some .long), Cond.methodLink RX1 45 yX1_wrapped, Cond.instanceMethod yX1_wrapped, Cond.selects RX1 yX1_wrapped yX1_wrapped, Cond.code yX1_wrapped cX1_wrapped 4 (some .long), Cond.fieldLink RX1 9 "SumsOver$Names" "widths" "[I", Cond.methodLink RX1 57 yX1_rest, Cond.static yX1_rest, Cond.code yX1_rest cX1_rest 3 (some .long), Cond.methodLink RX3 54 yX3_perform, Cond.instanceMethod yX3_perform]
def wsX7_over_r4 : List Cond := [Cond.selects RX3 yX3_perform yX3_perform, Cond.code yX3_perform cX3_perform 5 none, Cond.fieldLink RX3 58 "SumsOver$Steps" "targets" "[I", Cond.methodLink RX3 61 yX3_answer, Cond.instanceMethod yX3_answer, Cond.selects RX3 yX3_answer yX3_answer, Cond.code yX3_answer cX3_answer 11 (some .long), Cond.fieldLink RX3 72 "SumsOver$Steps" "kinds" "[I", Cond.fieldLink RX3 86 "SumsOver$Steps" "as" "[I", Cond.fieldLink RX3 89 "SumsOver$Steps" "bs" "[I", Cond.methodLink RX3 75 yX4_valueOfA, Cond.instanceMethod yX4_valueOfA, Cond.selects RX4 yX4_valueOfA yX4_valueOfA, Cond.initialized RX4, Cond.code yX4_valueOfA cX4_valueOfA 3 (some .long), Cond.fieldLink RX4 18 "SumsOver$Steps" "as" "[I", Cond.methodLink RX3 79 yX4_valueOfB, Cond.instanceMethod yX4_valueOfB, Cond.selects RX4 yX4_valueOfB yX4_valueOfB, Cond.code yX4_valueOfB cX4_valueOfB 3 (some .long), Cond.fieldLink RX4 24 "SumsOver$Steps" "bIsName" "[Z", Cond.fieldLink RX4 21 "SumsOver$Steps" "bs" "[I", Cond.static yX7_made, Cond.code yX7_made cX7_made 5 (some .long)]
def wsX7_over_r5 : List Cond := [Cond.methodLink RX7 211 Lib.MathLoose.min_long.x, Cond.methodLink RX3 92 yX1_signedAlike, Cond.instanceMethod yX1_signedAlike, Cond.selects RX1 yX1_signedAlike yX1_signedAlike, Cond.code yX1_signedAlike cX1_signedAlike 3 (some .boolean), Cond.fieldLink RX1 15 "SumsOver$Names" "signs" "[Z", Cond.methodLink RX3 96 yX1_belowByRests, Cond.instanceMethod yX1_belowByRests, Cond.selects RX1 yX1_belowByRests yX1_belowByRests, Cond.code yX1_belowByRests cX1_belowByRests 8 (some .long), Cond.methodLink RX1 61 Lib.Math.max.name, Cond.static Lib.Math.max.name, Cond.code Lib.Math.max.name Lib.Math.max.code 2 (some .int), Cond.methodLink RX3 65 yX1_holds, Cond.instanceMethod yX1_holds, Cond.selects RX1 yX1_holds yX1_holds, Cond.code yX1_holds cX1_holds 4 (some .boolean), Cond.methodLink RX3 69 yX3_noteOver, Cond.instanceMethod yX3_noteOver, Cond.selects RX3 yX3_noteOver yX3_noteOver, Cond.code yX3_noteOver cX3_noteOver 2 none, Cond.methodLink RX5 57 yX5_note, Cond.instanceMethod yX5_note, Cond.selects RX5 yX5_note yX5_note]
def wsX7_over_r6 : List Cond := [Cond.code yX5_note cX5_note 2 none, Cond.fieldLink RX5 61 "SumsOver$Runner" "overBits" "I", Cond.fieldLink RX5 67 "SumsOver$Runner" "turnedBits" "I", Cond.methodLink RX5 64 yX5_noteOver, Cond.instanceMethod yX5_noteOver, Cond.selects RX5 yX5_noteOver yX5_noteOver, Cond.code yX5_noteOver cX5_noteOver 4 none, Cond.methodLink RX5 70 yX5_noteTurned, Cond.instanceMethod yX5_noteTurned, Cond.selects RX5 yX5_noteTurned yX5_noteTurned, Cond.code yX5_noteTurned cX5_noteTurned 3 none]
def wsX7_over : List Cond := .code yX7_over cX7_over 2 (some .int) :: ((wsX7_over_r1 ++ (wsX7_over_r2 ++ (wsX7_over_r3 ++ (wsX7_over_r4 ++ (wsX7_over_r5 ++ wsX7_over_r6))))) ++ wsX70 ++ wsX50 ++ wsX40 ++ wsX00 ++ wsX30 ++ wsX10)
def wsX7_shown_r1 : List Cond := [Cond.fieldLink RX7 44 "SumsOver" "tally" "LSumsOver$Tally;", Cond.fieldLink RX7 139 "SumsOver$Tally" "shown" "[I", Cond.methodLink RX7 125 yX7_isStep, Cond.instanceMethod yX7_isStep, Cond.selects RX7 yX7_isStep yX7_isStep, Cond.initialized RX7, Cond.code yX7_isStep cX7_isStep 2 (some .boolean), Cond.fieldLink RX7 26 "SumsOver" "steps" "LSumsOver$Steps;", Cond.fieldLink RX7 87 "SumsOver$Steps" "size" "I", Cond.methodLink RX7 131 yX5_learn, Cond.instanceMethod yX5_learn, Cond.selects RX5 yX5_learn yX5_learn, Cond.initialized RX5, Cond.code yX5_learn cX5_learn 3 none, Cond.fieldLink RX5 29 "SumsOver$Tally" "known" "Z", Cond.fieldLink RX5 9 "SumsOver$Tally" "over" "[I", Cond.fieldLink RX5 15 "SumsOver$Tally" "shown" "[I", Cond.fieldLink RX5 18 "SumsOver$Tally" "turned" "[I", Cond.fieldLink RX5 39 "SumsOver$Tally" "runsOver" "I", Cond.fieldLink RX5 25 "SumsOver$Tally" "inputs" "LSumsOver$Inputs;", Cond.fieldLink RX5 43 "SumsOver$Inputs" "from" "[I", Cond.fieldLink RX5 48 "SumsOver$Inputs" "to" "[I", Cond.fieldLink RX5 21 "SumsOver$Tally" "runner" "LSumsOver$Runner;", Cond.methodLink RX5 33 yJ7_fill_53178]
def wsX7_shown_r2 : List Cond := [Cond.static yJ7_fill_53178, Cond.initialized RJ7, Cond.code yJ7_fill_53178 cJ7_fill_53178 4 none, Cond.methodLink RX5 51 yX3_follow, Cond.instanceMethod yX3_follow, Cond.selects RX3 yX3_follow yX3_follow, Cond.initialized RX3, Cond.code yX3_follow cX3_follow 4 none, Cond.fieldLink RX3 23 "SumsOver$Runner" "overBits" "I", Cond.fieldLink RX3 27 "SumsOver$Runner" "turnedBits" "I", Cond.fieldLink RX3 30 "SumsOver$Runner" "firstOver" "I", Cond.fieldLink RX3 9 "SumsOver$Runner" "values" "[J", Cond.fieldLink RX3 15 "SumsOver$Runner" "names" "LSumsOver$Names;", Cond.fieldLink RX3 19 "SumsOver$Runner" "steps" "LSumsOver$Steps;", Cond.fieldLink RX3 45 "SumsOver$Steps" "pathLength" "I", Cond.fieldLink RX3 50 "SumsOver$Steps" "path" "[I", Cond.methodLink RX3 33 yJ7_fill_d0a16, Cond.static yJ7_fill_d0a16, Cond.code yJ7_fill_d0a16 cJ7_fill_d0a16 5 none, Cond.methodLink RX3 39 yX1_fitted, Cond.instanceMethod yX1_fitted, Cond.selects RX1 yX1_fitted yX1_fitted, Cond.initialized RX1, Cond.code yX1_fitted cX1_fitted 4 (some .long)]
def wsX7_shown_r3 : List Cond := [Cond.fieldLink RX1 37 "SumsOver$Names" "nearest" "Z", Cond.methodLink RX1 41 yX1_nearestTo, Cond.instanceMethod yX1_nearestTo, Cond.selects RX1 yX1_nearestTo yX1_nearestTo, Cond.code yX1_nearestTo cX1_nearestTo 4 (some .long), Cond.fieldLink RX1 19 "SumsOver$Names" "least" "[J", Cond.fieldLink RX1 23 "SumsOver$Names" "greatest" "[J", Cond.methodLink RX1 48 Lib.MathLoose.min_long.x, Cond.static Lib.MathLoose.min_long.x, Cond.initialized "java/lang/Math", Cond.code Lib.MathLoose.min_long.x Lib.MathLoose.min_long.code 4 (some .long), Cond.methodLink RX1 54 Lib.MathLoose.max_long.x, Cond.static Lib.MathLoose.max_long.x, Cond.code Lib.MathLoose.max_long.x Lib.MathLoose.max_long.code 4 (some .long), Cond.methodLink RX1 45 yX1_wrapped, Cond.instanceMethod yX1_wrapped, Cond.selects RX1 yX1_wrapped yX1_wrapped, Cond.code yX1_wrapped cX1_wrapped 4 (some .long), Cond.fieldLink RX1 9 "SumsOver$Names" "widths" "[I", Cond.methodLink RX1 57 yX1_rest, Cond.static yX1_rest, Cond.code yX1_rest cX1_rest 3 (some .long), Cond.methodLink RX3 54 yX3_perform, Cond.instanceMethod yX3_perform]
def wsX7_shown_r4 : List Cond := [Cond.selects RX3 yX3_perform yX3_perform, Cond.code yX3_perform cX3_perform 5 none, Cond.fieldLink RX3 58 "SumsOver$Steps" "targets" "[I", Cond.methodLink RX3 61 yX3_answer, Cond.instanceMethod yX3_answer, Cond.selects RX3 yX3_answer yX3_answer, Cond.code yX3_answer cX3_answer 11 (some .long), Cond.fieldLink RX3 72 "SumsOver$Steps" "kinds" "[I", Cond.fieldLink RX3 86 "SumsOver$Steps" "as" "[I", Cond.fieldLink RX3 89 "SumsOver$Steps" "bs" "[I", Cond.methodLink RX3 75 yX4_valueOfA, Cond.instanceMethod yX4_valueOfA, Cond.selects RX4 yX4_valueOfA yX4_valueOfA, Cond.initialized RX4, Cond.code yX4_valueOfA cX4_valueOfA 3 (some .long), Cond.fieldLink RX4 18 "SumsOver$Steps" "as" "[I", Cond.methodLink RX3 79 yX4_valueOfB, Cond.instanceMethod yX4_valueOfB, Cond.selects RX4 yX4_valueOfB yX4_valueOfB, Cond.code yX4_valueOfB cX4_valueOfB 3 (some .long), Cond.fieldLink RX4 24 "SumsOver$Steps" "bIsName" "[Z", Cond.fieldLink RX4 21 "SumsOver$Steps" "bs" "[I", Cond.static yX7_made, Cond.code yX7_made cX7_made 5 (some .long)]
def wsX7_shown_r5 : List Cond := [Cond.methodLink RX7 211 Lib.MathLoose.min_long.x, Cond.methodLink RX3 92 yX1_signedAlike, Cond.instanceMethod yX1_signedAlike, Cond.selects RX1 yX1_signedAlike yX1_signedAlike, Cond.code yX1_signedAlike cX1_signedAlike 3 (some .boolean), Cond.fieldLink RX1 15 "SumsOver$Names" "signs" "[Z", Cond.methodLink RX3 96 yX1_belowByRests, Cond.instanceMethod yX1_belowByRests, Cond.selects RX1 yX1_belowByRests yX1_belowByRests, Cond.code yX1_belowByRests cX1_belowByRests 8 (some .long), Cond.methodLink RX1 61 Lib.Math.max.name, Cond.static Lib.Math.max.name, Cond.code Lib.Math.max.name Lib.Math.max.code 2 (some .int), Cond.methodLink RX3 65 yX1_holds, Cond.instanceMethod yX1_holds, Cond.selects RX1 yX1_holds yX1_holds, Cond.code yX1_holds cX1_holds 4 (some .boolean), Cond.methodLink RX3 69 yX3_noteOver, Cond.instanceMethod yX3_noteOver, Cond.selects RX3 yX3_noteOver yX3_noteOver, Cond.code yX3_noteOver cX3_noteOver 2 none, Cond.methodLink RX5 57 yX5_note, Cond.instanceMethod yX5_note, Cond.selects RX5 yX5_note yX5_note]
def wsX7_shown_r6 : List Cond := [Cond.code yX5_note cX5_note 2 none, Cond.fieldLink RX5 61 "SumsOver$Runner" "overBits" "I", Cond.fieldLink RX5 67 "SumsOver$Runner" "turnedBits" "I", Cond.methodLink RX5 64 yX5_noteOver, Cond.instanceMethod yX5_noteOver, Cond.selects RX5 yX5_noteOver yX5_noteOver, Cond.code yX5_noteOver cX5_noteOver 4 none, Cond.methodLink RX5 70 yX5_noteTurned, Cond.instanceMethod yX5_noteTurned, Cond.selects RX5 yX5_noteTurned yX5_noteTurned, Cond.code yX5_noteTurned cX5_noteTurned 3 none]
def wsX7_shown : List Cond := .code yX7_shown cX7_shown 2 (some .int) :: ((wsX7_shown_r1 ++ (wsX7_shown_r2 ++ (wsX7_shown_r3 ++ (wsX7_shown_r4 ++ (wsX7_shown_r5 ++ wsX7_shown_r6))))) ++ wsX70 ++ wsX50 ++ wsX40 ++ wsX00 ++ wsX30 ++ wsX10)
def wsX7_turned_r1 : List Cond := [Cond.fieldLink RX7 26 "SumsOver" "steps" "LSumsOver$Steps;", Cond.fieldLink RX7 142 "SumsOver$Steps" "kinds" "[I", Cond.fieldLink RX7 44 "SumsOver" "tally" "LSumsOver$Tally;", Cond.fieldLink RX7 145 "SumsOver$Tally" "turned" "[I", Cond.methodLink RX7 125 yX7_isStep, Cond.instanceMethod yX7_isStep, Cond.selects RX7 yX7_isStep yX7_isStep, Cond.initialized RX7, Cond.code yX7_isStep cX7_isStep 2 (some .boolean), Cond.fieldLink RX7 87 "SumsOver$Steps" "size" "I", Cond.methodLink RX7 131 yX5_learn, Cond.instanceMethod yX5_learn, Cond.selects RX5 yX5_learn yX5_learn, Cond.initialized RX5, Cond.code yX5_learn cX5_learn 3 none, Cond.fieldLink RX5 29 "SumsOver$Tally" "known" "Z", Cond.fieldLink RX5 9 "SumsOver$Tally" "over" "[I", Cond.fieldLink RX5 15 "SumsOver$Tally" "shown" "[I", Cond.fieldLink RX5 18 "SumsOver$Tally" "turned" "[I", Cond.fieldLink RX5 39 "SumsOver$Tally" "runsOver" "I", Cond.fieldLink RX5 25 "SumsOver$Tally" "inputs" "LSumsOver$Inputs;", Cond.fieldLink RX5 43 "SumsOver$Inputs" "from" "[I", Cond.fieldLink RX5 48 "SumsOver$Inputs" "to" "[I", Cond.fieldLink RX5 21 "SumsOver$Tally" "runner" "LSumsOver$Runner;"]
def wsX7_turned_r2 : List Cond := [Cond.methodLink RX5 33 yJ7_fill_53178, Cond.static yJ7_fill_53178, Cond.initialized RJ7, Cond.code yJ7_fill_53178 cJ7_fill_53178 4 none, Cond.methodLink RX5 51 yX3_follow, Cond.instanceMethod yX3_follow, Cond.selects RX3 yX3_follow yX3_follow, Cond.initialized RX3, Cond.code yX3_follow cX3_follow 4 none, Cond.fieldLink RX3 23 "SumsOver$Runner" "overBits" "I", Cond.fieldLink RX3 27 "SumsOver$Runner" "turnedBits" "I", Cond.fieldLink RX3 30 "SumsOver$Runner" "firstOver" "I", Cond.fieldLink RX3 9 "SumsOver$Runner" "values" "[J", Cond.fieldLink RX3 15 "SumsOver$Runner" "names" "LSumsOver$Names;", Cond.fieldLink RX3 19 "SumsOver$Runner" "steps" "LSumsOver$Steps;", Cond.fieldLink RX3 45 "SumsOver$Steps" "pathLength" "I", Cond.fieldLink RX3 50 "SumsOver$Steps" "path" "[I", Cond.methodLink RX3 33 yJ7_fill_d0a16, Cond.static yJ7_fill_d0a16, Cond.code yJ7_fill_d0a16 cJ7_fill_d0a16 5 none, Cond.methodLink RX3 39 yX1_fitted, Cond.instanceMethod yX1_fitted, Cond.selects RX1 yX1_fitted yX1_fitted, Cond.initialized RX1]
def wsX7_turned_r3 : List Cond := [Cond.code yX1_fitted cX1_fitted 4 (some .long), Cond.fieldLink RX1 37 "SumsOver$Names" "nearest" "Z", Cond.methodLink RX1 41 yX1_nearestTo, Cond.instanceMethod yX1_nearestTo, Cond.selects RX1 yX1_nearestTo yX1_nearestTo, Cond.code yX1_nearestTo cX1_nearestTo 4 (some .long), Cond.fieldLink RX1 19 "SumsOver$Names" "least" "[J", Cond.fieldLink RX1 23 "SumsOver$Names" "greatest" "[J", Cond.methodLink RX1 48 Lib.MathLoose.min_long.x, Cond.static Lib.MathLoose.min_long.x, Cond.initialized "java/lang/Math", Cond.code Lib.MathLoose.min_long.x Lib.MathLoose.min_long.code 4 (some .long), Cond.methodLink RX1 54 Lib.MathLoose.max_long.x, Cond.static Lib.MathLoose.max_long.x, Cond.code Lib.MathLoose.max_long.x Lib.MathLoose.max_long.code 4 (some .long), Cond.methodLink RX1 45 yX1_wrapped, Cond.instanceMethod yX1_wrapped, Cond.selects RX1 yX1_wrapped yX1_wrapped, Cond.code yX1_wrapped cX1_wrapped 4 (some .long), Cond.fieldLink RX1 9 "SumsOver$Names" "widths" "[I", Cond.methodLink RX1 57 yX1_rest, Cond.static yX1_rest, Cond.code yX1_rest cX1_rest 3 (some .long), Cond.methodLink RX3 54 yX3_perform]
def wsX7_turned_r4 : List Cond := [Cond.instanceMethod yX3_perform, Cond.selects RX3 yX3_perform yX3_perform, Cond.code yX3_perform cX3_perform 5 none, Cond.fieldLink RX3 58 "SumsOver$Steps" "targets" "[I", Cond.methodLink RX3 61 yX3_answer, Cond.instanceMethod yX3_answer, Cond.selects RX3 yX3_answer yX3_answer, Cond.code yX3_answer cX3_answer 11 (some .long), Cond.fieldLink RX3 72 "SumsOver$Steps" "kinds" "[I", Cond.fieldLink RX3 86 "SumsOver$Steps" "as" "[I", Cond.fieldLink RX3 89 "SumsOver$Steps" "bs" "[I", Cond.methodLink RX3 75 yX4_valueOfA, Cond.instanceMethod yX4_valueOfA, Cond.selects RX4 yX4_valueOfA yX4_valueOfA, Cond.initialized RX4, Cond.code yX4_valueOfA cX4_valueOfA 3 (some .long), Cond.fieldLink RX4 18 "SumsOver$Steps" "as" "[I", Cond.methodLink RX3 79 yX4_valueOfB, Cond.instanceMethod yX4_valueOfB, Cond.selects RX4 yX4_valueOfB yX4_valueOfB, Cond.code yX4_valueOfB cX4_valueOfB 3 (some .long), Cond.fieldLink RX4 24 "SumsOver$Steps" "bIsName" "[Z", Cond.fieldLink RX4 21 "SumsOver$Steps" "bs" "[I", Cond.static yX7_made]
def wsX7_turned_r5 : List Cond := [Cond.code yX7_made cX7_made 5 (some .long), Cond.methodLink RX7 211 Lib.MathLoose.min_long.x, Cond.methodLink RX3 92 yX1_signedAlike, Cond.instanceMethod yX1_signedAlike, Cond.selects RX1 yX1_signedAlike yX1_signedAlike, Cond.code yX1_signedAlike cX1_signedAlike 3 (some .boolean), Cond.fieldLink RX1 15 "SumsOver$Names" "signs" "[Z", Cond.methodLink RX3 96 yX1_belowByRests, Cond.instanceMethod yX1_belowByRests, Cond.selects RX1 yX1_belowByRests yX1_belowByRests, Cond.code yX1_belowByRests cX1_belowByRests 8 (some .long), Cond.methodLink RX1 61 Lib.Math.max.name, Cond.static Lib.Math.max.name, Cond.code Lib.Math.max.name Lib.Math.max.code 2 (some .int), Cond.methodLink RX3 65 yX1_holds, Cond.instanceMethod yX1_holds, Cond.selects RX1 yX1_holds yX1_holds, Cond.code yX1_holds cX1_holds 4 (some .boolean), Cond.methodLink RX3 69 yX3_noteOver, Cond.instanceMethod yX3_noteOver, Cond.selects RX3 yX3_noteOver yX3_noteOver, Cond.code yX3_noteOver cX3_noteOver 2 none, Cond.methodLink RX5 57 yX5_note, Cond.instanceMethod yX5_note]
def wsX7_turned_r6 : List Cond := [Cond.selects RX5 yX5_note yX5_note, Cond.code yX5_note cX5_note 2 none, Cond.fieldLink RX5 61 "SumsOver$Runner" "overBits" "I", Cond.fieldLink RX5 67 "SumsOver$Runner" "turnedBits" "I", Cond.methodLink RX5 64 yX5_noteOver, Cond.instanceMethod yX5_noteOver, Cond.selects RX5 yX5_noteOver yX5_noteOver, Cond.code yX5_noteOver cX5_noteOver 4 none, Cond.methodLink RX5 70 yX5_noteTurned, Cond.instanceMethod yX5_noteTurned, Cond.selects RX5 yX5_noteTurned yX5_noteTurned, Cond.code yX5_noteTurned cX5_noteTurned 3 none]
def wsX7_turned : List Cond := .code yX7_turned cX7_turned 2 (some .int) :: ((wsX7_turned_r1 ++ (wsX7_turned_r2 ++ (wsX7_turned_r3 ++ (wsX7_turned_r4 ++ (wsX7_turned_r5 ++ wsX7_turned_r6))))) ++ wsX70 ++ wsX40 ++ wsX50 ++ wsX00 ++ wsX30 ++ wsX10)
def wsX7_ends_r1 : List Cond := [Cond.constant RX7 113 (-2147483648), Cond.fieldLink RX7 53 "SumsOver" "reach" "LSumsOver$Reach;", Cond.fieldLink RX7 148 "SumsOver$Reach" "least" "[J", Cond.fieldLink RX7 151 "SumsOver$Reach" "greatest" "[J", Cond.methodLink RX7 66 yX7_isName, Cond.static yX7_isName, Cond.initialized RX7, Cond.code yX7_isName cX7_isName 1 (some .boolean), Cond.methodLink RX7 128 yX2_learn, Cond.instanceMethod yX2_learn, Cond.selects RX2 yX2_learn yX2_learn, Cond.initialized RX2, Cond.code yX2_learn cX2_learn 2 none, Cond.fieldLink RX2 34 "SumsOver$Reach" "known" "Z", Cond.fieldLink RX2 30 "SumsOver$Reach" "couldBits" "I", Cond.fieldLink RX2 9 "SumsOver$Reach" "least" "[J", Cond.fieldLink RX2 15 "SumsOver$Reach" "greatest" "[J", Cond.fieldLink RX2 26 "SumsOver$Reach" "inputs" "LSumsOver$Inputs;", Cond.fieldLink RX2 44 "SumsOver$Inputs" "from" "[I", Cond.fieldLink RX2 50 "SumsOver$Reach" "low" "J", Cond.fieldLink RX2 54 "SumsOver$Inputs" "to" "[I", Cond.fieldLink RX2 57 "SumsOver$Reach" "high" "J", Cond.fieldLink RX2 22 "SumsOver$Reach" "steps" "LSumsOver$Steps;", Cond.fieldLink RX2 64 "SumsOver$Steps" "pathLength" "I"]
def wsX7_ends_r2 : List Cond := [Cond.fieldLink RX2 69 "SumsOver$Steps" "path" "[I", Cond.methodLink RX2 38 yJ7_fill_d0a16, Cond.static yJ7_fill_d0a16, Cond.initialized RJ7, Cond.code yJ7_fill_d0a16 cJ7_fill_d0a16 5 none, Cond.methodLink RX2 60 yX2_settle, Cond.instanceMethod yX2_settle, Cond.selects RX2 yX2_settle yX2_settle, Cond.code yX2_settle cX2_settle 2 none, Cond.fieldLink RX2 18 "SumsOver$Reach" "names" "LSumsOver$Names;", Cond.fieldLink RX2 91 "SumsOver$Names" "nearest" "Z", Cond.fieldLink RX2 98 "SumsOver$Names" "least" "[J", Cond.fieldLink RX2 99 "SumsOver$Names" "greatest" "[J", Cond.methodLink RX2 81 yX2_fits, Cond.instanceMethod yX2_fits, Cond.selects RX2 yX2_fits yX2_fits, Cond.code yX2_fits cX2_fits 2 (some .boolean), Cond.methodLink RX2 85 yX1_holds, Cond.instanceMethod yX1_holds, Cond.selects RX1 yX1_holds yX1_holds, Cond.initialized RX1, Cond.code yX1_holds cX1_holds 4 (some .boolean), Cond.fieldLink RX1 19 "SumsOver$Names" "least" "[J", Cond.fieldLink RX1 23 "SumsOver$Names" "greatest" "[J"]
def wsX7_ends_r3 : List Cond := [Cond.methodLink RX2 94 yX1_nearestTo, Cond.instanceMethod yX1_nearestTo, Cond.selects RX1 yX1_nearestTo yX1_nearestTo, Cond.code yX1_nearestTo cX1_nearestTo 4 (some .long), Cond.methodLink RX1 48 Lib.MathLoose.min_long.x, Cond.static Lib.MathLoose.min_long.x, Cond.initialized "java/lang/Math", Cond.code Lib.MathLoose.min_long.x Lib.MathLoose.min_long.code 4 (some .long), Cond.methodLink RX1 54 Lib.MathLoose.max_long.x, Cond.static Lib.MathLoose.max_long.x, Cond.code Lib.MathLoose.max_long.x Lib.MathLoose.max_long.code 4 (some .long), Cond.methodLink RX2 72 yX2_perform, Cond.instanceMethod yX2_perform, Cond.selects RX2 yX2_perform yX2_perform, Cond.code yX2_perform cX2_perform 3 none, Cond.fieldLink RX2 75 "SumsOver$Steps" "targets" "[I", Cond.methodLink RX2 78 yX2_reckon, Cond.instanceMethod yX2_reckon, Cond.selects RX2 yX2_reckon yX2_reckon, Cond.code yX2_reckon cX2_reckon 12 none, Cond.fieldLink RX2 107 "SumsOver$Steps" "kinds" "[I", Cond.methodLink RX2 110 Lib.MathLoose.min_long.x, Cond.methodLink RX2 116 Lib.MathLoose.max_long.x, Cond.fieldLink RX2 119 "SumsOver$Steps" "as" "[I"]
def wsX7_ends_r4 : List Cond := [Cond.fieldLink RX2 122 "SumsOver$Steps" "bs" "[I", Cond.methodLink RX2 100 yX4_valueOfA, Cond.instanceMethod yX4_valueOfA, Cond.selects RX4 yX4_valueOfA yX4_valueOfA, Cond.initialized RX4, Cond.code yX4_valueOfA cX4_valueOfA 3 (some .long), Cond.fieldLink RX4 18 "SumsOver$Steps" "as" "[I", Cond.methodLink RX2 104 yX4_valueOfB, Cond.instanceMethod yX4_valueOfB, Cond.selects RX4 yX4_valueOfB yX4_valueOfB, Cond.code yX4_valueOfB cX4_valueOfB 3 (some .long), Cond.fieldLink RX4 24 "SumsOver$Steps" "bIsName" "[Z", Cond.fieldLink RX4 21 "SumsOver$Steps" "bs" "[I", Cond.methodLink RX2 125 yX1_signedAlike, Cond.instanceMethod yX1_signedAlike, Cond.selects RX1 yX1_signedAlike yX1_signedAlike, Cond.code yX1_signedAlike cX1_signedAlike 3 (some .boolean), Cond.fieldLink RX1 15 "SumsOver$Names" "signs" "[Z", Cond.static yX7_made, Cond.code yX7_made cX7_made 5 (some .long), Cond.methodLink RX7 211 Lib.MathLoose.min_long.x]
def wsX7_ends : List Cond := .code yX7_ends cX7_ends 3 (some .int) :: ((wsX7_ends_r1 ++ (wsX7_ends_r2 ++ (wsX7_ends_r3 ++ wsX7_ends_r4))) ++ wsX70 ++ wsX20 ++ wsX00 ++ wsX40 ++ wsX10)
def wsX7_needed : List Cond := .code yX7_needed cX7_needed 4 (some .int) :: ([.fieldLink RX7 62 "SumsOver" "trues" "LSumsOver$Trues;", .fieldLink RX7 223 "SumsOver$Trues" "tooFar" "Z", .fieldLink RX7 10 "SumsOver" "names" "LSumsOver$Names;", .fieldLink RX7 171 "SumsOver$Names" "signs" "[Z", .fieldLink RX7 226 "SumsOver$Trues" "least" "[J", .fieldLink RX7 231 "SumsOver$Trues" "greatest" "[J", .methodLink RX7 227 yX7_leastOf, .static yX7_leastOf, .initialized RX7, .code yX7_leastOf cX7_leastOf 2 (some .long), .methodLink RX7 232 yX7_greatestOf, .static yX7_greatestOf, .code yX7_greatestOf cX7_greatestOf 2 (some .long)] ++ wsX70 ++ wsX60 ++ wsX10)
def wsX7_need_r1 : List Cond := [Cond.fieldLink RX7 62 "SumsOver" "trues" "LSumsOver$Trues;", Cond.methodLink RX7 66 yX7_isName, Cond.static yX7_isName, Cond.initialized RX7, Cond.code yX7_isName cX7_isName 1 (some .boolean), Cond.methodLink RX7 154 yX6_learn, Cond.instanceMethod yX6_learn, Cond.selects RX6 yX6_learn yX6_learn, Cond.initialized RX6, Cond.code yX6_learn cX6_learn 3 none, Cond.fieldLink RX6 29 "SumsOver$Trues" "known" "Z", Cond.fieldLink RX6 33 "SumsOver$Trues" "tooFar" "Z", Cond.fieldLink RX6 9 "SumsOver$Trues" "least" "[J", Cond.fieldLink RX6 15 "SumsOver$Trues" "greatest" "[J", Cond.fieldLink RX6 25 "SumsOver$Trues" "inputs" "LSumsOver$Inputs;", Cond.fieldLink RX6 42 "SumsOver$Inputs" "from" "[I", Cond.fieldLink RX6 48 "SumsOver$Inputs" "to" "[I", Cond.methodLink RX6 36 yJ7_fill_d0a16, Cond.static yJ7_fill_d0a16, Cond.initialized RJ7, Cond.code yJ7_fill_d0a16 cJ7_fill_d0a16 5 none, Cond.methodLink RX6 51 yX6_follow, Cond.instanceMethod yX6_follow, Cond.selects RX6 yX6_follow yX6_follow]
def wsX7_need_r2 : List Cond := [Cond.code yX6_follow cX6_follow 4 none, Cond.fieldLink RX6 18 "SumsOver$Trues" "values" "[J", Cond.fieldLink RX6 21 "SumsOver$Trues" "steps" "LSumsOver$Steps;", Cond.fieldLink RX6 59 "SumsOver$Steps" "pathLength" "I", Cond.fieldLink RX6 65 "SumsOver$Steps" "path" "[I", Cond.methodLink RX6 55 yX6_give, Cond.instanceMethod yX6_give, Cond.selects RX6 yX6_give yX6_give, Cond.code yX6_give cX6_give 4 none, Cond.methodLink RX6 101 Lib.MathLoose.min_long.x, Cond.static Lib.MathLoose.min_long.x, Cond.initialized "java/lang/Math", Cond.code Lib.MathLoose.min_long.x Lib.MathLoose.min_long.code 4 (some .long), Cond.methodLink RX6 105 Lib.MathLoose.max_long.x, Cond.static Lib.MathLoose.max_long.x, Cond.code Lib.MathLoose.max_long.x Lib.MathLoose.max_long.code 4 (some .long), Cond.methodLink RX6 93 Lib.MathLoose.abs_long.x, Cond.static Lib.MathLoose.abs_long.x, Cond.code Lib.MathLoose.abs_long.x Lib.MathLoose.abs_long.code 2 (some .long), Cond.constantLong RX6 99 (1099511627776), Cond.methodLink RX6 68 yX6_perform, Cond.instanceMethod yX6_perform, Cond.selects RX6 yX6_perform yX6_perform, Cond.code yX6_perform cX6_perform 7 none]
def wsX7_need_r3 : List Cond := [Cond.fieldLink RX6 72 "SumsOver$Steps" "kinds" "[I", Cond.fieldLink RX6 86 "SumsOver$Steps" "targets" "[I", Cond.methodLink RX6 75 yX4_valueOfA, Cond.instanceMethod yX4_valueOfA, Cond.selects RX4 yX4_valueOfA yX4_valueOfA, Cond.initialized RX4, Cond.code yX4_valueOfA cX4_valueOfA 3 (some .long), Cond.fieldLink RX4 18 "SumsOver$Steps" "as" "[I", Cond.methodLink RX6 79 yX4_valueOfB, Cond.instanceMethod yX4_valueOfB, Cond.selects RX4 yX4_valueOfB yX4_valueOfB, Cond.code yX4_valueOfB cX4_valueOfB 3 (some .long), Cond.fieldLink RX4 24 "SumsOver$Steps" "bIsName" "[Z", Cond.fieldLink RX4 21 "SumsOver$Steps" "bs" "[I", Cond.methodLink RX6 82 yX6_isProductTooFar, Cond.static yX6_isProductTooFar, Cond.code yX6_isProductTooFar cX6_isProductTooFar 4 (some .boolean), Cond.static yX7_made, Cond.code yX7_made cX7_made 5 (some .long), Cond.methodLink RX7 211 Lib.MathLoose.min_long.x, Cond.methodLink RX7 155 yX7_needed, Cond.instanceMethod yX7_needed, Cond.selects RX7 yX7_needed yX7_needed, Cond.code yX7_needed cX7_needed 4 (some .int)]
def wsX7_need_r4 : List Cond := [Cond.fieldLink RX7 223 "SumsOver$Trues" "tooFar" "Z", Cond.fieldLink RX7 10 "SumsOver" "names" "LSumsOver$Names;", Cond.fieldLink RX7 171 "SumsOver$Names" "signs" "[Z", Cond.fieldLink RX7 226 "SumsOver$Trues" "least" "[J", Cond.fieldLink RX7 231 "SumsOver$Trues" "greatest" "[J", Cond.methodLink RX7 227 yX7_leastOf, Cond.static yX7_leastOf, Cond.code yX7_leastOf cX7_leastOf 2 (some .long), Cond.methodLink RX7 232 yX7_greatestOf, Cond.static yX7_greatestOf, Cond.code yX7_greatestOf cX7_greatestOf 2 (some .long)]
def wsX7_need : List Cond := .code yX7_need cX7_need 2 (some .int) :: ((wsX7_need_r1 ++ (wsX7_need_r2 ++ (wsX7_need_r3 ++ wsX7_need_r4))) ++ wsX70 ++ wsX60 ++ wsX00 ++ wsX40 ++ wsX10)
def wsX7_canMend : List Cond := .code yX7_canMend cX7_canMend 2 (some .boolean) :: ([.methodLink RX7 155 yX7_needed, .instanceMethod yX7_needed, .selects RX7 yX7_needed yX7_needed, .initialized RX7, .code yX7_needed cX7_needed 4 (some .int), .fieldLink RX7 62 "SumsOver" "trues" "LSumsOver$Trues;", .fieldLink RX7 223 "SumsOver$Trues" "tooFar" "Z", .fieldLink RX7 10 "SumsOver" "names" "LSumsOver$Names;", .fieldLink RX7 171 "SumsOver$Names" "signs" "[Z", .fieldLink RX7 226 "SumsOver$Trues" "least" "[J", .fieldLink RX7 231 "SumsOver$Trues" "greatest" "[J", .methodLink RX7 227 yX7_leastOf, .static yX7_leastOf, .code yX7_leastOf cX7_leastOf 2 (some .long), .methodLink RX7 232 yX7_greatestOf, .static yX7_greatestOf, .code yX7_greatestOf cX7_greatestOf 2 (some .long)] ++ wsX70 ++ wsX60 ++ wsX10)
def wsX7_price_r1 : List Cond := [Cond.fieldLink RX7 62 "SumsOver" "trues" "LSumsOver$Trues;", Cond.fieldLink RX7 10 "SumsOver" "names" "LSumsOver$Names;", Cond.fieldLink RX7 162 "SumsOver$Names" "widths" "[I", Cond.methodLink RX7 165 Lib.Math.max.name, Cond.static Lib.Math.max.name, Cond.initialized "java/lang/Math", Cond.code Lib.Math.max.name Lib.Math.max.code 2 (some .int), Cond.methodLink RX7 154 yX6_learn, Cond.instanceMethod yX6_learn, Cond.selects RX6 yX6_learn yX6_learn, Cond.initialized RX6, Cond.code yX6_learn cX6_learn 3 none, Cond.fieldLink RX6 29 "SumsOver$Trues" "known" "Z", Cond.fieldLink RX6 33 "SumsOver$Trues" "tooFar" "Z", Cond.fieldLink RX6 9 "SumsOver$Trues" "least" "[J", Cond.fieldLink RX6 15 "SumsOver$Trues" "greatest" "[J", Cond.fieldLink RX6 25 "SumsOver$Trues" "inputs" "LSumsOver$Inputs;", Cond.fieldLink RX6 42 "SumsOver$Inputs" "from" "[I", Cond.fieldLink RX6 48 "SumsOver$Inputs" "to" "[I", Cond.methodLink RX6 36 yJ7_fill_d0a16, Cond.static yJ7_fill_d0a16, Cond.initialized RJ7, Cond.code yJ7_fill_d0a16 cJ7_fill_d0a16 5 none, Cond.methodLink RX6 51 yX6_follow]
def wsX7_price_r2 : List Cond := [Cond.instanceMethod yX6_follow, Cond.selects RX6 yX6_follow yX6_follow, Cond.code yX6_follow cX6_follow 4 none, Cond.fieldLink RX6 18 "SumsOver$Trues" "values" "[J", Cond.fieldLink RX6 21 "SumsOver$Trues" "steps" "LSumsOver$Steps;", Cond.fieldLink RX6 59 "SumsOver$Steps" "pathLength" "I", Cond.fieldLink RX6 65 "SumsOver$Steps" "path" "[I", Cond.methodLink RX6 55 yX6_give, Cond.instanceMethod yX6_give, Cond.selects RX6 yX6_give yX6_give, Cond.code yX6_give cX6_give 4 none, Cond.methodLink RX6 101 Lib.MathLoose.min_long.x, Cond.static Lib.MathLoose.min_long.x, Cond.code Lib.MathLoose.min_long.x Lib.MathLoose.min_long.code 4 (some .long), Cond.methodLink RX6 105 Lib.MathLoose.max_long.x, Cond.static Lib.MathLoose.max_long.x, Cond.code Lib.MathLoose.max_long.x Lib.MathLoose.max_long.code 4 (some .long), Cond.methodLink RX6 93 Lib.MathLoose.abs_long.x, Cond.static Lib.MathLoose.abs_long.x, Cond.code Lib.MathLoose.abs_long.x Lib.MathLoose.abs_long.code 2 (some .long), Cond.constantLong RX6 99 (1099511627776), Cond.methodLink RX6 68 yX6_perform, Cond.instanceMethod yX6_perform, Cond.selects RX6 yX6_perform yX6_perform]
def wsX7_price_r3 : List Cond := [Cond.code yX6_perform cX6_perform 7 none, Cond.fieldLink RX6 72 "SumsOver$Steps" "kinds" "[I", Cond.fieldLink RX6 86 "SumsOver$Steps" "targets" "[I", Cond.methodLink RX6 75 yX4_valueOfA, Cond.instanceMethod yX4_valueOfA, Cond.selects RX4 yX4_valueOfA yX4_valueOfA, Cond.initialized RX4, Cond.code yX4_valueOfA cX4_valueOfA 3 (some .long), Cond.fieldLink RX4 18 "SumsOver$Steps" "as" "[I", Cond.methodLink RX6 79 yX4_valueOfB, Cond.instanceMethod yX4_valueOfB, Cond.selects RX4 yX4_valueOfB yX4_valueOfB, Cond.code yX4_valueOfB cX4_valueOfB 3 (some .long), Cond.fieldLink RX4 24 "SumsOver$Steps" "bIsName" "[Z", Cond.fieldLink RX4 21 "SumsOver$Steps" "bs" "[I", Cond.methodLink RX6 82 yX6_isProductTooFar, Cond.static yX6_isProductTooFar, Cond.code yX6_isProductTooFar cX6_isProductTooFar 4 (some .boolean), Cond.static yX7_made, Cond.initialized RX7, Cond.code yX7_made cX7_made 5 (some .long), Cond.methodLink RX7 211 Lib.MathLoose.min_long.x, Cond.methodLink RX7 158 yX7_canMend, Cond.instanceMethod yX7_canMend]
def wsX7_price_r4 : List Cond := [Cond.selects RX7 yX7_canMend yX7_canMend, Cond.code yX7_canMend cX7_canMend 2 (some .boolean), Cond.methodLink RX7 155 yX7_needed, Cond.instanceMethod yX7_needed, Cond.selects RX7 yX7_needed yX7_needed, Cond.code yX7_needed cX7_needed 4 (some .int), Cond.fieldLink RX7 223 "SumsOver$Trues" "tooFar" "Z", Cond.fieldLink RX7 171 "SumsOver$Names" "signs" "[Z", Cond.fieldLink RX7 226 "SumsOver$Trues" "least" "[J", Cond.fieldLink RX7 231 "SumsOver$Trues" "greatest" "[J", Cond.methodLink RX7 227 yX7_leastOf, Cond.static yX7_leastOf, Cond.code yX7_leastOf cX7_leastOf 2 (some .long), Cond.methodLink RX7 232 yX7_greatestOf, Cond.static yX7_greatestOf, Cond.code yX7_greatestOf cX7_greatestOf 2 (some .long)]
def wsX7_price : List Cond := .code yX7_price cX7_price 3 (some .int) :: ((wsX7_price_r1 ++ (wsX7_price_r2 ++ (wsX7_price_r3 ++ wsX7_price_r4))) ++ wsX70 ++ wsX10 ++ wsX60 ++ wsX00 ++ wsX40)
def wsX7_mend_r1 : List Cond := [Cond.fieldLink RX7 62 "SumsOver" "trues" "LSumsOver$Trues;", Cond.fieldLink RX7 10 "SumsOver" "names" "LSumsOver$Names;", Cond.fieldLink RX7 162 "SumsOver$Names" "widths" "[I", Cond.fieldLink RX7 171 "SumsOver$Names" "signs" "[Z", Cond.methodLink RX7 154 yX6_learn, Cond.instanceMethod yX6_learn, Cond.selects RX6 yX6_learn yX6_learn, Cond.initialized RX6, Cond.code yX6_learn cX6_learn 3 none, Cond.fieldLink RX6 29 "SumsOver$Trues" "known" "Z", Cond.fieldLink RX6 33 "SumsOver$Trues" "tooFar" "Z", Cond.fieldLink RX6 9 "SumsOver$Trues" "least" "[J", Cond.fieldLink RX6 15 "SumsOver$Trues" "greatest" "[J", Cond.fieldLink RX6 25 "SumsOver$Trues" "inputs" "LSumsOver$Inputs;", Cond.fieldLink RX6 42 "SumsOver$Inputs" "from" "[I", Cond.fieldLink RX6 48 "SumsOver$Inputs" "to" "[I", Cond.methodLink RX6 36 yJ7_fill_d0a16, Cond.static yJ7_fill_d0a16, Cond.initialized RJ7, Cond.code yJ7_fill_d0a16 cJ7_fill_d0a16 5 none, Cond.methodLink RX6 51 yX6_follow, Cond.instanceMethod yX6_follow, Cond.selects RX6 yX6_follow yX6_follow, Cond.code yX6_follow cX6_follow 4 none]
def wsX7_mend_r2 : List Cond := [Cond.fieldLink RX6 18 "SumsOver$Trues" "values" "[J", Cond.fieldLink RX6 21 "SumsOver$Trues" "steps" "LSumsOver$Steps;", Cond.fieldLink RX6 59 "SumsOver$Steps" "pathLength" "I", Cond.fieldLink RX6 65 "SumsOver$Steps" "path" "[I", Cond.methodLink RX6 55 yX6_give, Cond.instanceMethod yX6_give, Cond.selects RX6 yX6_give yX6_give, Cond.code yX6_give cX6_give 4 none, Cond.methodLink RX6 101 Lib.MathLoose.min_long.x, Cond.static Lib.MathLoose.min_long.x, Cond.initialized "java/lang/Math", Cond.code Lib.MathLoose.min_long.x Lib.MathLoose.min_long.code 4 (some .long), Cond.methodLink RX6 105 Lib.MathLoose.max_long.x, Cond.static Lib.MathLoose.max_long.x, Cond.code Lib.MathLoose.max_long.x Lib.MathLoose.max_long.code 4 (some .long), Cond.methodLink RX6 93 Lib.MathLoose.abs_long.x, Cond.static Lib.MathLoose.abs_long.x, Cond.code Lib.MathLoose.abs_long.x Lib.MathLoose.abs_long.code 2 (some .long), Cond.constantLong RX6 99 (1099511627776), Cond.methodLink RX6 68 yX6_perform, Cond.instanceMethod yX6_perform, Cond.selects RX6 yX6_perform yX6_perform, Cond.code yX6_perform cX6_perform 7 none, Cond.fieldLink RX6 72 "SumsOver$Steps" "kinds" "[I"]
def wsX7_mend_r3 : List Cond := [Cond.fieldLink RX6 86 "SumsOver$Steps" "targets" "[I", Cond.methodLink RX6 75 yX4_valueOfA, Cond.instanceMethod yX4_valueOfA, Cond.selects RX4 yX4_valueOfA yX4_valueOfA, Cond.initialized RX4, Cond.code yX4_valueOfA cX4_valueOfA 3 (some .long), Cond.fieldLink RX4 18 "SumsOver$Steps" "as" "[I", Cond.methodLink RX6 79 yX4_valueOfB, Cond.instanceMethod yX4_valueOfB, Cond.selects RX4 yX4_valueOfB yX4_valueOfB, Cond.code yX4_valueOfB cX4_valueOfB 3 (some .long), Cond.fieldLink RX4 24 "SumsOver$Steps" "bIsName" "[Z", Cond.fieldLink RX4 21 "SumsOver$Steps" "bs" "[I", Cond.methodLink RX6 82 yX6_isProductTooFar, Cond.static yX6_isProductTooFar, Cond.code yX6_isProductTooFar cX6_isProductTooFar 4 (some .boolean), Cond.static yX7_made, Cond.initialized RX7, Cond.code yX7_made cX7_made 5 (some .long), Cond.methodLink RX7 211 Lib.MathLoose.min_long.x, Cond.methodLink RX7 158 yX7_canMend, Cond.instanceMethod yX7_canMend, Cond.selects RX7 yX7_canMend yX7_canMend, Cond.code yX7_canMend cX7_canMend 2 (some .boolean)]
def wsX7_mend_r4 : List Cond := [Cond.methodLink RX7 155 yX7_needed, Cond.instanceMethod yX7_needed, Cond.selects RX7 yX7_needed yX7_needed, Cond.code yX7_needed cX7_needed 4 (some .int), Cond.fieldLink RX7 223 "SumsOver$Trues" "tooFar" "Z", Cond.fieldLink RX7 226 "SumsOver$Trues" "least" "[J", Cond.fieldLink RX7 231 "SumsOver$Trues" "greatest" "[J", Cond.methodLink RX7 227 yX7_leastOf, Cond.static yX7_leastOf, Cond.code yX7_leastOf cX7_leastOf 2 (some .long), Cond.methodLink RX7 232 yX7_greatestOf, Cond.static yX7_greatestOf, Cond.code yX7_greatestOf cX7_greatestOf 2 (some .long), Cond.methodLink RX7 70 yX1_tell, Cond.instanceMethod yX1_tell, Cond.selects RX1 yX1_tell yX1_tell, Cond.initialized RX1, Cond.code yX1_tell cX1_tell 4 none, Cond.fieldLink RX1 9 "SumsOver$Names" "widths" "[I", Cond.fieldLink RX1 15 "SumsOver$Names" "signs" "[Z", Cond.fieldLink RX1 19 "SumsOver$Names" "least" "[J", Cond.fieldLink RX1 23 "SumsOver$Names" "greatest" "[J", Cond.methodLink RX7 74 yX7_forget, Cond.instanceMethod yX7_forget]
def wsX7_mend_r5 : List Cond := [Cond.selects RX7 yX7_forget yX7_forget, Cond.code yX7_forget cX7_forget 1 none, Cond.fieldLink RX7 44 "SumsOver" "tally" "LSumsOver$Tally;", Cond.fieldLink RX7 215 "SumsOver$Tally" "known" "Z", Cond.fieldLink RX7 53 "SumsOver" "reach" "LSumsOver$Reach;", Cond.fieldLink RX7 218 "SumsOver$Reach" "known" "Z", Cond.fieldLink RX7 219 "SumsOver$Trues" "known" "Z"]
def wsX7_mend : List Cond := .code yX7_mend cX7_mend 4 (some .int) :: ((wsX7_mend_r1 ++ (wsX7_mend_r2 ++ (wsX7_mend_r3 ++ (wsX7_mend_r4 ++ wsX7_mend_r5)))) ++ wsX70 ++ wsX10 ++ wsX60 ++ wsX00 ++ wsX40 ++ wsX50 ++ wsX20)
def wsX7_mean : List Cond := .code yX7_mean cX7_mean 3 (some .boolean) :: ([.fieldLink RX7 26 "SumsOver" "steps" "LSumsOver$Steps;", .fieldLink RX7 175 "SumsOver$Steps" "meant" "[Z", .methodLink RX7 125 yX7_isStep, .instanceMethod yX7_isStep, .selects RX7 yX7_isStep yX7_isStep, .initialized RX7, .code yX7_isStep cX7_isStep 2 (some .boolean), .fieldLink RX7 87 "SumsOver$Steps" "size" "I"] ++ wsX70 ++ wsX40)
def wsX7_isListed : List Cond := .code yX7_isListed cX7_isListed 2 (some .boolean) :: ([.fieldLink RX7 26 "SumsOver" "steps" "LSumsOver$Steps;", .fieldLink RX7 175 "SumsOver$Steps" "meant" "[Z", .methodLink RX7 132 yX7_judged, .instanceMethod yX7_judged, .selects RX7 yX7_judged yX7_judged, .initialized RX7, .code yX7_judged cX7_judged 2 (some .int), .fieldLink RX7 53 "SumsOver" "reach" "LSumsOver$Reach;", .fieldLink RX7 44 "SumsOver" "tally" "LSumsOver$Tally;", .fieldLink RX7 136 "SumsOver$Tally" "over" "[I", .fieldLink RX7 19 "SumsOver" "inputs" "LSumsOver$Inputs;", .methodLink RX7 220 yX2_couldGoOver, .instanceMethod yX2_couldGoOver, .selects RX2 yX2_couldGoOver yX2_couldGoOver, .initialized RX2, .code yX2_couldGoOver cX2_couldGoOver 2 (some .boolean), .fieldLink RX2 30 "SumsOver$Reach" "couldBits" "I", .methodLink RX7 184 yX0_runs, .instanceMethod yX0_runs, .selects RX0 yX0_runs yX0_runs, .initialized RX0, .code yX0_runs cX0_runs 1 (some .int), .fieldLink RX0 15 "SumsOver$Inputs" "to" "[I", .fieldLink RX0 9 "SumsOver$Inputs" "from" "[I"] ++ wsX70 ++ wsX40 ++ wsX50 ++ wsX20 ++ wsX00)
def wsX7_comesBefore : List Cond := .code yX7_comesBefore cX7_comesBefore 3 (some .boolean) :: ([.fieldLink RX7 44 "SumsOver" "tally" "LSumsOver$Tally;", .fieldLink RX7 136 "SumsOver$Tally" "over" "[I"] ++ wsX70 ++ wsX50)
def wsX7_listedBefore_r1 : List Cond := [Cond.fieldLink RX7 26 "SumsOver" "steps" "LSumsOver$Steps;", Cond.fieldLink RX7 87 "SumsOver$Steps" "size" "I", Cond.methodLink RX7 178 yX7_isListed, Cond.instanceMethod yX7_isListed, Cond.selects RX7 yX7_isListed yX7_isListed, Cond.initialized RX7, Cond.code yX7_isListed cX7_isListed 2 (some .boolean), Cond.fieldLink RX7 175 "SumsOver$Steps" "meant" "[Z", Cond.methodLink RX7 132 yX7_judged, Cond.instanceMethod yX7_judged, Cond.selects RX7 yX7_judged yX7_judged, Cond.code yX7_judged cX7_judged 2 (some .int), Cond.fieldLink RX7 53 "SumsOver" "reach" "LSumsOver$Reach;", Cond.fieldLink RX7 44 "SumsOver" "tally" "LSumsOver$Tally;", Cond.fieldLink RX7 136 "SumsOver$Tally" "over" "[I", Cond.fieldLink RX7 19 "SumsOver" "inputs" "LSumsOver$Inputs;", Cond.methodLink RX7 220 yX2_couldGoOver, Cond.instanceMethod yX2_couldGoOver, Cond.selects RX2 yX2_couldGoOver yX2_couldGoOver, Cond.initialized RX2, Cond.code yX2_couldGoOver cX2_couldGoOver 2 (some .boolean), Cond.fieldLink RX2 30 "SumsOver$Reach" "couldBits" "I", Cond.methodLink RX7 184 yX0_runs, Cond.instanceMethod yX0_runs]
def wsX7_listedBefore_r2 : List Cond := [Cond.selects RX0 yX0_runs yX0_runs, Cond.initialized RX0, Cond.code yX0_runs cX0_runs 1 (some .int), Cond.fieldLink RX0 15 "SumsOver$Inputs" "to" "[I", Cond.fieldLink RX0 9 "SumsOver$Inputs" "from" "[I", Cond.methodLink RX7 235 yX7_comesBefore, Cond.instanceMethod yX7_comesBefore, Cond.selects RX7 yX7_comesBefore yX7_comesBefore, Cond.code yX7_comesBefore cX7_comesBefore 3 (some .boolean)]
def wsX7_listedBefore : List Cond := .code yX7_listedBefore cX7_listedBefore 4 (some .int) :: ((wsX7_listedBefore_r1 ++ wsX7_listedBefore_r2) ++ wsX70 ++ wsX40 ++ wsX50 ++ wsX20 ++ wsX00)
def wsX7_listed_r1 : List Cond := [Cond.fieldLink RX7 53 "SumsOver" "reach" "LSumsOver$Reach;", Cond.fieldLink RX7 44 "SumsOver" "tally" "LSumsOver$Tally;", Cond.fieldLink RX7 26 "SumsOver" "steps" "LSumsOver$Steps;", Cond.fieldLink RX7 87 "SumsOver$Steps" "size" "I", Cond.methodLink RX7 128 yX2_learn, Cond.instanceMethod yX2_learn, Cond.selects RX2 yX2_learn yX2_learn, Cond.initialized RX2, Cond.code yX2_learn cX2_learn 2 none, Cond.fieldLink RX2 34 "SumsOver$Reach" "known" "Z", Cond.fieldLink RX2 30 "SumsOver$Reach" "couldBits" "I", Cond.fieldLink RX2 9 "SumsOver$Reach" "least" "[J", Cond.fieldLink RX2 15 "SumsOver$Reach" "greatest" "[J", Cond.fieldLink RX2 26 "SumsOver$Reach" "inputs" "LSumsOver$Inputs;", Cond.fieldLink RX2 44 "SumsOver$Inputs" "from" "[I", Cond.fieldLink RX2 50 "SumsOver$Reach" "low" "J", Cond.fieldLink RX2 54 "SumsOver$Inputs" "to" "[I", Cond.fieldLink RX2 57 "SumsOver$Reach" "high" "J", Cond.fieldLink RX2 22 "SumsOver$Reach" "steps" "LSumsOver$Steps;", Cond.fieldLink RX2 64 "SumsOver$Steps" "pathLength" "I", Cond.fieldLink RX2 69 "SumsOver$Steps" "path" "[I", Cond.methodLink RX2 38 yJ7_fill_d0a16, Cond.static yJ7_fill_d0a16, Cond.initialized RJ7]
def wsX7_listed_r2 : List Cond := [Cond.code yJ7_fill_d0a16 cJ7_fill_d0a16 5 none, Cond.methodLink RX2 60 yX2_settle, Cond.instanceMethod yX2_settle, Cond.selects RX2 yX2_settle yX2_settle, Cond.code yX2_settle cX2_settle 2 none, Cond.fieldLink RX2 18 "SumsOver$Reach" "names" "LSumsOver$Names;", Cond.fieldLink RX2 91 "SumsOver$Names" "nearest" "Z", Cond.fieldLink RX2 98 "SumsOver$Names" "least" "[J", Cond.fieldLink RX2 99 "SumsOver$Names" "greatest" "[J", Cond.methodLink RX2 81 yX2_fits, Cond.instanceMethod yX2_fits, Cond.selects RX2 yX2_fits yX2_fits, Cond.code yX2_fits cX2_fits 2 (some .boolean), Cond.methodLink RX2 85 yX1_holds, Cond.instanceMethod yX1_holds, Cond.selects RX1 yX1_holds yX1_holds, Cond.initialized RX1, Cond.code yX1_holds cX1_holds 4 (some .boolean), Cond.fieldLink RX1 19 "SumsOver$Names" "least" "[J", Cond.fieldLink RX1 23 "SumsOver$Names" "greatest" "[J", Cond.methodLink RX2 94 yX1_nearestTo, Cond.instanceMethod yX1_nearestTo, Cond.selects RX1 yX1_nearestTo yX1_nearestTo, Cond.code yX1_nearestTo cX1_nearestTo 4 (some .long)]
def wsX7_listed_r3 : List Cond := [Cond.methodLink RX1 48 Lib.MathLoose.min_long.x, Cond.static Lib.MathLoose.min_long.x, Cond.initialized "java/lang/Math", Cond.code Lib.MathLoose.min_long.x Lib.MathLoose.min_long.code 4 (some .long), Cond.methodLink RX1 54 Lib.MathLoose.max_long.x, Cond.static Lib.MathLoose.max_long.x, Cond.code Lib.MathLoose.max_long.x Lib.MathLoose.max_long.code 4 (some .long), Cond.methodLink RX2 72 yX2_perform, Cond.instanceMethod yX2_perform, Cond.selects RX2 yX2_perform yX2_perform, Cond.code yX2_perform cX2_perform 3 none, Cond.fieldLink RX2 75 "SumsOver$Steps" "targets" "[I", Cond.methodLink RX2 78 yX2_reckon, Cond.instanceMethod yX2_reckon, Cond.selects RX2 yX2_reckon yX2_reckon, Cond.code yX2_reckon cX2_reckon 12 none, Cond.fieldLink RX2 107 "SumsOver$Steps" "kinds" "[I", Cond.methodLink RX2 110 Lib.MathLoose.min_long.x, Cond.methodLink RX2 116 Lib.MathLoose.max_long.x, Cond.fieldLink RX2 119 "SumsOver$Steps" "as" "[I", Cond.fieldLink RX2 122 "SumsOver$Steps" "bs" "[I", Cond.methodLink RX2 100 yX4_valueOfA, Cond.instanceMethod yX4_valueOfA, Cond.selects RX4 yX4_valueOfA yX4_valueOfA]
def wsX7_listed_r4 : List Cond := [Cond.initialized RX4, Cond.code yX4_valueOfA cX4_valueOfA 3 (some .long), Cond.fieldLink RX4 18 "SumsOver$Steps" "as" "[I", Cond.methodLink RX2 104 yX4_valueOfB, Cond.instanceMethod yX4_valueOfB, Cond.selects RX4 yX4_valueOfB yX4_valueOfB, Cond.code yX4_valueOfB cX4_valueOfB 3 (some .long), Cond.fieldLink RX4 24 "SumsOver$Steps" "bIsName" "[Z", Cond.fieldLink RX4 21 "SumsOver$Steps" "bs" "[I", Cond.methodLink RX2 125 yX1_signedAlike, Cond.instanceMethod yX1_signedAlike, Cond.selects RX1 yX1_signedAlike yX1_signedAlike, Cond.code yX1_signedAlike cX1_signedAlike 3 (some .boolean), Cond.fieldLink RX1 15 "SumsOver$Names" "signs" "[Z", Cond.static yX7_made, Cond.initialized RX7, Cond.code yX7_made cX7_made 5 (some .long), Cond.methodLink RX7 211 Lib.MathLoose.min_long.x, Cond.methodLink RX7 131 yX5_learn, Cond.instanceMethod yX5_learn, Cond.selects RX5 yX5_learn yX5_learn, Cond.initialized RX5, Cond.code yX5_learn cX5_learn 3 none, Cond.fieldLink RX5 29 "SumsOver$Tally" "known" "Z"]
def wsX7_listed_r5 : List Cond := [Cond.fieldLink RX5 9 "SumsOver$Tally" "over" "[I", Cond.fieldLink RX5 15 "SumsOver$Tally" "shown" "[I", Cond.fieldLink RX5 18 "SumsOver$Tally" "turned" "[I", Cond.fieldLink RX5 39 "SumsOver$Tally" "runsOver" "I", Cond.fieldLink RX5 25 "SumsOver$Tally" "inputs" "LSumsOver$Inputs;", Cond.fieldLink RX5 43 "SumsOver$Inputs" "from" "[I", Cond.fieldLink RX5 48 "SumsOver$Inputs" "to" "[I", Cond.fieldLink RX5 21 "SumsOver$Tally" "runner" "LSumsOver$Runner;", Cond.methodLink RX5 33 yJ7_fill_53178, Cond.static yJ7_fill_53178, Cond.code yJ7_fill_53178 cJ7_fill_53178 4 none, Cond.methodLink RX5 51 yX3_follow, Cond.instanceMethod yX3_follow, Cond.selects RX3 yX3_follow yX3_follow, Cond.initialized RX3, Cond.code yX3_follow cX3_follow 4 none, Cond.fieldLink RX3 23 "SumsOver$Runner" "overBits" "I", Cond.fieldLink RX3 27 "SumsOver$Runner" "turnedBits" "I", Cond.fieldLink RX3 30 "SumsOver$Runner" "firstOver" "I", Cond.fieldLink RX3 9 "SumsOver$Runner" "values" "[J", Cond.fieldLink RX3 15 "SumsOver$Runner" "names" "LSumsOver$Names;", Cond.fieldLink RX3 19 "SumsOver$Runner" "steps" "LSumsOver$Steps;", Cond.fieldLink RX3 45 "SumsOver$Steps" "pathLength" "I", Cond.fieldLink RX3 50 "SumsOver$Steps" "path" "[I"]
def wsX7_listed_r6 : List Cond := [Cond.methodLink RX3 33 yJ7_fill_d0a16, Cond.methodLink RX3 39 yX1_fitted, Cond.instanceMethod yX1_fitted, Cond.selects RX1 yX1_fitted yX1_fitted, Cond.code yX1_fitted cX1_fitted 4 (some .long), Cond.fieldLink RX1 37 "SumsOver$Names" "nearest" "Z", Cond.methodLink RX1 41 yX1_nearestTo, Cond.methodLink RX1 45 yX1_wrapped, Cond.instanceMethod yX1_wrapped, Cond.selects RX1 yX1_wrapped yX1_wrapped, Cond.code yX1_wrapped cX1_wrapped 4 (some .long), Cond.fieldLink RX1 9 "SumsOver$Names" "widths" "[I", Cond.methodLink RX1 57 yX1_rest, Cond.static yX1_rest, Cond.code yX1_rest cX1_rest 3 (some .long), Cond.methodLink RX3 54 yX3_perform, Cond.instanceMethod yX3_perform, Cond.selects RX3 yX3_perform yX3_perform, Cond.code yX3_perform cX3_perform 5 none, Cond.fieldLink RX3 58 "SumsOver$Steps" "targets" "[I", Cond.methodLink RX3 61 yX3_answer, Cond.instanceMethod yX3_answer, Cond.selects RX3 yX3_answer yX3_answer, Cond.code yX3_answer cX3_answer 11 (some .long)]
def wsX7_listed_r7 : List Cond := [Cond.fieldLink RX3 72 "SumsOver$Steps" "kinds" "[I", Cond.fieldLink RX3 86 "SumsOver$Steps" "as" "[I", Cond.fieldLink RX3 89 "SumsOver$Steps" "bs" "[I", Cond.methodLink RX3 75 yX4_valueOfA, Cond.methodLink RX3 79 yX4_valueOfB, Cond.methodLink RX3 92 yX1_signedAlike, Cond.methodLink RX3 96 yX1_belowByRests, Cond.instanceMethod yX1_belowByRests, Cond.selects RX1 yX1_belowByRests yX1_belowByRests, Cond.code yX1_belowByRests cX1_belowByRests 8 (some .long), Cond.methodLink RX1 61 Lib.Math.max.name, Cond.static Lib.Math.max.name, Cond.code Lib.Math.max.name Lib.Math.max.code 2 (some .int), Cond.methodLink RX3 65 yX1_holds, Cond.methodLink RX3 69 yX3_noteOver, Cond.instanceMethod yX3_noteOver, Cond.selects RX3 yX3_noteOver yX3_noteOver, Cond.code yX3_noteOver cX3_noteOver 2 none, Cond.methodLink RX5 57 yX5_note, Cond.instanceMethod yX5_note, Cond.selects RX5 yX5_note yX5_note, Cond.code yX5_note cX5_note 2 none, Cond.fieldLink RX5 61 "SumsOver$Runner" "overBits" "I", Cond.fieldLink RX5 67 "SumsOver$Runner" "turnedBits" "I"]
def wsX7_listed_r8 : List Cond := [Cond.methodLink RX5 64 yX5_noteOver, Cond.instanceMethod yX5_noteOver, Cond.selects RX5 yX5_noteOver yX5_noteOver, Cond.code yX5_noteOver cX5_noteOver 4 none, Cond.methodLink RX5 70 yX5_noteTurned, Cond.instanceMethod yX5_noteTurned, Cond.selects RX5 yX5_noteTurned yX5_noteTurned, Cond.code yX5_noteTurned cX5_noteTurned 3 none, Cond.methodLink RX7 178 yX7_isListed, Cond.instanceMethod yX7_isListed, Cond.selects RX7 yX7_isListed yX7_isListed, Cond.code yX7_isListed cX7_isListed 2 (some .boolean), Cond.fieldLink RX7 175 "SumsOver$Steps" "meant" "[Z", Cond.methodLink RX7 132 yX7_judged, Cond.instanceMethod yX7_judged, Cond.selects RX7 yX7_judged yX7_judged, Cond.code yX7_judged cX7_judged 2 (some .int), Cond.fieldLink RX7 136 "SumsOver$Tally" "over" "[I", Cond.fieldLink RX7 19 "SumsOver" "inputs" "LSumsOver$Inputs;", Cond.methodLink RX7 220 yX2_couldGoOver, Cond.instanceMethod yX2_couldGoOver, Cond.selects RX2 yX2_couldGoOver yX2_couldGoOver, Cond.code yX2_couldGoOver cX2_couldGoOver 2 (some .boolean), Cond.methodLink RX7 184 yX0_runs]
def wsX7_listed_r9 : List Cond := [Cond.instanceMethod yX0_runs, Cond.selects RX0 yX0_runs yX0_runs, Cond.initialized RX0, Cond.code yX0_runs cX0_runs 1 (some .int), Cond.fieldLink RX0 15 "SumsOver$Inputs" "to" "[I", Cond.fieldLink RX0 9 "SumsOver$Inputs" "from" "[I", Cond.methodLink RX7 181 yX7_listedBefore, Cond.instanceMethod yX7_listedBefore, Cond.selects RX7 yX7_listedBefore yX7_listedBefore, Cond.code yX7_listedBefore cX7_listedBefore 4 (some .int), Cond.methodLink RX7 235 yX7_comesBefore, Cond.instanceMethod yX7_comesBefore, Cond.selects RX7 yX7_comesBefore yX7_comesBefore, Cond.code yX7_comesBefore cX7_comesBefore 3 (some .boolean)]
def wsX7_listed : List Cond := .code yX7_listed cX7_listed 3 (some .int) :: ((wsX7_listed_r1 ++ (wsX7_listed_r2 ++ (wsX7_listed_r3 ++ (wsX7_listed_r4 ++ (wsX7_listed_r5 ++ (wsX7_listed_r6 ++ (wsX7_listed_r7 ++ (wsX7_listed_r8 ++ wsX7_listed_r9)))))))) ++ wsX70 ++ wsX40 ++ wsX20 ++ wsX00 ++ wsX10 ++ wsX50 ++ wsX30)
def wsX7_count_r1 : List Cond := [Cond.fieldLink RX7 10 "SumsOver" "names" "LSumsOver$Names;", Cond.fieldLink RX7 162 "SumsOver$Names" "widths" "[I", Cond.fieldLink RX7 171 "SumsOver$Names" "signs" "[Z", Cond.fieldLink RX7 26 "SumsOver" "steps" "LSumsOver$Steps;", Cond.fieldLink RX7 87 "SumsOver$Steps" "size" "I", Cond.fieldLink RX7 19 "SumsOver" "inputs" "LSumsOver$Inputs;", Cond.fieldLink RX7 44 "SumsOver" "tally" "LSumsOver$Tally;", Cond.fieldLink RX7 188 "SumsOver$Tally" "runsOver" "I", Cond.fieldLink RX7 105 "SumsOver$Names" "nearest" "Z", Cond.methodLink RX7 184 yX0_runs, Cond.instanceMethod yX0_runs, Cond.selects RX0 yX0_runs yX0_runs, Cond.initialized RX0, Cond.code yX0_runs cX0_runs 1 (some .int), Cond.fieldLink RX0 15 "SumsOver$Inputs" "to" "[I", Cond.fieldLink RX0 9 "SumsOver$Inputs" "from" "[I", Cond.methodLink RX7 131 yX5_learn, Cond.instanceMethod yX5_learn, Cond.selects RX5 yX5_learn yX5_learn, Cond.initialized RX5, Cond.code yX5_learn cX5_learn 3 none, Cond.fieldLink RX5 29 "SumsOver$Tally" "known" "Z", Cond.fieldLink RX5 9 "SumsOver$Tally" "over" "[I", Cond.fieldLink RX5 15 "SumsOver$Tally" "shown" "[I"]
def wsX7_count_r2 : List Cond := [Cond.fieldLink RX5 18 "SumsOver$Tally" "turned" "[I", Cond.fieldLink RX5 39 "SumsOver$Tally" "runsOver" "I", Cond.fieldLink RX5 25 "SumsOver$Tally" "inputs" "LSumsOver$Inputs;", Cond.fieldLink RX5 43 "SumsOver$Inputs" "from" "[I", Cond.fieldLink RX5 48 "SumsOver$Inputs" "to" "[I", Cond.fieldLink RX5 21 "SumsOver$Tally" "runner" "LSumsOver$Runner;", Cond.methodLink RX5 33 yJ7_fill_53178, Cond.static yJ7_fill_53178, Cond.initialized RJ7, Cond.code yJ7_fill_53178 cJ7_fill_53178 4 none, Cond.methodLink RX5 51 yX3_follow, Cond.instanceMethod yX3_follow, Cond.selects RX3 yX3_follow yX3_follow, Cond.initialized RX3, Cond.code yX3_follow cX3_follow 4 none, Cond.fieldLink RX3 23 "SumsOver$Runner" "overBits" "I", Cond.fieldLink RX3 27 "SumsOver$Runner" "turnedBits" "I", Cond.fieldLink RX3 30 "SumsOver$Runner" "firstOver" "I", Cond.fieldLink RX3 9 "SumsOver$Runner" "values" "[J", Cond.fieldLink RX3 15 "SumsOver$Runner" "names" "LSumsOver$Names;", Cond.fieldLink RX3 19 "SumsOver$Runner" "steps" "LSumsOver$Steps;", Cond.fieldLink RX3 45 "SumsOver$Steps" "pathLength" "I", Cond.fieldLink RX3 50 "SumsOver$Steps" "path" "[I", Cond.methodLink RX3 33 yJ7_fill_d0a16]
def wsX7_count_r3 : List Cond := [Cond.static yJ7_fill_d0a16, Cond.code yJ7_fill_d0a16 cJ7_fill_d0a16 5 none, Cond.methodLink RX3 39 yX1_fitted, Cond.instanceMethod yX1_fitted, Cond.selects RX1 yX1_fitted yX1_fitted, Cond.initialized RX1, Cond.code yX1_fitted cX1_fitted 4 (some .long), Cond.fieldLink RX1 37 "SumsOver$Names" "nearest" "Z", Cond.methodLink RX1 41 yX1_nearestTo, Cond.instanceMethod yX1_nearestTo, Cond.selects RX1 yX1_nearestTo yX1_nearestTo, Cond.code yX1_nearestTo cX1_nearestTo 4 (some .long), Cond.fieldLink RX1 19 "SumsOver$Names" "least" "[J", Cond.fieldLink RX1 23 "SumsOver$Names" "greatest" "[J", Cond.methodLink RX1 48 Lib.MathLoose.min_long.x, Cond.static Lib.MathLoose.min_long.x, Cond.initialized "java/lang/Math", Cond.code Lib.MathLoose.min_long.x Lib.MathLoose.min_long.code 4 (some .long), Cond.methodLink RX1 54 Lib.MathLoose.max_long.x, Cond.static Lib.MathLoose.max_long.x, Cond.code Lib.MathLoose.max_long.x Lib.MathLoose.max_long.code 4 (some .long), Cond.methodLink RX1 45 yX1_wrapped, Cond.instanceMethod yX1_wrapped, Cond.selects RX1 yX1_wrapped yX1_wrapped]
def wsX7_count_r4 : List Cond := [Cond.code yX1_wrapped cX1_wrapped 4 (some .long), Cond.fieldLink RX1 9 "SumsOver$Names" "widths" "[I", Cond.methodLink RX1 57 yX1_rest, Cond.static yX1_rest, Cond.code yX1_rest cX1_rest 3 (some .long), Cond.methodLink RX3 54 yX3_perform, Cond.instanceMethod yX3_perform, Cond.selects RX3 yX3_perform yX3_perform, Cond.code yX3_perform cX3_perform 5 none, Cond.fieldLink RX3 58 "SumsOver$Steps" "targets" "[I", Cond.methodLink RX3 61 yX3_answer, Cond.instanceMethod yX3_answer, Cond.selects RX3 yX3_answer yX3_answer, Cond.code yX3_answer cX3_answer 11 (some .long), Cond.fieldLink RX3 72 "SumsOver$Steps" "kinds" "[I", Cond.fieldLink RX3 86 "SumsOver$Steps" "as" "[I", Cond.fieldLink RX3 89 "SumsOver$Steps" "bs" "[I", Cond.methodLink RX3 75 yX4_valueOfA, Cond.instanceMethod yX4_valueOfA, Cond.selects RX4 yX4_valueOfA yX4_valueOfA, Cond.initialized RX4, Cond.code yX4_valueOfA cX4_valueOfA 3 (some .long), Cond.fieldLink RX4 18 "SumsOver$Steps" "as" "[I", Cond.methodLink RX3 79 yX4_valueOfB]
def wsX7_count_r5 : List Cond := [Cond.instanceMethod yX4_valueOfB, Cond.selects RX4 yX4_valueOfB yX4_valueOfB, Cond.code yX4_valueOfB cX4_valueOfB 3 (some .long), Cond.fieldLink RX4 24 "SumsOver$Steps" "bIsName" "[Z", Cond.fieldLink RX4 21 "SumsOver$Steps" "bs" "[I", Cond.static yX7_made, Cond.initialized RX7, Cond.code yX7_made cX7_made 5 (some .long), Cond.methodLink RX7 211 Lib.MathLoose.min_long.x, Cond.methodLink RX3 92 yX1_signedAlike, Cond.instanceMethod yX1_signedAlike, Cond.selects RX1 yX1_signedAlike yX1_signedAlike, Cond.code yX1_signedAlike cX1_signedAlike 3 (some .boolean), Cond.fieldLink RX1 15 "SumsOver$Names" "signs" "[Z", Cond.methodLink RX3 96 yX1_belowByRests, Cond.instanceMethod yX1_belowByRests, Cond.selects RX1 yX1_belowByRests yX1_belowByRests, Cond.code yX1_belowByRests cX1_belowByRests 8 (some .long), Cond.methodLink RX1 61 Lib.Math.max.name, Cond.static Lib.Math.max.name, Cond.code Lib.Math.max.name Lib.Math.max.code 2 (some .int), Cond.methodLink RX3 65 yX1_holds, Cond.instanceMethod yX1_holds, Cond.selects RX1 yX1_holds yX1_holds]
def wsX7_count_r6 : List Cond := [Cond.code yX1_holds cX1_holds 4 (some .boolean), Cond.methodLink RX3 69 yX3_noteOver, Cond.instanceMethod yX3_noteOver, Cond.selects RX3 yX3_noteOver yX3_noteOver, Cond.code yX3_noteOver cX3_noteOver 2 none, Cond.methodLink RX5 57 yX5_note, Cond.instanceMethod yX5_note, Cond.selects RX5 yX5_note yX5_note, Cond.code yX5_note cX5_note 2 none, Cond.fieldLink RX5 61 "SumsOver$Runner" "overBits" "I", Cond.fieldLink RX5 67 "SumsOver$Runner" "turnedBits" "I", Cond.methodLink RX5 64 yX5_noteOver, Cond.instanceMethod yX5_noteOver, Cond.selects RX5 yX5_noteOver yX5_noteOver, Cond.code yX5_noteOver cX5_noteOver 4 none, Cond.methodLink RX5 70 yX5_noteTurned, Cond.instanceMethod yX5_noteTurned, Cond.selects RX5 yX5_noteTurned yX5_noteTurned, Cond.code yX5_noteTurned cX5_noteTurned 3 none, Cond.methodLink RX7 191 yX4_marks, Cond.instanceMethod yX4_marks, Cond.selects RX4 yX4_marks yX4_marks, Cond.code yX4_marks cX4_marks 3 (some .int), Cond.fieldLink RX4 34 "SumsOver$Steps" "size" "I"]
def wsX7_count_r7 : List Cond := [Cond.fieldLink RX4 28 "SumsOver$Steps" "meant" "[Z"]
def wsX7_count : List Cond := .code yX7_count cX7_count 2 (some .int) :: ((wsX7_count_r1 ++ (wsX7_count_r2 ++ (wsX7_count_r3 ++ (wsX7_count_r4 ++ (wsX7_count_r5 ++ (wsX7_count_r6 ++ wsX7_count_r7)))))) ++ wsX70 ++ wsX10 ++ wsX40 ++ wsX50 ++ wsX00 ++ wsX30)
def wsX8_init_r1 : List Cond := [Cond.methodLink RX8 1 objectInit, Cond.instanceMethod objectInit, Cond.code objectInit ⟨#[0xb1]⟩ 1 none, Cond.arrayClass .int, Cond.fieldLink RX8 9 "SumsOverModel" "width" "[I", Cond.arrayClass .boolean, Cond.fieldLink RX8 13 "SumsOverModel" "isSigned" "[Z", Cond.fieldLink RX8 17 "SumsOverModel" "from" "[I", Cond.fieldLink RX8 20 "SumsOverModel" "to" "[I", Cond.fieldLink RX8 23 "SumsOverModel" "kind" "[I", Cond.fieldLink RX8 26 "SumsOverModel" "target" "[I", Cond.fieldLink RX8 29 "SumsOverModel" "a" "[I", Cond.fieldLink RX8 32 "SumsOverModel" "b" "[I", Cond.fieldLink RX8 35 "SumsOverModel" "isMeant" "[Z", Cond.fieldLink RX8 38 "SumsOverModel" "line" "[I", Cond.arrayClass .long, Cond.fieldLink RX8 41 "SumsOverModel" "values" "[J", Cond.fieldLink RX8 45 "SumsOverModel" "isOver" "[Z", Cond.fieldLink RX8 48 "SumsOverModel" "isTurned" "[Z", Cond.fieldLink RX8 51 "SumsOverModel" "overs" "[I", Cond.fieldLink RX8 54 "SumsOverModel" "turns" "[I", Cond.fieldLink RX8 57 "SumsOverModel" "shows" "[I", Cond.fieldLink RX8 60 "SumsOverModel" "least" "[J", Cond.fieldLink RX8 63 "SumsOverModel" "most" "[J"]
def wsX8_init_r2 : List Cond := [Cond.fieldLink RX8 66 "SumsOverModel" "could" "[Z", Cond.fieldLink RX8 69 "SumsOverModel" "lowest" "[J", Cond.fieldLink RX8 72 "SumsOverModel" "highest" "[J"]
def wsX8_init : List Cond := .code yX8_init cX8_init 2 none :: ((wsX8_init_r1 ++ wsX8_init_r2) ++ wsX80)
def wsX8_in : List Cond := .code yX8_in cX8_in 6 (some .boolean) :: ([])
def wsX8_isStep : List Cond := .code yX8_isStep cX8_isStep 2 (some .boolean) :: ([.fieldLink RX8 75 "SumsOverModel" "steps" "I", .methodLink RX8 79 yX8_in, .static yX8_in, .initialized RX8, .code yX8_in cX8_in 6 (some .boolean)] ++ wsX80)
def wsX8_isName : List Cond := .code yX8_isName cX8_isName 1 (some .boolean) :: ([.constantLong RX8 83 (5), .methodLink RX8 79 yX8_in, .static yX8_in, .initialized RX8, .code yX8_in cX8_in 6 (some .boolean)])
def wsX8_name : List Cond := .code yX8_name cX8_name 4 (some .boolean) :: ([.constantLong RX8 89 (2), .constantLong RX8 91 (31), .fieldLink RX8 9 "SumsOverModel" "width" "[I", .fieldLink RX8 13 "SumsOverModel" "isSigned" "[Z", .methodLink RX8 85 yX8_isName, .static yX8_isName, .initialized RX8, .code yX8_isName cX8_isName 1 (some .boolean), .constantLong RX8 83 (5), .methodLink RX8 79 yX8_in, .static yX8_in, .code yX8_in cX8_in 6 (some .boolean)] ++ wsX80)
def wsX8_span : List Cond := .code yX8_span cX8_span 4 (some .boolean) :: ([.constantLong RX8 93 (-100000), .constantLong RX8 95 (100000), .fieldLink RX8 17 "SumsOverModel" "from" "[I", .fieldLink RX8 20 "SumsOverModel" "to" "[I", .methodLink RX8 79 yX8_in, .static yX8_in, .initialized RX8, .code yX8_in cX8_in 6 (some .boolean)] ++ wsX80)
def wsX8_isOpen : List Cond := .code yX8_isOpen cX8_isOpen 3 (some .boolean) :: ([.fieldLink RX8 75 "SumsOverModel" "steps" "I", .fieldLink RX8 23 "SumsOverModel" "kind" "[I"] ++ wsX80)
def wsX8_canBe : List Cond := .code yX8_canBe cX8_canBe 5 (some .boolean) :: ([.constantLong RX8 93 (-100000), .constantLong RX8 95 (100000), .constantLong RX8 97 (12), .methodLink RX8 85 yX8_isName, .static yX8_isName, .initialized RX8, .code yX8_isName cX8_isName 1 (some .boolean), .constantLong RX8 83 (5), .methodLink RX8 79 yX8_in, .static yX8_in, .code yX8_in cX8_in 6 (some .boolean), .methodLink RX8 99 yX8_isOpen, .instanceMethod yX8_isOpen, .selects RX8 yX8_isOpen yX8_isOpen, .code yX8_isOpen cX8_isOpen 3 (some .boolean), .fieldLink RX8 75 "SumsOverModel" "steps" "I", .fieldLink RX8 23 "SumsOverModel" "kind" "[I"] ++ wsX80)
def wsX8_step_r1 : List Cond := [Cond.fieldLink RX8 75 "SumsOverModel" "steps" "I", Cond.fieldLink RX8 23 "SumsOverModel" "kind" "[I", Cond.fieldLink RX8 26 "SumsOverModel" "target" "[I", Cond.fieldLink RX8 29 "SumsOverModel" "a" "[I", Cond.fieldLink RX8 32 "SumsOverModel" "b" "[I", Cond.fieldLink RX8 35 "SumsOverModel" "isMeant" "[Z", Cond.methodLink RX8 103 yX8_canBe, Cond.instanceMethod yX8_canBe, Cond.selects RX8 yX8_canBe yX8_canBe, Cond.initialized RX8, Cond.code yX8_canBe cX8_canBe 5 (some .boolean), Cond.constantLong RX8 93 (-100000), Cond.constantLong RX8 95 (100000), Cond.constantLong RX8 97 (12), Cond.methodLink RX8 85 yX8_isName, Cond.static yX8_isName, Cond.code yX8_isName cX8_isName 1 (some .boolean), Cond.constantLong RX8 83 (5), Cond.methodLink RX8 79 yX8_in, Cond.static yX8_in, Cond.code yX8_in cX8_in 6 (some .boolean), Cond.methodLink RX8 99 yX8_isOpen, Cond.instanceMethod yX8_isOpen, Cond.selects RX8 yX8_isOpen yX8_isOpen]
def wsX8_step_r2 : List Cond := [Cond.code yX8_isOpen cX8_isOpen 3 (some .boolean)]
def wsX8_step : List Cond := .code yX8_step cX8_step 5 (some .int) :: ((wsX8_step_r1 ++ wsX8_step_r2) ++ wsX80)
def wsX8_back : List Cond := .code yX8_back cX8_back 1 (some .boolean) :: ([.fieldLink RX8 75 "SumsOverModel" "steps" "I"] ++ wsX80)
def wsX8_mode : List Cond := .code yX8_mode cX8_mode 2 (some .boolean) :: ([.fieldLink RX8 107 "SumsOverModel" "mode" "I", .methodLink RX8 79 yX8_in, .static yX8_in, .initialized RX8, .code yX8_in cX8_in 6 (some .boolean)] ++ wsX80)
def wsX8_lays : List Cond := .code yX8_lays cX8_lays 5 none :: ([.fieldLink RX8 110 "SumsOverModel" "lineMany" "I", .fieldLink RX8 75 "SumsOverModel" "steps" "I", .fieldLink RX8 23 "SumsOverModel" "kind" "[I", .fieldLink RX8 38 "SumsOverModel" "line" "[I", .fieldLink RX8 32 "SumsOverModel" "b" "[I"] ++ wsX80)
def wsX8_low : List Cond := .code yX8_low cX8_low 2 (some .long) :: ([.fieldLink RX8 13 "SumsOverModel" "isSigned" "[Z", .fieldLink RX8 9 "SumsOverModel" "width" "[I"] ++ wsX80)
def wsX8_high : List Cond := .code yX8_high cX8_high 2 (some .long) :: ([.fieldLink RX8 13 "SumsOverModel" "isSigned" "[Z", .fieldLink RX8 9 "SumsOverModel" "width" "[I"] ++ wsX80)
def wsX8_rest : List Cond := .code yX8_rest cX8_rest 6 (some .long) :: ([])
def wsX8_put : List Cond := .code yX8_put cX8_put 4 (some .long) :: ([.fieldLink RX8 107 "SumsOverModel" "mode" "I", .fieldLink RX8 9 "SumsOverModel" "width" "[I", .methodLink RX8 113 yX8_low, .instanceMethod yX8_low, .selects RX8 yX8_low yX8_low, .initialized RX8, .code yX8_low cX8_low 2 (some .long), .fieldLink RX8 13 "SumsOverModel" "isSigned" "[Z", .methodLink RX8 117 yX8_high, .instanceMethod yX8_high, .selects RX8 yX8_high yX8_high, .code yX8_high cX8_high 2 (some .long), .methodLink RX8 79 yX8_in, .static yX8_in, .code yX8_in cX8_in 6 (some .boolean), .methodLink RX8 120 yX8_rest, .static yX8_rest, .code yX8_rest cX8_rest 6 (some .long)] ++ wsX80)
def wsX8_goesOver : List Cond := .code yX8_goesOver cX8_goesOver 4 (some .boolean) :: ([.methodLink RX8 113 yX8_low, .instanceMethod yX8_low, .selects RX8 yX8_low yX8_low, .initialized RX8, .code yX8_low cX8_low 2 (some .long), .fieldLink RX8 13 "SumsOverModel" "isSigned" "[Z", .fieldLink RX8 9 "SumsOverModel" "width" "[I", .methodLink RX8 117 yX8_high, .instanceMethod yX8_high, .selects RX8 yX8_high yX8_high, .code yX8_high cX8_high 2 (some .long), .methodLink RX8 79 yX8_in, .static yX8_in, .code yX8_in cX8_in 6 (some .boolean)] ++ wsX80)
def wsX8_belowOf : List Cond := .code yX8_belowOf cX8_belowOf 8 (some .boolean) :: ([.fieldLink RX8 41 "SumsOverModel" "values" "[J", .fieldLink RX8 29 "SumsOverModel" "a" "[I", .fieldLink RX8 32 "SumsOverModel" "b" "[I", .fieldLink RX8 13 "SumsOverModel" "isSigned" "[Z", .fieldLink RX8 9 "SumsOverModel" "width" "[I", .methodLink RX8 124 Lib.Math.max.name, .static Lib.Math.max.name, .initialized "java/lang/Math", .code Lib.Math.max.name Lib.Math.max.code 2 (some .int), .methodLink RX8 120 yX8_rest, .static yX8_rest, .initialized RX8, .code yX8_rest cX8_rest 6 (some .long)] ++ wsX80)
def wsX8_valueOf : List Cond := .code yX8_valueOf cX8_valueOf 2 (some .long) :: ([.fieldLink RX8 23 "SumsOverModel" "kind" "[I", .fieldLink RX8 32 "SumsOverModel" "b" "[I", .fieldLink RX8 41 "SumsOverModel" "values" "[J", .fieldLink RX8 29 "SumsOverModel" "a" "[I", .methodLink RX8 130 Lib.MathLoose.min_long.x, .static Lib.MathLoose.min_long.x, .initialized "java/lang/Math", .code Lib.MathLoose.min_long.x Lib.MathLoose.min_long.code 4 (some .long), .methodLink RX8 133 yX8_belowOf, .instanceMethod yX8_belowOf, .selects RX8 yX8_belowOf yX8_belowOf, .initialized RX8, .code yX8_belowOf cX8_belowOf 8 (some .boolean), .fieldLink RX8 13 "SumsOverModel" "isSigned" "[Z", .fieldLink RX8 9 "SumsOverModel" "width" "[I", .methodLink RX8 124 Lib.Math.max.name, .static Lib.Math.max.name, .code Lib.Math.max.name Lib.Math.max.code 2 (some .int), .methodLink RX8 120 yX8_rest, .static yX8_rest, .code yX8_rest cX8_rest 6 (some .long)] ++ wsX80)
def wsX8_runs_r1 : List Cond := [Cond.fieldLink RX8 41 "SumsOverModel" "values" "[J", Cond.fieldLink RX8 75 "SumsOverModel" "steps" "I", Cond.fieldLink RX8 45 "SumsOverModel" "isOver" "[Z", Cond.fieldLink RX8 48 "SumsOverModel" "isTurned" "[Z", Cond.fieldLink RX8 136 "SumsOverModel" "firstOver" "I", Cond.fieldLink RX8 110 "SumsOverModel" "lineMany" "I", Cond.fieldLink RX8 38 "SumsOverModel" "line" "[I", Cond.fieldLink RX8 23 "SumsOverModel" "kind" "[I", Cond.fieldLink RX8 29 "SumsOverModel" "a" "[I", Cond.fieldLink RX8 32 "SumsOverModel" "b" "[I", Cond.fieldLink RX8 26 "SumsOverModel" "target" "[I", Cond.methodLink RX8 139 yX8_put, Cond.instanceMethod yX8_put, Cond.selects RX8 yX8_put yX8_put, Cond.initialized RX8, Cond.code yX8_put cX8_put 4 (some .long), Cond.fieldLink RX8 107 "SumsOverModel" "mode" "I", Cond.fieldLink RX8 9 "SumsOverModel" "width" "[I", Cond.methodLink RX8 113 yX8_low, Cond.instanceMethod yX8_low, Cond.selects RX8 yX8_low yX8_low, Cond.code yX8_low cX8_low 2 (some .long), Cond.fieldLink RX8 13 "SumsOverModel" "isSigned" "[Z", Cond.methodLink RX8 117 yX8_high]
def wsX8_runs_r2 : List Cond := [Cond.instanceMethod yX8_high, Cond.selects RX8 yX8_high yX8_high, Cond.code yX8_high cX8_high 2 (some .long), Cond.methodLink RX8 79 yX8_in, Cond.static yX8_in, Cond.code yX8_in cX8_in 6 (some .boolean), Cond.methodLink RX8 120 yX8_rest, Cond.static yX8_rest, Cond.code yX8_rest cX8_rest 6 (some .long), Cond.methodLink RX8 143 yX8_valueOf, Cond.instanceMethod yX8_valueOf, Cond.selects RX8 yX8_valueOf yX8_valueOf, Cond.code yX8_valueOf cX8_valueOf 2 (some .long), Cond.methodLink RX8 130 Lib.MathLoose.min_long.x, Cond.static Lib.MathLoose.min_long.x, Cond.initialized "java/lang/Math", Cond.code Lib.MathLoose.min_long.x Lib.MathLoose.min_long.code 4 (some .long), Cond.methodLink RX8 133 yX8_belowOf, Cond.instanceMethod yX8_belowOf, Cond.selects RX8 yX8_belowOf yX8_belowOf, Cond.code yX8_belowOf cX8_belowOf 8 (some .boolean), Cond.methodLink RX8 124 Lib.Math.max.name, Cond.static Lib.Math.max.name, Cond.code Lib.Math.max.name Lib.Math.max.code 2 (some .int)]
def wsX8_runs_r3 : List Cond := [Cond.methodLink RX8 146 yX8_goesOver, Cond.instanceMethod yX8_goesOver, Cond.selects RX8 yX8_goesOver yX8_goesOver, Cond.code yX8_goesOver cX8_goesOver 4 (some .boolean)]
def wsX8_runs : List Cond := .code yX8_runs cX8_runs 7 none :: ((wsX8_runs_r1 ++ (wsX8_runs_r2 ++ wsX8_runs_r3)) ++ wsX80)
def wsX8_many : List Cond := .code yX8_many cX8_many 1 (some .int) :: ([.fieldLink RX8 20 "SumsOverModel" "to" "[I", .fieldLink RX8 17 "SumsOverModel" "from" "[I"] ++ wsX80)
def wsX8_all_r1 : List Cond := [Cond.fieldLink RX8 153 "SumsOverModel" "runsOver" "I", Cond.fieldLink RX8 75 "SumsOverModel" "steps" "I", Cond.fieldLink RX8 51 "SumsOverModel" "overs" "[I", Cond.fieldLink RX8 54 "SumsOverModel" "turns" "[I", Cond.fieldLink RX8 57 "SumsOverModel" "shows" "[I", Cond.fieldLink RX8 17 "SumsOverModel" "from" "[I", Cond.fieldLink RX8 20 "SumsOverModel" "to" "[I", Cond.fieldLink RX8 136 "SumsOverModel" "firstOver" "I", Cond.fieldLink RX8 48 "SumsOverModel" "isTurned" "[Z", Cond.fieldLink RX8 45 "SumsOverModel" "isOver" "[Z", Cond.methodLink RX8 150 yX8_lays, Cond.instanceMethod yX8_lays, Cond.selects RX8 yX8_lays yX8_lays, Cond.initialized RX8, Cond.code yX8_lays cX8_lays 5 none, Cond.fieldLink RX8 110 "SumsOverModel" "lineMany" "I", Cond.fieldLink RX8 23 "SumsOverModel" "kind" "[I", Cond.fieldLink RX8 38 "SumsOverModel" "line" "[I", Cond.fieldLink RX8 32 "SumsOverModel" "b" "[I", Cond.methodLink RX8 156 yX8_runs, Cond.instanceMethod yX8_runs, Cond.selects RX8 yX8_runs yX8_runs, Cond.code yX8_runs cX8_runs 7 none, Cond.fieldLink RX8 41 "SumsOverModel" "values" "[J"]
def wsX8_all_r2 : List Cond := [Cond.fieldLink RX8 29 "SumsOverModel" "a" "[I", Cond.fieldLink RX8 26 "SumsOverModel" "target" "[I", Cond.methodLink RX8 139 yX8_put, Cond.instanceMethod yX8_put, Cond.selects RX8 yX8_put yX8_put, Cond.code yX8_put cX8_put 4 (some .long), Cond.fieldLink RX8 107 "SumsOverModel" "mode" "I", Cond.fieldLink RX8 9 "SumsOverModel" "width" "[I", Cond.methodLink RX8 113 yX8_low, Cond.instanceMethod yX8_low, Cond.selects RX8 yX8_low yX8_low, Cond.code yX8_low cX8_low 2 (some .long), Cond.fieldLink RX8 13 "SumsOverModel" "isSigned" "[Z", Cond.methodLink RX8 117 yX8_high, Cond.instanceMethod yX8_high, Cond.selects RX8 yX8_high yX8_high, Cond.code yX8_high cX8_high 2 (some .long), Cond.methodLink RX8 79 yX8_in, Cond.static yX8_in, Cond.code yX8_in cX8_in 6 (some .boolean), Cond.methodLink RX8 120 yX8_rest, Cond.static yX8_rest, Cond.code yX8_rest cX8_rest 6 (some .long), Cond.methodLink RX8 143 yX8_valueOf]
def wsX8_all_r3 : List Cond := [Cond.instanceMethod yX8_valueOf, Cond.selects RX8 yX8_valueOf yX8_valueOf, Cond.code yX8_valueOf cX8_valueOf 2 (some .long), Cond.methodLink RX8 130 Lib.MathLoose.min_long.x, Cond.static Lib.MathLoose.min_long.x, Cond.initialized "java/lang/Math", Cond.code Lib.MathLoose.min_long.x Lib.MathLoose.min_long.code 4 (some .long), Cond.methodLink RX8 133 yX8_belowOf, Cond.instanceMethod yX8_belowOf, Cond.selects RX8 yX8_belowOf yX8_belowOf, Cond.code yX8_belowOf cX8_belowOf 8 (some .boolean), Cond.methodLink RX8 124 Lib.Math.max.name, Cond.static Lib.Math.max.name, Cond.code Lib.Math.max.name Lib.Math.max.code 2 (some .int), Cond.methodLink RX8 146 yX8_goesOver, Cond.instanceMethod yX8_goesOver, Cond.selects RX8 yX8_goesOver yX8_goesOver, Cond.code yX8_goesOver cX8_goesOver 4 (some .boolean)]
def wsX8_all : List Cond := .code yX8_all cX8_all 4 none :: ((wsX8_all_r1 ++ (wsX8_all_r2 ++ wsX8_all_r3)) ++ wsX80)
def wsX8_isRun : List Cond := .code yX8_isRun cX8_isRun 3 (some .boolean) :: ([.fieldLink RX8 17 "SumsOverModel" "from" "[I", .fieldLink RX8 20 "SumsOverModel" "to" "[I", .methodLink RX8 79 yX8_in, .static yX8_in, .initialized RX8, .code yX8_in cX8_in 6 (some .boolean)] ++ wsX80)
def wsX8_run_r1 : List Cond := [Cond.constant RX8 164 (-2147483648), Cond.fieldLink RX8 41 "SumsOverModel" "values" "[J", Cond.methodLink RX8 160 yX8_isRun, Cond.instanceMethod yX8_isRun, Cond.selects RX8 yX8_isRun yX8_isRun, Cond.initialized RX8, Cond.code yX8_isRun cX8_isRun 3 (some .boolean), Cond.fieldLink RX8 17 "SumsOverModel" "from" "[I", Cond.fieldLink RX8 20 "SumsOverModel" "to" "[I", Cond.methodLink RX8 79 yX8_in, Cond.static yX8_in, Cond.code yX8_in cX8_in 6 (some .boolean), Cond.methodLink RX8 85 yX8_isName, Cond.static yX8_isName, Cond.code yX8_isName cX8_isName 1 (some .boolean), Cond.constantLong RX8 83 (5), Cond.methodLink RX8 150 yX8_lays, Cond.instanceMethod yX8_lays, Cond.selects RX8 yX8_lays yX8_lays, Cond.code yX8_lays cX8_lays 5 none, Cond.fieldLink RX8 110 "SumsOverModel" "lineMany" "I", Cond.fieldLink RX8 75 "SumsOverModel" "steps" "I", Cond.fieldLink RX8 23 "SumsOverModel" "kind" "[I", Cond.fieldLink RX8 38 "SumsOverModel" "line" "[I"]
def wsX8_run_r2 : List Cond := [Cond.fieldLink RX8 32 "SumsOverModel" "b" "[I", Cond.methodLink RX8 156 yX8_runs, Cond.instanceMethod yX8_runs, Cond.selects RX8 yX8_runs yX8_runs, Cond.code yX8_runs cX8_runs 7 none, Cond.fieldLink RX8 45 "SumsOverModel" "isOver" "[Z", Cond.fieldLink RX8 48 "SumsOverModel" "isTurned" "[Z", Cond.fieldLink RX8 136 "SumsOverModel" "firstOver" "I", Cond.fieldLink RX8 29 "SumsOverModel" "a" "[I", Cond.fieldLink RX8 26 "SumsOverModel" "target" "[I", Cond.methodLink RX8 139 yX8_put, Cond.instanceMethod yX8_put, Cond.selects RX8 yX8_put yX8_put, Cond.code yX8_put cX8_put 4 (some .long), Cond.fieldLink RX8 107 "SumsOverModel" "mode" "I", Cond.fieldLink RX8 9 "SumsOverModel" "width" "[I", Cond.methodLink RX8 113 yX8_low, Cond.instanceMethod yX8_low, Cond.selects RX8 yX8_low yX8_low, Cond.code yX8_low cX8_low 2 (some .long), Cond.fieldLink RX8 13 "SumsOverModel" "isSigned" "[Z", Cond.methodLink RX8 117 yX8_high, Cond.instanceMethod yX8_high, Cond.selects RX8 yX8_high yX8_high]
def wsX8_run_r3 : List Cond := [Cond.code yX8_high cX8_high 2 (some .long), Cond.methodLink RX8 120 yX8_rest, Cond.static yX8_rest, Cond.code yX8_rest cX8_rest 6 (some .long), Cond.methodLink RX8 143 yX8_valueOf, Cond.instanceMethod yX8_valueOf, Cond.selects RX8 yX8_valueOf yX8_valueOf, Cond.code yX8_valueOf cX8_valueOf 2 (some .long), Cond.methodLink RX8 130 Lib.MathLoose.min_long.x, Cond.static Lib.MathLoose.min_long.x, Cond.initialized "java/lang/Math", Cond.code Lib.MathLoose.min_long.x Lib.MathLoose.min_long.code 4 (some .long), Cond.methodLink RX8 133 yX8_belowOf, Cond.instanceMethod yX8_belowOf, Cond.selects RX8 yX8_belowOf yX8_belowOf, Cond.code yX8_belowOf cX8_belowOf 8 (some .boolean), Cond.methodLink RX8 124 Lib.Math.max.name, Cond.static Lib.Math.max.name, Cond.code Lib.Math.max.name Lib.Math.max.code 2 (some .int), Cond.methodLink RX8 146 yX8_goesOver, Cond.instanceMethod yX8_goesOver, Cond.selects RX8 yX8_goesOver yX8_goesOver, Cond.code yX8_goesOver cX8_goesOver 4 (some .boolean)]
def wsX8_run : List Cond := .code yX8_run cX8_run 4 (some .int) :: ((wsX8_run_r1 ++ (wsX8_run_r2 ++ wsX8_run_r3)) ++ wsX80)
def wsX8_first_r1 : List Cond := [Cond.fieldLink RX8 136 "SumsOverModel" "firstOver" "I", Cond.methodLink RX8 160 yX8_isRun, Cond.instanceMethod yX8_isRun, Cond.selects RX8 yX8_isRun yX8_isRun, Cond.initialized RX8, Cond.code yX8_isRun cX8_isRun 3 (some .boolean), Cond.fieldLink RX8 17 "SumsOverModel" "from" "[I", Cond.fieldLink RX8 20 "SumsOverModel" "to" "[I", Cond.methodLink RX8 79 yX8_in, Cond.static yX8_in, Cond.code yX8_in cX8_in 6 (some .boolean), Cond.methodLink RX8 150 yX8_lays, Cond.instanceMethod yX8_lays, Cond.selects RX8 yX8_lays yX8_lays, Cond.code yX8_lays cX8_lays 5 none, Cond.fieldLink RX8 110 "SumsOverModel" "lineMany" "I", Cond.fieldLink RX8 75 "SumsOverModel" "steps" "I", Cond.fieldLink RX8 23 "SumsOverModel" "kind" "[I", Cond.fieldLink RX8 38 "SumsOverModel" "line" "[I", Cond.fieldLink RX8 32 "SumsOverModel" "b" "[I", Cond.methodLink RX8 156 yX8_runs, Cond.instanceMethod yX8_runs, Cond.selects RX8 yX8_runs yX8_runs, Cond.code yX8_runs cX8_runs 7 none]
def wsX8_first_r2 : List Cond := [Cond.fieldLink RX8 41 "SumsOverModel" "values" "[J", Cond.fieldLink RX8 45 "SumsOverModel" "isOver" "[Z", Cond.fieldLink RX8 48 "SumsOverModel" "isTurned" "[Z", Cond.fieldLink RX8 29 "SumsOverModel" "a" "[I", Cond.fieldLink RX8 26 "SumsOverModel" "target" "[I", Cond.methodLink RX8 139 yX8_put, Cond.instanceMethod yX8_put, Cond.selects RX8 yX8_put yX8_put, Cond.code yX8_put cX8_put 4 (some .long), Cond.fieldLink RX8 107 "SumsOverModel" "mode" "I", Cond.fieldLink RX8 9 "SumsOverModel" "width" "[I", Cond.methodLink RX8 113 yX8_low, Cond.instanceMethod yX8_low, Cond.selects RX8 yX8_low yX8_low, Cond.code yX8_low cX8_low 2 (some .long), Cond.fieldLink RX8 13 "SumsOverModel" "isSigned" "[Z", Cond.methodLink RX8 117 yX8_high, Cond.instanceMethod yX8_high, Cond.selects RX8 yX8_high yX8_high, Cond.code yX8_high cX8_high 2 (some .long), Cond.methodLink RX8 120 yX8_rest, Cond.static yX8_rest, Cond.code yX8_rest cX8_rest 6 (some .long), Cond.methodLink RX8 143 yX8_valueOf]
def wsX8_first_r3 : List Cond := [Cond.instanceMethod yX8_valueOf, Cond.selects RX8 yX8_valueOf yX8_valueOf, Cond.code yX8_valueOf cX8_valueOf 2 (some .long), Cond.methodLink RX8 130 Lib.MathLoose.min_long.x, Cond.static Lib.MathLoose.min_long.x, Cond.initialized "java/lang/Math", Cond.code Lib.MathLoose.min_long.x Lib.MathLoose.min_long.code 4 (some .long), Cond.methodLink RX8 133 yX8_belowOf, Cond.instanceMethod yX8_belowOf, Cond.selects RX8 yX8_belowOf yX8_belowOf, Cond.code yX8_belowOf cX8_belowOf 8 (some .boolean), Cond.methodLink RX8 124 Lib.Math.max.name, Cond.static Lib.Math.max.name, Cond.code Lib.Math.max.name Lib.Math.max.code 2 (some .int), Cond.methodLink RX8 146 yX8_goesOver, Cond.instanceMethod yX8_goesOver, Cond.selects RX8 yX8_goesOver yX8_goesOver, Cond.code yX8_goesOver cX8_goesOver 4 (some .boolean)]
def wsX8_first : List Cond := .code yX8_first cX8_first 3 (some .int) :: ((wsX8_first_r1 ++ (wsX8_first_r2 ++ wsX8_first_r3)) ++ wsX80)
def wsX8_ends_r1 : List Cond := [Cond.fieldLink RX8 60 "SumsOverModel" "least" "[J", Cond.fieldLink RX8 63 "SumsOverModel" "most" "[J", Cond.fieldLink RX8 107 "SumsOverModel" "mode" "I", Cond.methodLink RX8 146 yX8_goesOver, Cond.instanceMethod yX8_goesOver, Cond.selects RX8 yX8_goesOver yX8_goesOver, Cond.initialized RX8, Cond.code yX8_goesOver cX8_goesOver 4 (some .boolean), Cond.methodLink RX8 113 yX8_low, Cond.instanceMethod yX8_low, Cond.selects RX8 yX8_low yX8_low, Cond.code yX8_low cX8_low 2 (some .long), Cond.fieldLink RX8 13 "SumsOverModel" "isSigned" "[Z", Cond.fieldLink RX8 9 "SumsOverModel" "width" "[I", Cond.methodLink RX8 117 yX8_high, Cond.instanceMethod yX8_high, Cond.selects RX8 yX8_high yX8_high, Cond.code yX8_high cX8_high 2 (some .long), Cond.methodLink RX8 79 yX8_in, Cond.static yX8_in, Cond.code yX8_in cX8_in 6 (some .boolean), Cond.methodLink RX8 139 yX8_put, Cond.instanceMethod yX8_put, Cond.selects RX8 yX8_put yX8_put]
def wsX8_ends_r2 : List Cond := [Cond.code yX8_put cX8_put 4 (some .long), Cond.methodLink RX8 120 yX8_rest, Cond.static yX8_rest, Cond.code yX8_rest cX8_rest 6 (some .long)]
def wsX8_ends : List Cond := .code yX8_ends cX8_ends 7 (some .boolean) :: ((wsX8_ends_r1 ++ wsX8_ends_r2) ++ wsX80)
def wsX8_products_r1 : List Cond := [Cond.fieldLink RX8 60 "SumsOverModel" "least" "[J", Cond.fieldLink RX8 29 "SumsOverModel" "a" "[I", Cond.fieldLink RX8 32 "SumsOverModel" "b" "[I", Cond.fieldLink RX8 63 "SumsOverModel" "most" "[J", Cond.fieldLink RX8 26 "SumsOverModel" "target" "[I", Cond.methodLink RX8 130 Lib.MathLoose.min_long.x, Cond.static Lib.MathLoose.min_long.x, Cond.initialized "java/lang/Math", Cond.code Lib.MathLoose.min_long.x Lib.MathLoose.min_long.code 4 (some .long), Cond.methodLink RX8 165 Lib.MathLoose.max_long.x, Cond.static Lib.MathLoose.max_long.x, Cond.code Lib.MathLoose.max_long.x Lib.MathLoose.max_long.code 4 (some .long), Cond.methodLink RX8 167 yX8_ends, Cond.instanceMethod yX8_ends, Cond.selects RX8 yX8_ends yX8_ends, Cond.initialized RX8, Cond.code yX8_ends cX8_ends 7 (some .boolean), Cond.fieldLink RX8 107 "SumsOverModel" "mode" "I", Cond.methodLink RX8 146 yX8_goesOver, Cond.instanceMethod yX8_goesOver, Cond.selects RX8 yX8_goesOver yX8_goesOver, Cond.code yX8_goesOver cX8_goesOver 4 (some .boolean), Cond.methodLink RX8 113 yX8_low, Cond.instanceMethod yX8_low]
def wsX8_products_r2 : List Cond := [Cond.selects RX8 yX8_low yX8_low, Cond.code yX8_low cX8_low 2 (some .long), Cond.fieldLink RX8 13 "SumsOverModel" "isSigned" "[Z", Cond.fieldLink RX8 9 "SumsOverModel" "width" "[I", Cond.methodLink RX8 117 yX8_high, Cond.instanceMethod yX8_high, Cond.selects RX8 yX8_high yX8_high, Cond.code yX8_high cX8_high 2 (some .long), Cond.methodLink RX8 79 yX8_in, Cond.static yX8_in, Cond.code yX8_in cX8_in 6 (some .boolean), Cond.methodLink RX8 139 yX8_put, Cond.instanceMethod yX8_put, Cond.selects RX8 yX8_put yX8_put, Cond.code yX8_put cX8_put 4 (some .long), Cond.methodLink RX8 120 yX8_rest, Cond.static yX8_rest, Cond.code yX8_rest cX8_rest 6 (some .long)]
def wsX8_products : List Cond := .code yX8_products cX8_products 10 (some .boolean) :: ((wsX8_products_r1 ++ wsX8_products_r2) ++ wsX80)
def wsX8_belows_r1 : List Cond := [Cond.fieldLink RX8 13 "SumsOverModel" "isSigned" "[Z", Cond.fieldLink RX8 29 "SumsOverModel" "a" "[I", Cond.fieldLink RX8 32 "SumsOverModel" "b" "[I", Cond.fieldLink RX8 63 "SumsOverModel" "most" "[J", Cond.fieldLink RX8 60 "SumsOverModel" "least" "[J", Cond.fieldLink RX8 26 "SumsOverModel" "target" "[I", Cond.methodLink RX8 167 yX8_ends, Cond.instanceMethod yX8_ends, Cond.selects RX8 yX8_ends yX8_ends, Cond.initialized RX8, Cond.code yX8_ends cX8_ends 7 (some .boolean), Cond.fieldLink RX8 107 "SumsOverModel" "mode" "I", Cond.methodLink RX8 146 yX8_goesOver, Cond.instanceMethod yX8_goesOver, Cond.selects RX8 yX8_goesOver yX8_goesOver, Cond.code yX8_goesOver cX8_goesOver 4 (some .boolean), Cond.methodLink RX8 113 yX8_low, Cond.instanceMethod yX8_low, Cond.selects RX8 yX8_low yX8_low, Cond.code yX8_low cX8_low 2 (some .long), Cond.fieldLink RX8 9 "SumsOverModel" "width" "[I", Cond.methodLink RX8 117 yX8_high, Cond.instanceMethod yX8_high, Cond.selects RX8 yX8_high yX8_high]
def wsX8_belows_r2 : List Cond := [Cond.code yX8_high cX8_high 2 (some .long), Cond.methodLink RX8 79 yX8_in, Cond.static yX8_in, Cond.code yX8_in cX8_in 6 (some .boolean), Cond.methodLink RX8 139 yX8_put, Cond.instanceMethod yX8_put, Cond.selects RX8 yX8_put yX8_put, Cond.code yX8_put cX8_put 4 (some .long), Cond.methodLink RX8 120 yX8_rest, Cond.static yX8_rest, Cond.code yX8_rest cX8_rest 6 (some .long)]
def wsX8_belows : List Cond := .code yX8_belows cX8_belows 3 (some .boolean) :: ((wsX8_belows_r1 ++ wsX8_belows_r2) ++ wsX80)
def wsX8_goes_r1 : List Cond := [Cond.fieldLink RX8 26 "SumsOverModel" "target" "[I", Cond.fieldLink RX8 23 "SumsOverModel" "kind" "[I", Cond.fieldLink RX8 32 "SumsOverModel" "b" "[I", Cond.fieldLink RX8 60 "SumsOverModel" "least" "[J", Cond.fieldLink RX8 29 "SumsOverModel" "a" "[I", Cond.fieldLink RX8 63 "SumsOverModel" "most" "[J", Cond.methodLink RX8 130 Lib.MathLoose.min_long.x, Cond.static Lib.MathLoose.min_long.x, Cond.initialized "java/lang/Math", Cond.code Lib.MathLoose.min_long.x Lib.MathLoose.min_long.code 4 (some .long), Cond.methodLink RX8 167 yX8_ends, Cond.instanceMethod yX8_ends, Cond.selects RX8 yX8_ends yX8_ends, Cond.initialized RX8, Cond.code yX8_ends cX8_ends 7 (some .boolean), Cond.fieldLink RX8 107 "SumsOverModel" "mode" "I", Cond.methodLink RX8 146 yX8_goesOver, Cond.instanceMethod yX8_goesOver, Cond.selects RX8 yX8_goesOver yX8_goesOver, Cond.code yX8_goesOver cX8_goesOver 4 (some .boolean), Cond.methodLink RX8 113 yX8_low, Cond.instanceMethod yX8_low, Cond.selects RX8 yX8_low yX8_low, Cond.code yX8_low cX8_low 2 (some .long)]
def wsX8_goes_r2 : List Cond := [Cond.fieldLink RX8 13 "SumsOverModel" "isSigned" "[Z", Cond.fieldLink RX8 9 "SumsOverModel" "width" "[I", Cond.methodLink RX8 117 yX8_high, Cond.instanceMethod yX8_high, Cond.selects RX8 yX8_high yX8_high, Cond.code yX8_high cX8_high 2 (some .long), Cond.methodLink RX8 79 yX8_in, Cond.static yX8_in, Cond.code yX8_in cX8_in 6 (some .boolean), Cond.methodLink RX8 139 yX8_put, Cond.instanceMethod yX8_put, Cond.selects RX8 yX8_put yX8_put, Cond.code yX8_put cX8_put 4 (some .long), Cond.methodLink RX8 120 yX8_rest, Cond.static yX8_rest, Cond.code yX8_rest cX8_rest 6 (some .long), Cond.methodLink RX8 171 yX8_products, Cond.instanceMethod yX8_products, Cond.selects RX8 yX8_products yX8_products, Cond.code yX8_products cX8_products 10 (some .boolean), Cond.methodLink RX8 165 Lib.MathLoose.max_long.x, Cond.static Lib.MathLoose.max_long.x, Cond.code Lib.MathLoose.max_long.x Lib.MathLoose.max_long.code 4 (some .long), Cond.methodLink RX8 174 yX8_belows]
def wsX8_goes_r3 : List Cond := [Cond.instanceMethod yX8_belows, Cond.selects RX8 yX8_belows yX8_belows, Cond.code yX8_belows cX8_belows 3 (some .boolean)]
def wsX8_goes : List Cond := .code yX8_goes cX8_goes 3 (some .boolean) :: ((wsX8_goes_r1 ++ (wsX8_goes_r2 ++ wsX8_goes_r3)) ++ wsX80)
def wsX8_spans_r1 : List Cond := [Cond.fieldLink RX8 60 "SumsOverModel" "least" "[J", Cond.fieldLink RX8 63 "SumsOverModel" "most" "[J", Cond.fieldLink RX8 75 "SumsOverModel" "steps" "I", Cond.fieldLink RX8 66 "SumsOverModel" "could" "[Z", Cond.fieldLink RX8 17 "SumsOverModel" "from" "[I", Cond.fieldLink RX8 20 "SumsOverModel" "to" "[I", Cond.fieldLink RX8 110 "SumsOverModel" "lineMany" "I", Cond.fieldLink RX8 38 "SumsOverModel" "line" "[I", Cond.methodLink RX8 150 yX8_lays, Cond.instanceMethod yX8_lays, Cond.selects RX8 yX8_lays yX8_lays, Cond.initialized RX8, Cond.code yX8_lays cX8_lays 5 none, Cond.fieldLink RX8 23 "SumsOverModel" "kind" "[I", Cond.fieldLink RX8 32 "SumsOverModel" "b" "[I", Cond.methodLink RX8 167 yX8_ends, Cond.instanceMethod yX8_ends, Cond.selects RX8 yX8_ends yX8_ends, Cond.code yX8_ends cX8_ends 7 (some .boolean), Cond.fieldLink RX8 107 "SumsOverModel" "mode" "I", Cond.methodLink RX8 146 yX8_goesOver, Cond.instanceMethod yX8_goesOver, Cond.selects RX8 yX8_goesOver yX8_goesOver, Cond.code yX8_goesOver cX8_goesOver 4 (some .boolean)]
def wsX8_spans_r2 : List Cond := [Cond.methodLink RX8 113 yX8_low, Cond.instanceMethod yX8_low, Cond.selects RX8 yX8_low yX8_low, Cond.code yX8_low cX8_low 2 (some .long), Cond.fieldLink RX8 13 "SumsOverModel" "isSigned" "[Z", Cond.fieldLink RX8 9 "SumsOverModel" "width" "[I", Cond.methodLink RX8 117 yX8_high, Cond.instanceMethod yX8_high, Cond.selects RX8 yX8_high yX8_high, Cond.code yX8_high cX8_high 2 (some .long), Cond.methodLink RX8 79 yX8_in, Cond.static yX8_in, Cond.code yX8_in cX8_in 6 (some .boolean), Cond.methodLink RX8 139 yX8_put, Cond.instanceMethod yX8_put, Cond.selects RX8 yX8_put yX8_put, Cond.code yX8_put cX8_put 4 (some .long), Cond.methodLink RX8 120 yX8_rest, Cond.static yX8_rest, Cond.code yX8_rest cX8_rest 6 (some .long), Cond.methodLink RX8 177 yX8_goes, Cond.instanceMethod yX8_goes, Cond.selects RX8 yX8_goes yX8_goes, Cond.code yX8_goes cX8_goes 3 (some .boolean)]
def wsX8_spans_r3 : List Cond := [Cond.fieldLink RX8 26 "SumsOverModel" "target" "[I", Cond.fieldLink RX8 29 "SumsOverModel" "a" "[I", Cond.methodLink RX8 130 Lib.MathLoose.min_long.x, Cond.static Lib.MathLoose.min_long.x, Cond.initialized "java/lang/Math", Cond.code Lib.MathLoose.min_long.x Lib.MathLoose.min_long.code 4 (some .long), Cond.methodLink RX8 171 yX8_products, Cond.instanceMethod yX8_products, Cond.selects RX8 yX8_products yX8_products, Cond.code yX8_products cX8_products 10 (some .boolean), Cond.methodLink RX8 165 Lib.MathLoose.max_long.x, Cond.static Lib.MathLoose.max_long.x, Cond.code Lib.MathLoose.max_long.x Lib.MathLoose.max_long.code 4 (some .long), Cond.methodLink RX8 174 yX8_belows, Cond.instanceMethod yX8_belows, Cond.selects RX8 yX8_belows yX8_belows, Cond.code yX8_belows cX8_belows 3 (some .boolean)]
def wsX8_spans : List Cond := .code yX8_spans cX8_spans 3 none :: ((wsX8_spans_r1 ++ (wsX8_spans_r2 ++ wsX8_spans_r3)) ++ wsX80)
def wsX8_ends__r1 : List Cond := [Cond.constant RX8 164 (-2147483648), Cond.fieldLink RX8 60 "SumsOverModel" "least" "[J", Cond.fieldLink RX8 63 "SumsOverModel" "most" "[J", Cond.methodLink RX8 85 yX8_isName, Cond.static yX8_isName, Cond.initialized RX8, Cond.code yX8_isName cX8_isName 1 (some .boolean), Cond.constantLong RX8 83 (5), Cond.methodLink RX8 79 yX8_in, Cond.static yX8_in, Cond.code yX8_in cX8_in 6 (some .boolean), Cond.methodLink RX8 180 yX8_spans, Cond.instanceMethod yX8_spans, Cond.selects RX8 yX8_spans yX8_spans, Cond.code yX8_spans cX8_spans 3 none, Cond.fieldLink RX8 75 "SumsOverModel" "steps" "I", Cond.fieldLink RX8 66 "SumsOverModel" "could" "[Z", Cond.fieldLink RX8 17 "SumsOverModel" "from" "[I", Cond.fieldLink RX8 20 "SumsOverModel" "to" "[I", Cond.fieldLink RX8 110 "SumsOverModel" "lineMany" "I", Cond.fieldLink RX8 38 "SumsOverModel" "line" "[I", Cond.methodLink RX8 150 yX8_lays, Cond.instanceMethod yX8_lays, Cond.selects RX8 yX8_lays yX8_lays]
def wsX8_ends__r2 : List Cond := [Cond.code yX8_lays cX8_lays 5 none, Cond.fieldLink RX8 23 "SumsOverModel" "kind" "[I", Cond.fieldLink RX8 32 "SumsOverModel" "b" "[I", Cond.methodLink RX8 167 yX8_ends, Cond.instanceMethod yX8_ends, Cond.selects RX8 yX8_ends yX8_ends, Cond.code yX8_ends cX8_ends 7 (some .boolean), Cond.fieldLink RX8 107 "SumsOverModel" "mode" "I", Cond.methodLink RX8 146 yX8_goesOver, Cond.instanceMethod yX8_goesOver, Cond.selects RX8 yX8_goesOver yX8_goesOver, Cond.code yX8_goesOver cX8_goesOver 4 (some .boolean), Cond.methodLink RX8 113 yX8_low, Cond.instanceMethod yX8_low, Cond.selects RX8 yX8_low yX8_low, Cond.code yX8_low cX8_low 2 (some .long), Cond.fieldLink RX8 13 "SumsOverModel" "isSigned" "[Z", Cond.fieldLink RX8 9 "SumsOverModel" "width" "[I", Cond.methodLink RX8 117 yX8_high, Cond.instanceMethod yX8_high, Cond.selects RX8 yX8_high yX8_high, Cond.code yX8_high cX8_high 2 (some .long), Cond.methodLink RX8 139 yX8_put, Cond.instanceMethod yX8_put]
def wsX8_ends__r3 : List Cond := [Cond.selects RX8 yX8_put yX8_put, Cond.code yX8_put cX8_put 4 (some .long), Cond.methodLink RX8 120 yX8_rest, Cond.static yX8_rest, Cond.code yX8_rest cX8_rest 6 (some .long), Cond.methodLink RX8 177 yX8_goes, Cond.instanceMethod yX8_goes, Cond.selects RX8 yX8_goes yX8_goes, Cond.code yX8_goes cX8_goes 3 (some .boolean), Cond.fieldLink RX8 26 "SumsOverModel" "target" "[I", Cond.fieldLink RX8 29 "SumsOverModel" "a" "[I", Cond.methodLink RX8 130 Lib.MathLoose.min_long.x, Cond.static Lib.MathLoose.min_long.x, Cond.initialized "java/lang/Math", Cond.code Lib.MathLoose.min_long.x Lib.MathLoose.min_long.code 4 (some .long), Cond.methodLink RX8 171 yX8_products, Cond.instanceMethod yX8_products, Cond.selects RX8 yX8_products yX8_products, Cond.code yX8_products cX8_products 10 (some .boolean), Cond.methodLink RX8 165 Lib.MathLoose.max_long.x, Cond.static Lib.MathLoose.max_long.x, Cond.code Lib.MathLoose.max_long.x Lib.MathLoose.max_long.code 4 (some .long), Cond.methodLink RX8 174 yX8_belows, Cond.instanceMethod yX8_belows]
def wsX8_ends__r4 : List Cond := [Cond.selects RX8 yX8_belows yX8_belows, Cond.code yX8_belows cX8_belows 3 (some .boolean)]
def wsX8_ends_ : List Cond := .code yX8_ends_ cX8_ends_ 3 (some .int) :: ((wsX8_ends__r1 ++ (wsX8_ends__r2 ++ (wsX8_ends__r3 ++ wsX8_ends__r4))) ++ wsX80)
def wsX8_judged : List Cond := .code yX8_judged cX8_judged 2 (some .int) :: ([.fieldLink RX8 66 "SumsOverModel" "could" "[Z", .fieldLink RX8 51 "SumsOverModel" "overs" "[I", .methodLink RX8 183 yX8_many, .instanceMethod yX8_many, .selects RX8 yX8_many yX8_many, .initialized RX8, .code yX8_many cX8_many 1 (some .int), .fieldLink RX8 20 "SumsOverModel" "to" "[I", .fieldLink RX8 17 "SumsOverModel" "from" "[I"] ++ wsX80)
def wsX8_judge_r1 : List Cond := [Cond.methodLink RX8 187 yX8_isStep, Cond.instanceMethod yX8_isStep, Cond.selects RX8 yX8_isStep yX8_isStep, Cond.initialized RX8, Cond.code yX8_isStep cX8_isStep 2 (some .boolean), Cond.fieldLink RX8 75 "SumsOverModel" "steps" "I", Cond.methodLink RX8 79 yX8_in, Cond.static yX8_in, Cond.code yX8_in cX8_in 6 (some .boolean), Cond.methodLink RX8 180 yX8_spans, Cond.instanceMethod yX8_spans, Cond.selects RX8 yX8_spans yX8_spans, Cond.code yX8_spans cX8_spans 3 none, Cond.fieldLink RX8 60 "SumsOverModel" "least" "[J", Cond.fieldLink RX8 63 "SumsOverModel" "most" "[J", Cond.fieldLink RX8 66 "SumsOverModel" "could" "[Z", Cond.fieldLink RX8 17 "SumsOverModel" "from" "[I", Cond.fieldLink RX8 20 "SumsOverModel" "to" "[I", Cond.fieldLink RX8 110 "SumsOverModel" "lineMany" "I", Cond.fieldLink RX8 38 "SumsOverModel" "line" "[I", Cond.methodLink RX8 150 yX8_lays, Cond.instanceMethod yX8_lays, Cond.selects RX8 yX8_lays yX8_lays, Cond.code yX8_lays cX8_lays 5 none]
def wsX8_judge_r2 : List Cond := [Cond.fieldLink RX8 23 "SumsOverModel" "kind" "[I", Cond.fieldLink RX8 32 "SumsOverModel" "b" "[I", Cond.methodLink RX8 167 yX8_ends, Cond.instanceMethod yX8_ends, Cond.selects RX8 yX8_ends yX8_ends, Cond.code yX8_ends cX8_ends 7 (some .boolean), Cond.fieldLink RX8 107 "SumsOverModel" "mode" "I", Cond.methodLink RX8 146 yX8_goesOver, Cond.instanceMethod yX8_goesOver, Cond.selects RX8 yX8_goesOver yX8_goesOver, Cond.code yX8_goesOver cX8_goesOver 4 (some .boolean), Cond.methodLink RX8 113 yX8_low, Cond.instanceMethod yX8_low, Cond.selects RX8 yX8_low yX8_low, Cond.code yX8_low cX8_low 2 (some .long), Cond.fieldLink RX8 13 "SumsOverModel" "isSigned" "[Z", Cond.fieldLink RX8 9 "SumsOverModel" "width" "[I", Cond.methodLink RX8 117 yX8_high, Cond.instanceMethod yX8_high, Cond.selects RX8 yX8_high yX8_high, Cond.code yX8_high cX8_high 2 (some .long), Cond.methodLink RX8 139 yX8_put, Cond.instanceMethod yX8_put, Cond.selects RX8 yX8_put yX8_put]
def wsX8_judge_r3 : List Cond := [Cond.code yX8_put cX8_put 4 (some .long), Cond.methodLink RX8 120 yX8_rest, Cond.static yX8_rest, Cond.code yX8_rest cX8_rest 6 (some .long), Cond.methodLink RX8 177 yX8_goes, Cond.instanceMethod yX8_goes, Cond.selects RX8 yX8_goes yX8_goes, Cond.code yX8_goes cX8_goes 3 (some .boolean), Cond.fieldLink RX8 26 "SumsOverModel" "target" "[I", Cond.fieldLink RX8 29 "SumsOverModel" "a" "[I", Cond.methodLink RX8 130 Lib.MathLoose.min_long.x, Cond.static Lib.MathLoose.min_long.x, Cond.initialized "java/lang/Math", Cond.code Lib.MathLoose.min_long.x Lib.MathLoose.min_long.code 4 (some .long), Cond.methodLink RX8 171 yX8_products, Cond.instanceMethod yX8_products, Cond.selects RX8 yX8_products yX8_products, Cond.code yX8_products cX8_products 10 (some .boolean), Cond.methodLink RX8 165 Lib.MathLoose.max_long.x, Cond.static Lib.MathLoose.max_long.x, Cond.code Lib.MathLoose.max_long.x Lib.MathLoose.max_long.code 4 (some .long), Cond.methodLink RX8 174 yX8_belows, Cond.instanceMethod yX8_belows, Cond.selects RX8 yX8_belows yX8_belows]
def wsX8_judge_r4 : List Cond := [Cond.code yX8_belows cX8_belows 3 (some .boolean), Cond.methodLink RX8 190 yX8_all, Cond.instanceMethod yX8_all, Cond.selects RX8 yX8_all yX8_all, Cond.code yX8_all cX8_all 4 none, Cond.fieldLink RX8 153 "SumsOverModel" "runsOver" "I", Cond.fieldLink RX8 51 "SumsOverModel" "overs" "[I", Cond.fieldLink RX8 54 "SumsOverModel" "turns" "[I", Cond.fieldLink RX8 57 "SumsOverModel" "shows" "[I", Cond.fieldLink RX8 136 "SumsOverModel" "firstOver" "I", Cond.fieldLink RX8 48 "SumsOverModel" "isTurned" "[Z", Cond.fieldLink RX8 45 "SumsOverModel" "isOver" "[Z", Cond.methodLink RX8 156 yX8_runs, Cond.instanceMethod yX8_runs, Cond.selects RX8 yX8_runs yX8_runs, Cond.code yX8_runs cX8_runs 7 none, Cond.fieldLink RX8 41 "SumsOverModel" "values" "[J", Cond.methodLink RX8 143 yX8_valueOf, Cond.instanceMethod yX8_valueOf, Cond.selects RX8 yX8_valueOf yX8_valueOf, Cond.code yX8_valueOf cX8_valueOf 2 (some .long), Cond.methodLink RX8 133 yX8_belowOf, Cond.instanceMethod yX8_belowOf, Cond.selects RX8 yX8_belowOf yX8_belowOf]
def wsX8_judge_r5 : List Cond := [Cond.code yX8_belowOf cX8_belowOf 8 (some .boolean), Cond.methodLink RX8 124 Lib.Math.max.name, Cond.static Lib.Math.max.name, Cond.code Lib.Math.max.name Lib.Math.max.code 2 (some .int), Cond.methodLink RX8 193 yX8_judged, Cond.instanceMethod yX8_judged, Cond.selects RX8 yX8_judged yX8_judged, Cond.code yX8_judged cX8_judged 2 (some .int), Cond.methodLink RX8 183 yX8_many, Cond.instanceMethod yX8_many, Cond.selects RX8 yX8_many yX8_many, Cond.code yX8_many cX8_many 1 (some .int)]
def wsX8_judge : List Cond := .code yX8_judge cX8_judge 2 (some .int) :: ((wsX8_judge_r1 ++ (wsX8_judge_r2 ++ (wsX8_judge_r3 ++ (wsX8_judge_r4 ++ wsX8_judge_r5)))) ++ wsX80)
def wsX8_over_r1 : List Cond := [Cond.fieldLink RX8 51 "SumsOverModel" "overs" "[I", Cond.methodLink RX8 187 yX8_isStep, Cond.instanceMethod yX8_isStep, Cond.selects RX8 yX8_isStep yX8_isStep, Cond.initialized RX8, Cond.code yX8_isStep cX8_isStep 2 (some .boolean), Cond.fieldLink RX8 75 "SumsOverModel" "steps" "I", Cond.methodLink RX8 79 yX8_in, Cond.static yX8_in, Cond.code yX8_in cX8_in 6 (some .boolean), Cond.methodLink RX8 190 yX8_all, Cond.instanceMethod yX8_all, Cond.selects RX8 yX8_all yX8_all, Cond.code yX8_all cX8_all 4 none, Cond.fieldLink RX8 153 "SumsOverModel" "runsOver" "I", Cond.fieldLink RX8 54 "SumsOverModel" "turns" "[I", Cond.fieldLink RX8 57 "SumsOverModel" "shows" "[I", Cond.fieldLink RX8 17 "SumsOverModel" "from" "[I", Cond.fieldLink RX8 20 "SumsOverModel" "to" "[I", Cond.fieldLink RX8 136 "SumsOverModel" "firstOver" "I", Cond.fieldLink RX8 48 "SumsOverModel" "isTurned" "[Z", Cond.fieldLink RX8 45 "SumsOverModel" "isOver" "[Z", Cond.methodLink RX8 150 yX8_lays, Cond.instanceMethod yX8_lays]
def wsX8_over_r2 : List Cond := [Cond.selects RX8 yX8_lays yX8_lays, Cond.code yX8_lays cX8_lays 5 none, Cond.fieldLink RX8 110 "SumsOverModel" "lineMany" "I", Cond.fieldLink RX8 23 "SumsOverModel" "kind" "[I", Cond.fieldLink RX8 38 "SumsOverModel" "line" "[I", Cond.fieldLink RX8 32 "SumsOverModel" "b" "[I", Cond.methodLink RX8 156 yX8_runs, Cond.instanceMethod yX8_runs, Cond.selects RX8 yX8_runs yX8_runs, Cond.code yX8_runs cX8_runs 7 none, Cond.fieldLink RX8 41 "SumsOverModel" "values" "[J", Cond.fieldLink RX8 29 "SumsOverModel" "a" "[I", Cond.fieldLink RX8 26 "SumsOverModel" "target" "[I", Cond.methodLink RX8 139 yX8_put, Cond.instanceMethod yX8_put, Cond.selects RX8 yX8_put yX8_put, Cond.code yX8_put cX8_put 4 (some .long), Cond.fieldLink RX8 107 "SumsOverModel" "mode" "I", Cond.fieldLink RX8 9 "SumsOverModel" "width" "[I", Cond.methodLink RX8 113 yX8_low, Cond.instanceMethod yX8_low, Cond.selects RX8 yX8_low yX8_low, Cond.code yX8_low cX8_low 2 (some .long), Cond.fieldLink RX8 13 "SumsOverModel" "isSigned" "[Z"]
def wsX8_over_r3 : List Cond := [Cond.methodLink RX8 117 yX8_high, Cond.instanceMethod yX8_high, Cond.selects RX8 yX8_high yX8_high, Cond.code yX8_high cX8_high 2 (some .long), Cond.methodLink RX8 120 yX8_rest, Cond.static yX8_rest, Cond.code yX8_rest cX8_rest 6 (some .long), Cond.methodLink RX8 143 yX8_valueOf, Cond.instanceMethod yX8_valueOf, Cond.selects RX8 yX8_valueOf yX8_valueOf, Cond.code yX8_valueOf cX8_valueOf 2 (some .long), Cond.methodLink RX8 130 Lib.MathLoose.min_long.x, Cond.static Lib.MathLoose.min_long.x, Cond.initialized "java/lang/Math", Cond.code Lib.MathLoose.min_long.x Lib.MathLoose.min_long.code 4 (some .long), Cond.methodLink RX8 133 yX8_belowOf, Cond.instanceMethod yX8_belowOf, Cond.selects RX8 yX8_belowOf yX8_belowOf, Cond.code yX8_belowOf cX8_belowOf 8 (some .boolean), Cond.methodLink RX8 124 Lib.Math.max.name, Cond.static Lib.Math.max.name, Cond.code Lib.Math.max.name Lib.Math.max.code 2 (some .int), Cond.methodLink RX8 146 yX8_goesOver, Cond.instanceMethod yX8_goesOver]
def wsX8_over_r4 : List Cond := [Cond.selects RX8 yX8_goesOver yX8_goesOver, Cond.code yX8_goesOver cX8_goesOver 4 (some .boolean)]
def wsX8_over : List Cond := .code yX8_over cX8_over 2 (some .int) :: ((wsX8_over_r1 ++ (wsX8_over_r2 ++ (wsX8_over_r3 ++ wsX8_over_r4))) ++ wsX80)
def wsX8_shown_r1 : List Cond := [Cond.fieldLink RX8 57 "SumsOverModel" "shows" "[I", Cond.methodLink RX8 187 yX8_isStep, Cond.instanceMethod yX8_isStep, Cond.selects RX8 yX8_isStep yX8_isStep, Cond.initialized RX8, Cond.code yX8_isStep cX8_isStep 2 (some .boolean), Cond.fieldLink RX8 75 "SumsOverModel" "steps" "I", Cond.methodLink RX8 79 yX8_in, Cond.static yX8_in, Cond.code yX8_in cX8_in 6 (some .boolean), Cond.methodLink RX8 190 yX8_all, Cond.instanceMethod yX8_all, Cond.selects RX8 yX8_all yX8_all, Cond.code yX8_all cX8_all 4 none, Cond.fieldLink RX8 153 "SumsOverModel" "runsOver" "I", Cond.fieldLink RX8 51 "SumsOverModel" "overs" "[I", Cond.fieldLink RX8 54 "SumsOverModel" "turns" "[I", Cond.fieldLink RX8 17 "SumsOverModel" "from" "[I", Cond.fieldLink RX8 20 "SumsOverModel" "to" "[I", Cond.fieldLink RX8 136 "SumsOverModel" "firstOver" "I", Cond.fieldLink RX8 48 "SumsOverModel" "isTurned" "[Z", Cond.fieldLink RX8 45 "SumsOverModel" "isOver" "[Z", Cond.methodLink RX8 150 yX8_lays, Cond.instanceMethod yX8_lays]
def wsX8_shown_r2 : List Cond := [Cond.selects RX8 yX8_lays yX8_lays, Cond.code yX8_lays cX8_lays 5 none, Cond.fieldLink RX8 110 "SumsOverModel" "lineMany" "I", Cond.fieldLink RX8 23 "SumsOverModel" "kind" "[I", Cond.fieldLink RX8 38 "SumsOverModel" "line" "[I", Cond.fieldLink RX8 32 "SumsOverModel" "b" "[I", Cond.methodLink RX8 156 yX8_runs, Cond.instanceMethod yX8_runs, Cond.selects RX8 yX8_runs yX8_runs, Cond.code yX8_runs cX8_runs 7 none, Cond.fieldLink RX8 41 "SumsOverModel" "values" "[J", Cond.fieldLink RX8 29 "SumsOverModel" "a" "[I", Cond.fieldLink RX8 26 "SumsOverModel" "target" "[I", Cond.methodLink RX8 139 yX8_put, Cond.instanceMethod yX8_put, Cond.selects RX8 yX8_put yX8_put, Cond.code yX8_put cX8_put 4 (some .long), Cond.fieldLink RX8 107 "SumsOverModel" "mode" "I", Cond.fieldLink RX8 9 "SumsOverModel" "width" "[I", Cond.methodLink RX8 113 yX8_low, Cond.instanceMethod yX8_low, Cond.selects RX8 yX8_low yX8_low, Cond.code yX8_low cX8_low 2 (some .long), Cond.fieldLink RX8 13 "SumsOverModel" "isSigned" "[Z"]
def wsX8_shown_r3 : List Cond := [Cond.methodLink RX8 117 yX8_high, Cond.instanceMethod yX8_high, Cond.selects RX8 yX8_high yX8_high, Cond.code yX8_high cX8_high 2 (some .long), Cond.methodLink RX8 120 yX8_rest, Cond.static yX8_rest, Cond.code yX8_rest cX8_rest 6 (some .long), Cond.methodLink RX8 143 yX8_valueOf, Cond.instanceMethod yX8_valueOf, Cond.selects RX8 yX8_valueOf yX8_valueOf, Cond.code yX8_valueOf cX8_valueOf 2 (some .long), Cond.methodLink RX8 130 Lib.MathLoose.min_long.x, Cond.static Lib.MathLoose.min_long.x, Cond.initialized "java/lang/Math", Cond.code Lib.MathLoose.min_long.x Lib.MathLoose.min_long.code 4 (some .long), Cond.methodLink RX8 133 yX8_belowOf, Cond.instanceMethod yX8_belowOf, Cond.selects RX8 yX8_belowOf yX8_belowOf, Cond.code yX8_belowOf cX8_belowOf 8 (some .boolean), Cond.methodLink RX8 124 Lib.Math.max.name, Cond.static Lib.Math.max.name, Cond.code Lib.Math.max.name Lib.Math.max.code 2 (some .int), Cond.methodLink RX8 146 yX8_goesOver, Cond.instanceMethod yX8_goesOver]
def wsX8_shown_r4 : List Cond := [Cond.selects RX8 yX8_goesOver yX8_goesOver, Cond.code yX8_goesOver cX8_goesOver 4 (some .boolean)]
def wsX8_shown : List Cond := .code yX8_shown cX8_shown 2 (some .int) :: ((wsX8_shown_r1 ++ (wsX8_shown_r2 ++ (wsX8_shown_r3 ++ wsX8_shown_r4))) ++ wsX80)
def wsX8_turned_r1 : List Cond := [Cond.fieldLink RX8 23 "SumsOverModel" "kind" "[I", Cond.fieldLink RX8 54 "SumsOverModel" "turns" "[I", Cond.methodLink RX8 187 yX8_isStep, Cond.instanceMethod yX8_isStep, Cond.selects RX8 yX8_isStep yX8_isStep, Cond.initialized RX8, Cond.code yX8_isStep cX8_isStep 2 (some .boolean), Cond.fieldLink RX8 75 "SumsOverModel" "steps" "I", Cond.methodLink RX8 79 yX8_in, Cond.static yX8_in, Cond.code yX8_in cX8_in 6 (some .boolean), Cond.methodLink RX8 190 yX8_all, Cond.instanceMethod yX8_all, Cond.selects RX8 yX8_all yX8_all, Cond.code yX8_all cX8_all 4 none, Cond.fieldLink RX8 153 "SumsOverModel" "runsOver" "I", Cond.fieldLink RX8 51 "SumsOverModel" "overs" "[I", Cond.fieldLink RX8 57 "SumsOverModel" "shows" "[I", Cond.fieldLink RX8 17 "SumsOverModel" "from" "[I", Cond.fieldLink RX8 20 "SumsOverModel" "to" "[I", Cond.fieldLink RX8 136 "SumsOverModel" "firstOver" "I", Cond.fieldLink RX8 48 "SumsOverModel" "isTurned" "[Z", Cond.fieldLink RX8 45 "SumsOverModel" "isOver" "[Z", Cond.methodLink RX8 150 yX8_lays]
def wsX8_turned_r2 : List Cond := [Cond.instanceMethod yX8_lays, Cond.selects RX8 yX8_lays yX8_lays, Cond.code yX8_lays cX8_lays 5 none, Cond.fieldLink RX8 110 "SumsOverModel" "lineMany" "I", Cond.fieldLink RX8 38 "SumsOverModel" "line" "[I", Cond.fieldLink RX8 32 "SumsOverModel" "b" "[I", Cond.methodLink RX8 156 yX8_runs, Cond.instanceMethod yX8_runs, Cond.selects RX8 yX8_runs yX8_runs, Cond.code yX8_runs cX8_runs 7 none, Cond.fieldLink RX8 41 "SumsOverModel" "values" "[J", Cond.fieldLink RX8 29 "SumsOverModel" "a" "[I", Cond.fieldLink RX8 26 "SumsOverModel" "target" "[I", Cond.methodLink RX8 139 yX8_put, Cond.instanceMethod yX8_put, Cond.selects RX8 yX8_put yX8_put, Cond.code yX8_put cX8_put 4 (some .long), Cond.fieldLink RX8 107 "SumsOverModel" "mode" "I", Cond.fieldLink RX8 9 "SumsOverModel" "width" "[I", Cond.methodLink RX8 113 yX8_low, Cond.instanceMethod yX8_low, Cond.selects RX8 yX8_low yX8_low, Cond.code yX8_low cX8_low 2 (some .long), Cond.fieldLink RX8 13 "SumsOverModel" "isSigned" "[Z"]
def wsX8_turned_r3 : List Cond := [Cond.methodLink RX8 117 yX8_high, Cond.instanceMethod yX8_high, Cond.selects RX8 yX8_high yX8_high, Cond.code yX8_high cX8_high 2 (some .long), Cond.methodLink RX8 120 yX8_rest, Cond.static yX8_rest, Cond.code yX8_rest cX8_rest 6 (some .long), Cond.methodLink RX8 143 yX8_valueOf, Cond.instanceMethod yX8_valueOf, Cond.selects RX8 yX8_valueOf yX8_valueOf, Cond.code yX8_valueOf cX8_valueOf 2 (some .long), Cond.methodLink RX8 130 Lib.MathLoose.min_long.x, Cond.static Lib.MathLoose.min_long.x, Cond.initialized "java/lang/Math", Cond.code Lib.MathLoose.min_long.x Lib.MathLoose.min_long.code 4 (some .long), Cond.methodLink RX8 133 yX8_belowOf, Cond.instanceMethod yX8_belowOf, Cond.selects RX8 yX8_belowOf yX8_belowOf, Cond.code yX8_belowOf cX8_belowOf 8 (some .boolean), Cond.methodLink RX8 124 Lib.Math.max.name, Cond.static Lib.Math.max.name, Cond.code Lib.Math.max.name Lib.Math.max.code 2 (some .int), Cond.methodLink RX8 146 yX8_goesOver, Cond.instanceMethod yX8_goesOver]
def wsX8_turned_r4 : List Cond := [Cond.selects RX8 yX8_goesOver yX8_goesOver, Cond.code yX8_goesOver cX8_goesOver 4 (some .boolean)]
def wsX8_turned : List Cond := .code yX8_turned cX8_turned 2 (some .int) :: ((wsX8_turned_r1 ++ (wsX8_turned_r2 ++ (wsX8_turned_r3 ++ wsX8_turned_r4))) ++ wsX80)
def wsX8_isFar : List Cond := .code yX8_isFar cX8_isFar 2 (some .boolean) :: ([.constantLong RX8 197 (-1099511627776), .constantLong RX8 199 (1099511627776), .methodLink RX8 79 yX8_in, .static yX8_in, .initialized RX8, .code yX8_in cX8_in 6 (some .boolean)])
def wsX8_isFarProduct : List Cond := .code yX8_isFarProduct cX8_isFarProduct 8 (some .boolean) :: ([.methodLink RX8 201 Lib.MathLoose.abs_long.x, .static Lib.MathLoose.abs_long.x, .initialized "java/lang/Math", .code Lib.MathLoose.abs_long.x Lib.MathLoose.abs_long.code 2 (some .long), .constantLong RX8 199 (1099511627776)])
def wsX8_given : List Cond := .code yX8_given cX8_given 4 (some .boolean) :: ([.fieldLink RX8 41 "SumsOverModel" "values" "[J", .fieldLink RX8 69 "SumsOverModel" "lowest" "[J", .methodLink RX8 130 Lib.MathLoose.min_long.x, .static Lib.MathLoose.min_long.x, .initialized "java/lang/Math", .code Lib.MathLoose.min_long.x Lib.MathLoose.min_long.code 4 (some .long), .fieldLink RX8 72 "SumsOverModel" "highest" "[J", .methodLink RX8 165 Lib.MathLoose.max_long.x, .static Lib.MathLoose.max_long.x, .code Lib.MathLoose.max_long.x Lib.MathLoose.max_long.code 4 (some .long), .methodLink RX8 205 yX8_isFar, .static yX8_isFar, .initialized RX8, .code yX8_isFar cX8_isFar 2 (some .boolean), .constantLong RX8 197 (-1099511627776), .constantLong RX8 199 (1099511627776), .methodLink RX8 79 yX8_in, .static yX8_in, .code yX8_in cX8_in 6 (some .boolean)] ++ wsX80)
def wsX8_isNear_r1 : List Cond := [Cond.fieldLink RX8 41 "SumsOverModel" "values" "[J", Cond.fieldLink RX8 110 "SumsOverModel" "lineMany" "I", Cond.fieldLink RX8 38 "SumsOverModel" "line" "[I", Cond.fieldLink RX8 23 "SumsOverModel" "kind" "[I", Cond.fieldLink RX8 29 "SumsOverModel" "a" "[I", Cond.fieldLink RX8 32 "SumsOverModel" "b" "[I", Cond.fieldLink RX8 26 "SumsOverModel" "target" "[I", Cond.methodLink RX8 209 yX8_given, Cond.instanceMethod yX8_given, Cond.selects RX8 yX8_given yX8_given, Cond.initialized RX8, Cond.code yX8_given cX8_given 4 (some .boolean), Cond.fieldLink RX8 69 "SumsOverModel" "lowest" "[J", Cond.methodLink RX8 130 Lib.MathLoose.min_long.x, Cond.static Lib.MathLoose.min_long.x, Cond.initialized "java/lang/Math", Cond.code Lib.MathLoose.min_long.x Lib.MathLoose.min_long.code 4 (some .long), Cond.fieldLink RX8 72 "SumsOverModel" "highest" "[J", Cond.methodLink RX8 165 Lib.MathLoose.max_long.x, Cond.static Lib.MathLoose.max_long.x, Cond.code Lib.MathLoose.max_long.x Lib.MathLoose.max_long.code 4 (some .long), Cond.methodLink RX8 205 yX8_isFar, Cond.static yX8_isFar, Cond.code yX8_isFar cX8_isFar 2 (some .boolean)]
def wsX8_isNear_r2 : List Cond := [Cond.constantLong RX8 197 (-1099511627776), Cond.constantLong RX8 199 (1099511627776), Cond.methodLink RX8 79 yX8_in, Cond.static yX8_in, Cond.code yX8_in cX8_in 6 (some .boolean), Cond.methodLink RX8 212 yX8_isFarProduct, Cond.static yX8_isFarProduct, Cond.code yX8_isFarProduct cX8_isFarProduct 8 (some .boolean), Cond.methodLink RX8 201 Lib.MathLoose.abs_long.x, Cond.static Lib.MathLoose.abs_long.x, Cond.code Lib.MathLoose.abs_long.x Lib.MathLoose.abs_long.code 2 (some .long), Cond.methodLink RX8 143 yX8_valueOf, Cond.instanceMethod yX8_valueOf, Cond.selects RX8 yX8_valueOf yX8_valueOf, Cond.code yX8_valueOf cX8_valueOf 2 (some .long), Cond.methodLink RX8 133 yX8_belowOf, Cond.instanceMethod yX8_belowOf, Cond.selects RX8 yX8_belowOf yX8_belowOf, Cond.code yX8_belowOf cX8_belowOf 8 (some .boolean), Cond.fieldLink RX8 13 "SumsOverModel" "isSigned" "[Z", Cond.fieldLink RX8 9 "SumsOverModel" "width" "[I", Cond.methodLink RX8 124 Lib.Math.max.name, Cond.static Lib.Math.max.name, Cond.code Lib.Math.max.name Lib.Math.max.code 2 (some .int)]
def wsX8_isNear_r3 : List Cond := [Cond.methodLink RX8 120 yX8_rest, Cond.static yX8_rest, Cond.code yX8_rest cX8_rest 6 (some .long)]
def wsX8_isNear : List Cond := .code yX8_isNear cX8_isNear 7 (some .boolean) :: ((wsX8_isNear_r1 ++ (wsX8_isNear_r2 ++ wsX8_isNear_r3)) ++ wsX80)
def wsX8_needs_r1 : List Cond := [Cond.fieldLink RX8 69 "SumsOverModel" "lowest" "[J", Cond.fieldLink RX8 72 "SumsOverModel" "highest" "[J", Cond.fieldLink RX8 17 "SumsOverModel" "from" "[I", Cond.fieldLink RX8 20 "SumsOverModel" "to" "[I", Cond.methodLink RX8 150 yX8_lays, Cond.instanceMethod yX8_lays, Cond.selects RX8 yX8_lays yX8_lays, Cond.initialized RX8, Cond.code yX8_lays cX8_lays 5 none, Cond.fieldLink RX8 110 "SumsOverModel" "lineMany" "I", Cond.fieldLink RX8 75 "SumsOverModel" "steps" "I", Cond.fieldLink RX8 23 "SumsOverModel" "kind" "[I", Cond.fieldLink RX8 38 "SumsOverModel" "line" "[I", Cond.fieldLink RX8 32 "SumsOverModel" "b" "[I", Cond.methodLink RX8 216 yX8_isNear, Cond.instanceMethod yX8_isNear, Cond.selects RX8 yX8_isNear yX8_isNear, Cond.code yX8_isNear cX8_isNear 7 (some .boolean), Cond.fieldLink RX8 41 "SumsOverModel" "values" "[J", Cond.fieldLink RX8 29 "SumsOverModel" "a" "[I", Cond.fieldLink RX8 26 "SumsOverModel" "target" "[I", Cond.methodLink RX8 209 yX8_given, Cond.instanceMethod yX8_given, Cond.selects RX8 yX8_given yX8_given]
def wsX8_needs_r2 : List Cond := [Cond.code yX8_given cX8_given 4 (some .boolean), Cond.methodLink RX8 130 Lib.MathLoose.min_long.x, Cond.static Lib.MathLoose.min_long.x, Cond.initialized "java/lang/Math", Cond.code Lib.MathLoose.min_long.x Lib.MathLoose.min_long.code 4 (some .long), Cond.methodLink RX8 165 Lib.MathLoose.max_long.x, Cond.static Lib.MathLoose.max_long.x, Cond.code Lib.MathLoose.max_long.x Lib.MathLoose.max_long.code 4 (some .long), Cond.methodLink RX8 205 yX8_isFar, Cond.static yX8_isFar, Cond.code yX8_isFar cX8_isFar 2 (some .boolean), Cond.constantLong RX8 197 (-1099511627776), Cond.constantLong RX8 199 (1099511627776), Cond.methodLink RX8 79 yX8_in, Cond.static yX8_in, Cond.code yX8_in cX8_in 6 (some .boolean), Cond.methodLink RX8 212 yX8_isFarProduct, Cond.static yX8_isFarProduct, Cond.code yX8_isFarProduct cX8_isFarProduct 8 (some .boolean), Cond.methodLink RX8 201 Lib.MathLoose.abs_long.x, Cond.static Lib.MathLoose.abs_long.x, Cond.code Lib.MathLoose.abs_long.x Lib.MathLoose.abs_long.code 2 (some .long), Cond.methodLink RX8 143 yX8_valueOf, Cond.instanceMethod yX8_valueOf]
def wsX8_needs_r3 : List Cond := [Cond.selects RX8 yX8_valueOf yX8_valueOf, Cond.code yX8_valueOf cX8_valueOf 2 (some .long), Cond.methodLink RX8 133 yX8_belowOf, Cond.instanceMethod yX8_belowOf, Cond.selects RX8 yX8_belowOf yX8_belowOf, Cond.code yX8_belowOf cX8_belowOf 8 (some .boolean), Cond.fieldLink RX8 13 "SumsOverModel" "isSigned" "[Z", Cond.fieldLink RX8 9 "SumsOverModel" "width" "[I", Cond.methodLink RX8 124 Lib.Math.max.name, Cond.static Lib.Math.max.name, Cond.code Lib.Math.max.name Lib.Math.max.code 2 (some .int), Cond.methodLink RX8 120 yX8_rest, Cond.static yX8_rest, Cond.code yX8_rest cX8_rest 6 (some .long)]
def wsX8_needs : List Cond := .code yX8_needs cX8_needs 4 (some .boolean) :: ((wsX8_needs_r1 ++ (wsX8_needs_r2 ++ wsX8_needs_r3)) ++ wsX80)
def wsX8_needOf : List Cond := .code yX8_needOf cX8_needOf 7 (some .int) :: ([.fieldLink RX8 13 "SumsOverModel" "isSigned" "[Z", .fieldLink RX8 69 "SumsOverModel" "lowest" "[J", .fieldLink RX8 72 "SumsOverModel" "highest" "[J"] ++ wsX80)
def wsX8_need_r1 : List Cond := [Cond.methodLink RX8 85 yX8_isName, Cond.static yX8_isName, Cond.initialized RX8, Cond.code yX8_isName cX8_isName 1 (some .boolean), Cond.constantLong RX8 83 (5), Cond.methodLink RX8 79 yX8_in, Cond.static yX8_in, Cond.code yX8_in cX8_in 6 (some .boolean), Cond.methodLink RX8 219 yX8_needs, Cond.instanceMethod yX8_needs, Cond.selects RX8 yX8_needs yX8_needs, Cond.code yX8_needs cX8_needs 4 (some .boolean), Cond.fieldLink RX8 69 "SumsOverModel" "lowest" "[J", Cond.fieldLink RX8 72 "SumsOverModel" "highest" "[J", Cond.fieldLink RX8 17 "SumsOverModel" "from" "[I", Cond.fieldLink RX8 20 "SumsOverModel" "to" "[I", Cond.methodLink RX8 150 yX8_lays, Cond.instanceMethod yX8_lays, Cond.selects RX8 yX8_lays yX8_lays, Cond.code yX8_lays cX8_lays 5 none, Cond.fieldLink RX8 110 "SumsOverModel" "lineMany" "I", Cond.fieldLink RX8 75 "SumsOverModel" "steps" "I", Cond.fieldLink RX8 23 "SumsOverModel" "kind" "[I", Cond.fieldLink RX8 38 "SumsOverModel" "line" "[I"]
def wsX8_need_r2 : List Cond := [Cond.fieldLink RX8 32 "SumsOverModel" "b" "[I", Cond.methodLink RX8 216 yX8_isNear, Cond.instanceMethod yX8_isNear, Cond.selects RX8 yX8_isNear yX8_isNear, Cond.code yX8_isNear cX8_isNear 7 (some .boolean), Cond.fieldLink RX8 41 "SumsOverModel" "values" "[J", Cond.fieldLink RX8 29 "SumsOverModel" "a" "[I", Cond.fieldLink RX8 26 "SumsOverModel" "target" "[I", Cond.methodLink RX8 209 yX8_given, Cond.instanceMethod yX8_given, Cond.selects RX8 yX8_given yX8_given, Cond.code yX8_given cX8_given 4 (some .boolean), Cond.methodLink RX8 130 Lib.MathLoose.min_long.x, Cond.static Lib.MathLoose.min_long.x, Cond.initialized "java/lang/Math", Cond.code Lib.MathLoose.min_long.x Lib.MathLoose.min_long.code 4 (some .long), Cond.methodLink RX8 165 Lib.MathLoose.max_long.x, Cond.static Lib.MathLoose.max_long.x, Cond.code Lib.MathLoose.max_long.x Lib.MathLoose.max_long.code 4 (some .long), Cond.methodLink RX8 205 yX8_isFar, Cond.static yX8_isFar, Cond.code yX8_isFar cX8_isFar 2 (some .boolean), Cond.constantLong RX8 197 (-1099511627776), Cond.constantLong RX8 199 (1099511627776)]
def wsX8_need_r3 : List Cond := [Cond.methodLink RX8 212 yX8_isFarProduct, Cond.static yX8_isFarProduct, Cond.code yX8_isFarProduct cX8_isFarProduct 8 (some .boolean), Cond.methodLink RX8 201 Lib.MathLoose.abs_long.x, Cond.static Lib.MathLoose.abs_long.x, Cond.code Lib.MathLoose.abs_long.x Lib.MathLoose.abs_long.code 2 (some .long), Cond.methodLink RX8 143 yX8_valueOf, Cond.instanceMethod yX8_valueOf, Cond.selects RX8 yX8_valueOf yX8_valueOf, Cond.code yX8_valueOf cX8_valueOf 2 (some .long), Cond.methodLink RX8 133 yX8_belowOf, Cond.instanceMethod yX8_belowOf, Cond.selects RX8 yX8_belowOf yX8_belowOf, Cond.code yX8_belowOf cX8_belowOf 8 (some .boolean), Cond.fieldLink RX8 13 "SumsOverModel" "isSigned" "[Z", Cond.fieldLink RX8 9 "SumsOverModel" "width" "[I", Cond.methodLink RX8 124 Lib.Math.max.name, Cond.static Lib.Math.max.name, Cond.code Lib.Math.max.name Lib.Math.max.code 2 (some .int), Cond.methodLink RX8 120 yX8_rest, Cond.static yX8_rest, Cond.code yX8_rest cX8_rest 6 (some .long), Cond.methodLink RX8 222 yX8_needOf, Cond.instanceMethod yX8_needOf]
def wsX8_need_r4 : List Cond := [Cond.selects RX8 yX8_needOf yX8_needOf, Cond.code yX8_needOf cX8_needOf 7 (some .int)]
def wsX8_need : List Cond := .code yX8_need cX8_need 2 (some .int) :: ((wsX8_need_r1 ++ (wsX8_need_r2 ++ (wsX8_need_r3 ++ wsX8_need_r4))) ++ wsX80)
def wsX8_price_r1 : List Cond := [Cond.fieldLink RX8 9 "SumsOverModel" "width" "[I", Cond.methodLink RX8 124 Lib.Math.max.name, Cond.static Lib.Math.max.name, Cond.initialized "java/lang/Math", Cond.code Lib.Math.max.name Lib.Math.max.code 2 (some .int), Cond.methodLink RX8 219 yX8_needs, Cond.instanceMethod yX8_needs, Cond.selects RX8 yX8_needs yX8_needs, Cond.initialized RX8, Cond.code yX8_needs cX8_needs 4 (some .boolean), Cond.fieldLink RX8 69 "SumsOverModel" "lowest" "[J", Cond.fieldLink RX8 72 "SumsOverModel" "highest" "[J", Cond.fieldLink RX8 17 "SumsOverModel" "from" "[I", Cond.fieldLink RX8 20 "SumsOverModel" "to" "[I", Cond.methodLink RX8 150 yX8_lays, Cond.instanceMethod yX8_lays, Cond.selects RX8 yX8_lays yX8_lays, Cond.code yX8_lays cX8_lays 5 none, Cond.fieldLink RX8 110 "SumsOverModel" "lineMany" "I", Cond.fieldLink RX8 75 "SumsOverModel" "steps" "I", Cond.fieldLink RX8 23 "SumsOverModel" "kind" "[I", Cond.fieldLink RX8 38 "SumsOverModel" "line" "[I", Cond.fieldLink RX8 32 "SumsOverModel" "b" "[I", Cond.methodLink RX8 216 yX8_isNear]
def wsX8_price_r2 : List Cond := [Cond.instanceMethod yX8_isNear, Cond.selects RX8 yX8_isNear yX8_isNear, Cond.code yX8_isNear cX8_isNear 7 (some .boolean), Cond.fieldLink RX8 41 "SumsOverModel" "values" "[J", Cond.fieldLink RX8 29 "SumsOverModel" "a" "[I", Cond.fieldLink RX8 26 "SumsOverModel" "target" "[I", Cond.methodLink RX8 209 yX8_given, Cond.instanceMethod yX8_given, Cond.selects RX8 yX8_given yX8_given, Cond.code yX8_given cX8_given 4 (some .boolean), Cond.methodLink RX8 130 Lib.MathLoose.min_long.x, Cond.static Lib.MathLoose.min_long.x, Cond.code Lib.MathLoose.min_long.x Lib.MathLoose.min_long.code 4 (some .long), Cond.methodLink RX8 165 Lib.MathLoose.max_long.x, Cond.static Lib.MathLoose.max_long.x, Cond.code Lib.MathLoose.max_long.x Lib.MathLoose.max_long.code 4 (some .long), Cond.methodLink RX8 205 yX8_isFar, Cond.static yX8_isFar, Cond.code yX8_isFar cX8_isFar 2 (some .boolean), Cond.constantLong RX8 197 (-1099511627776), Cond.constantLong RX8 199 (1099511627776), Cond.methodLink RX8 79 yX8_in, Cond.static yX8_in, Cond.code yX8_in cX8_in 6 (some .boolean)]
def wsX8_price_r3 : List Cond := [Cond.methodLink RX8 212 yX8_isFarProduct, Cond.static yX8_isFarProduct, Cond.code yX8_isFarProduct cX8_isFarProduct 8 (some .boolean), Cond.methodLink RX8 201 Lib.MathLoose.abs_long.x, Cond.static Lib.MathLoose.abs_long.x, Cond.code Lib.MathLoose.abs_long.x Lib.MathLoose.abs_long.code 2 (some .long), Cond.methodLink RX8 143 yX8_valueOf, Cond.instanceMethod yX8_valueOf, Cond.selects RX8 yX8_valueOf yX8_valueOf, Cond.code yX8_valueOf cX8_valueOf 2 (some .long), Cond.methodLink RX8 133 yX8_belowOf, Cond.instanceMethod yX8_belowOf, Cond.selects RX8 yX8_belowOf yX8_belowOf, Cond.code yX8_belowOf cX8_belowOf 8 (some .boolean), Cond.fieldLink RX8 13 "SumsOverModel" "isSigned" "[Z", Cond.methodLink RX8 120 yX8_rest, Cond.static yX8_rest, Cond.code yX8_rest cX8_rest 6 (some .long), Cond.methodLink RX8 222 yX8_needOf, Cond.instanceMethod yX8_needOf, Cond.selects RX8 yX8_needOf yX8_needOf, Cond.code yX8_needOf cX8_needOf 7 (some .int)]
def wsX8_price : List Cond := .code yX8_price cX8_price 4 (some .int) :: ((wsX8_price_r1 ++ (wsX8_price_r2 ++ wsX8_price_r3)) ++ wsX80)
def wsX8_mend_r1 : List Cond := [Cond.fieldLink RX8 9 "SumsOverModel" "width" "[I", Cond.methodLink RX8 225 yX8_price, Cond.instanceMethod yX8_price, Cond.selects RX8 yX8_price yX8_price, Cond.initialized RX8, Cond.code yX8_price cX8_price 4 (some .int), Cond.methodLink RX8 124 Lib.Math.max.name, Cond.static Lib.Math.max.name, Cond.initialized "java/lang/Math", Cond.code Lib.Math.max.name Lib.Math.max.code 2 (some .int), Cond.methodLink RX8 219 yX8_needs, Cond.instanceMethod yX8_needs, Cond.selects RX8 yX8_needs yX8_needs, Cond.code yX8_needs cX8_needs 4 (some .boolean), Cond.fieldLink RX8 69 "SumsOverModel" "lowest" "[J", Cond.fieldLink RX8 72 "SumsOverModel" "highest" "[J", Cond.fieldLink RX8 17 "SumsOverModel" "from" "[I", Cond.fieldLink RX8 20 "SumsOverModel" "to" "[I", Cond.methodLink RX8 150 yX8_lays, Cond.instanceMethod yX8_lays, Cond.selects RX8 yX8_lays yX8_lays, Cond.code yX8_lays cX8_lays 5 none, Cond.fieldLink RX8 110 "SumsOverModel" "lineMany" "I", Cond.fieldLink RX8 75 "SumsOverModel" "steps" "I"]
def wsX8_mend_r2 : List Cond := [Cond.fieldLink RX8 23 "SumsOverModel" "kind" "[I", Cond.fieldLink RX8 38 "SumsOverModel" "line" "[I", Cond.fieldLink RX8 32 "SumsOverModel" "b" "[I", Cond.methodLink RX8 216 yX8_isNear, Cond.instanceMethod yX8_isNear, Cond.selects RX8 yX8_isNear yX8_isNear, Cond.code yX8_isNear cX8_isNear 7 (some .boolean), Cond.fieldLink RX8 41 "SumsOverModel" "values" "[J", Cond.fieldLink RX8 29 "SumsOverModel" "a" "[I", Cond.fieldLink RX8 26 "SumsOverModel" "target" "[I", Cond.methodLink RX8 209 yX8_given, Cond.instanceMethod yX8_given, Cond.selects RX8 yX8_given yX8_given, Cond.code yX8_given cX8_given 4 (some .boolean), Cond.methodLink RX8 130 Lib.MathLoose.min_long.x, Cond.static Lib.MathLoose.min_long.x, Cond.code Lib.MathLoose.min_long.x Lib.MathLoose.min_long.code 4 (some .long), Cond.methodLink RX8 165 Lib.MathLoose.max_long.x, Cond.static Lib.MathLoose.max_long.x, Cond.code Lib.MathLoose.max_long.x Lib.MathLoose.max_long.code 4 (some .long), Cond.methodLink RX8 205 yX8_isFar, Cond.static yX8_isFar, Cond.code yX8_isFar cX8_isFar 2 (some .boolean), Cond.constantLong RX8 197 (-1099511627776)]
def wsX8_mend_r3 : List Cond := [Cond.constantLong RX8 199 (1099511627776), Cond.methodLink RX8 79 yX8_in, Cond.static yX8_in, Cond.code yX8_in cX8_in 6 (some .boolean), Cond.methodLink RX8 212 yX8_isFarProduct, Cond.static yX8_isFarProduct, Cond.code yX8_isFarProduct cX8_isFarProduct 8 (some .boolean), Cond.methodLink RX8 201 Lib.MathLoose.abs_long.x, Cond.static Lib.MathLoose.abs_long.x, Cond.code Lib.MathLoose.abs_long.x Lib.MathLoose.abs_long.code 2 (some .long), Cond.methodLink RX8 143 yX8_valueOf, Cond.instanceMethod yX8_valueOf, Cond.selects RX8 yX8_valueOf yX8_valueOf, Cond.code yX8_valueOf cX8_valueOf 2 (some .long), Cond.methodLink RX8 133 yX8_belowOf, Cond.instanceMethod yX8_belowOf, Cond.selects RX8 yX8_belowOf yX8_belowOf, Cond.code yX8_belowOf cX8_belowOf 8 (some .boolean), Cond.fieldLink RX8 13 "SumsOverModel" "isSigned" "[Z", Cond.methodLink RX8 120 yX8_rest, Cond.static yX8_rest, Cond.code yX8_rest cX8_rest 6 (some .long), Cond.methodLink RX8 222 yX8_needOf, Cond.instanceMethod yX8_needOf]
def wsX8_mend_r4 : List Cond := [Cond.selects RX8 yX8_needOf yX8_needOf, Cond.code yX8_needOf cX8_needOf 7 (some .int)]
def wsX8_mend : List Cond := .code yX8_mend cX8_mend 4 (some .int) :: ((wsX8_mend_r1 ++ (wsX8_mend_r2 ++ (wsX8_mend_r3 ++ wsX8_mend_r4))) ++ wsX80)
def wsX8_mean : List Cond := .code yX8_mean cX8_mean 3 (some .boolean) :: ([.fieldLink RX8 35 "SumsOverModel" "isMeant" "[Z", .methodLink RX8 187 yX8_isStep, .instanceMethod yX8_isStep, .selects RX8 yX8_isStep yX8_isStep, .initialized RX8, .code yX8_isStep cX8_isStep 2 (some .boolean), .fieldLink RX8 75 "SumsOverModel" "steps" "I", .methodLink RX8 79 yX8_in, .static yX8_in, .code yX8_in cX8_in 6 (some .boolean)] ++ wsX80)
def wsX8_listed_r1 : List Cond := [Cond.fieldLink RX8 75 "SumsOverModel" "steps" "I", Cond.fieldLink RX8 35 "SumsOverModel" "isMeant" "[Z", Cond.fieldLink RX8 51 "SumsOverModel" "overs" "[I", Cond.methodLink RX8 180 yX8_spans, Cond.instanceMethod yX8_spans, Cond.selects RX8 yX8_spans yX8_spans, Cond.initialized RX8, Cond.code yX8_spans cX8_spans 3 none, Cond.fieldLink RX8 60 "SumsOverModel" "least" "[J", Cond.fieldLink RX8 63 "SumsOverModel" "most" "[J", Cond.fieldLink RX8 66 "SumsOverModel" "could" "[Z", Cond.fieldLink RX8 17 "SumsOverModel" "from" "[I", Cond.fieldLink RX8 20 "SumsOverModel" "to" "[I", Cond.fieldLink RX8 110 "SumsOverModel" "lineMany" "I", Cond.fieldLink RX8 38 "SumsOverModel" "line" "[I", Cond.methodLink RX8 150 yX8_lays, Cond.instanceMethod yX8_lays, Cond.selects RX8 yX8_lays yX8_lays, Cond.code yX8_lays cX8_lays 5 none, Cond.fieldLink RX8 23 "SumsOverModel" "kind" "[I", Cond.fieldLink RX8 32 "SumsOverModel" "b" "[I", Cond.methodLink RX8 167 yX8_ends, Cond.instanceMethod yX8_ends, Cond.selects RX8 yX8_ends yX8_ends]
def wsX8_listed_r2 : List Cond := [Cond.code yX8_ends cX8_ends 7 (some .boolean), Cond.fieldLink RX8 107 "SumsOverModel" "mode" "I", Cond.methodLink RX8 146 yX8_goesOver, Cond.instanceMethod yX8_goesOver, Cond.selects RX8 yX8_goesOver yX8_goesOver, Cond.code yX8_goesOver cX8_goesOver 4 (some .boolean), Cond.methodLink RX8 113 yX8_low, Cond.instanceMethod yX8_low, Cond.selects RX8 yX8_low yX8_low, Cond.code yX8_low cX8_low 2 (some .long), Cond.fieldLink RX8 13 "SumsOverModel" "isSigned" "[Z", Cond.fieldLink RX8 9 "SumsOverModel" "width" "[I", Cond.methodLink RX8 117 yX8_high, Cond.instanceMethod yX8_high, Cond.selects RX8 yX8_high yX8_high, Cond.code yX8_high cX8_high 2 (some .long), Cond.methodLink RX8 79 yX8_in, Cond.static yX8_in, Cond.code yX8_in cX8_in 6 (some .boolean), Cond.methodLink RX8 139 yX8_put, Cond.instanceMethod yX8_put, Cond.selects RX8 yX8_put yX8_put, Cond.code yX8_put cX8_put 4 (some .long), Cond.methodLink RX8 120 yX8_rest]
def wsX8_listed_r3 : List Cond := [Cond.static yX8_rest, Cond.code yX8_rest cX8_rest 6 (some .long), Cond.methodLink RX8 177 yX8_goes, Cond.instanceMethod yX8_goes, Cond.selects RX8 yX8_goes yX8_goes, Cond.code yX8_goes cX8_goes 3 (some .boolean), Cond.fieldLink RX8 26 "SumsOverModel" "target" "[I", Cond.fieldLink RX8 29 "SumsOverModel" "a" "[I", Cond.methodLink RX8 130 Lib.MathLoose.min_long.x, Cond.static Lib.MathLoose.min_long.x, Cond.initialized "java/lang/Math", Cond.code Lib.MathLoose.min_long.x Lib.MathLoose.min_long.code 4 (some .long), Cond.methodLink RX8 171 yX8_products, Cond.instanceMethod yX8_products, Cond.selects RX8 yX8_products yX8_products, Cond.code yX8_products cX8_products 10 (some .boolean), Cond.methodLink RX8 165 Lib.MathLoose.max_long.x, Cond.static Lib.MathLoose.max_long.x, Cond.code Lib.MathLoose.max_long.x Lib.MathLoose.max_long.code 4 (some .long), Cond.methodLink RX8 174 yX8_belows, Cond.instanceMethod yX8_belows, Cond.selects RX8 yX8_belows yX8_belows, Cond.code yX8_belows cX8_belows 3 (some .boolean), Cond.methodLink RX8 190 yX8_all]
def wsX8_listed_r4 : List Cond := [Cond.instanceMethod yX8_all, Cond.selects RX8 yX8_all yX8_all, Cond.code yX8_all cX8_all 4 none, Cond.fieldLink RX8 153 "SumsOverModel" "runsOver" "I", Cond.fieldLink RX8 54 "SumsOverModel" "turns" "[I", Cond.fieldLink RX8 57 "SumsOverModel" "shows" "[I", Cond.fieldLink RX8 136 "SumsOverModel" "firstOver" "I", Cond.fieldLink RX8 48 "SumsOverModel" "isTurned" "[Z", Cond.fieldLink RX8 45 "SumsOverModel" "isOver" "[Z", Cond.methodLink RX8 156 yX8_runs, Cond.instanceMethod yX8_runs, Cond.selects RX8 yX8_runs yX8_runs, Cond.code yX8_runs cX8_runs 7 none, Cond.fieldLink RX8 41 "SumsOverModel" "values" "[J", Cond.methodLink RX8 143 yX8_valueOf, Cond.instanceMethod yX8_valueOf, Cond.selects RX8 yX8_valueOf yX8_valueOf, Cond.code yX8_valueOf cX8_valueOf 2 (some .long), Cond.methodLink RX8 133 yX8_belowOf, Cond.instanceMethod yX8_belowOf, Cond.selects RX8 yX8_belowOf yX8_belowOf, Cond.code yX8_belowOf cX8_belowOf 8 (some .boolean), Cond.methodLink RX8 124 Lib.Math.max.name, Cond.static Lib.Math.max.name]
def wsX8_listed_r5 : List Cond := [Cond.code Lib.Math.max.name Lib.Math.max.code 2 (some .int), Cond.methodLink RX8 193 yX8_judged, Cond.instanceMethod yX8_judged, Cond.selects RX8 yX8_judged yX8_judged, Cond.code yX8_judged cX8_judged 2 (some .int), Cond.methodLink RX8 183 yX8_many, Cond.instanceMethod yX8_many, Cond.selects RX8 yX8_many yX8_many, Cond.code yX8_many cX8_many 1 (some .int)]
def wsX8_listed : List Cond := .code yX8_listed cX8_listed 5 (some .int) :: ((wsX8_listed_r1 ++ (wsX8_listed_r2 ++ (wsX8_listed_r3 ++ (wsX8_listed_r4 ++ wsX8_listed_r5)))) ++ wsX80)
def wsX8_count_r1 : List Cond := [Cond.constantLong RX8 228 (10), Cond.constantLong RX8 230 (15), Cond.fieldLink RX8 9 "SumsOverModel" "width" "[I", Cond.constantLong RX8 232 (20), Cond.constantLong RX8 234 (25), Cond.fieldLink RX8 13 "SumsOverModel" "isSigned" "[Z", Cond.fieldLink RX8 75 "SumsOverModel" "steps" "I", Cond.fieldLink RX8 153 "SumsOverModel" "runsOver" "I", Cond.fieldLink RX8 35 "SumsOverModel" "isMeant" "[Z", Cond.fieldLink RX8 107 "SumsOverModel" "mode" "I", Cond.methodLink RX8 79 yX8_in, Cond.static yX8_in, Cond.initialized RX8, Cond.code yX8_in cX8_in 6 (some .boolean), Cond.methodLink RX8 183 yX8_many, Cond.instanceMethod yX8_many, Cond.selects RX8 yX8_many yX8_many, Cond.code yX8_many cX8_many 1 (some .int), Cond.fieldLink RX8 20 "SumsOverModel" "to" "[I", Cond.fieldLink RX8 17 "SumsOverModel" "from" "[I", Cond.methodLink RX8 190 yX8_all, Cond.instanceMethod yX8_all, Cond.selects RX8 yX8_all yX8_all, Cond.code yX8_all cX8_all 4 none]
def wsX8_count_r2 : List Cond := [Cond.fieldLink RX8 51 "SumsOverModel" "overs" "[I", Cond.fieldLink RX8 54 "SumsOverModel" "turns" "[I", Cond.fieldLink RX8 57 "SumsOverModel" "shows" "[I", Cond.fieldLink RX8 136 "SumsOverModel" "firstOver" "I", Cond.fieldLink RX8 48 "SumsOverModel" "isTurned" "[Z", Cond.fieldLink RX8 45 "SumsOverModel" "isOver" "[Z", Cond.methodLink RX8 150 yX8_lays, Cond.instanceMethod yX8_lays, Cond.selects RX8 yX8_lays yX8_lays, Cond.code yX8_lays cX8_lays 5 none, Cond.fieldLink RX8 110 "SumsOverModel" "lineMany" "I", Cond.fieldLink RX8 23 "SumsOverModel" "kind" "[I", Cond.fieldLink RX8 38 "SumsOverModel" "line" "[I", Cond.fieldLink RX8 32 "SumsOverModel" "b" "[I", Cond.methodLink RX8 156 yX8_runs, Cond.instanceMethod yX8_runs, Cond.selects RX8 yX8_runs yX8_runs, Cond.code yX8_runs cX8_runs 7 none, Cond.fieldLink RX8 41 "SumsOverModel" "values" "[J", Cond.fieldLink RX8 29 "SumsOverModel" "a" "[I", Cond.fieldLink RX8 26 "SumsOverModel" "target" "[I", Cond.methodLink RX8 139 yX8_put, Cond.instanceMethod yX8_put, Cond.selects RX8 yX8_put yX8_put]
def wsX8_count_r3 : List Cond := [Cond.code yX8_put cX8_put 4 (some .long), Cond.methodLink RX8 113 yX8_low, Cond.instanceMethod yX8_low, Cond.selects RX8 yX8_low yX8_low, Cond.code yX8_low cX8_low 2 (some .long), Cond.methodLink RX8 117 yX8_high, Cond.instanceMethod yX8_high, Cond.selects RX8 yX8_high yX8_high, Cond.code yX8_high cX8_high 2 (some .long), Cond.methodLink RX8 120 yX8_rest, Cond.static yX8_rest, Cond.code yX8_rest cX8_rest 6 (some .long), Cond.methodLink RX8 143 yX8_valueOf, Cond.instanceMethod yX8_valueOf, Cond.selects RX8 yX8_valueOf yX8_valueOf, Cond.code yX8_valueOf cX8_valueOf 2 (some .long), Cond.methodLink RX8 130 Lib.MathLoose.min_long.x, Cond.static Lib.MathLoose.min_long.x, Cond.initialized "java/lang/Math", Cond.code Lib.MathLoose.min_long.x Lib.MathLoose.min_long.code 4 (some .long), Cond.methodLink RX8 133 yX8_belowOf, Cond.instanceMethod yX8_belowOf, Cond.selects RX8 yX8_belowOf yX8_belowOf, Cond.code yX8_belowOf cX8_belowOf 8 (some .boolean)]
def wsX8_count_r4 : List Cond := [Cond.methodLink RX8 124 Lib.Math.max.name, Cond.static Lib.Math.max.name, Cond.code Lib.Math.max.name Lib.Math.max.code 2 (some .int), Cond.methodLink RX8 146 yX8_goesOver, Cond.instanceMethod yX8_goesOver, Cond.selects RX8 yX8_goesOver yX8_goesOver, Cond.code yX8_goesOver cX8_goesOver 4 (some .boolean)]
def wsX8_count : List Cond := .code yX8_count cX8_count 4 (some .int) :: ((wsX8_count_r1 ++ (wsX8_count_r2 ++ (wsX8_count_r3 ++ wsX8_count_r4))) ++ wsX80)
def wsJ9_abs_067f4 : List Cond := .code yJ9_abs_067f4 cJ9_abs_067f4 2 (some .long) :: ([])
def wsJ9_max_7cf53 : List Cond := .code yJ9_max_7cf53 cJ9_max_7cf53 2 (some .int) :: ([])
def wsJ9_max_f86c9 : List Cond := .code yJ9_max_f86c9 cJ9_max_f86c9 4 (some .long) :: ([])
def wsJ9_min_f86c9 : List Cond := .code yJ9_min_f86c9 cJ9_min_f86c9 4 (some .long) :: ([])
def wsL_law_r1 : List Cond := [Cond.classLink RL 7 RX7, Cond.instantiable RX7 7, Cond.initialized RX7, Cond.classLink RL 10 RX8, Cond.instantiable RX8 26, Cond.initialized RX8, Cond.methodLink RL 9 yX7_init, Cond.instanceMethod yX7_init, Cond.code yX7_init cX7_init 1 none, Cond.methodLink RX7 1 objectInit, Cond.instanceMethod objectInit, Cond.code objectInit ⟨#[0xb1]⟩ 1 none, Cond.classLink RX7 7 RX1, Cond.instantiable RX1 5, Cond.initialized RX1, Cond.fieldLink RX7 10 "SumsOver" "names" "LSumsOver$Names;", Cond.classLink RX7 16 RX0, Cond.instantiable RX0 2, Cond.initialized RX0, Cond.fieldLink RX7 19 "SumsOver" "inputs" "LSumsOver$Inputs;", Cond.classLink RX7 23 RX4, Cond.instantiable RX4 9, Cond.initialized RX4, Cond.fieldLink RX7 26 "SumsOver" "steps" "LSumsOver$Steps;"]
def wsL_law_r2 : List Cond := [Cond.classLink RX7 30 RX3, Cond.instantiable RX3 6, Cond.initialized RX3, Cond.fieldLink RX7 35 "SumsOver" "runner" "LSumsOver$Runner;", Cond.classLink RX7 39 RX5, Cond.instantiable RX5 7, Cond.initialized RX5, Cond.fieldLink RX7 44 "SumsOver" "tally" "LSumsOver$Tally;", Cond.classLink RX7 48 RX2, Cond.instantiable RX2 9, Cond.initialized RX2, Cond.fieldLink RX7 53 "SumsOver" "reach" "LSumsOver$Reach;", Cond.classLink RX7 57 RX6, Cond.instantiable RX6 7, Cond.initialized RX6, Cond.fieldLink RX7 62 "SumsOver" "trues" "LSumsOver$Trues;", Cond.methodLink RX7 9 yX1_init, Cond.instanceMethod yX1_init, Cond.code yX1_init cX1_init 2 none, Cond.methodLink RX1 3 objectInit, Cond.arrayClass .int, Cond.fieldLink RX1 9 "SumsOver$Names" "widths" "[I", Cond.arrayClass .boolean, Cond.fieldLink RX1 15 "SumsOver$Names" "signs" "[Z"]
def wsL_law_r3 : List Cond := [Cond.arrayClass .long, Cond.fieldLink RX1 19 "SumsOver$Names" "least" "[J", Cond.fieldLink RX1 23 "SumsOver$Names" "greatest" "[J", Cond.methodLink RX1 26 yX1_tell, Cond.instanceMethod yX1_tell, Cond.selects RX1 yX1_tell yX1_tell, Cond.code yX1_tell cX1_tell 4 none, Cond.static yX7_leastOf, Cond.code yX7_leastOf cX7_leastOf 2 (some .long), Cond.static yX7_greatestOf, Cond.code yX7_greatestOf cX7_greatestOf 2 (some .long), Cond.instanceMethod yX0_init, Cond.code yX0_init cX0_init 1 none, Cond.methodLink RX0 3 objectInit, Cond.fieldLink RX0 9 "SumsOver$Inputs" "from" "[I", Cond.fieldLink RX0 15 "SumsOver$Inputs" "to" "[I", Cond.instanceMethod yX4_init, Cond.code yX4_init cX4_init 1 none, Cond.methodLink RX4 3 objectInit, Cond.fieldLink RX4 9 "SumsOver$Steps" "kinds" "[I", Cond.fieldLink RX4 15 "SumsOver$Steps" "targets" "[I", Cond.fieldLink RX4 18 "SumsOver$Steps" "as" "[I", Cond.fieldLink RX4 21 "SumsOver$Steps" "bs" "[I", Cond.fieldLink RX4 24 "SumsOver$Steps" "bIsName" "[Z"]
def wsL_law_r4 : List Cond := [Cond.fieldLink RX4 28 "SumsOver$Steps" "meant" "[Z", Cond.fieldLink RX4 31 "SumsOver$Steps" "path" "[I", Cond.methodLink RX7 32 yX3_init, Cond.instanceMethod yX3_init, Cond.code yX3_init cX3_init 3 none, Cond.methodLink RX3 3 objectInit, Cond.fieldLink RX3 9 "SumsOver$Runner" "values" "[J", Cond.fieldLink RX3 15 "SumsOver$Runner" "names" "LSumsOver$Names;", Cond.fieldLink RX3 19 "SumsOver$Runner" "steps" "LSumsOver$Steps;", Cond.methodLink RX7 41 yX5_init, Cond.instanceMethod yX5_init, Cond.code yX5_init cX5_init 3 none, Cond.methodLink RX5 3 objectInit, Cond.fieldLink RX5 9 "SumsOver$Tally" "over" "[I", Cond.fieldLink RX5 15 "SumsOver$Tally" "shown" "[I", Cond.fieldLink RX5 18 "SumsOver$Tally" "turned" "[I", Cond.fieldLink RX5 21 "SumsOver$Tally" "runner" "LSumsOver$Runner;", Cond.fieldLink RX5 25 "SumsOver$Tally" "inputs" "LSumsOver$Inputs;", Cond.methodLink RX7 50 yX2_init, Cond.instanceMethod yX2_init, Cond.code yX2_init cX2_init 4 none, Cond.methodLink RX2 3 objectInit, Cond.fieldLink RX2 9 "SumsOver$Reach" "least" "[J", Cond.fieldLink RX2 15 "SumsOver$Reach" "greatest" "[J"]
def wsL_law_r5 : List Cond := [Cond.fieldLink RX2 18 "SumsOver$Reach" "names" "LSumsOver$Names;", Cond.fieldLink RX2 22 "SumsOver$Reach" "steps" "LSumsOver$Steps;", Cond.fieldLink RX2 26 "SumsOver$Reach" "inputs" "LSumsOver$Inputs;", Cond.methodLink RX7 59 yX6_init, Cond.instanceMethod yX6_init, Cond.code yX6_init cX6_init 3 none, Cond.methodLink RX6 3 objectInit, Cond.fieldLink RX6 9 "SumsOver$Trues" "least" "[J", Cond.fieldLink RX6 15 "SumsOver$Trues" "greatest" "[J", Cond.fieldLink RX6 18 "SumsOver$Trues" "values" "[J", Cond.fieldLink RX6 21 "SumsOver$Trues" "steps" "LSumsOver$Steps;", Cond.fieldLink RX6 25 "SumsOver$Trues" "inputs" "LSumsOver$Inputs;", Cond.methodLink RL 12 yX8_init, Cond.instanceMethod yX8_init, Cond.code yX8_init cX8_init 2 none, Cond.methodLink RX8 1 objectInit, Cond.fieldLink RX8 9 "SumsOverModel" "width" "[I", Cond.fieldLink RX8 13 "SumsOverModel" "isSigned" "[Z", Cond.fieldLink RX8 17 "SumsOverModel" "from" "[I", Cond.fieldLink RX8 20 "SumsOverModel" "to" "[I", Cond.fieldLink RX8 23 "SumsOverModel" "kind" "[I", Cond.fieldLink RX8 26 "SumsOverModel" "target" "[I", Cond.fieldLink RX8 29 "SumsOverModel" "a" "[I", Cond.fieldLink RX8 32 "SumsOverModel" "b" "[I"]
def wsL_law_r6 : List Cond := [Cond.fieldLink RX8 35 "SumsOverModel" "isMeant" "[Z", Cond.fieldLink RX8 38 "SumsOverModel" "line" "[I", Cond.fieldLink RX8 41 "SumsOverModel" "values" "[J", Cond.fieldLink RX8 45 "SumsOverModel" "isOver" "[Z", Cond.fieldLink RX8 48 "SumsOverModel" "isTurned" "[Z", Cond.fieldLink RX8 51 "SumsOverModel" "overs" "[I", Cond.fieldLink RX8 54 "SumsOverModel" "turns" "[I", Cond.fieldLink RX8 57 "SumsOverModel" "shows" "[I", Cond.fieldLink RX8 60 "SumsOverModel" "least" "[J", Cond.fieldLink RX8 63 "SumsOverModel" "most" "[J", Cond.fieldLink RX8 66 "SumsOverModel" "could" "[Z", Cond.fieldLink RX8 69 "SumsOverModel" "lowest" "[J", Cond.fieldLink RX8 72 "SumsOverModel" "highest" "[J", Cond.methodLink RL 13 yX7_name, Cond.instanceMethod yX7_name, Cond.selects RX7 yX7_name yX7_name, Cond.code yX7_name cX7_name 4 (some .boolean), Cond.methodLink RX7 66 yX7_isName, Cond.static yX7_isName, Cond.code yX7_isName cX7_isName 1 (some .boolean), Cond.methodLink RX7 70 yX1_tell, Cond.methodLink RX7 74 yX7_forget, Cond.instanceMethod yX7_forget, Cond.selects RX7 yX7_forget yX7_forget]
def wsL_law_r7 : List Cond := [Cond.code yX7_forget cX7_forget 1 none, Cond.fieldLink RX7 215 "SumsOver$Tally" "known" "Z", Cond.fieldLink RX7 218 "SumsOver$Reach" "known" "Z", Cond.fieldLink RX7 219 "SumsOver$Trues" "known" "Z", Cond.methodLink RL 17 yX8_name, Cond.instanceMethod yX8_name, Cond.selects RX8 yX8_name yX8_name, Cond.code yX8_name cX8_name 4 (some .boolean), Cond.constantLong RX8 89 (2), Cond.constantLong RX8 91 (31), Cond.methodLink RX8 85 yX8_isName, Cond.static yX8_isName, Cond.code yX8_isName cX8_isName 1 (some .boolean), Cond.constantLong RX8 83 (5), Cond.methodLink RX8 79 yX8_in, Cond.static yX8_in, Cond.code yX8_in cX8_in 6 (some .boolean), Cond.methodLink RL 18 yX7_span, Cond.instanceMethod yX7_span, Cond.selects RX7 yX7_span yX7_span, Cond.code yX7_span cX7_span 4 (some .boolean), Cond.fieldLink RX7 80 "SumsOver$Inputs" "from" "[I", Cond.fieldLink RX7 84 "SumsOver$Inputs" "to" "[I", Cond.methodLink RX7 77 yX7_isTold]
def wsL_law_r8 : List Cond := [Cond.static yX7_isTold, Cond.code yX7_isTold cX7_isTold 1 (some .boolean), Cond.constant RX7 194 (-100000), Cond.constant RX7 195 (100000), Cond.methodLink RL 22 yX8_span, Cond.instanceMethod yX8_span, Cond.selects RX8 yX8_span yX8_span, Cond.code yX8_span cX8_span 4 (some .boolean), Cond.constantLong RX8 93 (-100000), Cond.constantLong RX8 95 (100000), Cond.methodLink RL 23 yX7_step, Cond.instanceMethod yX7_step, Cond.selects RX7 yX7_step yX7_step, Cond.code yX7_step cX7_step 5 (some .int), Cond.fieldLink RX7 87 "SumsOver$Steps" "size" "I", Cond.methodLink RX7 91 yX7_canFollow, Cond.instanceMethod yX7_canFollow, Cond.selects RX7 yX7_canFollow yX7_canFollow, Cond.code yX7_canFollow cX7_canFollow 2 (some .boolean), Cond.methodLink RX7 196 yX4_inLoop, Cond.instanceMethod yX4_inLoop, Cond.selects RX4 yX4_inLoop yX4_inLoop, Cond.code yX4_inLoop cX4_inLoop 3 (some .boolean), Cond.fieldLink RX4 34 "SumsOver$Steps" "size" "I"]
def wsL_law_r9 : List Cond := [Cond.methodLink RX7 94 yX7_canBe, Cond.static yX7_canBe, Cond.code yX7_canBe cX7_canBe 4 (some .boolean), Cond.methodLink RX7 199 yX7_hasTarget, Cond.static yX7_hasTarget, Cond.code yX7_hasTarget cX7_hasTarget 1 (some .boolean), Cond.methodLink RX7 202 yX7_readsA, Cond.static yX7_readsA, Cond.code yX7_readsA cX7_readsA 1 (some .boolean), Cond.methodLink RX7 205 yX7_canBeB, Cond.static yX7_canBeB, Cond.code yX7_canBeB cX7_canBeB 2 (some .boolean), Cond.methodLink RX7 208 yX7_readsB, Cond.static yX7_readsB, Cond.code yX7_readsB cX7_readsB 1 (some .boolean), Cond.methodLink RX7 98 yX4_append, Cond.instanceMethod yX4_append, Cond.selects RX4 yX4_append yX4_append, Cond.code yX4_append cX4_append 5 none, Cond.methodLink RX4 48 yX4_retrace, Cond.instanceMethod yX4_retrace, Cond.selects RX4 yX4_retrace yX4_retrace, Cond.code yX4_retrace cX4_retrace 4 none, Cond.fieldLink RX4 51 "SumsOver$Steps" "pathLength" "I"]
def wsL_law_r10 : List Cond := [Cond.methodLink RX4 54 yX4_endOf, Cond.instanceMethod yX4_endOf, Cond.selects RX4 yX4_endOf yX4_endOf, Cond.code yX4_endOf cX4_endOf 3 (some .int), Cond.methodLink RX4 58 yX4_trace, Cond.instanceMethod yX4_trace, Cond.selects RX4 yX4_trace yX4_trace, Cond.code yX4_trace cX4_trace 4 none, Cond.methodLink RL 27 yX8_step, Cond.instanceMethod yX8_step, Cond.selects RX8 yX8_step yX8_step, Cond.code yX8_step cX8_step 5 (some .int), Cond.fieldLink RX8 75 "SumsOverModel" "steps" "I", Cond.methodLink RX8 103 yX8_canBe, Cond.instanceMethod yX8_canBe, Cond.selects RX8 yX8_canBe yX8_canBe, Cond.code yX8_canBe cX8_canBe 5 (some .boolean), Cond.constantLong RX8 97 (12), Cond.methodLink RX8 99 yX8_isOpen, Cond.instanceMethod yX8_isOpen, Cond.selects RX8 yX8_isOpen yX8_isOpen, Cond.code yX8_isOpen cX8_isOpen 3 (some .boolean), Cond.methodLink RL 28 yX7_back, Cond.instanceMethod yX7_back]
def wsL_law_r11 : List Cond := [Cond.selects RX7 yX7_back yX7_back, Cond.code yX7_back cX7_back 1 (some .boolean), Cond.methodLink RX7 102 yX4_dropLast, Cond.instanceMethod yX4_dropLast, Cond.selects RX4 yX4_dropLast yX4_dropLast, Cond.code yX4_dropLast cX4_dropLast 1 none, Cond.methodLink RL 32 yX8_back, Cond.instanceMethod yX8_back, Cond.selects RX8 yX8_back yX8_back, Cond.code yX8_back cX8_back 1 (some .boolean), Cond.methodLink RL 33 yX7_mode, Cond.instanceMethod yX7_mode, Cond.selects RX7 yX7_mode yX7_mode, Cond.code yX7_mode cX7_mode 2 (some .boolean), Cond.fieldLink RX7 105 "SumsOver$Names" "nearest" "Z", Cond.methodLink RL 37 yX8_mode, Cond.instanceMethod yX8_mode, Cond.selects RX8 yX8_mode yX8_mode, Cond.code yX8_mode cX8_mode 2 (some .boolean), Cond.fieldLink RX8 107 "SumsOverModel" "mode" "I", Cond.methodLink RL 38 yX7_run, Cond.instanceMethod yX7_run, Cond.selects RX7 yX7_run yX7_run, Cond.code yX7_run cX7_run 4 (some .int)]
def wsL_law_r12 : List Cond := [Cond.constant RX7 113 (-2147483648), Cond.fieldLink RX7 118 "SumsOver$Runner" "values" "[J", Cond.methodLink RX7 109 yX0_hold, Cond.instanceMethod yX0_hold, Cond.selects RX0 yX0_hold yX0_hold, Cond.code yX0_hold cX0_hold 3 (some .boolean), Cond.methodLink RX7 114 yX3_follow, Cond.instanceMethod yX3_follow, Cond.selects RX3 yX3_follow yX3_follow, Cond.code yX3_follow cX3_follow 4 none, Cond.fieldLink RX3 23 "SumsOver$Runner" "overBits" "I", Cond.fieldLink RX3 27 "SumsOver$Runner" "turnedBits" "I", Cond.fieldLink RX3 30 "SumsOver$Runner" "firstOver" "I", Cond.fieldLink RX3 45 "SumsOver$Steps" "pathLength" "I", Cond.fieldLink RX3 50 "SumsOver$Steps" "path" "[I", Cond.methodLink RX3 33 yJ7_fill_d0a16, Cond.static yJ7_fill_d0a16, Cond.initialized RJ7, Cond.code yJ7_fill_d0a16 cJ7_fill_d0a16 5 none, Cond.methodLink RX3 39 yX1_fitted, Cond.instanceMethod yX1_fitted, Cond.selects RX1 yX1_fitted yX1_fitted, Cond.code yX1_fitted cX1_fitted 4 (some .long), Cond.fieldLink RX1 37 "SumsOver$Names" "nearest" "Z"]
def wsL_law_r13 : List Cond := [Cond.methodLink RX1 41 yX1_nearestTo, Cond.instanceMethod yX1_nearestTo, Cond.selects RX1 yX1_nearestTo yX1_nearestTo, Cond.code yX1_nearestTo cX1_nearestTo 4 (some .long), Cond.methodLink RX1 48 Lib.MathLoose.min_long.x, Cond.static Lib.MathLoose.min_long.x, Cond.initialized "java/lang/Math", Cond.code Lib.MathLoose.min_long.x Lib.MathLoose.min_long.code 4 (some .long), Cond.methodLink RX1 54 Lib.MathLoose.max_long.x, Cond.static Lib.MathLoose.max_long.x, Cond.code Lib.MathLoose.max_long.x Lib.MathLoose.max_long.code 4 (some .long), Cond.methodLink RX1 45 yX1_wrapped, Cond.instanceMethod yX1_wrapped, Cond.selects RX1 yX1_wrapped yX1_wrapped, Cond.code yX1_wrapped cX1_wrapped 4 (some .long), Cond.methodLink RX1 57 yX1_rest, Cond.static yX1_rest, Cond.code yX1_rest cX1_rest 3 (some .long), Cond.methodLink RX3 54 yX3_perform, Cond.instanceMethod yX3_perform, Cond.selects RX3 yX3_perform yX3_perform, Cond.code yX3_perform cX3_perform 5 none, Cond.fieldLink RX3 58 "SumsOver$Steps" "targets" "[I", Cond.methodLink RX3 61 yX3_answer]
def wsL_law_r14 : List Cond := [Cond.instanceMethod yX3_answer, Cond.selects RX3 yX3_answer yX3_answer, Cond.code yX3_answer cX3_answer 11 (some .long), Cond.fieldLink RX3 72 "SumsOver$Steps" "kinds" "[I", Cond.fieldLink RX3 86 "SumsOver$Steps" "as" "[I", Cond.fieldLink RX3 89 "SumsOver$Steps" "bs" "[I", Cond.methodLink RX3 75 yX4_valueOfA, Cond.instanceMethod yX4_valueOfA, Cond.selects RX4 yX4_valueOfA yX4_valueOfA, Cond.code yX4_valueOfA cX4_valueOfA 3 (some .long), Cond.methodLink RX3 79 yX4_valueOfB, Cond.instanceMethod yX4_valueOfB, Cond.selects RX4 yX4_valueOfB yX4_valueOfB, Cond.code yX4_valueOfB cX4_valueOfB 3 (some .long), Cond.static yX7_made, Cond.code yX7_made cX7_made 5 (some .long), Cond.methodLink RX7 211 Lib.MathLoose.min_long.x, Cond.methodLink RX3 92 yX1_signedAlike, Cond.instanceMethod yX1_signedAlike, Cond.selects RX1 yX1_signedAlike yX1_signedAlike, Cond.code yX1_signedAlike cX1_signedAlike 3 (some .boolean), Cond.methodLink RX3 96 yX1_belowByRests, Cond.instanceMethod yX1_belowByRests, Cond.selects RX1 yX1_belowByRests yX1_belowByRests]
def wsL_law_r15 : List Cond := [Cond.code yX1_belowByRests cX1_belowByRests 8 (some .long), Cond.methodLink RX1 61 Lib.Math.max.name, Cond.static Lib.Math.max.name, Cond.code Lib.Math.max.name Lib.Math.max.code 2 (some .int), Cond.methodLink RX3 65 yX1_holds, Cond.instanceMethod yX1_holds, Cond.selects RX1 yX1_holds yX1_holds, Cond.code yX1_holds cX1_holds 4 (some .boolean), Cond.methodLink RX3 69 yX3_noteOver, Cond.instanceMethod yX3_noteOver, Cond.selects RX3 yX3_noteOver yX3_noteOver, Cond.code yX3_noteOver cX3_noteOver 2 none, Cond.methodLink RL 42 yX8_run, Cond.instanceMethod yX8_run, Cond.selects RX8 yX8_run yX8_run, Cond.code yX8_run cX8_run 4 (some .int), Cond.constant RX8 164 (-2147483648), Cond.methodLink RX8 160 yX8_isRun, Cond.instanceMethod yX8_isRun, Cond.selects RX8 yX8_isRun yX8_isRun, Cond.code yX8_isRun cX8_isRun 3 (some .boolean), Cond.methodLink RX8 150 yX8_lays, Cond.instanceMethod yX8_lays, Cond.selects RX8 yX8_lays yX8_lays]
def wsL_law_r16 : List Cond := [Cond.code yX8_lays cX8_lays 5 none, Cond.fieldLink RX8 110 "SumsOverModel" "lineMany" "I", Cond.methodLink RX8 156 yX8_runs, Cond.instanceMethod yX8_runs, Cond.selects RX8 yX8_runs yX8_runs, Cond.code yX8_runs cX8_runs 7 none, Cond.fieldLink RX8 136 "SumsOverModel" "firstOver" "I", Cond.methodLink RX8 139 yX8_put, Cond.instanceMethod yX8_put, Cond.selects RX8 yX8_put yX8_put, Cond.code yX8_put cX8_put 4 (some .long), Cond.methodLink RX8 113 yX8_low, Cond.instanceMethod yX8_low, Cond.selects RX8 yX8_low yX8_low, Cond.code yX8_low cX8_low 2 (some .long), Cond.methodLink RX8 117 yX8_high, Cond.instanceMethod yX8_high, Cond.selects RX8 yX8_high yX8_high, Cond.code yX8_high cX8_high 2 (some .long), Cond.methodLink RX8 120 yX8_rest, Cond.static yX8_rest, Cond.code yX8_rest cX8_rest 6 (some .long), Cond.methodLink RX8 143 yX8_valueOf, Cond.instanceMethod yX8_valueOf]
def wsL_law_r17 : List Cond := [Cond.selects RX8 yX8_valueOf yX8_valueOf, Cond.code yX8_valueOf cX8_valueOf 2 (some .long), Cond.methodLink RX8 130 Lib.MathLoose.min_long.x, Cond.methodLink RX8 133 yX8_belowOf, Cond.instanceMethod yX8_belowOf, Cond.selects RX8 yX8_belowOf yX8_belowOf, Cond.code yX8_belowOf cX8_belowOf 8 (some .boolean), Cond.methodLink RX8 124 Lib.Math.max.name, Cond.methodLink RX8 146 yX8_goesOver, Cond.instanceMethod yX8_goesOver, Cond.selects RX8 yX8_goesOver yX8_goesOver, Cond.code yX8_goesOver cX8_goesOver 4 (some .boolean), Cond.methodLink RL 43 yX7_first, Cond.instanceMethod yX7_first, Cond.selects RX7 yX7_first yX7_first, Cond.code yX7_first cX7_first 3 (some .int), Cond.fieldLink RX7 122 "SumsOver$Runner" "firstOver" "I", Cond.methodLink RL 47 yX8_first, Cond.instanceMethod yX8_first, Cond.selects RX8 yX8_first yX8_first, Cond.code yX8_first cX8_first 3 (some .int), Cond.methodLink RL 48 yX7_judge, Cond.instanceMethod yX7_judge, Cond.selects RX7 yX7_judge yX7_judge]
def wsL_law_r18 : List Cond := [Cond.code yX7_judge cX7_judge 2 (some .int), Cond.methodLink RX7 125 yX7_isStep, Cond.instanceMethod yX7_isStep, Cond.selects RX7 yX7_isStep yX7_isStep, Cond.code yX7_isStep cX7_isStep 2 (some .boolean), Cond.methodLink RX7 128 yX2_learn, Cond.instanceMethod yX2_learn, Cond.selects RX2 yX2_learn yX2_learn, Cond.code yX2_learn cX2_learn 2 none, Cond.fieldLink RX2 34 "SumsOver$Reach" "known" "Z", Cond.fieldLink RX2 30 "SumsOver$Reach" "couldBits" "I", Cond.fieldLink RX2 44 "SumsOver$Inputs" "from" "[I", Cond.fieldLink RX2 50 "SumsOver$Reach" "low" "J", Cond.fieldLink RX2 54 "SumsOver$Inputs" "to" "[I", Cond.fieldLink RX2 57 "SumsOver$Reach" "high" "J", Cond.fieldLink RX2 64 "SumsOver$Steps" "pathLength" "I", Cond.fieldLink RX2 69 "SumsOver$Steps" "path" "[I", Cond.methodLink RX2 38 yJ7_fill_d0a16, Cond.methodLink RX2 60 yX2_settle, Cond.instanceMethod yX2_settle, Cond.selects RX2 yX2_settle yX2_settle, Cond.code yX2_settle cX2_settle 2 none, Cond.fieldLink RX2 91 "SumsOver$Names" "nearest" "Z", Cond.fieldLink RX2 98 "SumsOver$Names" "least" "[J"]
def wsL_law_r19 : List Cond := [Cond.fieldLink RX2 99 "SumsOver$Names" "greatest" "[J", Cond.methodLink RX2 81 yX2_fits, Cond.instanceMethod yX2_fits, Cond.selects RX2 yX2_fits yX2_fits, Cond.code yX2_fits cX2_fits 2 (some .boolean), Cond.methodLink RX2 85 yX1_holds, Cond.methodLink RX2 94 yX1_nearestTo, Cond.methodLink RX2 72 yX2_perform, Cond.instanceMethod yX2_perform, Cond.selects RX2 yX2_perform yX2_perform, Cond.code yX2_perform cX2_perform 3 none, Cond.fieldLink RX2 75 "SumsOver$Steps" "targets" "[I", Cond.methodLink RX2 78 yX2_reckon, Cond.instanceMethod yX2_reckon, Cond.selects RX2 yX2_reckon yX2_reckon, Cond.code yX2_reckon cX2_reckon 12 none, Cond.fieldLink RX2 107 "SumsOver$Steps" "kinds" "[I", Cond.methodLink RX2 110 Lib.MathLoose.min_long.x, Cond.methodLink RX2 116 Lib.MathLoose.max_long.x, Cond.fieldLink RX2 119 "SumsOver$Steps" "as" "[I", Cond.fieldLink RX2 122 "SumsOver$Steps" "bs" "[I", Cond.methodLink RX2 100 yX4_valueOfA, Cond.methodLink RX2 104 yX4_valueOfB, Cond.methodLink RX2 125 yX1_signedAlike]
def wsL_law_r20 : List Cond := [Cond.methodLink RX7 131 yX5_learn, Cond.instanceMethod yX5_learn, Cond.selects RX5 yX5_learn yX5_learn, Cond.code yX5_learn cX5_learn 3 none, Cond.fieldLink RX5 29 "SumsOver$Tally" "known" "Z", Cond.fieldLink RX5 39 "SumsOver$Tally" "runsOver" "I", Cond.fieldLink RX5 43 "SumsOver$Inputs" "from" "[I", Cond.fieldLink RX5 48 "SumsOver$Inputs" "to" "[I", Cond.methodLink RX5 33 yJ7_fill_53178, Cond.static yJ7_fill_53178, Cond.code yJ7_fill_53178 cJ7_fill_53178 4 none, Cond.methodLink RX5 51 yX3_follow, Cond.methodLink RX5 57 yX5_note, Cond.instanceMethod yX5_note, Cond.selects RX5 yX5_note yX5_note, Cond.code yX5_note cX5_note 2 none, Cond.fieldLink RX5 61 "SumsOver$Runner" "overBits" "I", Cond.fieldLink RX5 67 "SumsOver$Runner" "turnedBits" "I", Cond.methodLink RX5 64 yX5_noteOver, Cond.instanceMethod yX5_noteOver, Cond.selects RX5 yX5_noteOver yX5_noteOver, Cond.code yX5_noteOver cX5_noteOver 4 none, Cond.methodLink RX5 70 yX5_noteTurned, Cond.instanceMethod yX5_noteTurned]
def wsL_law_r21 : List Cond := [Cond.selects RX5 yX5_noteTurned yX5_noteTurned, Cond.code yX5_noteTurned cX5_noteTurned 3 none, Cond.methodLink RX7 132 yX7_judged, Cond.instanceMethod yX7_judged, Cond.selects RX7 yX7_judged yX7_judged, Cond.code yX7_judged cX7_judged 2 (some .int), Cond.fieldLink RX7 136 "SumsOver$Tally" "over" "[I", Cond.methodLink RX7 220 yX2_couldGoOver, Cond.instanceMethod yX2_couldGoOver, Cond.selects RX2 yX2_couldGoOver yX2_couldGoOver, Cond.code yX2_couldGoOver cX2_couldGoOver 2 (some .boolean), Cond.methodLink RX7 184 yX0_runs, Cond.instanceMethod yX0_runs, Cond.selects RX0 yX0_runs yX0_runs, Cond.code yX0_runs cX0_runs 1 (some .int), Cond.methodLink RL 52 yX8_judge, Cond.instanceMethod yX8_judge, Cond.selects RX8 yX8_judge yX8_judge, Cond.code yX8_judge cX8_judge 2 (some .int), Cond.methodLink RX8 187 yX8_isStep, Cond.instanceMethod yX8_isStep, Cond.selects RX8 yX8_isStep yX8_isStep, Cond.code yX8_isStep cX8_isStep 2 (some .boolean), Cond.methodLink RX8 180 yX8_spans]
def wsL_law_r22 : List Cond := [Cond.instanceMethod yX8_spans, Cond.selects RX8 yX8_spans yX8_spans, Cond.code yX8_spans cX8_spans 3 none, Cond.methodLink RX8 167 yX8_ends, Cond.instanceMethod yX8_ends, Cond.selects RX8 yX8_ends yX8_ends, Cond.code yX8_ends cX8_ends 7 (some .boolean), Cond.methodLink RX8 177 yX8_goes, Cond.instanceMethod yX8_goes, Cond.selects RX8 yX8_goes yX8_goes, Cond.code yX8_goes cX8_goes 3 (some .boolean), Cond.methodLink RX8 171 yX8_products, Cond.instanceMethod yX8_products, Cond.selects RX8 yX8_products yX8_products, Cond.code yX8_products cX8_products 10 (some .boolean), Cond.methodLink RX8 165 Lib.MathLoose.max_long.x, Cond.methodLink RX8 174 yX8_belows, Cond.instanceMethod yX8_belows, Cond.selects RX8 yX8_belows yX8_belows, Cond.code yX8_belows cX8_belows 3 (some .boolean), Cond.methodLink RX8 190 yX8_all, Cond.instanceMethod yX8_all, Cond.selects RX8 yX8_all yX8_all, Cond.code yX8_all cX8_all 4 none]
def wsL_law_r23 : List Cond := [Cond.fieldLink RX8 153 "SumsOverModel" "runsOver" "I", Cond.methodLink RX8 193 yX8_judged, Cond.instanceMethod yX8_judged, Cond.selects RX8 yX8_judged yX8_judged, Cond.code yX8_judged cX8_judged 2 (some .int), Cond.methodLink RX8 183 yX8_many, Cond.instanceMethod yX8_many, Cond.selects RX8 yX8_many yX8_many, Cond.code yX8_many cX8_many 1 (some .int), Cond.methodLink RL 53 yX7_over, Cond.instanceMethod yX7_over, Cond.selects RX7 yX7_over yX7_over, Cond.code yX7_over cX7_over 2 (some .int), Cond.methodLink RL 56 yX8_over, Cond.instanceMethod yX8_over, Cond.selects RX8 yX8_over yX8_over, Cond.code yX8_over cX8_over 2 (some .int), Cond.methodLink RL 57 yX7_shown, Cond.instanceMethod yX7_shown, Cond.selects RX7 yX7_shown yX7_shown, Cond.code yX7_shown cX7_shown 2 (some .int), Cond.fieldLink RX7 139 "SumsOver$Tally" "shown" "[I", Cond.methodLink RL 60 yX8_shown, Cond.instanceMethod yX8_shown]
def wsL_law_r24 : List Cond := [Cond.selects RX8 yX8_shown yX8_shown, Cond.code yX8_shown cX8_shown 2 (some .int), Cond.methodLink RL 61 yX7_turned, Cond.instanceMethod yX7_turned, Cond.selects RX7 yX7_turned yX7_turned, Cond.code yX7_turned cX7_turned 2 (some .int), Cond.fieldLink RX7 142 "SumsOver$Steps" "kinds" "[I", Cond.fieldLink RX7 145 "SumsOver$Tally" "turned" "[I", Cond.methodLink RL 64 yX8_turned, Cond.instanceMethod yX8_turned, Cond.selects RX8 yX8_turned yX8_turned, Cond.code yX8_turned cX8_turned 2 (some .int), Cond.methodLink RL 65 yX7_ends, Cond.instanceMethod yX7_ends, Cond.selects RX7 yX7_ends yX7_ends, Cond.code yX7_ends cX7_ends 3 (some .int), Cond.fieldLink RX7 148 "SumsOver$Reach" "least" "[J", Cond.fieldLink RX7 151 "SumsOver$Reach" "greatest" "[J", Cond.methodLink RL 68 yX8_ends_, Cond.instanceMethod yX8_ends_, Cond.selects RX8 yX8_ends_ yX8_ends_, Cond.code yX8_ends_ cX8_ends_ 3 (some .int), Cond.methodLink RL 69 yX7_need, Cond.instanceMethod yX7_need]
def wsL_law_r25 : List Cond := [Cond.selects RX7 yX7_need yX7_need, Cond.code yX7_need cX7_need 2 (some .int), Cond.methodLink RX7 154 yX6_learn, Cond.instanceMethod yX6_learn, Cond.selects RX6 yX6_learn yX6_learn, Cond.code yX6_learn cX6_learn 3 none, Cond.fieldLink RX6 29 "SumsOver$Trues" "known" "Z", Cond.fieldLink RX6 33 "SumsOver$Trues" "tooFar" "Z", Cond.fieldLink RX6 42 "SumsOver$Inputs" "from" "[I", Cond.fieldLink RX6 48 "SumsOver$Inputs" "to" "[I", Cond.methodLink RX6 36 yJ7_fill_d0a16, Cond.methodLink RX6 51 yX6_follow, Cond.instanceMethod yX6_follow, Cond.selects RX6 yX6_follow yX6_follow, Cond.code yX6_follow cX6_follow 4 none, Cond.fieldLink RX6 59 "SumsOver$Steps" "pathLength" "I", Cond.fieldLink RX6 65 "SumsOver$Steps" "path" "[I", Cond.methodLink RX6 55 yX6_give, Cond.instanceMethod yX6_give, Cond.selects RX6 yX6_give yX6_give, Cond.code yX6_give cX6_give 4 none, Cond.methodLink RX6 101 Lib.MathLoose.min_long.x, Cond.methodLink RX6 105 Lib.MathLoose.max_long.x, Cond.methodLink RX6 93 Lib.MathLoose.abs_long.x]
def wsL_law_r26 : List Cond := [Cond.static Lib.MathLoose.abs_long.x, Cond.code Lib.MathLoose.abs_long.x Lib.MathLoose.abs_long.code 2 (some .long), Cond.constantLong RX6 99 (1099511627776), Cond.methodLink RX6 68 yX6_perform, Cond.instanceMethod yX6_perform, Cond.selects RX6 yX6_perform yX6_perform, Cond.code yX6_perform cX6_perform 7 none, Cond.fieldLink RX6 72 "SumsOver$Steps" "kinds" "[I", Cond.fieldLink RX6 86 "SumsOver$Steps" "targets" "[I", Cond.methodLink RX6 75 yX4_valueOfA, Cond.methodLink RX6 79 yX4_valueOfB, Cond.methodLink RX6 82 yX6_isProductTooFar, Cond.static yX6_isProductTooFar, Cond.code yX6_isProductTooFar cX6_isProductTooFar 4 (some .boolean), Cond.methodLink RX7 155 yX7_needed, Cond.instanceMethod yX7_needed, Cond.selects RX7 yX7_needed yX7_needed, Cond.code yX7_needed cX7_needed 4 (some .int), Cond.fieldLink RX7 223 "SumsOver$Trues" "tooFar" "Z", Cond.fieldLink RX7 171 "SumsOver$Names" "signs" "[Z", Cond.fieldLink RX7 226 "SumsOver$Trues" "least" "[J", Cond.fieldLink RX7 231 "SumsOver$Trues" "greatest" "[J", Cond.methodLink RX7 227 yX7_leastOf, Cond.methodLink RX7 232 yX7_greatestOf]
def wsL_law_r27 : List Cond := [Cond.methodLink RL 72 yX8_need, Cond.instanceMethod yX8_need, Cond.selects RX8 yX8_need yX8_need, Cond.code yX8_need cX8_need 2 (some .int), Cond.methodLink RX8 219 yX8_needs, Cond.instanceMethod yX8_needs, Cond.selects RX8 yX8_needs yX8_needs, Cond.code yX8_needs cX8_needs 4 (some .boolean), Cond.methodLink RX8 216 yX8_isNear, Cond.instanceMethod yX8_isNear, Cond.selects RX8 yX8_isNear yX8_isNear, Cond.code yX8_isNear cX8_isNear 7 (some .boolean), Cond.methodLink RX8 209 yX8_given, Cond.instanceMethod yX8_given, Cond.selects RX8 yX8_given yX8_given, Cond.code yX8_given cX8_given 4 (some .boolean), Cond.methodLink RX8 205 yX8_isFar, Cond.static yX8_isFar, Cond.code yX8_isFar cX8_isFar 2 (some .boolean), Cond.constantLong RX8 197 (-1099511627776), Cond.constantLong RX8 199 (1099511627776), Cond.methodLink RX8 212 yX8_isFarProduct, Cond.static yX8_isFarProduct, Cond.code yX8_isFarProduct cX8_isFarProduct 8 (some .boolean)]
def wsL_law_r28 : List Cond := [Cond.methodLink RX8 201 Lib.MathLoose.abs_long.x, Cond.methodLink RX8 222 yX8_needOf, Cond.instanceMethod yX8_needOf, Cond.selects RX8 yX8_needOf yX8_needOf, Cond.code yX8_needOf cX8_needOf 7 (some .int), Cond.methodLink RL 73 yX7_price, Cond.instanceMethod yX7_price, Cond.selects RX7 yX7_price yX7_price, Cond.code yX7_price cX7_price 3 (some .int), Cond.fieldLink RX7 162 "SumsOver$Names" "widths" "[I", Cond.methodLink RX7 165 Lib.Math.max.name, Cond.methodLink RX7 158 yX7_canMend, Cond.instanceMethod yX7_canMend, Cond.selects RX7 yX7_canMend yX7_canMend, Cond.code yX7_canMend cX7_canMend 2 (some .boolean), Cond.methodLink RL 77 yX8_price, Cond.instanceMethod yX8_price, Cond.selects RX8 yX8_price yX8_price, Cond.code yX8_price cX8_price 4 (some .int), Cond.methodLink RL 78 yX7_mend, Cond.instanceMethod yX7_mend, Cond.selects RX7 yX7_mend yX7_mend, Cond.code yX7_mend cX7_mend 4 (some .int), Cond.methodLink RL 81 yX8_mend]
def wsL_law_r29 : List Cond := [Cond.instanceMethod yX8_mend, Cond.selects RX8 yX8_mend yX8_mend, Cond.code yX8_mend cX8_mend 4 (some .int), Cond.methodLink RX8 225 yX8_price, Cond.methodLink RL 82 yX7_mean, Cond.instanceMethod yX7_mean, Cond.selects RX7 yX7_mean yX7_mean, Cond.code yX7_mean cX7_mean 3 (some .boolean), Cond.fieldLink RX7 175 "SumsOver$Steps" "meant" "[Z", Cond.methodLink RL 86 yX8_mean, Cond.instanceMethod yX8_mean, Cond.selects RX8 yX8_mean yX8_mean, Cond.code yX8_mean cX8_mean 3 (some .boolean), Cond.methodLink RL 87 yX7_listed, Cond.instanceMethod yX7_listed, Cond.selects RX7 yX7_listed yX7_listed, Cond.code yX7_listed cX7_listed 3 (some .int), Cond.methodLink RX7 178 yX7_isListed, Cond.instanceMethod yX7_isListed, Cond.selects RX7 yX7_isListed yX7_isListed, Cond.code yX7_isListed cX7_isListed 2 (some .boolean), Cond.methodLink RX7 181 yX7_listedBefore, Cond.instanceMethod yX7_listedBefore, Cond.selects RX7 yX7_listedBefore yX7_listedBefore]
def wsL_law_r30 : List Cond := [Cond.code yX7_listedBefore cX7_listedBefore 4 (some .int), Cond.methodLink RX7 235 yX7_comesBefore, Cond.instanceMethod yX7_comesBefore, Cond.selects RX7 yX7_comesBefore yX7_comesBefore, Cond.code yX7_comesBefore cX7_comesBefore 3 (some .boolean), Cond.methodLink RL 90 yX8_listed, Cond.instanceMethod yX8_listed, Cond.selects RX8 yX8_listed yX8_listed, Cond.code yX8_listed cX8_listed 5 (some .int), Cond.methodLink RL 91 yX7_count, Cond.instanceMethod yX7_count, Cond.selects RX7 yX7_count yX7_count, Cond.code yX7_count cX7_count 2 (some .int), Cond.fieldLink RX7 188 "SumsOver$Tally" "runsOver" "I", Cond.methodLink RX7 191 yX4_marks, Cond.instanceMethod yX4_marks, Cond.selects RX4 yX4_marks yX4_marks, Cond.code yX4_marks cX4_marks 3 (some .int), Cond.methodLink RL 94 yX8_count, Cond.instanceMethod yX8_count, Cond.selects RX8 yX8_count yX8_count, Cond.code yX8_count cX8_count 4 (some .int), Cond.constantLong RX8 228 (10), Cond.constantLong RX8 230 (15)]
def wsL_law_r31 : List Cond := [Cond.constantLong RX8 232 (20), Cond.constantLong RX8 234 (25)]
def wsL_law : List Cond := (wsL_law_r1 ++ (wsL_law_r2 ++ (wsL_law_r3 ++ (wsL_law_r4 ++ (wsL_law_r5 ++ (wsL_law_r6 ++ (wsL_law_r7 ++ (wsL_law_r8 ++ (wsL_law_r9 ++ (wsL_law_r10 ++ (wsL_law_r11 ++ (wsL_law_r12 ++ (wsL_law_r13 ++ (wsL_law_r14 ++ (wsL_law_r15 ++ (wsL_law_r16 ++ (wsL_law_r17 ++ (wsL_law_r18 ++ (wsL_law_r19 ++ (wsL_law_r20 ++ (wsL_law_r21 ++ (wsL_law_r22 ++ (wsL_law_r23 ++ (wsL_law_r24 ++ (wsL_law_r25 ++ (wsL_law_r26 ++ (wsL_law_r27 ++ (wsL_law_r28 ++ (wsL_law_r29 ++ (wsL_law_r30 ++ wsL_law_r31)))))))))))))))))))))))))))))) ++ wsX70 ++ wsX80 ++ wsX10 ++ wsX00 ++ wsX40 ++ wsX30 ++ wsX50 ++ wsX20 ++ wsX60 ++ ([] : List Cond)
theorem inlX0 : ∀ w ∈ wsX00, w ∈ wsL_law := fun _ h => List.mem_append_left _ (List.mem_append_left _ (List.mem_append_left _ (List.mem_append_left _ (List.mem_append_left _ (List.mem_append_left _ (List.mem_append_right _ h))))))
theorem inlX1 : ∀ w ∈ wsX10, w ∈ wsL_law := fun _ h => List.mem_append_left _ (List.mem_append_left _ (List.mem_append_left _ (List.mem_append_left _ (List.mem_append_left _ (List.mem_append_left _ (List.mem_append_left _ (List.mem_append_right _ h)))))))
theorem inlX2 : ∀ w ∈ wsX20, w ∈ wsL_law := fun _ h => List.mem_append_left _ (List.mem_append_left _ (List.mem_append_right _ h))
theorem inlX3 : ∀ w ∈ wsX30, w ∈ wsL_law := fun _ h => List.mem_append_left _ (List.mem_append_left _ (List.mem_append_left _ (List.mem_append_left _ (List.mem_append_right _ h))))
theorem inlX4 : ∀ w ∈ wsX40, w ∈ wsL_law := fun _ h => List.mem_append_left _ (List.mem_append_left _ (List.mem_append_left _ (List.mem_append_left _ (List.mem_append_left _ (List.mem_append_right _ h)))))
theorem inlX5 : ∀ w ∈ wsX50, w ∈ wsL_law := fun _ h => List.mem_append_left _ (List.mem_append_left _ (List.mem_append_left _ (List.mem_append_right _ h)))
theorem inlX6 : ∀ w ∈ wsX60, w ∈ wsL_law := fun _ h => List.mem_append_left _ (List.mem_append_right _ h)
theorem inlX7 : ∀ w ∈ wsX70, w ∈ wsL_law := fun _ h => List.mem_append_left _ (List.mem_append_left _ (List.mem_append_left _ (List.mem_append_left _ (List.mem_append_left _ (List.mem_append_left _ (List.mem_append_left _ (List.mem_append_left _ (List.mem_append_left _ (List.mem_append_right _ h)))))))))
theorem inlX8 : ∀ w ∈ wsX80, w ∈ wsL_law := fun _ h => List.mem_append_left _ (List.mem_append_left _ (List.mem_append_left _ (List.mem_append_left _ (List.mem_append_left _ (List.mem_append_left _ (List.mem_append_left _ (List.mem_append_left _ (List.mem_append_right _ h))))))))
theorem inJ9 : ∀ w ∈ wsJ90, w ∈ lw_tbl := by decide +kernel
theorem inJ7 : ∀ w ∈ wsJ70, w ∈ lw_tbl := by decide +kernel
theorem dX0_init_0 : decode cX0_init 0 = .ok (.aload_n 0, 1) := by decide +kernel
theorem dX0_init_1 : decode cX0_init 1 = .ok (.invokespecial 3, 3) := by decide +kernel
theorem dX0_init_4 : decode cX0_init 4 = .ok (.aload_n 0, 1) := by decide +kernel
theorem dX0_init_5 : decode cX0_init 5 = .ok (.iconst 2, 1) := by decide +kernel
theorem dX0_init_6 : decode cX0_init 6 = .ok (.newarray .int, 2) := by decide +kernel
theorem dX0_init_8 : decode cX0_init 8 = .ok (.putfield 9, 3) := by decide +kernel
theorem dX0_init_11 : decode cX0_init 11 = .ok (.aload_n 0, 1) := by decide +kernel
theorem dX0_init_12 : decode cX0_init 12 = .ok (.iconst 2, 1) := by decide +kernel
theorem dX0_init_13 : decode cX0_init 13 = .ok (.newarray .int, 2) := by decide +kernel
theorem dX0_init_15 : decode cX0_init 15 = .ok (.putfield 15, 3) := by decide +kernel
theorem dX0_init_18 : decode cX0_init 18 = .ok (.return_, 1) := by decide +kernel
theorem dX0_hold_0 : decode cX0_hold 0 = .ok (.iload_n 1, 1) := by decide +kernel
theorem dX0_hold_1 : decode cX0_hold 1 = .ok (.aload_n 0, 1) := by decide +kernel
theorem dX0_hold_2 : decode cX0_hold 2 = .ok (.getfield 9, 3) := by decide +kernel
theorem dX0_hold_5 : decode cX0_hold 5 = .ok (.iconst 0, 1) := by decide +kernel
theorem dX0_hold_6 : decode cX0_hold 6 = .ok (.iaload, 1) := by decide +kernel
theorem dX0_hold_7 : decode cX0_hold 7 = .ok (.if_icmp .lt 37, 3) := by decide +kernel
theorem dX0_hold_10 : decode cX0_hold 10 = .ok (.iload_n 1, 1) := by decide +kernel
theorem dX0_hold_11 : decode cX0_hold 11 = .ok (.aload_n 0, 1) := by decide +kernel
theorem dX0_hold_12 : decode cX0_hold 12 = .ok (.getfield 15, 3) := by decide +kernel
theorem dX0_hold_15 : decode cX0_hold 15 = .ok (.iconst 0, 1) := by decide +kernel
theorem dX0_hold_16 : decode cX0_hold 16 = .ok (.iaload, 1) := by decide +kernel
theorem dX0_hold_17 : decode cX0_hold 17 = .ok (.if_icmp .gt 27, 3) := by decide +kernel
theorem dX0_hold_20 : decode cX0_hold 20 = .ok (.iload_n 2, 1) := by decide +kernel
theorem dX0_hold_21 : decode cX0_hold 21 = .ok (.aload_n 0, 1) := by decide +kernel
theorem dX0_hold_22 : decode cX0_hold 22 = .ok (.getfield 9, 3) := by decide +kernel
theorem dX0_hold_25 : decode cX0_hold 25 = .ok (.iconst 1, 1) := by decide +kernel
theorem dX0_hold_26 : decode cX0_hold 26 = .ok (.iaload, 1) := by decide +kernel
theorem dX0_hold_27 : decode cX0_hold 27 = .ok (.if_icmp .lt 17, 3) := by decide +kernel
theorem dX0_hold_30 : decode cX0_hold 30 = .ok (.iload_n 2, 1) := by decide +kernel
theorem dX0_hold_31 : decode cX0_hold 31 = .ok (.aload_n 0, 1) := by decide +kernel
theorem dX0_hold_32 : decode cX0_hold 32 = .ok (.getfield 15, 3) := by decide +kernel
theorem dX0_hold_35 : decode cX0_hold 35 = .ok (.iconst 1, 1) := by decide +kernel
theorem dX0_hold_36 : decode cX0_hold 36 = .ok (.iaload, 1) := by decide +kernel
theorem dX0_hold_37 : decode cX0_hold 37 = .ok (.if_icmp .gt 7, 3) := by decide +kernel
theorem dX0_hold_40 : decode cX0_hold 40 = .ok (.iconst 1, 1) := by decide +kernel
theorem dX0_hold_41 : decode cX0_hold 41 = .ok (.goto 4, 3) := by decide +kernel
theorem dX0_hold_44 : decode cX0_hold 44 = .ok (.iconst 0, 1) := by decide +kernel
theorem dX0_hold_45 : decode cX0_hold 45 = .ok (.ireturn, 1) := by decide +kernel
theorem dX0_runs_0 : decode cX0_runs 0 = .ok (.aload_n 0, 1) := by decide +kernel
theorem dX0_runs_1 : decode cX0_runs 1 = .ok (.getfield 15, 3) := by decide +kernel
theorem dX0_runs_4 : decode cX0_runs 4 = .ok (.iconst 0, 1) := by decide +kernel
theorem dX0_runs_5 : decode cX0_runs 5 = .ok (.iaload, 1) := by decide +kernel
theorem dX0_runs_6 : decode cX0_runs 6 = .ok (.aload_n 0, 1) := by decide +kernel
theorem dX0_runs_7 : decode cX0_runs 7 = .ok (.getfield 9, 3) := by decide +kernel
theorem dX0_runs_10 : decode cX0_runs 10 = .ok (.iconst 0, 1) := by decide +kernel
theorem dX0_runs_11 : decode cX0_runs 11 = .ok (.iaload, 1) := by decide +kernel
theorem dX0_runs_12 : decode cX0_runs 12 = .ok (.isub, 1) := by decide +kernel
theorem dX0_runs_13 : decode cX0_runs 13 = .ok (.iconst 1, 1) := by decide +kernel
theorem dX0_runs_14 : decode cX0_runs 14 = .ok (.iadd, 1) := by decide +kernel
theorem dX0_runs_15 : decode cX0_runs 15 = .ok (.aload_n 0, 1) := by decide +kernel
theorem dX0_runs_16 : decode cX0_runs 16 = .ok (.getfield 15, 3) := by decide +kernel
theorem dX0_runs_19 : decode cX0_runs 19 = .ok (.iconst 1, 1) := by decide +kernel
theorem dX0_runs_20 : decode cX0_runs 20 = .ok (.iaload, 1) := by decide +kernel
theorem dX0_runs_21 : decode cX0_runs 21 = .ok (.aload_n 0, 1) := by decide +kernel
theorem dX0_runs_22 : decode cX0_runs 22 = .ok (.getfield 9, 3) := by decide +kernel
theorem dX0_runs_25 : decode cX0_runs 25 = .ok (.iconst 1, 1) := by decide +kernel
theorem dX0_runs_26 : decode cX0_runs 26 = .ok (.iaload, 1) := by decide +kernel
theorem dX0_runs_27 : decode cX0_runs 27 = .ok (.isub, 1) := by decide +kernel
theorem dX0_runs_28 : decode cX0_runs 28 = .ok (.iconst 1, 1) := by decide +kernel
theorem dX0_runs_29 : decode cX0_runs 29 = .ok (.iadd, 1) := by decide +kernel
theorem dX0_runs_30 : decode cX0_runs 30 = .ok (.imul, 1) := by decide +kernel
theorem dX0_runs_31 : decode cX0_runs 31 = .ok (.ireturn, 1) := by decide +kernel
set_option maxRecDepth 20000 in
theorem ggX1_init_X1_tell : GoodIn wsX1_init wsX1_tell := goodIn_r _ [15, 5, 7, 9, 10, 16, 17, 18, 19, 20, 21, 22, 23, 24, 25] (by decide +kernel) (by decide +kernel)
set_option maxRecDepth 20000 in
theorem gX1_init_X1_tell : GoodIn wsX1_init (wsV RX1 26 RX1 yX1_tell wsX1_tell) := goodIn_app (goodIn_of _ (by decide +kernel)) ggX1_init_X1_tell
theorem dX1_init_0 : decode cX1_init 0 = .ok (.aload_n 0, 1) := by decide +kernel
theorem dX1_init_1 : decode cX1_init 1 = .ok (.invokespecial 3, 3) := by decide +kernel
theorem dX1_init_4 : decode cX1_init 4 = .ok (.aload_n 0, 1) := by decide +kernel
theorem dX1_init_5 : decode cX1_init 5 = .ok (.bipush 6, 2) := by decide +kernel
theorem dX1_init_7 : decode cX1_init 7 = .ok (.newarray .int, 2) := by decide +kernel
theorem dX1_init_9 : decode cX1_init 9 = .ok (.putfield 9, 3) := by decide +kernel
theorem dX1_init_12 : decode cX1_init 12 = .ok (.aload_n 0, 1) := by decide +kernel
theorem dX1_init_13 : decode cX1_init 13 = .ok (.bipush 6, 2) := by decide +kernel
theorem dX1_init_15 : decode cX1_init 15 = .ok (.newarray .boolean, 2) := by decide +kernel
theorem dX1_init_17 : decode cX1_init 17 = .ok (.putfield 15, 3) := by decide +kernel
theorem dX1_init_20 : decode cX1_init 20 = .ok (.aload_n 0, 1) := by decide +kernel
theorem dX1_init_21 : decode cX1_init 21 = .ok (.bipush 6, 2) := by decide +kernel
theorem dX1_init_23 : decode cX1_init 23 = .ok (.newarray .long, 2) := by decide +kernel
theorem dX1_init_25 : decode cX1_init 25 = .ok (.putfield 19, 3) := by decide +kernel
theorem dX1_init_28 : decode cX1_init 28 = .ok (.aload_n 0, 1) := by decide +kernel
theorem dX1_init_29 : decode cX1_init 29 = .ok (.bipush 6, 2) := by decide +kernel
theorem dX1_init_31 : decode cX1_init 31 = .ok (.newarray .long, 2) := by decide +kernel
theorem dX1_init_33 : decode cX1_init 33 = .ok (.putfield 23, 3) := by decide +kernel
theorem dX1_init_36 : decode cX1_init 36 = .ok (.iconst 0, 1) := by decide +kernel
theorem dX1_init_37 : decode cX1_init 37 = .ok (.istore_n 1, 1) := by decide +kernel
theorem dX1_init_38 : decode cX1_init 38 = .ok (.iload_n 1, 1) := by decide +kernel
theorem dX1_init_39 : decode cX1_init 39 = .ok (.bipush 6, 2) := by decide +kernel
theorem dX1_init_41 : decode cX1_init 41 = .ok (.if_icmp .ge 17, 3) := by decide +kernel
theorem dX1_init_44 : decode cX1_init 44 = .ok (.aload_n 0, 1) := by decide +kernel
theorem dX1_init_45 : decode cX1_init 45 = .ok (.iload_n 1, 1) := by decide +kernel
theorem dX1_init_46 : decode cX1_init 46 = .ok (.bipush 16, 2) := by decide +kernel
theorem dX1_init_48 : decode cX1_init 48 = .ok (.iconst 1, 1) := by decide +kernel
theorem dX1_init_49 : decode cX1_init 49 = .ok (.invokevirtual 26, 3) := by decide +kernel
theorem dX1_init_52 : decode cX1_init 52 = .ok (.iinc 1 1, 3) := by decide +kernel
theorem dX1_init_55 : decode cX1_init 55 = .ok (.goto (-17), 3) := by decide +kernel
theorem dX1_init_58 : decode cX1_init 58 = .ok (.return_, 1) := by decide +kernel
set_option maxRecDepth 20000 in
theorem ggX1_tell_X7_leastOf : GoodIn wsX1_tell wsX7_leastOf := goodIn_r _ [7] (by decide +kernel) (by decide +kernel)
set_option maxRecDepth 20000 in
theorem gX1_tell_X7_leastOf_n30 : GoodIn wsX1_tell (wsX7_leastOf) := ggX1_tell_X7_leastOf
set_option maxRecDepth 20000 in
theorem ggX1_tell_X7_greatestOf : GoodIn wsX1_tell wsX7_greatestOf := goodIn_r _ [9] (by decide +kernel) (by decide +kernel)
set_option maxRecDepth 20000 in
theorem gX1_tell_X7_greatestOf_n34 : GoodIn wsX1_tell (wsX7_greatestOf) := ggX1_tell_X7_greatestOf
theorem dX1_tell_0 : decode cX1_tell 0 = .ok (.aload_n 0, 1) := by decide +kernel
theorem dX1_tell_1 : decode cX1_tell 1 = .ok (.getfield 9, 3) := by decide +kernel
theorem dX1_tell_4 : decode cX1_tell 4 = .ok (.iload_n 1, 1) := by decide +kernel
theorem dX1_tell_5 : decode cX1_tell 5 = .ok (.iload_n 2, 1) := by decide +kernel
theorem dX1_tell_6 : decode cX1_tell 6 = .ok (.iastore, 1) := by decide +kernel
theorem dX1_tell_7 : decode cX1_tell 7 = .ok (.aload_n 0, 1) := by decide +kernel
theorem dX1_tell_8 : decode cX1_tell 8 = .ok (.getfield 15, 3) := by decide +kernel
theorem dX1_tell_11 : decode cX1_tell 11 = .ok (.iload_n 1, 1) := by decide +kernel
theorem dX1_tell_12 : decode cX1_tell 12 = .ok (.iload_n 3, 1) := by decide +kernel
theorem dX1_tell_13 : decode cX1_tell 13 = .ok (.bastore, 1) := by decide +kernel
theorem dX1_tell_14 : decode cX1_tell 14 = .ok (.aload_n 0, 1) := by decide +kernel
theorem dX1_tell_15 : decode cX1_tell 15 = .ok (.getfield 19, 3) := by decide +kernel
theorem dX1_tell_18 : decode cX1_tell 18 = .ok (.iload_n 1, 1) := by decide +kernel
theorem dX1_tell_19 : decode cX1_tell 19 = .ok (.iload_n 2, 1) := by decide +kernel
theorem dX1_tell_20 : decode cX1_tell 20 = .ok (.iload_n 3, 1) := by decide +kernel
theorem dX1_tell_21 : decode cX1_tell 21 = .ok (.invokestatic 30, 3) := by decide +kernel
theorem dX1_tell_24 : decode cX1_tell 24 = .ok (.lastore, 1) := by decide +kernel
theorem dX1_tell_25 : decode cX1_tell 25 = .ok (.aload_n 0, 1) := by decide +kernel
theorem dX1_tell_26 : decode cX1_tell 26 = .ok (.getfield 23, 3) := by decide +kernel
theorem dX1_tell_29 : decode cX1_tell 29 = .ok (.iload_n 1, 1) := by decide +kernel
theorem dX1_tell_30 : decode cX1_tell 30 = .ok (.iload_n 2, 1) := by decide +kernel
theorem dX1_tell_31 : decode cX1_tell 31 = .ok (.iload_n 3, 1) := by decide +kernel
theorem dX1_tell_32 : decode cX1_tell 32 = .ok (.invokestatic 34, 3) := by decide +kernel
theorem dX1_tell_35 : decode cX1_tell 35 = .ok (.lastore, 1) := by decide +kernel
theorem dX1_tell_36 : decode cX1_tell 36 = .ok (.return_, 1) := by decide +kernel
theorem dX1_holds_0 : decode cX1_holds 0 = .ok (.lload_n 2, 1) := by decide +kernel
theorem dX1_holds_1 : decode cX1_holds 1 = .ok (.aload_n 0, 1) := by decide +kernel
theorem dX1_holds_2 : decode cX1_holds 2 = .ok (.getfield 19, 3) := by decide +kernel
theorem dX1_holds_5 : decode cX1_holds 5 = .ok (.iload_n 1, 1) := by decide +kernel
theorem dX1_holds_6 : decode cX1_holds 6 = .ok (.laload, 1) := by decide +kernel
theorem dX1_holds_7 : decode cX1_holds 7 = .ok (.lcmp, 1) := by decide +kernel
theorem dX1_holds_8 : decode cX1_holds 8 = .ok (.ifCond .lt 18, 3) := by decide +kernel
theorem dX1_holds_11 : decode cX1_holds 11 = .ok (.lload_n 2, 1) := by decide +kernel
theorem dX1_holds_12 : decode cX1_holds 12 = .ok (.aload_n 0, 1) := by decide +kernel
theorem dX1_holds_13 : decode cX1_holds 13 = .ok (.getfield 23, 3) := by decide +kernel
theorem dX1_holds_16 : decode cX1_holds 16 = .ok (.iload_n 1, 1) := by decide +kernel
theorem dX1_holds_17 : decode cX1_holds 17 = .ok (.laload, 1) := by decide +kernel
theorem dX1_holds_18 : decode cX1_holds 18 = .ok (.lcmp, 1) := by decide +kernel
theorem dX1_holds_19 : decode cX1_holds 19 = .ok (.ifCond .gt 7, 3) := by decide +kernel
theorem dX1_holds_22 : decode cX1_holds 22 = .ok (.iconst 1, 1) := by decide +kernel
theorem dX1_holds_23 : decode cX1_holds 23 = .ok (.goto 4, 3) := by decide +kernel
theorem dX1_holds_26 : decode cX1_holds 26 = .ok (.iconst 0, 1) := by decide +kernel
theorem dX1_holds_27 : decode cX1_holds 27 = .ok (.ireturn, 1) := by decide +kernel
set_option maxRecDepth 20000 in
theorem ggX1_fitted_X1_nearestTo : GoodIn wsX1_fitted wsX1_nearestTo := goodIn_r _ [6, 7, 8, 9, 10, 11, 12, 13, 14, 15, 24, 25, 26, 27, 28] (by decide +kernel) (by decide +kernel)
set_option maxRecDepth 20000 in
theorem gX1_fitted_X1_nearestTo : GoodIn wsX1_fitted (wsV RX1 41 RX1 yX1_nearestTo wsX1_nearestTo) := goodIn_app (goodIn_of _ (by decide +kernel)) ggX1_fitted_X1_nearestTo
set_option maxRecDepth 20000 in
theorem ggX1_fitted_X1_wrapped : GoodIn wsX1_fitted wsX1_wrapped := goodIn_r _ [19, 7, 20, 21, 22, 5, 23, 24, 25, 26, 27, 28] (by decide +kernel) (by decide +kernel)
set_option maxRecDepth 20000 in
theorem gX1_fitted_X1_wrapped : GoodIn wsX1_fitted (wsV RX1 45 RX1 yX1_wrapped wsX1_wrapped) := goodIn_app (goodIn_of _ (by decide +kernel)) ggX1_fitted_X1_wrapped
theorem dX1_fitted_0 : decode cX1_fitted 0 = .ok (.aload_n 0, 1) := by decide +kernel
theorem dX1_fitted_1 : decode cX1_fitted 1 = .ok (.getfield 37, 3) := by decide +kernel
theorem dX1_fitted_4 : decode cX1_fitted 4 = .ok (.ifCond .eq 12, 3) := by decide +kernel
theorem dX1_fitted_7 : decode cX1_fitted 7 = .ok (.aload_n 0, 1) := by decide +kernel
theorem dX1_fitted_8 : decode cX1_fitted 8 = .ok (.iload_n 1, 1) := by decide +kernel
theorem dX1_fitted_9 : decode cX1_fitted 9 = .ok (.lload_n 2, 1) := by decide +kernel
theorem dX1_fitted_10 : decode cX1_fitted 10 = .ok (.invokevirtual 41, 3) := by decide +kernel
theorem dX1_fitted_13 : decode cX1_fitted 13 = .ok (.goto 9, 3) := by decide +kernel
theorem dX1_fitted_16 : decode cX1_fitted 16 = .ok (.aload_n 0, 1) := by decide +kernel
theorem dX1_fitted_17 : decode cX1_fitted 17 = .ok (.iload_n 1, 1) := by decide +kernel
theorem dX1_fitted_18 : decode cX1_fitted 18 = .ok (.lload_n 2, 1) := by decide +kernel
theorem dX1_fitted_19 : decode cX1_fitted 19 = .ok (.invokevirtual 45, 3) := by decide +kernel
theorem dX1_fitted_22 : decode cX1_fitted 22 = .ok (.lreturn, 1) := by decide +kernel
theorem dX1_nearestTo_0 : decode cX1_nearestTo 0 = .ok (.aload_n 0, 1) := by decide +kernel
theorem dX1_nearestTo_1 : decode cX1_nearestTo 1 = .ok (.getfield 19, 3) := by decide +kernel
theorem dX1_nearestTo_4 : decode cX1_nearestTo 4 = .ok (.iload_n 1, 1) := by decide +kernel
theorem dX1_nearestTo_5 : decode cX1_nearestTo 5 = .ok (.laload, 1) := by decide +kernel
theorem dX1_nearestTo_6 : decode cX1_nearestTo 6 = .ok (.aload_n 0, 1) := by decide +kernel
theorem dX1_nearestTo_7 : decode cX1_nearestTo 7 = .ok (.getfield 23, 3) := by decide +kernel
theorem dX1_nearestTo_10 : decode cX1_nearestTo 10 = .ok (.iload_n 1, 1) := by decide +kernel
theorem dX1_nearestTo_11 : decode cX1_nearestTo 11 = .ok (.laload, 1) := by decide +kernel
theorem dX1_nearestTo_12 : decode cX1_nearestTo 12 = .ok (.lload_n 2, 1) := by decide +kernel
theorem dX1_nearestTo_13 : decode cX1_nearestTo 13 = .ok (.invokestatic 48, 3) := by decide +kernel
theorem dX1_nearestTo_16 : decode cX1_nearestTo 16 = .ok (.invokestatic 54, 3) := by decide +kernel
theorem dX1_nearestTo_19 : decode cX1_nearestTo 19 = .ok (.lreturn, 1) := by decide +kernel
set_option maxRecDepth 20000 in
theorem ggX1_wrapped_X1_rest : GoodIn wsX1_wrapped wsX1_rest := goodIn_r _ [6] (by decide +kernel) (by decide +kernel)
set_option maxRecDepth 20000 in
theorem gX1_wrapped_X1_rest : GoodIn wsX1_wrapped (va_wsS RX1 57 yX1_rest wsX1_rest) := goodIn_app (goodIn_of _ (by decide +kernel)) ggX1_wrapped_X1_rest
theorem dX1_wrapped_0 : decode cX1_wrapped 0 = .ok (.aload_n 0, 1) := by decide +kernel
theorem dX1_wrapped_1 : decode cX1_wrapped 1 = .ok (.getfield 19, 3) := by decide +kernel
theorem dX1_wrapped_4 : decode cX1_wrapped 4 = .ok (.iload_n 1, 1) := by decide +kernel
theorem dX1_wrapped_5 : decode cX1_wrapped 5 = .ok (.laload, 1) := by decide +kernel
theorem dX1_wrapped_6 : decode cX1_wrapped 6 = .ok (.lload_n 2, 1) := by decide +kernel
theorem dX1_wrapped_7 : decode cX1_wrapped 7 = .ok (.aload_n 0, 1) := by decide +kernel
theorem dX1_wrapped_8 : decode cX1_wrapped 8 = .ok (.getfield 19, 3) := by decide +kernel
theorem dX1_wrapped_11 : decode cX1_wrapped 11 = .ok (.iload_n 1, 1) := by decide +kernel
theorem dX1_wrapped_12 : decode cX1_wrapped 12 = .ok (.laload, 1) := by decide +kernel
theorem dX1_wrapped_13 : decode cX1_wrapped 13 = .ok (.lsub, 1) := by decide +kernel
theorem dX1_wrapped_14 : decode cX1_wrapped 14 = .ok (.aload_n 0, 1) := by decide +kernel
theorem dX1_wrapped_15 : decode cX1_wrapped 15 = .ok (.getfield 9, 3) := by decide +kernel
theorem dX1_wrapped_18 : decode cX1_wrapped 18 = .ok (.iload_n 1, 1) := by decide +kernel
theorem dX1_wrapped_19 : decode cX1_wrapped 19 = .ok (.iaload, 1) := by decide +kernel
theorem dX1_wrapped_20 : decode cX1_wrapped 20 = .ok (.invokestatic 57, 3) := by decide +kernel
theorem dX1_wrapped_23 : decode cX1_wrapped 23 = .ok (.ladd, 1) := by decide +kernel
theorem dX1_wrapped_24 : decode cX1_wrapped 24 = .ok (.lreturn, 1) := by decide +kernel
theorem dX1_signedAlike_0 : decode cX1_signedAlike 0 = .ok (.aload_n 0, 1) := by decide +kernel
theorem dX1_signedAlike_1 : decode cX1_signedAlike 1 = .ok (.getfield 15, 3) := by decide +kernel
theorem dX1_signedAlike_4 : decode cX1_signedAlike 4 = .ok (.iload_n 1, 1) := by decide +kernel
theorem dX1_signedAlike_5 : decode cX1_signedAlike 5 = .ok (.baload, 1) := by decide +kernel
theorem dX1_signedAlike_6 : decode cX1_signedAlike 6 = .ok (.aload_n 0, 1) := by decide +kernel
theorem dX1_signedAlike_7 : decode cX1_signedAlike 7 = .ok (.getfield 15, 3) := by decide +kernel
theorem dX1_signedAlike_10 : decode cX1_signedAlike 10 = .ok (.iload_n 2, 1) := by decide +kernel
theorem dX1_signedAlike_11 : decode cX1_signedAlike 11 = .ok (.baload, 1) := by decide +kernel
theorem dX1_signedAlike_12 : decode cX1_signedAlike 12 = .ok (.if_icmp .ne 7, 3) := by decide +kernel
theorem dX1_signedAlike_15 : decode cX1_signedAlike 15 = .ok (.iconst 1, 1) := by decide +kernel
theorem dX1_signedAlike_16 : decode cX1_signedAlike 16 = .ok (.goto 4, 3) := by decide +kernel
theorem dX1_signedAlike_19 : decode cX1_signedAlike 19 = .ok (.iconst 0, 1) := by decide +kernel
theorem dX1_signedAlike_20 : decode cX1_signedAlike 20 = .ok (.ireturn, 1) := by decide +kernel
set_option maxRecDepth 20000 in
theorem ggX1_belowByRests_X1_rest : GoodIn wsX1_belowByRests wsX1_rest := goodIn_r _ [9] (by decide +kernel) (by decide +kernel)
set_option maxRecDepth 20000 in
theorem gX1_belowByRests_X1_rest : GoodIn wsX1_belowByRests (va_wsS RX1 57 yX1_rest wsX1_rest) := goodIn_app (goodIn_of _ (by decide +kernel)) ggX1_belowByRests_X1_rest
theorem dX1_belowByRests_0 : decode cX1_belowByRests 0 = .ok (.aload_n 0, 1) := by decide +kernel
theorem dX1_belowByRests_1 : decode cX1_belowByRests 1 = .ok (.getfield 9, 3) := by decide +kernel
theorem dX1_belowByRests_4 : decode cX1_belowByRests 4 = .ok (.iload_n 1, 1) := by decide +kernel
theorem dX1_belowByRests_5 : decode cX1_belowByRests 5 = .ok (.iaload, 1) := by decide +kernel
theorem dX1_belowByRests_6 : decode cX1_belowByRests 6 = .ok (.aload_n 0, 1) := by decide +kernel
theorem dX1_belowByRests_7 : decode cX1_belowByRests 7 = .ok (.getfield 9, 3) := by decide +kernel
theorem dX1_belowByRests_10 : decode cX1_belowByRests 10 = .ok (.iload_n 2, 1) := by decide +kernel
theorem dX1_belowByRests_11 : decode cX1_belowByRests 11 = .ok (.iaload, 1) := by decide +kernel
theorem dX1_belowByRests_12 : decode cX1_belowByRests 12 = .ok (.invokestatic 61, 3) := by decide +kernel
theorem dX1_belowByRests_15 : decode cX1_belowByRests 15 = .ok (.istore 7, 2) := by decide +kernel
theorem dX1_belowByRests_17 : decode cX1_belowByRests 17 = .ok (.lload_n 3, 1) := by decide +kernel
theorem dX1_belowByRests_18 : decode cX1_belowByRests 18 = .ok (.iload 7, 2) := by decide +kernel
theorem dX1_belowByRests_20 : decode cX1_belowByRests 20 = .ok (.invokestatic 57, 3) := by decide +kernel
theorem dX1_belowByRests_23 : decode cX1_belowByRests 23 = .ok (.lload 5, 2) := by decide +kernel
theorem dX1_belowByRests_25 : decode cX1_belowByRests 25 = .ok (.iload 7, 2) := by decide +kernel
theorem dX1_belowByRests_27 : decode cX1_belowByRests 27 = .ok (.invokestatic 57, 3) := by decide +kernel
theorem dX1_belowByRests_30 : decode cX1_belowByRests 30 = .ok (.lcmp, 1) := by decide +kernel
theorem dX1_belowByRests_31 : decode cX1_belowByRests 31 = .ok (.ifCond .ge 7, 3) := by decide +kernel
theorem dX1_belowByRests_34 : decode cX1_belowByRests 34 = .ok (.lconst 1, 1) := by decide +kernel
theorem dX1_belowByRests_35 : decode cX1_belowByRests 35 = .ok (.goto 4, 3) := by decide +kernel
theorem dX1_belowByRests_38 : decode cX1_belowByRests 38 = .ok (.lconst 0, 1) := by decide +kernel
theorem dX1_belowByRests_39 : decode cX1_belowByRests 39 = .ok (.lreturn, 1) := by decide +kernel
theorem dX1_rest_0 : decode cX1_rest 0 = .ok (.lload_n 0, 1) := by decide +kernel
theorem dX1_rest_1 : decode cX1_rest 1 = .ok (.lconst 1, 1) := by decide +kernel
theorem dX1_rest_2 : decode cX1_rest 2 = .ok (.iload_n 2, 1) := by decide +kernel
theorem dX1_rest_3 : decode cX1_rest 3 = .ok (.lshl, 1) := by decide +kernel
theorem dX1_rest_4 : decode cX1_rest 4 = .ok (.lconst 1, 1) := by decide +kernel
theorem dX1_rest_5 : decode cX1_rest 5 = .ok (.lsub, 1) := by decide +kernel
theorem dX1_rest_6 : decode cX1_rest 6 = .ok (.land, 1) := by decide +kernel
theorem dX1_rest_7 : decode cX1_rest 7 = .ok (.lreturn, 1) := by decide +kernel
theorem dX2_init_0 : decode cX2_init 0 = .ok (.aload_n 0, 1) := by decide +kernel
theorem dX2_init_1 : decode cX2_init 1 = .ok (.invokespecial 3, 3) := by decide +kernel
theorem dX2_init_4 : decode cX2_init 4 = .ok (.aload_n 0, 1) := by decide +kernel
theorem dX2_init_5 : decode cX2_init 5 = .ok (.bipush 6, 2) := by decide +kernel
theorem dX2_init_7 : decode cX2_init 7 = .ok (.newarray .long, 2) := by decide +kernel
end
section
theorem dX2_init_9 : decode cX2_init 9 = .ok (.putfield 9, 3) := by decide +kernel
theorem dX2_init_12 : decode cX2_init 12 = .ok (.aload_n 0, 1) := by decide +kernel
theorem dX2_init_13 : decode cX2_init 13 = .ok (.bipush 6, 2) := by decide +kernel
theorem dX2_init_15 : decode cX2_init 15 = .ok (.newarray .long, 2) := by decide +kernel
theorem dX2_init_17 : decode cX2_init 17 = .ok (.putfield 15, 3) := by decide +kernel
theorem dX2_init_20 : decode cX2_init 20 = .ok (.aload_n 0, 1) := by decide +kernel
theorem dX2_init_21 : decode cX2_init 21 = .ok (.aload_n 1, 1) := by decide +kernel
theorem dX2_init_22 : decode cX2_init 22 = .ok (.putfield 18, 3) := by decide +kernel
theorem dX2_init_25 : decode cX2_init 25 = .ok (.aload_n 0, 1) := by decide +kernel
theorem dX2_init_26 : decode cX2_init 26 = .ok (.aload_n 2, 1) := by decide +kernel
theorem dX2_init_27 : decode cX2_init 27 = .ok (.putfield 22, 3) := by decide +kernel
theorem dX2_init_30 : decode cX2_init 30 = .ok (.aload_n 0, 1) := by decide +kernel
theorem dX2_init_31 : decode cX2_init 31 = .ok (.aload_n 3, 1) := by decide +kernel
theorem dX2_init_32 : decode cX2_init 32 = .ok (.putfield 26, 3) := by decide +kernel
theorem dX2_init_35 : decode cX2_init 35 = .ok (.return_, 1) := by decide +kernel
theorem dX2_couldGoOver_0 : decode cX2_couldGoOver 0 = .ok (.aload_n 0, 1) := by decide +kernel
theorem dX2_couldGoOver_1 : decode cX2_couldGoOver 1 = .ok (.getfield 30, 3) := by decide +kernel
theorem dX2_couldGoOver_4 : decode cX2_couldGoOver 4 = .ok (.iload_n 1, 1) := by decide +kernel
theorem dX2_couldGoOver_5 : decode cX2_couldGoOver 5 = .ok (.ishr, 1) := by decide +kernel
theorem dX2_couldGoOver_6 : decode cX2_couldGoOver 6 = .ok (.iconst 1, 1) := by decide +kernel
theorem dX2_couldGoOver_7 : decode cX2_couldGoOver 7 = .ok (.iand, 1) := by decide +kernel
theorem dX2_couldGoOver_8 : decode cX2_couldGoOver 8 = .ok (.iconst 1, 1) := by decide +kernel
theorem dX2_couldGoOver_9 : decode cX2_couldGoOver 9 = .ok (.if_icmp .ne 7, 3) := by decide +kernel
theorem dX2_couldGoOver_12 : decode cX2_couldGoOver 12 = .ok (.iconst 1, 1) := by decide +kernel
theorem dX2_couldGoOver_13 : decode cX2_couldGoOver 13 = .ok (.goto 4, 3) := by decide +kernel
theorem dX2_couldGoOver_16 : decode cX2_couldGoOver 16 = .ok (.iconst 0, 1) := by decide +kernel
theorem dX2_couldGoOver_17 : decode cX2_couldGoOver 17 = .ok (.ireturn, 1) := by decide +kernel
set_option maxRecDepth 20000 in
theorem ggX2_learn_J7_fill_d0a16 : GoodIn wsX2_learn wsJ7_fill_d0a16 := goodIn_r _ [16] (by decide +kernel) (by decide +kernel)
set_option maxRecDepth 20000 in
theorem gX2_learn_J7_fill_d0a16 : GoodIn wsX2_learn (va_wsS RX2 38 yJ7_fill_d0a16 wsJ7_fill_d0a16) := goodIn_app (goodIn_of _ (by decide +kernel)) ggX2_learn_J7_fill_d0a16
set_option maxRecDepth 20000 in
theorem ggX2_learn_X2_settle : GoodIn wsX2_learn wsX2_settle := goodIn_r _ [21, 3, 7, 4, 9, 22, 23, 24, 25, 26, 27, 28, 20, 29, 30, 31, 32, 33, 34, 35, 36, 37, 38, 39, 40, 41, 42, 43, 44, 45, 46, 47, 83, 84, 85, 86, 87, 88, 89, 90, 91, 103, 104, 105, 106, 107] (by decide +kernel) (by decide +kernel)
set_option maxRecDepth 20000 in
theorem gX2_learn_X2_settle : GoodIn wsX2_learn (wsV RX2 60 RX2 yX2_settle wsX2_settle) := goodIn_app (goodIn_of _ (by decide +kernel)) ggX2_learn_X2_settle
set_option maxRecDepth 20000 in
theorem ggX2_learn_X2_perform : GoodIn wsX2_learn wsX2_perform := goodIn_r _ [51, 10, 52, 2, 53, 54, 55, 20, 56, 3, 4, 57, 7, 9, 58, 42, 43, 44, 59, 46, 47, 22, 60, 61, 62, 63, 64, 65, 66, 67, 68, 69, 70, 71, 72, 73, 74, 75, 76, 33, 77, 78, 79, 80, 81, 82, 26, 27, 28, 29, 30, 31, 32, 34, 35, 36, 17, 18, 19, 21, 23, 24, 25, 37, 38, 39, 40, 41, 45, 83, 84, 85, 86, 87, 88, 89, 90, 91, 94, 95, 96, 97, 98, 99, 100, 101, 102, 103, 104, 105, 106, 107] (by decide +kernel) (by decide +kernel)
set_option maxRecDepth 20000 in
theorem gX2_learn_X2_perform : GoodIn wsX2_learn (wsV RX2 72 RX2 yX2_perform wsX2_perform) := goodIn_app (goodIn_of _ (by decide +kernel)) ggX2_learn_X2_perform
theorem dX2_learn_0 : decode cX2_learn 0 = .ok (.aload_n 0, 1) := by decide +kernel
theorem dX2_learn_1 : decode cX2_learn 1 = .ok (.getfield 34, 3) := by decide +kernel
theorem dX2_learn_4 : decode cX2_learn 4 = .ok (.ifCond .eq 4, 3) := by decide +kernel
theorem dX2_learn_7 : decode cX2_learn 7 = .ok (.return_, 1) := by decide +kernel
theorem dX2_learn_8 : decode cX2_learn 8 = .ok (.aload_n 0, 1) := by decide +kernel
theorem dX2_learn_9 : decode cX2_learn 9 = .ok (.iconst 1, 1) := by decide +kernel
theorem dX2_learn_10 : decode cX2_learn 10 = .ok (.putfield 34, 3) := by decide +kernel
theorem dX2_learn_13 : decode cX2_learn 13 = .ok (.aload_n 0, 1) := by decide +kernel
theorem dX2_learn_14 : decode cX2_learn 14 = .ok (.iconst 0, 1) := by decide +kernel
theorem dX2_learn_15 : decode cX2_learn 15 = .ok (.putfield 30, 3) := by decide +kernel
theorem dX2_learn_18 : decode cX2_learn 18 = .ok (.aload_n 0, 1) := by decide +kernel
theorem dX2_learn_19 : decode cX2_learn 19 = .ok (.getfield 9, 3) := by decide +kernel
theorem dX2_learn_22 : decode cX2_learn 22 = .ok (.lconst 0, 1) := by decide +kernel
theorem dX2_learn_23 : decode cX2_learn 23 = .ok (.invokestatic 38, 3) := by decide +kernel
theorem dX2_learn_26 : decode cX2_learn 26 = .ok (.aload_n 0, 1) := by decide +kernel
theorem dX2_learn_27 : decode cX2_learn 27 = .ok (.getfield 15, 3) := by decide +kernel
theorem dX2_learn_30 : decode cX2_learn 30 = .ok (.lconst 0, 1) := by decide +kernel
theorem dX2_learn_31 : decode cX2_learn 31 = .ok (.invokestatic 38, 3) := by decide +kernel
theorem dX2_learn_34 : decode cX2_learn 34 = .ok (.iconst 0, 1) := by decide +kernel
theorem dX2_learn_35 : decode cX2_learn 35 = .ok (.istore_n 1, 1) := by decide +kernel
theorem dX2_learn_36 : decode cX2_learn 36 = .ok (.iload_n 1, 1) := by decide +kernel
theorem dX2_learn_37 : decode cX2_learn 37 = .ok (.iconst 2, 1) := by decide +kernel
theorem dX2_learn_38 : decode cX2_learn 38 = .ok (.if_icmp .ge 42, 3) := by decide +kernel
theorem dX2_learn_41 : decode cX2_learn 41 = .ok (.aload_n 0, 1) := by decide +kernel
theorem dX2_learn_42 : decode cX2_learn 42 = .ok (.aload_n 0, 1) := by decide +kernel
theorem dX2_learn_43 : decode cX2_learn 43 = .ok (.getfield 26, 3) := by decide +kernel
theorem dX2_learn_46 : decode cX2_learn 46 = .ok (.getfield 44, 3) := by decide +kernel
theorem dX2_learn_49 : decode cX2_learn 49 = .ok (.iload_n 1, 1) := by decide +kernel
theorem dX2_learn_50 : decode cX2_learn 50 = .ok (.iaload, 1) := by decide +kernel
theorem dX2_learn_51 : decode cX2_learn 51 = .ok (.i2l, 1) := by decide +kernel
theorem dX2_learn_52 : decode cX2_learn 52 = .ok (.putfield 50, 3) := by decide +kernel
theorem dX2_learn_55 : decode cX2_learn 55 = .ok (.aload_n 0, 1) := by decide +kernel
theorem dX2_learn_56 : decode cX2_learn 56 = .ok (.aload_n 0, 1) := by decide +kernel
theorem dX2_learn_57 : decode cX2_learn 57 = .ok (.getfield 26, 3) := by decide +kernel
theorem dX2_learn_60 : decode cX2_learn 60 = .ok (.getfield 54, 3) := by decide +kernel
theorem dX2_learn_63 : decode cX2_learn 63 = .ok (.iload_n 1, 1) := by decide +kernel
theorem dX2_learn_64 : decode cX2_learn 64 = .ok (.iaload, 1) := by decide +kernel
theorem dX2_learn_65 : decode cX2_learn 65 = .ok (.i2l, 1) := by decide +kernel
theorem dX2_learn_66 : decode cX2_learn 66 = .ok (.putfield 57, 3) := by decide +kernel
theorem dX2_learn_69 : decode cX2_learn 69 = .ok (.aload_n 0, 1) := by decide +kernel
theorem dX2_learn_70 : decode cX2_learn 70 = .ok (.iload_n 1, 1) := by decide +kernel
theorem dX2_learn_71 : decode cX2_learn 71 = .ok (.invokevirtual 60, 3) := by decide +kernel
theorem dX2_learn_74 : decode cX2_learn 74 = .ok (.iinc 1 1, 3) := by decide +kernel
theorem dX2_learn_77 : decode cX2_learn 77 = .ok (.goto (-41), 3) := by decide +kernel
theorem dX2_learn_80 : decode cX2_learn 80 = .ok (.iconst 0, 1) := by decide +kernel
theorem dX2_learn_81 : decode cX2_learn 81 = .ok (.istore_n 1, 1) := by decide +kernel
theorem dX2_learn_82 : decode cX2_learn 82 = .ok (.iload_n 1, 1) := by decide +kernel
theorem dX2_learn_83 : decode cX2_learn 83 = .ok (.aload_n 0, 1) := by decide +kernel
theorem dX2_learn_84 : decode cX2_learn 84 = .ok (.getfield 22, 3) := by decide +kernel
theorem dX2_learn_87 : decode cX2_learn 87 = .ok (.getfield 64, 3) := by decide +kernel
theorem dX2_learn_90 : decode cX2_learn 90 = .ok (.if_icmp .ge 22, 3) := by decide +kernel
theorem dX2_learn_93 : decode cX2_learn 93 = .ok (.aload_n 0, 1) := by decide +kernel
theorem dX2_learn_94 : decode cX2_learn 94 = .ok (.aload_n 0, 1) := by decide +kernel
theorem dX2_learn_95 : decode cX2_learn 95 = .ok (.getfield 22, 3) := by decide +kernel
theorem dX2_learn_98 : decode cX2_learn 98 = .ok (.getfield 69, 3) := by decide +kernel
theorem dX2_learn_101 : decode cX2_learn 101 = .ok (.iload_n 1, 1) := by decide +kernel
theorem dX2_learn_102 : decode cX2_learn 102 = .ok (.iaload, 1) := by decide +kernel
theorem dX2_learn_103 : decode cX2_learn 103 = .ok (.invokevirtual 72, 3) := by decide +kernel
theorem dX2_learn_106 : decode cX2_learn 106 = .ok (.iinc 1 1, 3) := by decide +kernel
theorem dX2_learn_109 : decode cX2_learn 109 = .ok (.goto (-27), 3) := by decide +kernel
theorem dX2_learn_112 : decode cX2_learn 112 = .ok (.return_, 1) := by decide +kernel
set_option maxRecDepth 20000 in
theorem ggX2_perform_X2_reckon : GoodIn wsX2_perform wsX2_reckon := goodIn_r _ [8, 1, 9, 10, 11, 12, 13, 14, 15, 16, 17, 18, 19, 20, 21, 22, 23, 24, 25, 26, 27, 28, 29, 30, 31, 32, 33, 34, 35, 36, 37, 38, 39, 40, 41, 42, 43, 44, 45, 69, 70, 71, 72, 73, 74, 75, 76, 77, 78, 79, 80, 81, 82, 83, 84, 85, 86, 87, 88, 89, 90, 91] (by decide +kernel) (by decide +kernel)
set_option maxRecDepth 20000 in
theorem gX2_perform_X2_reckon : GoodIn wsX2_perform (wsV RX2 78 RX2 yX2_reckon wsX2_reckon) := goodIn_app (goodIn_of _ (by decide +kernel)) ggX2_perform_X2_reckon
set_option maxRecDepth 20000 in
theorem ggX2_perform_X2_fits : GoodIn wsX2_perform wsX2_fits := goodIn_r _ [49, 21, 12, 13, 50, 51, 52, 39, 53, 54, 55, 69, 70, 71, 72, 73, 74, 75, 76, 77, 87, 88, 89, 90, 91] (by decide +kernel) (by decide +kernel)
set_option maxRecDepth 20000 in
theorem gX2_perform_X2_fits : GoodIn wsX2_perform (wsV RX2 81 RX2 yX2_fits wsX2_fits) := goodIn_app (goodIn_of _ (by decide +kernel)) ggX2_perform_X2_fits
set_option maxRecDepth 20000 in
theorem ggX2_perform_X2_settle : GoodIn wsX2_perform wsX2_settle := goodIn_r _ [59, 9, 12, 10, 13, 21, 60, 61, 62, 46, 47, 48, 7, 49, 50, 51, 52, 39, 53, 54, 55, 63, 64, 65, 66, 67, 15, 16, 17, 68, 19, 20, 69, 70, 71, 72, 73, 74, 75, 76, 77, 87, 88, 89, 90, 91] (by decide +kernel) (by decide +kernel)
set_option maxRecDepth 20000 in
theorem gX2_perform_X2_settle : GoodIn wsX2_perform (wsV RX2 60 RX2 yX2_settle wsX2_settle) := goodIn_app (goodIn_of _ (by decide +kernel)) ggX2_perform_X2_settle
theorem dX2_perform_0 : decode cX2_perform 0 = .ok (.aload_n 0, 1) := by decide +kernel
theorem dX2_perform_1 : decode cX2_perform 1 = .ok (.getfield 22, 3) := by decide +kernel
theorem dX2_perform_4 : decode cX2_perform 4 = .ok (.getfield 75, 3) := by decide +kernel
theorem dX2_perform_7 : decode cX2_perform 7 = .ok (.iload_n 1, 1) := by decide +kernel
theorem dX2_perform_8 : decode cX2_perform 8 = .ok (.iaload, 1) := by decide +kernel
theorem dX2_perform_9 : decode cX2_perform 9 = .ok (.istore_n 2, 1) := by decide +kernel
theorem dX2_perform_10 : decode cX2_perform 10 = .ok (.aload_n 0, 1) := by decide +kernel
theorem dX2_perform_11 : decode cX2_perform 11 = .ok (.iload_n 1, 1) := by decide +kernel
theorem dX2_perform_12 : decode cX2_perform 12 = .ok (.invokevirtual 78, 3) := by decide +kernel
theorem dX2_perform_15 : decode cX2_perform 15 = .ok (.aload_n 0, 1) := by decide +kernel
theorem dX2_perform_16 : decode cX2_perform 16 = .ok (.iload_n 2, 1) := by decide +kernel
theorem dX2_perform_17 : decode cX2_perform 17 = .ok (.invokevirtual 81, 3) := by decide +kernel
theorem dX2_perform_20 : decode cX2_perform 20 = .ok (.ifCond .ne 15, 3) := by decide +kernel
theorem dX2_perform_23 : decode cX2_perform 23 = .ok (.aload_n 0, 1) := by decide +kernel
theorem dX2_perform_24 : decode cX2_perform 24 = .ok (.dup, 1) := by decide +kernel
theorem dX2_perform_25 : decode cX2_perform 25 = .ok (.getfield 30, 3) := by decide +kernel
theorem dX2_perform_28 : decode cX2_perform 28 = .ok (.iconst 1, 1) := by decide +kernel
theorem dX2_perform_29 : decode cX2_perform 29 = .ok (.iload_n 1, 1) := by decide +kernel
theorem dX2_perform_30 : decode cX2_perform 30 = .ok (.ishl, 1) := by decide +kernel
theorem dX2_perform_31 : decode cX2_perform 31 = .ok (.ior, 1) := by decide +kernel
theorem dX2_perform_32 : decode cX2_perform 32 = .ok (.putfield 30, 3) := by decide +kernel
theorem dX2_perform_35 : decode cX2_perform 35 = .ok (.aload_n 0, 1) := by decide +kernel
theorem dX2_perform_36 : decode cX2_perform 36 = .ok (.iload_n 2, 1) := by decide +kernel
theorem dX2_perform_37 : decode cX2_perform 37 = .ok (.invokevirtual 60, 3) := by decide +kernel
theorem dX2_perform_40 : decode cX2_perform 40 = .ok (.return_, 1) := by decide +kernel
set_option maxRecDepth 20000 in
theorem ggX2_fits_X1_holds : GoodIn wsX2_fits wsX1_holds := goodIn_r _ [8, 9, 10, 20, 21, 22, 23, 24] (by decide +kernel) (by decide +kernel)
set_option maxRecDepth 20000 in
theorem gX2_fits_X1_holds : GoodIn wsX2_fits (wsV RX2 85 RX1 yX1_holds wsX1_holds) := goodIn_app (goodIn_of _ (by decide +kernel)) ggX2_fits_X1_holds
theorem dX2_fits_0 : decode cX2_fits 0 = .ok (.aload_n 0, 1) := by decide +kernel
theorem dX2_fits_1 : decode cX2_fits 1 = .ok (.getfield 18, 3) := by decide +kernel
theorem dX2_fits_4 : decode cX2_fits 4 = .ok (.iload_n 1, 1) := by decide +kernel
theorem dX2_fits_5 : decode cX2_fits 5 = .ok (.aload_n 0, 1) := by decide +kernel
theorem dX2_fits_6 : decode cX2_fits 6 = .ok (.getfield 50, 3) := by decide +kernel
theorem dX2_fits_9 : decode cX2_fits 9 = .ok (.invokevirtual 85, 3) := by decide +kernel
theorem dX2_fits_12 : decode cX2_fits 12 = .ok (.ifCond .eq 22, 3) := by decide +kernel
theorem dX2_fits_15 : decode cX2_fits 15 = .ok (.aload_n 0, 1) := by decide +kernel
theorem dX2_fits_16 : decode cX2_fits 16 = .ok (.getfield 18, 3) := by decide +kernel
theorem dX2_fits_19 : decode cX2_fits 19 = .ok (.iload_n 1, 1) := by decide +kernel
theorem dX2_fits_20 : decode cX2_fits 20 = .ok (.aload_n 0, 1) := by decide +kernel
theorem dX2_fits_21 : decode cX2_fits 21 = .ok (.getfield 57, 3) := by decide +kernel
theorem dX2_fits_24 : decode cX2_fits 24 = .ok (.invokevirtual 85, 3) := by decide +kernel
theorem dX2_fits_27 : decode cX2_fits 27 = .ok (.ifCond .eq 7, 3) := by decide +kernel
theorem dX2_fits_30 : decode cX2_fits 30 = .ok (.iconst 1, 1) := by decide +kernel
theorem dX2_fits_31 : decode cX2_fits 31 = .ok (.goto 4, 3) := by decide +kernel
theorem dX2_fits_34 : decode cX2_fits 34 = .ok (.iconst 0, 1) := by decide +kernel
theorem dX2_fits_35 : decode cX2_fits 35 = .ok (.ireturn, 1) := by decide +kernel
set_option maxRecDepth 20000 in
theorem ggX2_settle_X2_fits : GoodIn wsX2_settle wsX2_fits := goodIn_r _ [13, 5, 2, 4, 14, 15, 16, 17, 18, 19, 20, 32, 33, 34, 35, 36, 37, 38, 39, 40, 41, 42, 43, 44, 45] (by decide +kernel) (by decide +kernel)
set_option maxRecDepth 20000 in
theorem gX2_settle_X2_fits : GoodIn wsX2_settle (wsV RX2 81 RX2 yX2_fits wsX2_fits) := goodIn_app (goodIn_of _ (by decide +kernel)) ggX2_settle_X2_fits
set_option maxRecDepth 20000 in
theorem ggX2_settle_X1_nearestTo : GoodIn wsX2_settle wsX1_nearestTo := goodIn_r _ [24, 19, 20, 25, 26, 27, 28, 29, 30, 31, 41, 42, 43, 44, 45] (by decide +kernel) (by decide +kernel)
set_option maxRecDepth 20000 in
theorem gX2_settle_X1_nearestTo : GoodIn wsX2_settle (wsV RX2 94 RX1 yX1_nearestTo wsX1_nearestTo) := goodIn_app (goodIn_of _ (by decide +kernel)) ggX2_settle_X1_nearestTo
theorem dX2_settle_0 : decode cX2_settle 0 = .ok (.aload_n 0, 1) := by decide +kernel
theorem dX2_settle_1 : decode cX2_settle 1 = .ok (.iload_n 1, 1) := by decide +kernel
theorem dX2_settle_2 : decode cX2_settle 2 = .ok (.invokevirtual 81, 3) := by decide +kernel
theorem dX2_settle_5 : decode cX2_settle 5 = .ok (.ifCond .eq 26, 3) := by decide +kernel
theorem dX2_settle_8 : decode cX2_settle 8 = .ok (.aload_n 0, 1) := by decide +kernel
theorem dX2_settle_9 : decode cX2_settle 9 = .ok (.getfield 9, 3) := by decide +kernel
theorem dX2_settle_12 : decode cX2_settle 12 = .ok (.iload_n 1, 1) := by decide +kernel
theorem dX2_settle_13 : decode cX2_settle 13 = .ok (.aload_n 0, 1) := by decide +kernel
theorem dX2_settle_14 : decode cX2_settle 14 = .ok (.getfield 50, 3) := by decide +kernel
theorem dX2_settle_17 : decode cX2_settle 17 = .ok (.lastore, 1) := by decide +kernel
theorem dX2_settle_18 : decode cX2_settle 18 = .ok (.aload_n 0, 1) := by decide +kernel
theorem dX2_settle_19 : decode cX2_settle 19 = .ok (.getfield 15, 3) := by decide +kernel
theorem dX2_settle_22 : decode cX2_settle 22 = .ok (.iload_n 1, 1) := by decide +kernel
theorem dX2_settle_23 : decode cX2_settle 23 = .ok (.aload_n 0, 1) := by decide +kernel
theorem dX2_settle_24 : decode cX2_settle 24 = .ok (.getfield 57, 3) := by decide +kernel
theorem dX2_settle_27 : decode cX2_settle 27 = .ok (.lastore, 1) := by decide +kernel
theorem dX2_settle_28 : decode cX2_settle 28 = .ok (.goto 82, 3) := by decide +kernel
theorem dX2_settle_31 : decode cX2_settle 31 = .ok (.aload_n 0, 1) := by decide +kernel
theorem dX2_settle_32 : decode cX2_settle 32 = .ok (.getfield 18, 3) := by decide +kernel
theorem dX2_settle_35 : decode cX2_settle 35 = .ok (.getfield 91, 3) := by decide +kernel
theorem dX2_settle_38 : decode cX2_settle 38 = .ok (.ifCond .eq 42, 3) := by decide +kernel
theorem dX2_settle_41 : decode cX2_settle 41 = .ok (.aload_n 0, 1) := by decide +kernel
theorem dX2_settle_42 : decode cX2_settle 42 = .ok (.getfield 9, 3) := by decide +kernel
theorem dX2_settle_45 : decode cX2_settle 45 = .ok (.iload_n 1, 1) := by decide +kernel
theorem dX2_settle_46 : decode cX2_settle 46 = .ok (.aload_n 0, 1) := by decide +kernel
theorem dX2_settle_47 : decode cX2_settle 47 = .ok (.getfield 18, 3) := by decide +kernel
theorem dX2_settle_50 : decode cX2_settle 50 = .ok (.iload_n 1, 1) := by decide +kernel
theorem dX2_settle_51 : decode cX2_settle 51 = .ok (.aload_n 0, 1) := by decide +kernel
theorem dX2_settle_52 : decode cX2_settle 52 = .ok (.getfield 50, 3) := by decide +kernel
theorem dX2_settle_55 : decode cX2_settle 55 = .ok (.invokevirtual 94, 3) := by decide +kernel
theorem dX2_settle_58 : decode cX2_settle 58 = .ok (.lastore, 1) := by decide +kernel
theorem dX2_settle_59 : decode cX2_settle 59 = .ok (.aload_n 0, 1) := by decide +kernel
theorem dX2_settle_60 : decode cX2_settle 60 = .ok (.getfield 15, 3) := by decide +kernel
theorem dX2_settle_63 : decode cX2_settle 63 = .ok (.iload_n 1, 1) := by decide +kernel
theorem dX2_settle_64 : decode cX2_settle 64 = .ok (.aload_n 0, 1) := by decide +kernel
theorem dX2_settle_65 : decode cX2_settle 65 = .ok (.getfield 18, 3) := by decide +kernel
theorem dX2_settle_68 : decode cX2_settle 68 = .ok (.iload_n 1, 1) := by decide +kernel
theorem dX2_settle_69 : decode cX2_settle 69 = .ok (.aload_n 0, 1) := by decide +kernel
theorem dX2_settle_70 : decode cX2_settle 70 = .ok (.getfield 57, 3) := by decide +kernel
theorem dX2_settle_73 : decode cX2_settle 73 = .ok (.invokevirtual 94, 3) := by decide +kernel
theorem dX2_settle_76 : decode cX2_settle 76 = .ok (.lastore, 1) := by decide +kernel
theorem dX2_settle_77 : decode cX2_settle 77 = .ok (.goto 33, 3) := by decide +kernel
theorem dX2_settle_80 : decode cX2_settle 80 = .ok (.aload_n 0, 1) := by decide +kernel
theorem dX2_settle_81 : decode cX2_settle 81 = .ok (.getfield 9, 3) := by decide +kernel
theorem dX2_settle_84 : decode cX2_settle 84 = .ok (.iload_n 1, 1) := by decide +kernel
theorem dX2_settle_85 : decode cX2_settle 85 = .ok (.aload_n 0, 1) := by decide +kernel
theorem dX2_settle_86 : decode cX2_settle 86 = .ok (.getfield 18, 3) := by decide +kernel
theorem dX2_settle_89 : decode cX2_settle 89 = .ok (.getfield 98, 3) := by decide +kernel
theorem dX2_settle_92 : decode cX2_settle 92 = .ok (.iload_n 1, 1) := by decide +kernel
theorem dX2_settle_93 : decode cX2_settle 93 = .ok (.laload, 1) := by decide +kernel
theorem dX2_settle_94 : decode cX2_settle 94 = .ok (.lastore, 1) := by decide +kernel
theorem dX2_settle_95 : decode cX2_settle 95 = .ok (.aload_n 0, 1) := by decide +kernel
theorem dX2_settle_96 : decode cX2_settle 96 = .ok (.getfield 15, 3) := by decide +kernel
theorem dX2_settle_99 : decode cX2_settle 99 = .ok (.iload_n 1, 1) := by decide +kernel
theorem dX2_settle_100 : decode cX2_settle 100 = .ok (.aload_n 0, 1) := by decide +kernel
theorem dX2_settle_101 : decode cX2_settle 101 = .ok (.getfield 18, 3) := by decide +kernel
theorem dX2_settle_104 : decode cX2_settle 104 = .ok (.getfield 99, 3) := by decide +kernel
theorem dX2_settle_107 : decode cX2_settle 107 = .ok (.iload_n 1, 1) := by decide +kernel
theorem dX2_settle_108 : decode cX2_settle 108 = .ok (.laload, 1) := by decide +kernel
theorem dX2_settle_109 : decode cX2_settle 109 = .ok (.lastore, 1) := by decide +kernel
theorem dX2_settle_110 : decode cX2_settle 110 = .ok (.return_, 1) := by decide +kernel
set_option maxRecDepth 20000 in
theorem ggX2_reckon_X4_valueOfA : GoodIn wsX2_reckon wsX4_valueOfA := goodIn_r _ [21, 22, 48, 49, 50, 51, 52, 53, 54, 55, 56] (by decide +kernel) (by decide +kernel)
set_option maxRecDepth 20000 in
theorem gX2_reckon_X4_valueOfA : GoodIn wsX2_reckon (wsV RX2 100 RX4 yX4_valueOfA wsX4_valueOfA) := goodIn_app (goodIn_of _ (by decide +kernel)) ggX2_reckon_X4_valueOfA
set_option maxRecDepth 20000 in
theorem ggX2_reckon_X4_valueOfB : GoodIn wsX2_reckon wsX4_valueOfB := goodIn_r _ [26, 27, 28, 48, 49, 50, 51, 52, 53, 54, 55, 56] (by decide +kernel) (by decide +kernel)
set_option maxRecDepth 20000 in
theorem gX2_reckon_X4_valueOfB : GoodIn wsX2_reckon (wsV RX2 104 RX4 yX4_valueOfB wsX4_valueOfB) := goodIn_app (goodIn_of _ (by decide +kernel)) ggX2_reckon_X4_valueOfB
set_option maxRecDepth 20000 in
theorem ggX2_reckon_X1_signedAlike : GoodIn wsX2_reckon wsX1_signedAlike := goodIn_r _ [33, 34, 57, 58, 59, 60, 61] (by decide +kernel) (by decide +kernel)
set_option maxRecDepth 20000 in
theorem gX2_reckon_X1_signedAlike : GoodIn wsX2_reckon (wsV RX2 125 RX1 yX1_signedAlike wsX1_signedAlike) := goodIn_app (goodIn_of _ (by decide +kernel)) ggX2_reckon_X1_signedAlike
set_option maxRecDepth 20000 in
theorem ggX2_reckon_X7_made : GoodIn wsX2_reckon wsX7_made := goodIn_r _ [37, 38, 8, 9, 10] (by decide +kernel) (by decide +kernel)
set_option maxRecDepth 20000 in
theorem gX2_reckon_X7_made_n129 : GoodIn wsX2_reckon (wsX7_made) := ggX2_reckon_X7_made
theorem dX2_reckon_0 : decode cX2_reckon 0 = .ok (.aload_n 0, 1) := by decide +kernel
theorem dX2_reckon_1 : decode cX2_reckon 1 = .ok (.getfield 22, 3) := by decide +kernel
theorem dX2_reckon_4 : decode cX2_reckon 4 = .ok (.iload_n 1, 1) := by decide +kernel
theorem dX2_reckon_5 : decode cX2_reckon 5 = .ok (.aload_n 0, 1) := by decide +kernel
theorem dX2_reckon_6 : decode cX2_reckon 6 = .ok (.getfield 9, 3) := by decide +kernel
theorem dX2_reckon_9 : decode cX2_reckon 9 = .ok (.invokevirtual 100, 3) := by decide +kernel
theorem dX2_reckon_12 : decode cX2_reckon 12 = .ok (.lstore_n 2, 1) := by decide +kernel
theorem dX2_reckon_13 : decode cX2_reckon 13 = .ok (.aload_n 0, 1) := by decide +kernel
theorem dX2_reckon_14 : decode cX2_reckon 14 = .ok (.getfield 22, 3) := by decide +kernel
theorem dX2_reckon_17 : decode cX2_reckon 17 = .ok (.iload_n 1, 1) := by decide +kernel
theorem dX2_reckon_18 : decode cX2_reckon 18 = .ok (.aload_n 0, 1) := by decide +kernel
theorem dX2_reckon_19 : decode cX2_reckon 19 = .ok (.getfield 9, 3) := by decide +kernel
theorem dX2_reckon_22 : decode cX2_reckon 22 = .ok (.invokevirtual 104, 3) := by decide +kernel
theorem dX2_reckon_25 : decode cX2_reckon 25 = .ok (.lstore 4, 2) := by decide +kernel
theorem dX2_reckon_27 : decode cX2_reckon 27 = .ok (.aload_n 0, 1) := by decide +kernel
theorem dX2_reckon_28 : decode cX2_reckon 28 = .ok (.getfield 22, 3) := by decide +kernel
theorem dX2_reckon_31 : decode cX2_reckon 31 = .ok (.iload_n 1, 1) := by decide +kernel
theorem dX2_reckon_32 : decode cX2_reckon 32 = .ok (.aload_n 0, 1) := by decide +kernel
theorem dX2_reckon_33 : decode cX2_reckon 33 = .ok (.getfield 15, 3) := by decide +kernel
theorem dX2_reckon_36 : decode cX2_reckon 36 = .ok (.invokevirtual 100, 3) := by decide +kernel
theorem dX2_reckon_39 : decode cX2_reckon 39 = .ok (.lstore 6, 2) := by decide +kernel
theorem dX2_reckon_41 : decode cX2_reckon 41 = .ok (.aload_n 0, 1) := by decide +kernel
theorem dX2_reckon_42 : decode cX2_reckon 42 = .ok (.getfield 22, 3) := by decide +kernel
theorem dX2_reckon_45 : decode cX2_reckon 45 = .ok (.iload_n 1, 1) := by decide +kernel
theorem dX2_reckon_46 : decode cX2_reckon 46 = .ok (.aload_n 0, 1) := by decide +kernel
theorem dX2_reckon_47 : decode cX2_reckon 47 = .ok (.getfield 15, 3) := by decide +kernel
theorem dX2_reckon_50 : decode cX2_reckon 50 = .ok (.invokevirtual 104, 3) := by decide +kernel
theorem dX2_reckon_53 : decode cX2_reckon 53 = .ok (.lstore 8, 2) := by decide +kernel
theorem dX2_reckon_55 : decode cX2_reckon 55 = .ok (.aload_n 0, 1) := by decide +kernel
theorem dX2_reckon_56 : decode cX2_reckon 56 = .ok (.getfield 22, 3) := by decide +kernel
theorem dX2_reckon_59 : decode cX2_reckon 59 = .ok (.getfield 107, 3) := by decide +kernel
theorem dX2_reckon_62 : decode cX2_reckon 62 = .ok (.iload_n 1, 1) := by decide +kernel
theorem dX2_reckon_63 : decode cX2_reckon 63 = .ok (.iaload, 1) := by decide +kernel
theorem dX2_reckon_64 : decode cX2_reckon 64 = .ok (.istore 10, 2) := by decide +kernel
theorem dX2_reckon_66 : decode cX2_reckon 66 = .ok (.iload 10, 2) := by decide +kernel
theorem dX2_reckon_68 : decode cX2_reckon 68 = .ok (.tableswitch 194 3 7 #[36, 56, 194, 194, 121], 36) := by decide +kernel
theorem dX2_reckon_104 : decode cX2_reckon 104 = .ok (.aload_n 0, 1) := by decide +kernel
theorem dX2_reckon_105 : decode cX2_reckon 105 = .ok (.lload_n 2, 1) := by decide +kernel
theorem dX2_reckon_106 : decode cX2_reckon 106 = .ok (.lload 8, 2) := by decide +kernel
theorem dX2_reckon_108 : decode cX2_reckon 108 = .ok (.lsub, 1) := by decide +kernel
theorem dX2_reckon_109 : decode cX2_reckon 109 = .ok (.putfield 50, 3) := by decide +kernel
theorem dX2_reckon_112 : decode cX2_reckon 112 = .ok (.aload_n 0, 1) := by decide +kernel
theorem dX2_reckon_113 : decode cX2_reckon 113 = .ok (.lload 6, 2) := by decide +kernel
theorem dX2_reckon_115 : decode cX2_reckon 115 = .ok (.lload 4, 2) := by decide +kernel
theorem dX2_reckon_117 : decode cX2_reckon 117 = .ok (.lsub, 1) := by decide +kernel
theorem dX2_reckon_118 : decode cX2_reckon 118 = .ok (.putfield 57, 3) := by decide +kernel
theorem dX2_reckon_121 : decode cX2_reckon 121 = .ok (.goto 166, 3) := by decide +kernel
theorem dX2_reckon_124 : decode cX2_reckon 124 = .ok (.aload_n 0, 1) := by decide +kernel
theorem dX2_reckon_125 : decode cX2_reckon 125 = .ok (.lload_n 2, 1) := by decide +kernel
theorem dX2_reckon_126 : decode cX2_reckon 126 = .ok (.lload 4, 2) := by decide +kernel
theorem dX2_reckon_128 : decode cX2_reckon 128 = .ok (.lmul, 1) := by decide +kernel
theorem dX2_reckon_129 : decode cX2_reckon 129 = .ok (.lload_n 2, 1) := by decide +kernel
theorem dX2_reckon_130 : decode cX2_reckon 130 = .ok (.lload 8, 2) := by decide +kernel
theorem dX2_reckon_132 : decode cX2_reckon 132 = .ok (.lmul, 1) := by decide +kernel
theorem dX2_reckon_133 : decode cX2_reckon 133 = .ok (.invokestatic 110, 3) := by decide +kernel
theorem dX2_reckon_136 : decode cX2_reckon 136 = .ok (.lload 6, 2) := by decide +kernel
theorem dX2_reckon_138 : decode cX2_reckon 138 = .ok (.lload 4, 2) := by decide +kernel
theorem dX2_reckon_140 : decode cX2_reckon 140 = .ok (.lmul, 1) := by decide +kernel
theorem dX2_reckon_141 : decode cX2_reckon 141 = .ok (.lload 6, 2) := by decide +kernel
theorem dX2_reckon_143 : decode cX2_reckon 143 = .ok (.lload 8, 2) := by decide +kernel
theorem dX2_reckon_145 : decode cX2_reckon 145 = .ok (.lmul, 1) := by decide +kernel
theorem dX2_reckon_146 : decode cX2_reckon 146 = .ok (.invokestatic 110, 3) := by decide +kernel
theorem dX2_reckon_149 : decode cX2_reckon 149 = .ok (.invokestatic 110, 3) := by decide +kernel
theorem dX2_reckon_152 : decode cX2_reckon 152 = .ok (.putfield 50, 3) := by decide +kernel
theorem dX2_reckon_155 : decode cX2_reckon 155 = .ok (.aload_n 0, 1) := by decide +kernel
theorem dX2_reckon_156 : decode cX2_reckon 156 = .ok (.lload_n 2, 1) := by decide +kernel
theorem dX2_reckon_157 : decode cX2_reckon 157 = .ok (.lload 4, 2) := by decide +kernel
theorem dX2_reckon_159 : decode cX2_reckon 159 = .ok (.lmul, 1) := by decide +kernel
theorem dX2_reckon_160 : decode cX2_reckon 160 = .ok (.lload_n 2, 1) := by decide +kernel
theorem dX2_reckon_161 : decode cX2_reckon 161 = .ok (.lload 8, 2) := by decide +kernel
theorem dX2_reckon_163 : decode cX2_reckon 163 = .ok (.lmul, 1) := by decide +kernel
theorem dX2_reckon_164 : decode cX2_reckon 164 = .ok (.invokestatic 116, 3) := by decide +kernel
theorem dX2_reckon_167 : decode cX2_reckon 167 = .ok (.lload 6, 2) := by decide +kernel
theorem dX2_reckon_169 : decode cX2_reckon 169 = .ok (.lload 4, 2) := by decide +kernel
theorem dX2_reckon_171 : decode cX2_reckon 171 = .ok (.lmul, 1) := by decide +kernel
theorem dX2_reckon_172 : decode cX2_reckon 172 = .ok (.lload 6, 2) := by decide +kernel
theorem dX2_reckon_174 : decode cX2_reckon 174 = .ok (.lload 8, 2) := by decide +kernel
theorem dX2_reckon_176 : decode cX2_reckon 176 = .ok (.lmul, 1) := by decide +kernel
theorem dX2_reckon_177 : decode cX2_reckon 177 = .ok (.invokestatic 116, 3) := by decide +kernel
theorem dX2_reckon_180 : decode cX2_reckon 180 = .ok (.invokestatic 116, 3) := by decide +kernel
theorem dX2_reckon_183 : decode cX2_reckon 183 = .ok (.putfield 57, 3) := by decide +kernel
theorem dX2_reckon_186 : decode cX2_reckon 186 = .ok (.goto 101, 3) := by decide +kernel
theorem dX2_reckon_189 : decode cX2_reckon 189 = .ok (.aload_n 0, 1) := by decide +kernel
theorem dX2_reckon_190 : decode cX2_reckon 190 = .ok (.getfield 18, 3) := by decide +kernel
theorem dX2_reckon_193 : decode cX2_reckon 193 = .ok (.aload_n 0, 1) := by decide +kernel
theorem dX2_reckon_194 : decode cX2_reckon 194 = .ok (.getfield 22, 3) := by decide +kernel
theorem dX2_reckon_197 : decode cX2_reckon 197 = .ok (.getfield 119, 3) := by decide +kernel
theorem dX2_reckon_200 : decode cX2_reckon 200 = .ok (.iload_n 1, 1) := by decide +kernel
theorem dX2_reckon_201 : decode cX2_reckon 201 = .ok (.iaload, 1) := by decide +kernel
theorem dX2_reckon_202 : decode cX2_reckon 202 = .ok (.aload_n 0, 1) := by decide +kernel
theorem dX2_reckon_203 : decode cX2_reckon 203 = .ok (.getfield 22, 3) := by decide +kernel
theorem dX2_reckon_206 : decode cX2_reckon 206 = .ok (.getfield 122, 3) := by decide +kernel
theorem dX2_reckon_209 : decode cX2_reckon 209 = .ok (.iload_n 1, 1) := by decide +kernel
theorem dX2_reckon_210 : decode cX2_reckon 210 = .ok (.iaload, 1) := by decide +kernel
theorem dX2_reckon_211 : decode cX2_reckon 211 = .ok (.invokevirtual 125, 3) := by decide +kernel
theorem dX2_reckon_214 : decode cX2_reckon 214 = .ok (.istore 11, 2) := by decide +kernel
theorem dX2_reckon_216 : decode cX2_reckon 216 = .ok (.aload_n 0, 1) := by decide +kernel
theorem dX2_reckon_217 : decode cX2_reckon 217 = .ok (.iload 11, 2) := by decide +kernel
theorem dX2_reckon_219 : decode cX2_reckon 219 = .ok (.ifCond .eq 15, 3) := by decide +kernel
theorem dX2_reckon_222 : decode cX2_reckon 222 = .ok (.lload 6, 2) := by decide +kernel
theorem dX2_reckon_224 : decode cX2_reckon 224 = .ok (.lload 4, 2) := by decide +kernel
theorem dX2_reckon_226 : decode cX2_reckon 226 = .ok (.lcmp, 1) := by decide +kernel
theorem dX2_reckon_227 : decode cX2_reckon 227 = .ok (.ifCond .ge 7, 3) := by decide +kernel
theorem dX2_reckon_230 : decode cX2_reckon 230 = .ok (.lconst 1, 1) := by decide +kernel
theorem dX2_reckon_231 : decode cX2_reckon 231 = .ok (.goto 4, 3) := by decide +kernel
theorem dX2_reckon_234 : decode cX2_reckon 234 = .ok (.lconst 0, 1) := by decide +kernel
theorem dX2_reckon_235 : decode cX2_reckon 235 = .ok (.putfield 50, 3) := by decide +kernel
theorem dX2_reckon_238 : decode cX2_reckon 238 = .ok (.aload_n 0, 1) := by decide +kernel
theorem dX2_reckon_239 : decode cX2_reckon 239 = .ok (.iload 11, 2) := by decide +kernel
theorem dX2_reckon_241 : decode cX2_reckon 241 = .ok (.ifCond .eq 14, 3) := by decide +kernel
theorem dX2_reckon_244 : decode cX2_reckon 244 = .ok (.lload_n 2, 1) := by decide +kernel
theorem dX2_reckon_245 : decode cX2_reckon 245 = .ok (.lload 8, 2) := by decide +kernel
theorem dX2_reckon_247 : decode cX2_reckon 247 = .ok (.lcmp, 1) := by decide +kernel
theorem dX2_reckon_248 : decode cX2_reckon 248 = .ok (.ifCond .lt 7, 3) := by decide +kernel
theorem dX2_reckon_251 : decode cX2_reckon 251 = .ok (.lconst 0, 1) := by decide +kernel
theorem dX2_reckon_252 : decode cX2_reckon 252 = .ok (.goto 4, 3) := by decide +kernel
theorem dX2_reckon_255 : decode cX2_reckon 255 = .ok (.lconst 1, 1) := by decide +kernel
theorem dX2_reckon_256 : decode cX2_reckon 256 = .ok (.putfield 57, 3) := by decide +kernel
theorem dX2_reckon_259 : decode cX2_reckon 259 = .ok (.goto 28, 3) := by decide +kernel
theorem dX2_reckon_262 : decode cX2_reckon 262 = .ok (.aload_n 0, 1) := by decide +kernel
theorem dX2_reckon_263 : decode cX2_reckon 263 = .ok (.iload 10, 2) := by decide +kernel
theorem dX2_reckon_265 : decode cX2_reckon 265 = .ok (.lload_n 2, 1) := by decide +kernel
theorem dX2_reckon_266 : decode cX2_reckon 266 = .ok (.lload 4, 2) := by decide +kernel
theorem dX2_reckon_268 : decode cX2_reckon 268 = .ok (.invokestatic 129, 3) := by decide +kernel
theorem dX2_reckon_271 : decode cX2_reckon 271 = .ok (.putfield 50, 3) := by decide +kernel
theorem dX2_reckon_274 : decode cX2_reckon 274 = .ok (.aload_n 0, 1) := by decide +kernel
theorem dX2_reckon_275 : decode cX2_reckon 275 = .ok (.iload 10, 2) := by decide +kernel
theorem dX2_reckon_277 : decode cX2_reckon 277 = .ok (.lload 6, 2) := by decide +kernel
theorem dX2_reckon_279 : decode cX2_reckon 279 = .ok (.lload 8, 2) := by decide +kernel
theorem dX2_reckon_281 : decode cX2_reckon 281 = .ok (.invokestatic 129, 3) := by decide +kernel
theorem dX2_reckon_284 : decode cX2_reckon 284 = .ok (.putfield 57, 3) := by decide +kernel
theorem dX2_reckon_287 : decode cX2_reckon 287 = .ok (.return_, 1) := by decide +kernel
theorem dX3_init_0 : decode cX3_init 0 = .ok (.aload_n 0, 1) := by decide +kernel
theorem dX3_init_1 : decode cX3_init 1 = .ok (.invokespecial 3, 3) := by decide +kernel
theorem dX3_init_4 : decode cX3_init 4 = .ok (.aload_n 0, 1) := by decide +kernel
theorem dX3_init_5 : decode cX3_init 5 = .ok (.bipush 6, 2) := by decide +kernel
theorem dX3_init_7 : decode cX3_init 7 = .ok (.newarray .long, 2) := by decide +kernel
theorem dX3_init_9 : decode cX3_init 9 = .ok (.putfield 9, 3) := by decide +kernel
theorem dX3_init_12 : decode cX3_init 12 = .ok (.aload_n 0, 1) := by decide +kernel
theorem dX3_init_13 : decode cX3_init 13 = .ok (.aload_n 1, 1) := by decide +kernel
theorem dX3_init_14 : decode cX3_init 14 = .ok (.putfield 15, 3) := by decide +kernel
theorem dX3_init_17 : decode cX3_init 17 = .ok (.aload_n 0, 1) := by decide +kernel
theorem dX3_init_18 : decode cX3_init 18 = .ok (.aload_n 2, 1) := by decide +kernel
theorem dX3_init_19 : decode cX3_init 19 = .ok (.putfield 19, 3) := by decide +kernel
theorem dX3_init_22 : decode cX3_init 22 = .ok (.return_, 1) := by decide +kernel
set_option maxRecDepth 20000 in
theorem ggX3_follow_J7_fill_d0a16 : GoodIn wsX3_follow wsJ7_fill_d0a16 := goodIn_r _ [12] (by decide +kernel) (by decide +kernel)
set_option maxRecDepth 20000 in
theorem gX3_follow_J7_fill_d0a16 : GoodIn wsX3_follow (va_wsS RX3 33 yJ7_fill_d0a16 wsJ7_fill_d0a16) := goodIn_app (goodIn_of _ (by decide +kernel)) ggX3_follow_J7_fill_d0a16
set_option maxRecDepth 20000 in
theorem ggX3_follow_X1_fitted : GoodIn wsX3_follow wsX1_fitted := goodIn_r _ [17, 18, 19, 20, 21, 16, 22, 23, 24, 25, 26, 27, 28, 29, 30, 31, 32, 33, 34, 35, 36, 37, 38, 39, 104, 105, 106, 107, 108] (by decide +kernel) (by decide +kernel)
set_option maxRecDepth 20000 in
theorem gX3_follow_X1_fitted : GoodIn wsX3_follow (wsV RX3 39 RX1 yX1_fitted wsX1_fitted) := goodIn_app (goodIn_of _ (by decide +kernel)) ggX3_follow_X1_fitted
set_option maxRecDepth 20000 in
theorem ggX3_follow_X3_perform : GoodIn wsX3_follow wsX3_perform := goodIn_r _ [44, 6, 45, 5, 4, 46, 47, 48, 43, 49, 50, 51, 52, 2, 53, 54, 55, 56, 57, 58, 59, 60, 61, 62, 63, 64, 65, 66, 67, 68, 26, 27, 28, 69, 70, 71, 16, 72, 73, 74, 75, 76, 77, 36, 78, 79, 80, 37, 38, 39, 81, 82, 83, 84, 23, 24, 85, 86, 87, 88, 1, 3, 13, 14, 15, 17, 18, 19, 20, 21, 22, 25, 29, 30, 31, 32, 33, 34, 35, 89, 90, 91, 92, 93, 94, 95, 96, 97, 98, 99, 100, 101, 102, 103, 104, 105, 106, 107, 108] (by decide +kernel) (by decide +kernel)
set_option maxRecDepth 20000 in
theorem gX3_follow_X3_perform : GoodIn wsX3_follow (wsV RX3 54 RX3 yX3_perform wsX3_perform) := goodIn_app (goodIn_of _ (by decide +kernel)) ggX3_follow_X3_perform
theorem dX3_follow_0 : decode cX3_follow 0 = .ok (.aload_n 0, 1) := by decide +kernel
theorem dX3_follow_1 : decode cX3_follow 1 = .ok (.iconst 0, 1) := by decide +kernel
theorem dX3_follow_2 : decode cX3_follow 2 = .ok (.putfield 23, 3) := by decide +kernel
theorem dX3_follow_5 : decode cX3_follow 5 = .ok (.aload_n 0, 1) := by decide +kernel
theorem dX3_follow_6 : decode cX3_follow 6 = .ok (.iconst 0, 1) := by decide +kernel
theorem dX3_follow_7 : decode cX3_follow 7 = .ok (.putfield 27, 3) := by decide +kernel
theorem dX3_follow_10 : decode cX3_follow 10 = .ok (.aload_n 0, 1) := by decide +kernel
theorem dX3_follow_11 : decode cX3_follow 11 = .ok (.iconst (-1), 1) := by decide +kernel
theorem dX3_follow_12 : decode cX3_follow 12 = .ok (.putfield 30, 3) := by decide +kernel
theorem dX3_follow_15 : decode cX3_follow 15 = .ok (.aload_n 0, 1) := by decide +kernel
theorem dX3_follow_16 : decode cX3_follow 16 = .ok (.getfield 9, 3) := by decide +kernel
theorem dX3_follow_19 : decode cX3_follow 19 = .ok (.lconst 0, 1) := by decide +kernel
theorem dX3_follow_20 : decode cX3_follow 20 = .ok (.invokestatic 33, 3) := by decide +kernel
theorem dX3_follow_23 : decode cX3_follow 23 = .ok (.aload_n 0, 1) := by decide +kernel
theorem dX3_follow_24 : decode cX3_follow 24 = .ok (.getfield 9, 3) := by decide +kernel
theorem dX3_follow_27 : decode cX3_follow 27 = .ok (.iconst 0, 1) := by decide +kernel
theorem dX3_follow_28 : decode cX3_follow 28 = .ok (.aload_n 0, 1) := by decide +kernel
theorem dX3_follow_29 : decode cX3_follow 29 = .ok (.getfield 15, 3) := by decide +kernel
theorem dX3_follow_32 : decode cX3_follow 32 = .ok (.iconst 0, 1) := by decide +kernel
theorem dX3_follow_33 : decode cX3_follow 33 = .ok (.iload_n 1, 1) := by decide +kernel
theorem dX3_follow_34 : decode cX3_follow 34 = .ok (.i2l, 1) := by decide +kernel
theorem dX3_follow_35 : decode cX3_follow 35 = .ok (.invokevirtual 39, 3) := by decide +kernel
theorem dX3_follow_38 : decode cX3_follow 38 = .ok (.lastore, 1) := by decide +kernel
theorem dX3_follow_39 : decode cX3_follow 39 = .ok (.aload_n 0, 1) := by decide +kernel
theorem dX3_follow_40 : decode cX3_follow 40 = .ok (.getfield 9, 3) := by decide +kernel
theorem dX3_follow_43 : decode cX3_follow 43 = .ok (.iconst 1, 1) := by decide +kernel
theorem dX3_follow_44 : decode cX3_follow 44 = .ok (.aload_n 0, 1) := by decide +kernel
theorem dX3_follow_45 : decode cX3_follow 45 = .ok (.getfield 15, 3) := by decide +kernel
theorem dX3_follow_48 : decode cX3_follow 48 = .ok (.iconst 1, 1) := by decide +kernel
theorem dX3_follow_49 : decode cX3_follow 49 = .ok (.iload_n 2, 1) := by decide +kernel
theorem dX3_follow_50 : decode cX3_follow 50 = .ok (.i2l, 1) := by decide +kernel
theorem dX3_follow_51 : decode cX3_follow 51 = .ok (.invokevirtual 39, 3) := by decide +kernel
theorem dX3_follow_54 : decode cX3_follow 54 = .ok (.lastore, 1) := by decide +kernel
theorem dX3_follow_55 : decode cX3_follow 55 = .ok (.iconst 0, 1) := by decide +kernel
theorem dX3_follow_56 : decode cX3_follow 56 = .ok (.istore_n 3, 1) := by decide +kernel
theorem dX3_follow_57 : decode cX3_follow 57 = .ok (.iload_n 3, 1) := by decide +kernel
theorem dX3_follow_58 : decode cX3_follow 58 = .ok (.aload_n 0, 1) := by decide +kernel
theorem dX3_follow_59 : decode cX3_follow 59 = .ok (.getfield 19, 3) := by decide +kernel
theorem dX3_follow_62 : decode cX3_follow 62 = .ok (.getfield 45, 3) := by decide +kernel
theorem dX3_follow_65 : decode cX3_follow 65 = .ok (.if_icmp .ge 22, 3) := by decide +kernel
theorem dX3_follow_68 : decode cX3_follow 68 = .ok (.aload_n 0, 1) := by decide +kernel
theorem dX3_follow_69 : decode cX3_follow 69 = .ok (.aload_n 0, 1) := by decide +kernel
theorem dX3_follow_70 : decode cX3_follow 70 = .ok (.getfield 19, 3) := by decide +kernel
theorem dX3_follow_73 : decode cX3_follow 73 = .ok (.getfield 50, 3) := by decide +kernel
theorem dX3_follow_76 : decode cX3_follow 76 = .ok (.iload_n 3, 1) := by decide +kernel
theorem dX3_follow_77 : decode cX3_follow 77 = .ok (.iaload, 1) := by decide +kernel
theorem dX3_follow_78 : decode cX3_follow 78 = .ok (.invokevirtual 54, 3) := by decide +kernel
theorem dX3_follow_81 : decode cX3_follow 81 = .ok (.iinc 3 1, 3) := by decide +kernel
theorem dX3_follow_84 : decode cX3_follow 84 = .ok (.goto (-27), 3) := by decide +kernel
theorem dX3_follow_87 : decode cX3_follow 87 = .ok (.return_, 1) := by decide +kernel
set_option maxRecDepth 20000 in
theorem ggX3_perform_X3_answer : GoodIn wsX3_perform wsX3_answer := goodIn_r _ [9, 1, 10, 4, 3, 11, 12, 13, 14, 15, 16, 17, 18, 19, 20, 21, 22, 23, 24, 25, 26, 27, 28, 29, 30, 31, 32, 33, 34, 35, 36, 37, 38, 39, 40, 41, 42, 43, 44, 45, 46, 47, 48, 49, 79, 80, 81, 82, 83, 84, 85, 86, 87, 88, 89, 90, 91, 92, 93, 94, 95, 96, 97, 98] (by decide +kernel) (by decide +kernel)
set_option maxRecDepth 20000 in
theorem gX3_perform_X3_answer : GoodIn wsX3_perform (wsV RX3 61 RX3 yX3_answer wsX3_answer) := goodIn_app (goodIn_of _ (by decide +kernel)) ggX3_perform_X3_answer
set_option maxRecDepth 20000 in
theorem ggX3_perform_X1_holds : GoodIn wsX3_perform wsX1_holds := goodIn_r _ [53, 54, 55, 94, 95, 96, 97, 98] (by decide +kernel) (by decide +kernel)
set_option maxRecDepth 20000 in
theorem gX3_perform_X1_holds : GoodIn wsX3_perform (wsV RX3 65 RX1 yX1_holds wsX1_holds) := goodIn_app (goodIn_of _ (by decide +kernel)) ggX3_perform_X1_holds
set_option maxRecDepth 20000 in
theorem ggX3_perform_X3_noteOver : GoodIn wsX3_perform wsX3_noteOver := goodIn_r _ [59, 60, 61, 79, 80, 81, 82, 83, 84] (by decide +kernel) (by decide +kernel)
set_option maxRecDepth 20000 in
theorem gX3_perform_X3_noteOver : GoodIn wsX3_perform (wsV RX3 69 RX3 yX3_noteOver wsX3_noteOver) := goodIn_app (goodIn_of _ (by decide +kernel)) ggX3_perform_X3_noteOver
set_option maxRecDepth 20000 in
theorem ggX3_perform_X1_fitted : GoodIn wsX3_perform wsX1_fitted := goodIn_r _ [65, 66, 67, 68, 69, 36, 70, 54, 55, 71, 30, 31, 32, 72, 73, 74, 75, 76, 77, 78, 43, 47, 48, 49, 94, 95, 96, 97, 98] (by decide +kernel) (by decide +kernel)
set_option maxRecDepth 20000 in
theorem gX3_perform_X1_fitted : GoodIn wsX3_perform (wsV RX3 39 RX1 yX1_fitted wsX1_fitted) := goodIn_app (goodIn_of _ (by decide +kernel)) ggX3_perform_X1_fitted
theorem dX3_perform_0 : decode cX3_perform 0 = .ok (.aload_n 0, 1) := by decide +kernel
theorem dX3_perform_1 : decode cX3_perform 1 = .ok (.getfield 19, 3) := by decide +kernel
theorem dX3_perform_4 : decode cX3_perform 4 = .ok (.getfield 58, 3) := by decide +kernel
theorem dX3_perform_7 : decode cX3_perform 7 = .ok (.iload_n 1, 1) := by decide +kernel
theorem dX3_perform_8 : decode cX3_perform 8 = .ok (.iaload, 1) := by decide +kernel
theorem dX3_perform_9 : decode cX3_perform 9 = .ok (.istore_n 2, 1) := by decide +kernel
theorem dX3_perform_10 : decode cX3_perform 10 = .ok (.aload_n 0, 1) := by decide +kernel
theorem dX3_perform_11 : decode cX3_perform 11 = .ok (.iload_n 1, 1) := by decide +kernel
theorem dX3_perform_12 : decode cX3_perform 12 = .ok (.invokevirtual 61, 3) := by decide +kernel
theorem dX3_perform_15 : decode cX3_perform 15 = .ok (.lstore_n 3, 1) := by decide +kernel
theorem dX3_perform_16 : decode cX3_perform 16 = .ok (.aload_n 0, 1) := by decide +kernel
theorem dX3_perform_17 : decode cX3_perform 17 = .ok (.getfield 15, 3) := by decide +kernel
theorem dX3_perform_20 : decode cX3_perform 20 = .ok (.iload_n 2, 1) := by decide +kernel
theorem dX3_perform_21 : decode cX3_perform 21 = .ok (.lload_n 3, 1) := by decide +kernel
theorem dX3_perform_22 : decode cX3_perform 22 = .ok (.invokevirtual 65, 3) := by decide +kernel
theorem dX3_perform_25 : decode cX3_perform 25 = .ok (.ifCond .ne 8, 3) := by decide +kernel
theorem dX3_perform_28 : decode cX3_perform 28 = .ok (.aload_n 0, 1) := by decide +kernel
theorem dX3_perform_29 : decode cX3_perform 29 = .ok (.iload_n 1, 1) := by decide +kernel
theorem dX3_perform_30 : decode cX3_perform 30 = .ok (.invokevirtual 69, 3) := by decide +kernel
theorem dX3_perform_33 : decode cX3_perform 33 = .ok (.aload_n 0, 1) := by decide +kernel
theorem dX3_perform_34 : decode cX3_perform 34 = .ok (.getfield 9, 3) := by decide +kernel
theorem dX3_perform_37 : decode cX3_perform 37 = .ok (.iload_n 2, 1) := by decide +kernel
theorem dX3_perform_38 : decode cX3_perform 38 = .ok (.aload_n 0, 1) := by decide +kernel
theorem dX3_perform_39 : decode cX3_perform 39 = .ok (.getfield 15, 3) := by decide +kernel
theorem dX3_perform_42 : decode cX3_perform 42 = .ok (.iload_n 2, 1) := by decide +kernel
theorem dX3_perform_43 : decode cX3_perform 43 = .ok (.lload_n 3, 1) := by decide +kernel
theorem dX3_perform_44 : decode cX3_perform 44 = .ok (.invokevirtual 39, 3) := by decide +kernel
theorem dX3_perform_47 : decode cX3_perform 47 = .ok (.lastore, 1) := by decide +kernel
theorem dX3_perform_48 : decode cX3_perform 48 = .ok (.return_, 1) := by decide +kernel
theorem dX3_noteOver_0 : decode cX3_noteOver 0 = .ok (.aload_n 0, 1) := by decide +kernel
theorem dX3_noteOver_1 : decode cX3_noteOver 1 = .ok (.getfield 23, 3) := by decide +kernel
theorem dX3_noteOver_4 : decode cX3_noteOver 4 = .ok (.ifCond .ne 8, 3) := by decide +kernel
theorem dX3_noteOver_7 : decode cX3_noteOver 7 = .ok (.aload_n 0, 1) := by decide +kernel
theorem dX3_noteOver_8 : decode cX3_noteOver 8 = .ok (.iload_n 1, 1) := by decide +kernel
theorem dX3_noteOver_9 : decode cX3_noteOver 9 = .ok (.putfield 30, 3) := by decide +kernel
theorem dX3_noteOver_12 : decode cX3_noteOver 12 = .ok (.aload_n 0, 1) := by decide +kernel
theorem dX3_noteOver_13 : decode cX3_noteOver 13 = .ok (.dup, 1) := by decide +kernel
theorem dX3_noteOver_14 : decode cX3_noteOver 14 = .ok (.getfield 23, 3) := by decide +kernel
theorem dX3_noteOver_17 : decode cX3_noteOver 17 = .ok (.iconst 1, 1) := by decide +kernel
theorem dX3_noteOver_18 : decode cX3_noteOver 18 = .ok (.iload_n 1, 1) := by decide +kernel
theorem dX3_noteOver_19 : decode cX3_noteOver 19 = .ok (.ishl, 1) := by decide +kernel
theorem dX3_noteOver_20 : decode cX3_noteOver 20 = .ok (.ior, 1) := by decide +kernel
theorem dX3_noteOver_21 : decode cX3_noteOver 21 = .ok (.putfield 23, 3) := by decide +kernel
theorem dX3_noteOver_24 : decode cX3_noteOver 24 = .ok (.return_, 1) := by decide +kernel
set_option maxRecDepth 20000 in
theorem ggX3_answer_X4_valueOfA : GoodIn wsX3_answer wsX4_valueOfA := goodIn_r _ [12, 13, 50, 51, 52, 53, 54, 55, 56, 57, 58] (by decide +kernel) (by decide +kernel)
set_option maxRecDepth 20000 in
theorem gX3_answer_X4_valueOfA : GoodIn wsX3_answer (wsV RX3 75 RX4 yX4_valueOfA wsX4_valueOfA) := goodIn_app (goodIn_of _ (by decide +kernel)) ggX3_answer_X4_valueOfA
set_option maxRecDepth 20000 in
theorem ggX3_answer_X4_valueOfB : GoodIn wsX3_answer wsX4_valueOfB := goodIn_r _ [17, 18, 19, 50, 51, 52, 53, 54, 55, 56, 57, 58] (by decide +kernel) (by decide +kernel)
set_option maxRecDepth 20000 in
theorem gX3_answer_X4_valueOfB : GoodIn wsX3_answer (wsV RX3 79 RX4 yX4_valueOfB wsX4_valueOfB) := goodIn_app (goodIn_of _ (by decide +kernel)) ggX3_answer_X4_valueOfB
set_option maxRecDepth 20000 in
theorem ggX3_answer_X7_made : GoodIn wsX3_answer wsX7_made := goodIn_r _ [22, 23, 24, 25, 26] (by decide +kernel) (by decide +kernel)
set_option maxRecDepth 20000 in
theorem gX3_answer_X7_made_n82 : GoodIn wsX3_answer (wsX7_made) := ggX3_answer_X7_made
set_option maxRecDepth 20000 in
theorem ggX3_answer_X1_signedAlike : GoodIn wsX3_answer wsX1_signedAlike := goodIn_r _ [31, 32, 59, 60, 61, 62, 63] (by decide +kernel) (by decide +kernel)
set_option maxRecDepth 20000 in
theorem gX3_answer_X1_signedAlike : GoodIn wsX3_answer (wsV RX3 92 RX1 yX1_signedAlike wsX1_signedAlike) := goodIn_app (goodIn_of _ (by decide +kernel)) ggX3_answer_X1_signedAlike
set_option maxRecDepth 20000 in
theorem ggX3_answer_X1_belowByRests : GoodIn wsX3_answer wsX1_belowByRests := goodIn_r _ [36, 37, 38, 39, 25, 40, 41, 42, 30, 43, 59, 60, 61, 62, 63] (by decide +kernel) (by decide +kernel)
set_option maxRecDepth 20000 in
theorem gX3_answer_X1_belowByRests : GoodIn wsX3_answer (wsV RX3 96 RX1 yX1_belowByRests wsX1_belowByRests) := goodIn_app (goodIn_of _ (by decide +kernel)) ggX3_answer_X1_belowByRests
theorem dX3_answer_0 : decode cX3_answer 0 = .ok (.aload_n 0, 1) := by decide +kernel
theorem dX3_answer_1 : decode cX3_answer 1 = .ok (.getfield 19, 3) := by decide +kernel
theorem dX3_answer_4 : decode cX3_answer 4 = .ok (.getfield 72, 3) := by decide +kernel
theorem dX3_answer_7 : decode cX3_answer 7 = .ok (.iload_n 1, 1) := by decide +kernel
theorem dX3_answer_8 : decode cX3_answer 8 = .ok (.iaload, 1) := by decide +kernel
theorem dX3_answer_9 : decode cX3_answer 9 = .ok (.istore_n 2, 1) := by decide +kernel
theorem dX3_answer_10 : decode cX3_answer 10 = .ok (.aload_n 0, 1) := by decide +kernel
theorem dX3_answer_11 : decode cX3_answer 11 = .ok (.getfield 19, 3) := by decide +kernel
theorem dX3_answer_14 : decode cX3_answer 14 = .ok (.iload_n 1, 1) := by decide +kernel
theorem dX3_answer_15 : decode cX3_answer 15 = .ok (.aload_n 0, 1) := by decide +kernel
theorem dX3_answer_16 : decode cX3_answer 16 = .ok (.getfield 9, 3) := by decide +kernel
theorem dX3_answer_19 : decode cX3_answer 19 = .ok (.invokevirtual 75, 3) := by decide +kernel
theorem dX3_answer_22 : decode cX3_answer 22 = .ok (.lstore_n 3, 1) := by decide +kernel
theorem dX3_answer_23 : decode cX3_answer 23 = .ok (.aload_n 0, 1) := by decide +kernel
theorem dX3_answer_24 : decode cX3_answer 24 = .ok (.getfield 19, 3) := by decide +kernel
theorem dX3_answer_27 : decode cX3_answer 27 = .ok (.iload_n 1, 1) := by decide +kernel
theorem dX3_answer_28 : decode cX3_answer 28 = .ok (.aload_n 0, 1) := by decide +kernel
theorem dX3_answer_29 : decode cX3_answer 29 = .ok (.getfield 9, 3) := by decide +kernel
theorem dX3_answer_32 : decode cX3_answer 32 = .ok (.invokevirtual 79, 3) := by decide +kernel
theorem dX3_answer_35 : decode cX3_answer 35 = .ok (.lstore 5, 2) := by decide +kernel
theorem dX3_answer_37 : decode cX3_answer 37 = .ok (.iload_n 2, 1) := by decide +kernel
theorem dX3_answer_38 : decode cX3_answer 38 = .ok (.lload_n 3, 1) := by decide +kernel
theorem dX3_answer_39 : decode cX3_answer 39 = .ok (.lload 5, 2) := by decide +kernel
theorem dX3_answer_41 : decode cX3_answer 41 = .ok (.invokestatic 82, 3) := by decide +kernel
theorem dX3_answer_44 : decode cX3_answer 44 = .ok (.lstore 7, 2) := by decide +kernel
theorem dX3_answer_46 : decode cX3_answer 46 = .ok (.iload_n 2, 1) := by decide +kernel
theorem dX3_answer_47 : decode cX3_answer 47 = .ok (.bipush 7, 2) := by decide +kernel
theorem dX3_answer_49 : decode cX3_answer 49 = .ok (.if_icmp .ne 31, 3) := by decide +kernel
theorem dX3_answer_52 : decode cX3_answer 52 = .ok (.aload_n 0, 1) := by decide +kernel
theorem dX3_answer_53 : decode cX3_answer 53 = .ok (.getfield 15, 3) := by decide +kernel
theorem dX3_answer_56 : decode cX3_answer 56 = .ok (.aload_n 0, 1) := by decide +kernel
theorem dX3_answer_57 : decode cX3_answer 57 = .ok (.getfield 19, 3) := by decide +kernel
theorem dX3_answer_60 : decode cX3_answer 60 = .ok (.getfield 86, 3) := by decide +kernel
theorem dX3_answer_63 : decode cX3_answer 63 = .ok (.iload_n 1, 1) := by decide +kernel
theorem dX3_answer_64 : decode cX3_answer 64 = .ok (.iaload, 1) := by decide +kernel
theorem dX3_answer_65 : decode cX3_answer 65 = .ok (.aload_n 0, 1) := by decide +kernel
theorem dX3_answer_66 : decode cX3_answer 66 = .ok (.getfield 19, 3) := by decide +kernel
theorem dX3_answer_69 : decode cX3_answer 69 = .ok (.getfield 89, 3) := by decide +kernel
theorem dX3_answer_72 : decode cX3_answer 72 = .ok (.iload_n 1, 1) := by decide +kernel
theorem dX3_answer_73 : decode cX3_answer 73 = .ok (.iaload, 1) := by decide +kernel
theorem dX3_answer_74 : decode cX3_answer 74 = .ok (.invokevirtual 92, 3) := by decide +kernel
theorem dX3_answer_77 : decode cX3_answer 77 = .ok (.ifCond .eq 6, 3) := by decide +kernel
theorem dX3_answer_80 : decode cX3_answer 80 = .ok (.lload 7, 2) := by decide +kernel
theorem dX3_answer_82 : decode cX3_answer 82 = .ok (.lreturn, 1) := by decide +kernel
theorem dX3_answer_83 : decode cX3_answer 83 = .ok (.aload_n 0, 1) := by decide +kernel
theorem dX3_answer_84 : decode cX3_answer 84 = .ok (.getfield 15, 3) := by decide +kernel
theorem dX3_answer_87 : decode cX3_answer 87 = .ok (.aload_n 0, 1) := by decide +kernel
theorem dX3_answer_88 : decode cX3_answer 88 = .ok (.getfield 19, 3) := by decide +kernel
theorem dX3_answer_91 : decode cX3_answer 91 = .ok (.getfield 86, 3) := by decide +kernel
theorem dX3_answer_94 : decode cX3_answer 94 = .ok (.iload_n 1, 1) := by decide +kernel
theorem dX3_answer_95 : decode cX3_answer 95 = .ok (.iaload, 1) := by decide +kernel
theorem dX3_answer_96 : decode cX3_answer 96 = .ok (.aload_n 0, 1) := by decide +kernel
theorem dX3_answer_97 : decode cX3_answer 97 = .ok (.getfield 19, 3) := by decide +kernel
theorem dX3_answer_100 : decode cX3_answer 100 = .ok (.getfield 89, 3) := by decide +kernel
theorem dX3_answer_103 : decode cX3_answer 103 = .ok (.iload_n 1, 1) := by decide +kernel
theorem dX3_answer_104 : decode cX3_answer 104 = .ok (.iaload, 1) := by decide +kernel
theorem dX3_answer_105 : decode cX3_answer 105 = .ok (.lload_n 3, 1) := by decide +kernel
theorem dX3_answer_106 : decode cX3_answer 106 = .ok (.lload 5, 2) := by decide +kernel
theorem dX3_answer_108 : decode cX3_answer 108 = .ok (.invokevirtual 96, 3) := by decide +kernel
theorem dX3_answer_111 : decode cX3_answer 111 = .ok (.lstore 9, 2) := by decide +kernel
theorem dX3_answer_113 : decode cX3_answer 113 = .ok (.lload 9, 2) := by decide +kernel
theorem dX3_answer_115 : decode cX3_answer 115 = .ok (.lload 7, 2) := by decide +kernel
theorem dX3_answer_117 : decode cX3_answer 117 = .ok (.lcmp, 1) := by decide +kernel
theorem dX3_answer_118 : decode cX3_answer 118 = .ok (.ifCond .eq 15, 3) := by decide +kernel
theorem dX3_answer_121 : decode cX3_answer 121 = .ok (.aload_n 0, 1) := by decide +kernel
theorem dX3_answer_122 : decode cX3_answer 122 = .ok (.dup, 1) := by decide +kernel
theorem dX3_answer_123 : decode cX3_answer 123 = .ok (.getfield 27, 3) := by decide +kernel
theorem dX3_answer_126 : decode cX3_answer 126 = .ok (.iconst 1, 1) := by decide +kernel
theorem dX3_answer_127 : decode cX3_answer 127 = .ok (.iload_n 1, 1) := by decide +kernel
theorem dX3_answer_128 : decode cX3_answer 128 = .ok (.ishl, 1) := by decide +kernel
theorem dX3_answer_129 : decode cX3_answer 129 = .ok (.ior, 1) := by decide +kernel
theorem dX3_answer_130 : decode cX3_answer 130 = .ok (.putfield 27, 3) := by decide +kernel
theorem dX3_answer_133 : decode cX3_answer 133 = .ok (.lload 9, 2) := by decide +kernel
theorem dX3_answer_135 : decode cX3_answer 135 = .ok (.lreturn, 1) := by decide +kernel
theorem dX4_init_0 : decode cX4_init 0 = .ok (.aload_n 0, 1) := by decide +kernel
theorem dX4_init_1 : decode cX4_init 1 = .ok (.invokespecial 3, 3) := by decide +kernel
theorem dX4_init_4 : decode cX4_init 4 = .ok (.aload_n 0, 1) := by decide +kernel
theorem dX4_init_5 : decode cX4_init 5 = .ok (.bipush 24, 2) := by decide +kernel
theorem dX4_init_7 : decode cX4_init 7 = .ok (.newarray .int, 2) := by decide +kernel
theorem dX4_init_9 : decode cX4_init 9 = .ok (.putfield 9, 3) := by decide +kernel
theorem dX4_init_12 : decode cX4_init 12 = .ok (.aload_n 0, 1) := by decide +kernel
theorem dX4_init_13 : decode cX4_init 13 = .ok (.bipush 24, 2) := by decide +kernel
theorem dX4_init_15 : decode cX4_init 15 = .ok (.newarray .int, 2) := by decide +kernel
theorem dX4_init_17 : decode cX4_init 17 = .ok (.putfield 15, 3) := by decide +kernel
theorem dX4_init_20 : decode cX4_init 20 = .ok (.aload_n 0, 1) := by decide +kernel
theorem dX4_init_21 : decode cX4_init 21 = .ok (.bipush 24, 2) := by decide +kernel
theorem dX4_init_23 : decode cX4_init 23 = .ok (.newarray .int, 2) := by decide +kernel
theorem dX4_init_25 : decode cX4_init 25 = .ok (.putfield 18, 3) := by decide +kernel
theorem dX4_init_28 : decode cX4_init 28 = .ok (.aload_n 0, 1) := by decide +kernel
theorem dX4_init_29 : decode cX4_init 29 = .ok (.bipush 24, 2) := by decide +kernel
theorem dX4_init_31 : decode cX4_init 31 = .ok (.newarray .int, 2) := by decide +kernel
theorem dX4_init_33 : decode cX4_init 33 = .ok (.putfield 21, 3) := by decide +kernel
theorem dX4_init_36 : decode cX4_init 36 = .ok (.aload_n 0, 1) := by decide +kernel
theorem dX4_init_37 : decode cX4_init 37 = .ok (.bipush 24, 2) := by decide +kernel
theorem dX4_init_39 : decode cX4_init 39 = .ok (.newarray .boolean, 2) := by decide +kernel
theorem dX4_init_41 : decode cX4_init 41 = .ok (.putfield 24, 3) := by decide +kernel
theorem dX4_init_44 : decode cX4_init 44 = .ok (.aload_n 0, 1) := by decide +kernel
theorem dX4_init_45 : decode cX4_init 45 = .ok (.bipush 24, 2) := by decide +kernel
theorem dX4_init_47 : decode cX4_init 47 = .ok (.newarray .boolean, 2) := by decide +kernel
theorem dX4_init_49 : decode cX4_init 49 = .ok (.putfield 28, 3) := by decide +kernel
theorem dX4_init_52 : decode cX4_init 52 = .ok (.aload_n 0, 1) := by decide +kernel
theorem dX4_init_53 : decode cX4_init 53 = .ok (.sipush 288, 3) := by decide +kernel
theorem dX4_init_56 : decode cX4_init 56 = .ok (.newarray .int, 2) := by decide +kernel
theorem dX4_init_58 : decode cX4_init 58 = .ok (.putfield 31, 3) := by decide +kernel
theorem dX4_init_61 : decode cX4_init 61 = .ok (.return_, 1) := by decide +kernel
set_option maxRecDepth 20000 in
theorem ggX4_append_X7_hasTarget : GoodIn wsX4_append wsX7_hasTarget := goodIn_r _ [9] (by decide +kernel) (by decide +kernel)
set_option maxRecDepth 20000 in
theorem gX4_append_X7_hasTarget_n38 : GoodIn wsX4_append (wsX7_hasTarget) := ggX4_append_X7_hasTarget
set_option maxRecDepth 20000 in
theorem ggX4_append_X7_readsA : GoodIn wsX4_append wsX7_readsA := goodIn_r _ [11] (by decide +kernel) (by decide +kernel)
set_option maxRecDepth 20000 in
theorem gX4_append_X7_readsA_n42 : GoodIn wsX4_append (wsX7_readsA) := ggX4_append_X7_readsA
set_option maxRecDepth 20000 in
theorem ggX4_append_X7_readsB : GoodIn wsX4_append wsX7_readsB := goodIn_r _ [13] (by decide +kernel) (by decide +kernel)
set_option maxRecDepth 20000 in
theorem gX4_append_X7_readsB_n45 : GoodIn wsX4_append (wsX7_readsB) := ggX4_append_X7_readsB
set_option maxRecDepth 20000 in
theorem ggX4_append_X4_retrace : GoodIn wsX4_append wsX4_retrace := goodIn_r _ [18, 19, 2, 1, 5, 20, 21, 22, 17, 23, 24, 25, 26, 27, 28, 29, 30, 31, 32, 33, 34, 35, 36, 37] (by decide +kernel) (by decide +kernel)
set_option maxRecDepth 20000 in
theorem gX4_append_X4_retrace : GoodIn wsX4_append (wsV RX4 48 RX4 yX4_retrace wsX4_retrace) := goodIn_app (goodIn_of _ (by decide +kernel)) ggX4_append_X4_retrace
theorem dX4_append_0 : decode cX4_append 0 = .ok (.aload_n 0, 1) := by decide +kernel
theorem dX4_append_1 : decode cX4_append 1 = .ok (.getfield 9, 3) := by decide +kernel
theorem dX4_append_4 : decode cX4_append 4 = .ok (.aload_n 0, 1) := by decide +kernel
theorem dX4_append_5 : decode cX4_append 5 = .ok (.getfield 34, 3) := by decide +kernel
theorem dX4_append_8 : decode cX4_append 8 = .ok (.iload_n 1, 1) := by decide +kernel
theorem dX4_append_9 : decode cX4_append 9 = .ok (.iastore, 1) := by decide +kernel
theorem dX4_append_10 : decode cX4_append 10 = .ok (.aload_n 0, 1) := by decide +kernel
theorem dX4_append_11 : decode cX4_append 11 = .ok (.getfield 15, 3) := by decide +kernel
theorem dX4_append_14 : decode cX4_append 14 = .ok (.aload_n 0, 1) := by decide +kernel
theorem dX4_append_15 : decode cX4_append 15 = .ok (.getfield 34, 3) := by decide +kernel
theorem dX4_append_18 : decode cX4_append 18 = .ok (.iload_n 1, 1) := by decide +kernel
theorem dX4_append_19 : decode cX4_append 19 = .ok (.invokestatic 38, 3) := by decide +kernel
theorem dX4_append_22 : decode cX4_append 22 = .ok (.ifCond .eq 7, 3) := by decide +kernel
theorem dX4_append_25 : decode cX4_append 25 = .ok (.iload_n 2, 1) := by decide +kernel
theorem dX4_append_26 : decode cX4_append 26 = .ok (.goto 4, 3) := by decide +kernel
theorem dX4_append_29 : decode cX4_append 29 = .ok (.iconst 0, 1) := by decide +kernel
theorem dX4_append_30 : decode cX4_append 30 = .ok (.iastore, 1) := by decide +kernel
theorem dX4_append_31 : decode cX4_append 31 = .ok (.aload_n 0, 1) := by decide +kernel
theorem dX4_append_32 : decode cX4_append 32 = .ok (.getfield 18, 3) := by decide +kernel
theorem dX4_append_35 : decode cX4_append 35 = .ok (.aload_n 0, 1) := by decide +kernel
theorem dX4_append_36 : decode cX4_append 36 = .ok (.getfield 34, 3) := by decide +kernel
theorem dX4_append_39 : decode cX4_append 39 = .ok (.iload_n 1, 1) := by decide +kernel
theorem dX4_append_40 : decode cX4_append 40 = .ok (.invokestatic 42, 3) := by decide +kernel
theorem dX4_append_43 : decode cX4_append 43 = .ok (.ifCond .eq 7, 3) := by decide +kernel
theorem dX4_append_46 : decode cX4_append 46 = .ok (.iload_n 3, 1) := by decide +kernel
theorem dX4_append_47 : decode cX4_append 47 = .ok (.goto 4, 3) := by decide +kernel
theorem dX4_append_50 : decode cX4_append 50 = .ok (.iconst 0, 1) := by decide +kernel
theorem dX4_append_51 : decode cX4_append 51 = .ok (.iastore, 1) := by decide +kernel
theorem dX4_append_52 : decode cX4_append 52 = .ok (.aload_n 0, 1) := by decide +kernel
theorem dX4_append_53 : decode cX4_append 53 = .ok (.getfield 21, 3) := by decide +kernel
theorem dX4_append_56 : decode cX4_append 56 = .ok (.aload_n 0, 1) := by decide +kernel
theorem dX4_append_57 : decode cX4_append 57 = .ok (.getfield 34, 3) := by decide +kernel
theorem dX4_append_60 : decode cX4_append 60 = .ok (.iload 4, 2) := by decide +kernel
theorem dX4_append_62 : decode cX4_append 62 = .ok (.iastore, 1) := by decide +kernel
theorem dX4_append_63 : decode cX4_append 63 = .ok (.aload_n 0, 1) := by decide +kernel
theorem dX4_append_64 : decode cX4_append 64 = .ok (.getfield 24, 3) := by decide +kernel
theorem dX4_append_67 : decode cX4_append 67 = .ok (.aload_n 0, 1) := by decide +kernel
theorem dX4_append_68 : decode cX4_append 68 = .ok (.getfield 34, 3) := by decide +kernel
theorem dX4_append_71 : decode cX4_append 71 = .ok (.iload_n 1, 1) := by decide +kernel
theorem dX4_append_72 : decode cX4_append 72 = .ok (.invokestatic 45, 3) := by decide +kernel
theorem dX4_append_75 : decode cX4_append 75 = .ok (.bastore, 1) := by decide +kernel
theorem dX4_append_76 : decode cX4_append 76 = .ok (.aload_n 0, 1) := by decide +kernel
theorem dX4_append_77 : decode cX4_append 77 = .ok (.dup, 1) := by decide +kernel
theorem dX4_append_78 : decode cX4_append 78 = .ok (.getfield 34, 3) := by decide +kernel
theorem dX4_append_81 : decode cX4_append 81 = .ok (.iconst 1, 1) := by decide +kernel
theorem dX4_append_82 : decode cX4_append 82 = .ok (.iadd, 1) := by decide +kernel
theorem dX4_append_83 : decode cX4_append 83 = .ok (.putfield 34, 3) := by decide +kernel
theorem dX4_append_86 : decode cX4_append 86 = .ok (.aload_n 0, 1) := by decide +kernel
theorem dX4_append_87 : decode cX4_append 87 = .ok (.invokevirtual 48, 3) := by decide +kernel
theorem dX4_append_90 : decode cX4_append 90 = .ok (.return_, 1) := by decide +kernel
set_option maxRecDepth 20000 in
theorem ggX4_dropLast_X4_retrace : GoodIn wsX4_dropLast wsX4_retrace := goodIn_r _ [7, 8, 1, 9, 10, 11, 12, 13, 6, 14, 15, 16, 17, 18, 19, 20, 21, 22, 23, 24, 25, 26, 27, 28] (by decide +kernel) (by decide +kernel)
set_option maxRecDepth 20000 in
theorem gX4_dropLast_X4_retrace : GoodIn wsX4_dropLast (wsV RX4 48 RX4 yX4_retrace wsX4_retrace) := goodIn_app (goodIn_of _ (by decide +kernel)) ggX4_dropLast_X4_retrace
theorem dX4_dropLast_0 : decode cX4_dropLast 0 = .ok (.aload_n 0, 1) := by decide +kernel
theorem dX4_dropLast_1 : decode cX4_dropLast 1 = .ok (.dup, 1) := by decide +kernel
theorem dX4_dropLast_2 : decode cX4_dropLast 2 = .ok (.getfield 34, 3) := by decide +kernel
theorem dX4_dropLast_5 : decode cX4_dropLast 5 = .ok (.iconst 1, 1) := by decide +kernel
theorem dX4_dropLast_6 : decode cX4_dropLast 6 = .ok (.isub, 1) := by decide +kernel
theorem dX4_dropLast_7 : decode cX4_dropLast 7 = .ok (.putfield 34, 3) := by decide +kernel
theorem dX4_dropLast_10 : decode cX4_dropLast 10 = .ok (.aload_n 0, 1) := by decide +kernel
theorem dX4_dropLast_11 : decode cX4_dropLast 11 = .ok (.getfield 28, 3) := by decide +kernel
theorem dX4_dropLast_14 : decode cX4_dropLast 14 = .ok (.aload_n 0, 1) := by decide +kernel
theorem dX4_dropLast_15 : decode cX4_dropLast 15 = .ok (.getfield 34, 3) := by decide +kernel
theorem dX4_dropLast_18 : decode cX4_dropLast 18 = .ok (.iconst 0, 1) := by decide +kernel
theorem dX4_dropLast_19 : decode cX4_dropLast 19 = .ok (.bastore, 1) := by decide +kernel
theorem dX4_dropLast_20 : decode cX4_dropLast 20 = .ok (.aload_n 0, 1) := by decide +kernel
theorem dX4_dropLast_21 : decode cX4_dropLast 21 = .ok (.invokevirtual 48, 3) := by decide +kernel
theorem dX4_dropLast_24 : decode cX4_dropLast 24 = .ok (.return_, 1) := by decide +kernel
theorem dX4_inLoop_0 : decode cX4_inLoop 0 = .ok (.iconst 0, 1) := by decide +kernel
theorem dX4_inLoop_1 : decode cX4_inLoop 1 = .ok (.istore_n 1, 1) := by decide +kernel
theorem dX4_inLoop_2 : decode cX4_inLoop 2 = .ok (.iconst 0, 1) := by decide +kernel
theorem dX4_inLoop_3 : decode cX4_inLoop 3 = .ok (.istore_n 2, 1) := by decide +kernel
theorem dX4_inLoop_4 : decode cX4_inLoop 4 = .ok (.iload_n 2, 1) := by decide +kernel
theorem dX4_inLoop_5 : decode cX4_inLoop 5 = .ok (.aload_n 0, 1) := by decide +kernel
theorem dX4_inLoop_6 : decode cX4_inLoop 6 = .ok (.getfield 34, 3) := by decide +kernel
theorem dX4_inLoop_9 : decode cX4_inLoop 9 = .ok (.if_icmp .ge 38, 3) := by decide +kernel
theorem dX4_inLoop_12 : decode cX4_inLoop 12 = .ok (.aload_n 0, 1) := by decide +kernel
theorem dX4_inLoop_13 : decode cX4_inLoop 13 = .ok (.getfield 9, 3) := by decide +kernel
theorem dX4_inLoop_16 : decode cX4_inLoop 16 = .ok (.iload_n 2, 1) := by decide +kernel
theorem dX4_inLoop_17 : decode cX4_inLoop 17 = .ok (.iaload, 1) := by decide +kernel
theorem dX4_inLoop_18 : decode cX4_inLoop 18 = .ok (.bipush 8, 2) := by decide +kernel
theorem dX4_inLoop_20 : decode cX4_inLoop 20 = .ok (.if_icmp .ne 8, 3) := by decide +kernel
theorem dX4_inLoop_23 : decode cX4_inLoop 23 = .ok (.iconst 1, 1) := by decide +kernel
theorem dX4_inLoop_24 : decode cX4_inLoop 24 = .ok (.istore_n 1, 1) := by decide +kernel
theorem dX4_inLoop_25 : decode cX4_inLoop 25 = .ok (.goto 16, 3) := by decide +kernel
theorem dX4_inLoop_28 : decode cX4_inLoop 28 = .ok (.aload_n 0, 1) := by decide +kernel
theorem dX4_inLoop_29 : decode cX4_inLoop 29 = .ok (.getfield 9, 3) := by decide +kernel
theorem dX4_inLoop_32 : decode cX4_inLoop 32 = .ok (.iload_n 2, 1) := by decide +kernel
theorem dX4_inLoop_33 : decode cX4_inLoop 33 = .ok (.iaload, 1) := by decide +kernel
theorem dX4_inLoop_34 : decode cX4_inLoop 34 = .ok (.bipush 9, 2) := by decide +kernel
theorem dX4_inLoop_36 : decode cX4_inLoop 36 = .ok (.if_icmp .ne 5, 3) := by decide +kernel
theorem dX4_inLoop_39 : decode cX4_inLoop 39 = .ok (.iconst 0, 1) := by decide +kernel
theorem dX4_inLoop_40 : decode cX4_inLoop 40 = .ok (.istore_n 1, 1) := by decide +kernel
theorem dX4_inLoop_41 : decode cX4_inLoop 41 = .ok (.iinc 2 1, 3) := by decide +kernel
theorem dX4_inLoop_44 : decode cX4_inLoop 44 = .ok (.goto (-40), 3) := by decide +kernel
theorem dX4_inLoop_47 : decode cX4_inLoop 47 = .ok (.iload_n 1, 1) := by decide +kernel
theorem dX4_inLoop_48 : decode cX4_inLoop 48 = .ok (.ireturn, 1) := by decide +kernel
theorem dX4_marks_0 : decode cX4_marks 0 = .ok (.iconst 0, 1) := by decide +kernel
theorem dX4_marks_1 : decode cX4_marks 1 = .ok (.istore_n 1, 1) := by decide +kernel
theorem dX4_marks_2 : decode cX4_marks 2 = .ok (.iconst 0, 1) := by decide +kernel
theorem dX4_marks_3 : decode cX4_marks 3 = .ok (.istore_n 2, 1) := by decide +kernel
theorem dX4_marks_4 : decode cX4_marks 4 = .ok (.iload_n 2, 1) := by decide +kernel
theorem dX4_marks_5 : decode cX4_marks 5 = .ok (.aload_n 0, 1) := by decide +kernel
theorem dX4_marks_6 : decode cX4_marks 6 = .ok (.getfield 34, 3) := by decide +kernel
theorem dX4_marks_9 : decode cX4_marks 9 = .ok (.if_icmp .ge 21, 3) := by decide +kernel
theorem dX4_marks_12 : decode cX4_marks 12 = .ok (.aload_n 0, 1) := by decide +kernel
theorem dX4_marks_13 : decode cX4_marks 13 = .ok (.getfield 28, 3) := by decide +kernel
theorem dX4_marks_16 : decode cX4_marks 16 = .ok (.iload_n 2, 1) := by decide +kernel
theorem dX4_marks_17 : decode cX4_marks 17 = .ok (.baload, 1) := by decide +kernel
theorem dX4_marks_18 : decode cX4_marks 18 = .ok (.ifCond .eq 6, 3) := by decide +kernel
theorem dX4_marks_21 : decode cX4_marks 21 = .ok (.iinc 1 1, 3) := by decide +kernel
theorem dX4_marks_24 : decode cX4_marks 24 = .ok (.iinc 2 1, 3) := by decide +kernel
theorem dX4_marks_27 : decode cX4_marks 27 = .ok (.goto (-23), 3) := by decide +kernel
theorem dX4_marks_30 : decode cX4_marks 30 = .ok (.iload_n 1, 1) := by decide +kernel
theorem dX4_marks_31 : decode cX4_marks 31 = .ok (.ireturn, 1) := by decide +kernel
theorem dX4_valueOfA_0 : decode cX4_valueOfA 0 = .ok (.aload_n 2, 1) := by decide +kernel
theorem dX4_valueOfA_1 : decode cX4_valueOfA 1 = .ok (.aload_n 0, 1) := by decide +kernel
theorem dX4_valueOfA_2 : decode cX4_valueOfA 2 = .ok (.getfield 18, 3) := by decide +kernel
theorem dX4_valueOfA_5 : decode cX4_valueOfA 5 = .ok (.iload_n 1, 1) := by decide +kernel
theorem dX4_valueOfA_6 : decode cX4_valueOfA 6 = .ok (.iaload, 1) := by decide +kernel
theorem dX4_valueOfA_7 : decode cX4_valueOfA 7 = .ok (.laload, 1) := by decide +kernel
theorem dX4_valueOfA_8 : decode cX4_valueOfA 8 = .ok (.lreturn, 1) := by decide +kernel
theorem dX4_valueOfB_0 : decode cX4_valueOfB 0 = .ok (.aload_n 0, 1) := by decide +kernel
theorem dX4_valueOfB_1 : decode cX4_valueOfB 1 = .ok (.getfield 24, 3) := by decide +kernel
theorem dX4_valueOfB_4 : decode cX4_valueOfB 4 = .ok (.iload_n 1, 1) := by decide +kernel
theorem dX4_valueOfB_5 : decode cX4_valueOfB 5 = .ok (.baload, 1) := by decide +kernel
theorem dX4_valueOfB_6 : decode cX4_valueOfB 6 = .ok (.ifCond .eq 14, 3) := by decide +kernel
theorem dX4_valueOfB_9 : decode cX4_valueOfB 9 = .ok (.aload_n 2, 1) := by decide +kernel
theorem dX4_valueOfB_10 : decode cX4_valueOfB 10 = .ok (.aload_n 0, 1) := by decide +kernel
theorem dX4_valueOfB_11 : decode cX4_valueOfB 11 = .ok (.getfield 21, 3) := by decide +kernel
theorem dX4_valueOfB_14 : decode cX4_valueOfB 14 = .ok (.iload_n 1, 1) := by decide +kernel
theorem dX4_valueOfB_15 : decode cX4_valueOfB 15 = .ok (.iaload, 1) := by decide +kernel
theorem dX4_valueOfB_16 : decode cX4_valueOfB 16 = .ok (.laload, 1) := by decide +kernel
theorem dX4_valueOfB_17 : decode cX4_valueOfB 17 = .ok (.goto 10, 3) := by decide +kernel
theorem dX4_valueOfB_20 : decode cX4_valueOfB 20 = .ok (.aload_n 0, 1) := by decide +kernel
theorem dX4_valueOfB_21 : decode cX4_valueOfB 21 = .ok (.getfield 21, 3) := by decide +kernel
theorem dX4_valueOfB_24 : decode cX4_valueOfB 24 = .ok (.iload_n 1, 1) := by decide +kernel
theorem dX4_valueOfB_25 : decode cX4_valueOfB 25 = .ok (.iaload, 1) := by decide +kernel
theorem dX4_valueOfB_26 : decode cX4_valueOfB 26 = .ok (.i2l, 1) := by decide +kernel
theorem dX4_valueOfB_27 : decode cX4_valueOfB 27 = .ok (.lreturn, 1) := by decide +kernel
set_option maxRecDepth 20000 in
theorem ggX4_retrace_X4_endOf : GoodIn wsX4_retrace wsX4_endOf := goodIn_r _ [9, 2, 3, 15, 16, 17, 18, 19, 20, 21, 22, 23] (by decide +kernel) (by decide +kernel)
set_option maxRecDepth 20000 in
theorem gX4_retrace_X4_endOf : GoodIn wsX4_retrace (wsV RX4 54 RX4 yX4_endOf wsX4_endOf) := goodIn_app (goodIn_of _ (by decide +kernel)) ggX4_retrace_X4_endOf
set_option maxRecDepth 20000 in
theorem ggX4_retrace_X4_trace : GoodIn wsX4_retrace wsX4_trace := goodIn_r _ [13, 1, 14, 15, 16, 17, 18, 19, 20, 21, 22, 23] (by decide +kernel) (by decide +kernel)
set_option maxRecDepth 20000 in
theorem gX4_retrace_X4_trace : GoodIn wsX4_retrace (wsV RX4 58 RX4 yX4_trace wsX4_trace) := goodIn_app (goodIn_of _ (by decide +kernel)) ggX4_retrace_X4_trace
theorem dX4_retrace_0 : decode cX4_retrace 0 = .ok (.aload_n 0, 1) := by decide +kernel
theorem dX4_retrace_1 : decode cX4_retrace 1 = .ok (.iconst 0, 1) := by decide +kernel
theorem dX4_retrace_2 : decode cX4_retrace 2 = .ok (.putfield 51, 3) := by decide +kernel
theorem dX4_retrace_5 : decode cX4_retrace 5 = .ok (.iconst 0, 1) := by decide +kernel
theorem dX4_retrace_6 : decode cX4_retrace 6 = .ok (.istore_n 1, 1) := by decide +kernel
theorem dX4_retrace_7 : decode cX4_retrace 7 = .ok (.iload_n 1, 1) := by decide +kernel
theorem dX4_retrace_8 : decode cX4_retrace 8 = .ok (.aload_n 0, 1) := by decide +kernel
theorem dX4_retrace_9 : decode cX4_retrace 9 = .ok (.getfield 34, 3) := by decide +kernel
theorem dX4_retrace_12 : decode cX4_retrace 12 = .ok (.if_icmp .ge 67, 3) := by decide +kernel
theorem dX4_retrace_15 : decode cX4_retrace 15 = .ok (.aload_n 0, 1) := by decide +kernel
theorem dX4_retrace_16 : decode cX4_retrace 16 = .ok (.getfield 9, 3) := by decide +kernel
theorem dX4_retrace_19 : decode cX4_retrace 19 = .ok (.iload_n 1, 1) := by decide +kernel
theorem dX4_retrace_20 : decode cX4_retrace 20 = .ok (.iaload, 1) := by decide +kernel
theorem dX4_retrace_21 : decode cX4_retrace 21 = .ok (.bipush 8, 2) := by decide +kernel
theorem dX4_retrace_23 : decode cX4_retrace 23 = .ok (.if_icmp .ne 42, 3) := by decide +kernel
theorem dX4_retrace_26 : decode cX4_retrace 26 = .ok (.aload_n 0, 1) := by decide +kernel
theorem dX4_retrace_27 : decode cX4_retrace 27 = .ok (.iload_n 1, 1) := by decide +kernel
theorem dX4_retrace_28 : decode cX4_retrace 28 = .ok (.invokevirtual 54, 3) := by decide +kernel
theorem dX4_retrace_31 : decode cX4_retrace 31 = .ok (.istore_n 2, 1) := by decide +kernel
theorem dX4_retrace_32 : decode cX4_retrace 32 = .ok (.iconst 0, 1) := by decide +kernel
theorem dX4_retrace_33 : decode cX4_retrace 33 = .ok (.istore_n 3, 1) := by decide +kernel
theorem dX4_retrace_34 : decode cX4_retrace 34 = .ok (.iload_n 3, 1) := by decide +kernel
theorem dX4_retrace_35 : decode cX4_retrace 35 = .ok (.aload_n 0, 1) := by decide +kernel
theorem dX4_retrace_36 : decode cX4_retrace 36 = .ok (.getfield 21, 3) := by decide +kernel
theorem dX4_retrace_39 : decode cX4_retrace 39 = .ok (.iload_n 1, 1) := by decide +kernel
theorem dX4_retrace_40 : decode cX4_retrace 40 = .ok (.iaload, 1) := by decide +kernel
theorem dX4_retrace_41 : decode cX4_retrace 41 = .ok (.if_icmp .ge 17, 3) := by decide +kernel
theorem dX4_retrace_44 : decode cX4_retrace 44 = .ok (.aload_n 0, 1) := by decide +kernel
theorem dX4_retrace_45 : decode cX4_retrace 45 = .ok (.iload_n 1, 1) := by decide +kernel
theorem dX4_retrace_46 : decode cX4_retrace 46 = .ok (.iconst 1, 1) := by decide +kernel
theorem dX4_retrace_47 : decode cX4_retrace 47 = .ok (.iadd, 1) := by decide +kernel
theorem dX4_retrace_48 : decode cX4_retrace 48 = .ok (.iload_n 2, 1) := by decide +kernel
theorem dX4_retrace_49 : decode cX4_retrace 49 = .ok (.invokevirtual 58, 3) := by decide +kernel
theorem dX4_retrace_52 : decode cX4_retrace 52 = .ok (.iinc 3 1, 3) := by decide +kernel
theorem dX4_retrace_55 : decode cX4_retrace 55 = .ok (.goto (-21), 3) := by decide +kernel
theorem dX4_retrace_58 : decode cX4_retrace 58 = .ok (.iload_n 2, 1) := by decide +kernel
theorem dX4_retrace_59 : decode cX4_retrace 59 = .ok (.iconst 1, 1) := by decide +kernel
theorem dX4_retrace_60 : decode cX4_retrace 60 = .ok (.iadd, 1) := by decide +kernel
theorem dX4_retrace_61 : decode cX4_retrace 61 = .ok (.istore_n 1, 1) := by decide +kernel
theorem dX4_retrace_62 : decode cX4_retrace 62 = .ok (.goto (-55), 3) := by decide +kernel
theorem dX4_retrace_65 : decode cX4_retrace 65 = .ok (.aload_n 0, 1) := by decide +kernel
theorem dX4_retrace_66 : decode cX4_retrace 66 = .ok (.iload_n 1, 1) := by decide +kernel
theorem dX4_retrace_67 : decode cX4_retrace 67 = .ok (.iload_n 1, 1) := by decide +kernel
theorem dX4_retrace_68 : decode cX4_retrace 68 = .ok (.iconst 1, 1) := by decide +kernel
theorem dX4_retrace_69 : decode cX4_retrace 69 = .ok (.iadd, 1) := by decide +kernel
theorem dX4_retrace_70 : decode cX4_retrace 70 = .ok (.invokevirtual 58, 3) := by decide +kernel
theorem dX4_retrace_73 : decode cX4_retrace 73 = .ok (.iinc 1 1, 3) := by decide +kernel
theorem dX4_retrace_76 : decode cX4_retrace 76 = .ok (.goto (-69), 3) := by decide +kernel
theorem dX4_retrace_79 : decode cX4_retrace 79 = .ok (.return_, 1) := by decide +kernel
theorem dX4_endOf_0 : decode cX4_endOf 0 = .ok (.iload_n 1, 1) := by decide +kernel
theorem dX4_endOf_1 : decode cX4_endOf 1 = .ok (.iconst 1, 1) := by decide +kernel
theorem dX4_endOf_2 : decode cX4_endOf 2 = .ok (.iadd, 1) := by decide +kernel
theorem dX4_endOf_3 : decode cX4_endOf 3 = .ok (.istore_n 2, 1) := by decide +kernel
theorem dX4_endOf_4 : decode cX4_endOf 4 = .ok (.iload_n 2, 1) := by decide +kernel
theorem dX4_endOf_5 : decode cX4_endOf 5 = .ok (.aload_n 0, 1) := by decide +kernel
theorem dX4_endOf_6 : decode cX4_endOf 6 = .ok (.getfield 34, 3) := by decide +kernel
theorem dX4_endOf_9 : decode cX4_endOf 9 = .ok (.if_icmp .ge 22, 3) := by decide +kernel
theorem dX4_endOf_12 : decode cX4_endOf 12 = .ok (.aload_n 0, 1) := by decide +kernel
theorem dX4_endOf_13 : decode cX4_endOf 13 = .ok (.getfield 9, 3) := by decide +kernel
theorem dX4_endOf_16 : decode cX4_endOf 16 = .ok (.iload_n 2, 1) := by decide +kernel
theorem dX4_endOf_17 : decode cX4_endOf 17 = .ok (.iaload, 1) := by decide +kernel
theorem dX4_endOf_18 : decode cX4_endOf 18 = .ok (.bipush 9, 2) := by decide +kernel
theorem dX4_endOf_20 : decode cX4_endOf 20 = .ok (.if_icmp .ne 5, 3) := by decide +kernel
theorem dX4_endOf_23 : decode cX4_endOf 23 = .ok (.iload_n 2, 1) := by decide +kernel
theorem dX4_endOf_24 : decode cX4_endOf 24 = .ok (.ireturn, 1) := by decide +kernel
theorem dX4_endOf_25 : decode cX4_endOf 25 = .ok (.iinc 2 1, 3) := by decide +kernel
theorem dX4_endOf_28 : decode cX4_endOf 28 = .ok (.goto (-24), 3) := by decide +kernel
theorem dX4_endOf_31 : decode cX4_endOf 31 = .ok (.aload_n 0, 1) := by decide +kernel
theorem dX4_endOf_32 : decode cX4_endOf 32 = .ok (.getfield 34, 3) := by decide +kernel
theorem dX4_endOf_35 : decode cX4_endOf 35 = .ok (.ireturn, 1) := by decide +kernel
theorem dX4_trace_0 : decode cX4_trace 0 = .ok (.iload_n 1, 1) := by decide +kernel
theorem dX4_trace_1 : decode cX4_trace 1 = .ok (.istore_n 3, 1) := by decide +kernel
theorem dX4_trace_2 : decode cX4_trace 2 = .ok (.iload_n 3, 1) := by decide +kernel
theorem dX4_trace_3 : decode cX4_trace 3 = .ok (.iload_n 2, 1) := by decide +kernel
theorem dX4_trace_4 : decode cX4_trace 4 = .ok (.if_icmp .ge 41, 3) := by decide +kernel
theorem dX4_trace_7 : decode cX4_trace 7 = .ok (.aload_n 0, 1) := by decide +kernel
theorem dX4_trace_8 : decode cX4_trace 8 = .ok (.getfield 51, 3) := by decide +kernel
theorem dX4_trace_11 : decode cX4_trace 11 = .ok (.aload_n 0, 1) := by decide +kernel
theorem dX4_trace_12 : decode cX4_trace 12 = .ok (.getfield 31, 3) := by decide +kernel
theorem dX4_trace_15 : decode cX4_trace 15 = .ok (.arraylength, 1) := by decide +kernel
theorem dX4_trace_16 : decode cX4_trace 16 = .ok (.if_icmp .ge 29, 3) := by decide +kernel
theorem dX4_trace_19 : decode cX4_trace 19 = .ok (.aload_n 0, 1) := by decide +kernel
theorem dX4_trace_20 : decode cX4_trace 20 = .ok (.getfield 31, 3) := by decide +kernel
theorem dX4_trace_23 : decode cX4_trace 23 = .ok (.aload_n 0, 1) := by decide +kernel
theorem dX4_trace_24 : decode cX4_trace 24 = .ok (.getfield 51, 3) := by decide +kernel
theorem dX4_trace_27 : decode cX4_trace 27 = .ok (.iload_n 3, 1) := by decide +kernel
theorem dX4_trace_28 : decode cX4_trace 28 = .ok (.iastore, 1) := by decide +kernel
theorem dX4_trace_29 : decode cX4_trace 29 = .ok (.aload_n 0, 1) := by decide +kernel
theorem dX4_trace_30 : decode cX4_trace 30 = .ok (.dup, 1) := by decide +kernel
theorem dX4_trace_31 : decode cX4_trace 31 = .ok (.getfield 51, 3) := by decide +kernel
theorem dX4_trace_34 : decode cX4_trace 34 = .ok (.iconst 1, 1) := by decide +kernel
theorem dX4_trace_35 : decode cX4_trace 35 = .ok (.iadd, 1) := by decide +kernel
theorem dX4_trace_36 : decode cX4_trace 36 = .ok (.putfield 51, 3) := by decide +kernel
theorem dX4_trace_39 : decode cX4_trace 39 = .ok (.iinc 3 1, 3) := by decide +kernel
theorem dX4_trace_42 : decode cX4_trace 42 = .ok (.goto (-40), 3) := by decide +kernel
theorem dX4_trace_45 : decode cX4_trace 45 = .ok (.return_, 1) := by decide +kernel
theorem dX5_init_0 : decode cX5_init 0 = .ok (.aload_n 0, 1) := by decide +kernel
theorem dX5_init_1 : decode cX5_init 1 = .ok (.invokespecial 3, 3) := by decide +kernel
theorem dX5_init_4 : decode cX5_init 4 = .ok (.aload_n 0, 1) := by decide +kernel
theorem dX5_init_5 : decode cX5_init 5 = .ok (.bipush 24, 2) := by decide +kernel
theorem dX5_init_7 : decode cX5_init 7 = .ok (.newarray .int, 2) := by decide +kernel
theorem dX5_init_9 : decode cX5_init 9 = .ok (.putfield 9, 3) := by decide +kernel
theorem dX5_init_12 : decode cX5_init 12 = .ok (.aload_n 0, 1) := by decide +kernel
theorem dX5_init_13 : decode cX5_init 13 = .ok (.bipush 24, 2) := by decide +kernel
theorem dX5_init_15 : decode cX5_init 15 = .ok (.newarray .int, 2) := by decide +kernel
theorem dX5_init_17 : decode cX5_init 17 = .ok (.putfield 15, 3) := by decide +kernel
theorem dX5_init_20 : decode cX5_init 20 = .ok (.aload_n 0, 1) := by decide +kernel
theorem dX5_init_21 : decode cX5_init 21 = .ok (.bipush 24, 2) := by decide +kernel
theorem dX5_init_23 : decode cX5_init 23 = .ok (.newarray .int, 2) := by decide +kernel
theorem dX5_init_25 : decode cX5_init 25 = .ok (.putfield 18, 3) := by decide +kernel
theorem dX5_init_28 : decode cX5_init 28 = .ok (.aload_n 0, 1) := by decide +kernel
theorem dX5_init_29 : decode cX5_init 29 = .ok (.aload_n 1, 1) := by decide +kernel
theorem dX5_init_30 : decode cX5_init 30 = .ok (.putfield 21, 3) := by decide +kernel
theorem dX5_init_33 : decode cX5_init 33 = .ok (.aload_n 0, 1) := by decide +kernel
theorem dX5_init_34 : decode cX5_init 34 = .ok (.aload_n 2, 1) := by decide +kernel
theorem dX5_init_35 : decode cX5_init 35 = .ok (.putfield 25, 3) := by decide +kernel
theorem dX5_init_38 : decode cX5_init 38 = .ok (.return_, 1) := by decide +kernel
set_option maxRecDepth 20000 in
theorem ggX5_learn_J7_fill_53178 : GoodIn wsX5_learn wsJ7_fill_53178 := goodIn_r _ [13] (by decide +kernel) (by decide +kernel)
set_option maxRecDepth 20000 in
theorem gX5_learn_J7_fill_53178 : GoodIn wsX5_learn (va_wsS RX5 33 yJ7_fill_53178 wsJ7_fill_53178) := goodIn_app (goodIn_of _ (by decide +kernel)) ggX5_learn_J7_fill_53178
set_option maxRecDepth 20000 in
theorem ggX5_learn_X3_follow : GoodIn wsX5_learn wsX3_follow := goodIn_r _ [18, 19, 20, 21, 22, 23, 24, 25, 26, 27, 28, 12, 29, 30, 31, 32, 33, 34, 35, 36, 37, 38, 39, 40, 41, 42, 43, 44, 45, 46, 47, 48, 49, 50, 51, 52, 53, 54, 55, 56, 57, 58, 59, 17, 60, 61, 62, 63, 64, 65, 66, 67, 68, 69, 70, 71, 72, 73, 74, 75, 76, 77, 78, 79, 80, 81, 82, 83, 84, 85, 86, 87, 88, 89, 90, 91, 92, 93, 94, 95, 96, 97, 98, 99, 100, 101, 102, 103, 104, 129, 130, 131, 132, 133, 134, 135, 136, 137, 138, 139, 140, 141, 142, 143, 144, 145, 146, 147, 148] (by decide +kernel) (by decide +kernel)
set_option maxRecDepth 20000 in
theorem gX5_learn_X3_follow : GoodIn wsX5_learn (wsV RX5 51 RX3 yX3_follow wsX3_follow) := goodIn_app (goodIn_of _ (by decide +kernel)) ggX5_learn_X3_follow
set_option maxRecDepth 20000 in
theorem ggX5_learn_X5_note : GoodIn wsX5_learn wsX5_note := goodIn_r _ [109, 9, 110, 5, 111, 112, 113, 114, 108, 115, 2, 3, 116, 117, 118, 119, 4, 120, 121, 122, 123, 124, 125, 126, 129, 130, 131, 132, 133, 134] (by decide +kernel) (by decide +kernel)
set_option maxRecDepth 20000 in
theorem gX5_learn_X5_note : GoodIn wsX5_learn (wsV RX5 57 RX5 yX5_note wsX5_note) := goodIn_app (goodIn_of _ (by decide +kernel)) ggX5_learn_X5_note
theorem dX5_learn_0 : decode cX5_learn 0 = .ok (.aload_n 0, 1) := by decide +kernel
theorem dX5_learn_1 : decode cX5_learn 1 = .ok (.getfield 29, 3) := by decide +kernel
theorem dX5_learn_4 : decode cX5_learn 4 = .ok (.ifCond .eq 4, 3) := by decide +kernel
theorem dX5_learn_7 : decode cX5_learn 7 = .ok (.return_, 1) := by decide +kernel
theorem dX5_learn_8 : decode cX5_learn 8 = .ok (.aload_n 0, 1) := by decide +kernel
theorem dX5_learn_9 : decode cX5_learn 9 = .ok (.iconst 1, 1) := by decide +kernel
theorem dX5_learn_10 : decode cX5_learn 10 = .ok (.putfield 29, 3) := by decide +kernel
theorem dX5_learn_13 : decode cX5_learn 13 = .ok (.aload_n 0, 1) := by decide +kernel
theorem dX5_learn_14 : decode cX5_learn 14 = .ok (.getfield 9, 3) := by decide +kernel
theorem dX5_learn_17 : decode cX5_learn 17 = .ok (.iconst 0, 1) := by decide +kernel
theorem dX5_learn_18 : decode cX5_learn 18 = .ok (.invokestatic 33, 3) := by decide +kernel
theorem dX5_learn_21 : decode cX5_learn 21 = .ok (.aload_n 0, 1) := by decide +kernel
theorem dX5_learn_22 : decode cX5_learn 22 = .ok (.getfield 15, 3) := by decide +kernel
theorem dX5_learn_25 : decode cX5_learn 25 = .ok (.iconst (-1), 1) := by decide +kernel
theorem dX5_learn_26 : decode cX5_learn 26 = .ok (.invokestatic 33, 3) := by decide +kernel
theorem dX5_learn_29 : decode cX5_learn 29 = .ok (.aload_n 0, 1) := by decide +kernel
theorem dX5_learn_30 : decode cX5_learn 30 = .ok (.getfield 18, 3) := by decide +kernel
theorem dX5_learn_33 : decode cX5_learn 33 = .ok (.iconst 0, 1) := by decide +kernel
theorem dX5_learn_34 : decode cX5_learn 34 = .ok (.invokestatic 33, 3) := by decide +kernel
theorem dX5_learn_37 : decode cX5_learn 37 = .ok (.aload_n 0, 1) := by decide +kernel
theorem dX5_learn_38 : decode cX5_learn 38 = .ok (.iconst 0, 1) := by decide +kernel
theorem dX5_learn_39 : decode cX5_learn 39 = .ok (.putfield 39, 3) := by decide +kernel
theorem dX5_learn_42 : decode cX5_learn 42 = .ok (.aload_n 0, 1) := by decide +kernel
theorem dX5_learn_43 : decode cX5_learn 43 = .ok (.getfield 25, 3) := by decide +kernel
theorem dX5_learn_46 : decode cX5_learn 46 = .ok (.getfield 43, 3) := by decide +kernel
theorem dX5_learn_49 : decode cX5_learn 49 = .ok (.iconst 0, 1) := by decide +kernel
theorem dX5_learn_50 : decode cX5_learn 50 = .ok (.iaload, 1) := by decide +kernel
theorem dX5_learn_51 : decode cX5_learn 51 = .ok (.istore_n 1, 1) := by decide +kernel
theorem dX5_learn_52 : decode cX5_learn 52 = .ok (.iload_n 1, 1) := by decide +kernel
theorem dX5_learn_53 : decode cX5_learn 53 = .ok (.aload_n 0, 1) := by decide +kernel
theorem dX5_learn_54 : decode cX5_learn 54 = .ok (.getfield 25, 3) := by decide +kernel
theorem dX5_learn_57 : decode cX5_learn 57 = .ok (.getfield 48, 3) := by decide +kernel
theorem dX5_learn_60 : decode cX5_learn 60 = .ok (.iconst 0, 1) := by decide +kernel
theorem dX5_learn_61 : decode cX5_learn 61 = .ok (.iaload, 1) := by decide +kernel
theorem dX5_learn_62 : decode cX5_learn 62 = .ok (.if_icmp .gt 77, 3) := by decide +kernel
theorem dX5_learn_65 : decode cX5_learn 65 = .ok (.aload_n 0, 1) := by decide +kernel
theorem dX5_learn_66 : decode cX5_learn 66 = .ok (.getfield 25, 3) := by decide +kernel
theorem dX5_learn_69 : decode cX5_learn 69 = .ok (.getfield 43, 3) := by decide +kernel
theorem dX5_learn_72 : decode cX5_learn 72 = .ok (.iconst 1, 1) := by decide +kernel
theorem dX5_learn_73 : decode cX5_learn 73 = .ok (.iaload, 1) := by decide +kernel
theorem dX5_learn_74 : decode cX5_learn 74 = .ok (.istore_n 2, 1) := by decide +kernel
theorem dX5_learn_75 : decode cX5_learn 75 = .ok (.iload_n 2, 1) := by decide +kernel
theorem dX5_learn_76 : decode cX5_learn 76 = .ok (.aload_n 0, 1) := by decide +kernel
theorem dX5_learn_77 : decode cX5_learn 77 = .ok (.getfield 25, 3) := by decide +kernel
theorem dX5_learn_80 : decode cX5_learn 80 = .ok (.getfield 48, 3) := by decide +kernel
theorem dX5_learn_83 : decode cX5_learn 83 = .ok (.iconst 1, 1) := by decide +kernel
theorem dX5_learn_84 : decode cX5_learn 84 = .ok (.iaload, 1) := by decide +kernel
theorem dX5_learn_85 : decode cX5_learn 85 = .ok (.if_icmp .gt 48, 3) := by decide +kernel
theorem dX5_learn_88 : decode cX5_learn 88 = .ok (.aload_n 0, 1) := by decide +kernel
theorem dX5_learn_89 : decode cX5_learn 89 = .ok (.getfield 21, 3) := by decide +kernel
theorem dX5_learn_92 : decode cX5_learn 92 = .ok (.iload_n 1, 1) := by decide +kernel
theorem dX5_learn_93 : decode cX5_learn 93 = .ok (.iload_n 2, 1) := by decide +kernel
theorem dX5_learn_94 : decode cX5_learn 94 = .ok (.invokevirtual 51, 3) := by decide +kernel
theorem dX5_learn_97 : decode cX5_learn 97 = .ok (.aload_n 0, 1) := by decide +kernel
theorem dX5_learn_98 : decode cX5_learn 98 = .ok (.bipush 32, 2) := by decide +kernel
theorem dX5_learn_100 : decode cX5_learn 100 = .ok (.iload_n 1, 1) := by decide +kernel
theorem dX5_learn_101 : decode cX5_learn 101 = .ok (.aload_n 0, 1) := by decide +kernel
theorem dX5_learn_102 : decode cX5_learn 102 = .ok (.getfield 25, 3) := by decide +kernel
theorem dX5_learn_105 : decode cX5_learn 105 = .ok (.getfield 43, 3) := by decide +kernel
theorem dX5_learn_108 : decode cX5_learn 108 = .ok (.iconst 0, 1) := by decide +kernel
theorem dX5_learn_109 : decode cX5_learn 109 = .ok (.iaload, 1) := by decide +kernel
theorem dX5_learn_110 : decode cX5_learn 110 = .ok (.isub, 1) := by decide +kernel
theorem dX5_learn_111 : decode cX5_learn 111 = .ok (.imul, 1) := by decide +kernel
theorem dX5_learn_112 : decode cX5_learn 112 = .ok (.iload_n 2, 1) := by decide +kernel
theorem dX5_learn_113 : decode cX5_learn 113 = .ok (.iadd, 1) := by decide +kernel
theorem dX5_learn_114 : decode cX5_learn 114 = .ok (.aload_n 0, 1) := by decide +kernel
theorem dX5_learn_115 : decode cX5_learn 115 = .ok (.getfield 25, 3) := by decide +kernel
theorem dX5_learn_118 : decode cX5_learn 118 = .ok (.getfield 43, 3) := by decide +kernel
theorem dX5_learn_121 : decode cX5_learn 121 = .ok (.iconst 1, 1) := by decide +kernel
theorem dX5_learn_122 : decode cX5_learn 122 = .ok (.iaload, 1) := by decide +kernel
theorem dX5_learn_123 : decode cX5_learn 123 = .ok (.isub, 1) := by decide +kernel
theorem dX5_learn_124 : decode cX5_learn 124 = .ok (.invokevirtual 57, 3) := by decide +kernel
theorem dX5_learn_127 : decode cX5_learn 127 = .ok (.iinc 2 1, 3) := by decide +kernel
theorem dX5_learn_130 : decode cX5_learn 130 = .ok (.goto (-55), 3) := by decide +kernel
theorem dX5_learn_133 : decode cX5_learn 133 = .ok (.iinc 1 1, 3) := by decide +kernel
theorem dX5_learn_136 : decode cX5_learn 136 = .ok (.goto (-84), 3) := by decide +kernel
theorem dX5_learn_139 : decode cX5_learn 139 = .ok (.return_, 1) := by decide +kernel
set_option maxRecDepth 20000 in
theorem ggX5_note_X5_noteOver : GoodIn wsX5_note wsX5_noteOver := goodIn_r _ [9, 10, 11, 17, 18, 19, 20, 21, 22, 23] (by decide +kernel) (by decide +kernel)
set_option maxRecDepth 20000 in
theorem gX5_note_X5_noteOver : GoodIn wsX5_note (wsV RX5 64 RX5 yX5_noteOver wsX5_noteOver) := goodIn_app (goodIn_of _ (by decide +kernel)) ggX5_note_X5_noteOver
set_option maxRecDepth 20000 in
theorem ggX5_note_X5_noteTurned : GoodIn wsX5_note wsX5_noteTurned := goodIn_r _ [15, 16, 17, 18, 19, 20, 21, 22, 23] (by decide +kernel) (by decide +kernel)
set_option maxRecDepth 20000 in
theorem gX5_note_X5_noteTurned : GoodIn wsX5_note (wsV RX5 70 RX5 yX5_noteTurned wsX5_noteTurned) := goodIn_app (goodIn_of _ (by decide +kernel)) ggX5_note_X5_noteTurned
theorem dX5_note_0 : decode cX5_note 0 = .ok (.aload_n 0, 1) := by decide +kernel
theorem dX5_note_1 : decode cX5_note 1 = .ok (.getfield 21, 3) := by decide +kernel
theorem dX5_note_4 : decode cX5_note 4 = .ok (.getfield 61, 3) := by decide +kernel
theorem dX5_note_7 : decode cX5_note 7 = .ok (.ifCond .eq 25, 3) := by decide +kernel
theorem dX5_note_10 : decode cX5_note 10 = .ok (.aload_n 0, 1) := by decide +kernel
theorem dX5_note_11 : decode cX5_note 11 = .ok (.dup, 1) := by decide +kernel
theorem dX5_note_12 : decode cX5_note 12 = .ok (.getfield 39, 3) := by decide +kernel
theorem dX5_note_15 : decode cX5_note 15 = .ok (.iconst 1, 1) := by decide +kernel
theorem dX5_note_16 : decode cX5_note 16 = .ok (.iadd, 1) := by decide +kernel
theorem dX5_note_17 : decode cX5_note 17 = .ok (.putfield 39, 3) := by decide +kernel
theorem dX5_note_20 : decode cX5_note 20 = .ok (.aload_n 0, 1) := by decide +kernel
theorem dX5_note_21 : decode cX5_note 21 = .ok (.aload_n 0, 1) := by decide +kernel
theorem dX5_note_22 : decode cX5_note 22 = .ok (.getfield 21, 3) := by decide +kernel
theorem dX5_note_25 : decode cX5_note 25 = .ok (.getfield 61, 3) := by decide +kernel
theorem dX5_note_28 : decode cX5_note 28 = .ok (.iload_n 1, 1) := by decide +kernel
theorem dX5_note_29 : decode cX5_note 29 = .ok (.invokevirtual 64, 3) := by decide +kernel
theorem dX5_note_32 : decode cX5_note 32 = .ok (.aload_n 0, 1) := by decide +kernel
theorem dX5_note_33 : decode cX5_note 33 = .ok (.getfield 21, 3) := by decide +kernel
theorem dX5_note_36 : decode cX5_note 36 = .ok (.getfield 67, 3) := by decide +kernel
theorem dX5_note_39 : decode cX5_note 39 = .ok (.ifCond .eq 14, 3) := by decide +kernel
theorem dX5_note_42 : decode cX5_note 42 = .ok (.aload_n 0, 1) := by decide +kernel
theorem dX5_note_43 : decode cX5_note 43 = .ok (.aload_n 0, 1) := by decide +kernel
theorem dX5_note_44 : decode cX5_note 44 = .ok (.getfield 21, 3) := by decide +kernel
theorem dX5_note_47 : decode cX5_note 47 = .ok (.getfield 67, 3) := by decide +kernel
theorem dX5_note_50 : decode cX5_note 50 = .ok (.invokevirtual 70, 3) := by decide +kernel
theorem dX5_note_53 : decode cX5_note 53 = .ok (.return_, 1) := by decide +kernel
theorem dX5_noteOver_0 : decode cX5_noteOver 0 = .ok (.iconst 0, 1) := by decide +kernel
theorem dX5_noteOver_1 : decode cX5_noteOver 1 = .ok (.istore_n 3, 1) := by decide +kernel
theorem dX5_noteOver_2 : decode cX5_noteOver 2 = .ok (.iload_n 3, 1) := by decide +kernel
theorem dX5_noteOver_3 : decode cX5_noteOver 3 = .ok (.bipush 24, 2) := by decide +kernel
theorem dX5_noteOver_5 : decode cX5_noteOver 5 = .ok (.if_icmp .ge 44, 3) := by decide +kernel
theorem dX5_noteOver_8 : decode cX5_noteOver 8 = .ok (.iload_n 1, 1) := by decide +kernel
theorem dX5_noteOver_9 : decode cX5_noteOver 9 = .ok (.iload_n 3, 1) := by decide +kernel
theorem dX5_noteOver_10 : decode cX5_noteOver 10 = .ok (.ishr, 1) := by decide +kernel
theorem dX5_noteOver_11 : decode cX5_noteOver 11 = .ok (.iconst 1, 1) := by decide +kernel
theorem dX5_noteOver_12 : decode cX5_noteOver 12 = .ok (.iand, 1) := by decide +kernel
theorem dX5_noteOver_13 : decode cX5_noteOver 13 = .ok (.iconst 1, 1) := by decide +kernel
theorem dX5_noteOver_14 : decode cX5_noteOver 14 = .ok (.if_icmp .ne 29, 3) := by decide +kernel
theorem dX5_noteOver_17 : decode cX5_noteOver 17 = .ok (.aload_n 0, 1) := by decide +kernel
theorem dX5_noteOver_18 : decode cX5_noteOver 18 = .ok (.getfield 9, 3) := by decide +kernel
theorem dX5_noteOver_21 : decode cX5_noteOver 21 = .ok (.iload_n 3, 1) := by decide +kernel
theorem dX5_noteOver_22 : decode cX5_noteOver 22 = .ok (.iaload, 1) := by decide +kernel
theorem dX5_noteOver_23 : decode cX5_noteOver 23 = .ok (.ifCond .ne 10, 3) := by decide +kernel
theorem dX5_noteOver_26 : decode cX5_noteOver 26 = .ok (.aload_n 0, 1) := by decide +kernel
theorem dX5_noteOver_27 : decode cX5_noteOver 27 = .ok (.getfield 15, 3) := by decide +kernel
theorem dX5_noteOver_30 : decode cX5_noteOver 30 = .ok (.iload_n 3, 1) := by decide +kernel
theorem dX5_noteOver_31 : decode cX5_noteOver 31 = .ok (.iload_n 2, 1) := by decide +kernel
theorem dX5_noteOver_32 : decode cX5_noteOver 32 = .ok (.iastore, 1) := by decide +kernel
theorem dX5_noteOver_33 : decode cX5_noteOver 33 = .ok (.aload_n 0, 1) := by decide +kernel
theorem dX5_noteOver_34 : decode cX5_noteOver 34 = .ok (.getfield 9, 3) := by decide +kernel
theorem dX5_noteOver_37 : decode cX5_noteOver 37 = .ok (.iload_n 3, 1) := by decide +kernel
theorem dX5_noteOver_38 : decode cX5_noteOver 38 = .ok (.dup2, 1) := by decide +kernel
theorem dX5_noteOver_39 : decode cX5_noteOver 39 = .ok (.iaload, 1) := by decide +kernel
theorem dX5_noteOver_40 : decode cX5_noteOver 40 = .ok (.iconst 1, 1) := by decide +kernel
theorem dX5_noteOver_41 : decode cX5_noteOver 41 = .ok (.iadd, 1) := by decide +kernel
theorem dX5_noteOver_42 : decode cX5_noteOver 42 = .ok (.iastore, 1) := by decide +kernel
theorem dX5_noteOver_43 : decode cX5_noteOver 43 = .ok (.iinc 3 1, 3) := by decide +kernel
theorem dX5_noteOver_46 : decode cX5_noteOver 46 = .ok (.goto (-44), 3) := by decide +kernel
theorem dX5_noteOver_49 : decode cX5_noteOver 49 = .ok (.return_, 1) := by decide +kernel
theorem dX5_noteTurned_0 : decode cX5_noteTurned 0 = .ok (.iconst 0, 1) := by decide +kernel
theorem dX5_noteTurned_1 : decode cX5_noteTurned 1 = .ok (.istore_n 2, 1) := by decide +kernel
theorem dX5_noteTurned_2 : decode cX5_noteTurned 2 = .ok (.iload_n 2, 1) := by decide +kernel
theorem dX5_noteTurned_3 : decode cX5_noteTurned 3 = .ok (.bipush 24, 2) := by decide +kernel
theorem dX5_noteTurned_5 : decode cX5_noteTurned 5 = .ok (.if_icmp .ge 23, 3) := by decide +kernel
theorem dX5_noteTurned_8 : decode cX5_noteTurned 8 = .ok (.aload_n 0, 1) := by decide +kernel
theorem dX5_noteTurned_9 : decode cX5_noteTurned 9 = .ok (.getfield 18, 3) := by decide +kernel
theorem dX5_noteTurned_12 : decode cX5_noteTurned 12 = .ok (.iload_n 2, 1) := by decide +kernel
theorem dX5_noteTurned_13 : decode cX5_noteTurned 13 = .ok (.dup2, 1) := by decide +kernel
theorem dX5_noteTurned_14 : decode cX5_noteTurned 14 = .ok (.iaload, 1) := by decide +kernel
theorem dX5_noteTurned_15 : decode cX5_noteTurned 15 = .ok (.iload_n 1, 1) := by decide +kernel
theorem dX5_noteTurned_16 : decode cX5_noteTurned 16 = .ok (.iload_n 2, 1) := by decide +kernel
theorem dX5_noteTurned_17 : decode cX5_noteTurned 17 = .ok (.ishr, 1) := by decide +kernel
theorem dX5_noteTurned_18 : decode cX5_noteTurned 18 = .ok (.iconst 1, 1) := by decide +kernel
theorem dX5_noteTurned_19 : decode cX5_noteTurned 19 = .ok (.iand, 1) := by decide +kernel
theorem dX5_noteTurned_20 : decode cX5_noteTurned 20 = .ok (.iadd, 1) := by decide +kernel
theorem dX5_noteTurned_21 : decode cX5_noteTurned 21 = .ok (.iastore, 1) := by decide +kernel
theorem dX5_noteTurned_22 : decode cX5_noteTurned 22 = .ok (.iinc 2 1, 3) := by decide +kernel
theorem dX5_noteTurned_25 : decode cX5_noteTurned 25 = .ok (.goto (-23), 3) := by decide +kernel
theorem dX5_noteTurned_28 : decode cX5_noteTurned 28 = .ok (.return_, 1) := by decide +kernel
theorem dX6_init_0 : decode cX6_init 0 = .ok (.aload_n 0, 1) := by decide +kernel
theorem dX6_init_1 : decode cX6_init 1 = .ok (.invokespecial 3, 3) := by decide +kernel
theorem dX6_init_4 : decode cX6_init 4 = .ok (.aload_n 0, 1) := by decide +kernel
theorem dX6_init_5 : decode cX6_init 5 = .ok (.bipush 6, 2) := by decide +kernel
theorem dX6_init_7 : decode cX6_init 7 = .ok (.newarray .long, 2) := by decide +kernel
theorem dX6_init_9 : decode cX6_init 9 = .ok (.putfield 9, 3) := by decide +kernel
theorem dX6_init_12 : decode cX6_init 12 = .ok (.aload_n 0, 1) := by decide +kernel
theorem dX6_init_13 : decode cX6_init 13 = .ok (.bipush 6, 2) := by decide +kernel
theorem dX6_init_15 : decode cX6_init 15 = .ok (.newarray .long, 2) := by decide +kernel
theorem dX6_init_17 : decode cX6_init 17 = .ok (.putfield 15, 3) := by decide +kernel
theorem dX6_init_20 : decode cX6_init 20 = .ok (.aload_n 0, 1) := by decide +kernel
theorem dX6_init_21 : decode cX6_init 21 = .ok (.bipush 6, 2) := by decide +kernel
theorem dX6_init_23 : decode cX6_init 23 = .ok (.newarray .long, 2) := by decide +kernel
theorem dX6_init_25 : decode cX6_init 25 = .ok (.putfield 18, 3) := by decide +kernel
theorem dX6_init_28 : decode cX6_init 28 = .ok (.aload_n 0, 1) := by decide +kernel
theorem dX6_init_29 : decode cX6_init 29 = .ok (.aload_n 1, 1) := by decide +kernel
theorem dX6_init_30 : decode cX6_init 30 = .ok (.putfield 21, 3) := by decide +kernel
theorem dX6_init_33 : decode cX6_init 33 = .ok (.aload_n 0, 1) := by decide +kernel
theorem dX6_init_34 : decode cX6_init 34 = .ok (.aload_n 2, 1) := by decide +kernel
theorem dX6_init_35 : decode cX6_init 35 = .ok (.putfield 25, 3) := by decide +kernel
theorem dX6_init_38 : decode cX6_init 38 = .ok (.return_, 1) := by decide +kernel
set_option maxRecDepth 20000 in
theorem ggX6_learn_J7_fill_d0a16 : GoodIn wsX6_learn wsJ7_fill_d0a16 := goodIn_r _ [11] (by decide +kernel) (by decide +kernel)
set_option maxRecDepth 20000 in
theorem gX6_learn_J7_fill_d0a16 : GoodIn wsX6_learn (va_wsS RX6 36 yJ7_fill_d0a16 wsJ7_fill_d0a16) := goodIn_app (goodIn_of _ (by decide +kernel)) ggX6_learn_J7_fill_d0a16
set_option maxRecDepth 20000 in
theorem ggX6_learn_X6_follow : GoodIn wsX6_learn wsX6_follow := goodIn_r _ [16, 17, 18, 19, 2, 20, 8, 9, 10, 11, 21, 22, 23, 15, 24, 3, 25, 26, 27, 28, 4, 29, 30, 31, 32, 33, 34, 35, 36, 37, 38, 39, 40, 41, 42, 43, 44, 45, 46, 47, 48, 49, 50, 51, 52, 53, 54, 55, 56, 57, 58, 59, 60, 61, 62, 63, 64, 65, 66, 67, 70, 71, 72, 73, 74, 75, 76, 77, 78] (by decide +kernel) (by decide +kernel)
set_option maxRecDepth 20000 in
theorem gX6_learn_X6_follow : GoodIn wsX6_learn (wsV RX6 51 RX6 yX6_follow wsX6_follow) := goodIn_app (goodIn_of _ (by decide +kernel)) ggX6_learn_X6_follow
theorem dX6_learn_0 : decode cX6_learn 0 = .ok (.aload_n 0, 1) := by decide +kernel
theorem dX6_learn_1 : decode cX6_learn 1 = .ok (.getfield 29, 3) := by decide +kernel
theorem dX6_learn_4 : decode cX6_learn 4 = .ok (.ifCond .eq 4, 3) := by decide +kernel
theorem dX6_learn_7 : decode cX6_learn 7 = .ok (.return_, 1) := by decide +kernel
theorem dX6_learn_8 : decode cX6_learn 8 = .ok (.aload_n 0, 1) := by decide +kernel
theorem dX6_learn_9 : decode cX6_learn 9 = .ok (.iconst 1, 1) := by decide +kernel
theorem dX6_learn_10 : decode cX6_learn 10 = .ok (.putfield 29, 3) := by decide +kernel
theorem dX6_learn_13 : decode cX6_learn 13 = .ok (.aload_n 0, 1) := by decide +kernel
theorem dX6_learn_14 : decode cX6_learn 14 = .ok (.iconst 0, 1) := by decide +kernel
theorem dX6_learn_15 : decode cX6_learn 15 = .ok (.putfield 33, 3) := by decide +kernel
theorem dX6_learn_18 : decode cX6_learn 18 = .ok (.aload_n 0, 1) := by decide +kernel
theorem dX6_learn_19 : decode cX6_learn 19 = .ok (.getfield 9, 3) := by decide +kernel
theorem dX6_learn_22 : decode cX6_learn 22 = .ok (.lconst 0, 1) := by decide +kernel
theorem dX6_learn_23 : decode cX6_learn 23 = .ok (.invokestatic 36, 3) := by decide +kernel
theorem dX6_learn_26 : decode cX6_learn 26 = .ok (.aload_n 0, 1) := by decide +kernel
theorem dX6_learn_27 : decode cX6_learn 27 = .ok (.getfield 15, 3) := by decide +kernel
theorem dX6_learn_30 : decode cX6_learn 30 = .ok (.lconst 0, 1) := by decide +kernel
theorem dX6_learn_31 : decode cX6_learn 31 = .ok (.invokestatic 36, 3) := by decide +kernel
theorem dX6_learn_34 : decode cX6_learn 34 = .ok (.aload_n 0, 1) := by decide +kernel
theorem dX6_learn_35 : decode cX6_learn 35 = .ok (.getfield 25, 3) := by decide +kernel
theorem dX6_learn_38 : decode cX6_learn 38 = .ok (.getfield 42, 3) := by decide +kernel
theorem dX6_learn_41 : decode cX6_learn 41 = .ok (.iconst 0, 1) := by decide +kernel
theorem dX6_learn_42 : decode cX6_learn 42 = .ok (.iaload, 1) := by decide +kernel
theorem dX6_learn_43 : decode cX6_learn 43 = .ok (.istore_n 1, 1) := by decide +kernel
theorem dX6_learn_44 : decode cX6_learn 44 = .ok (.iload_n 1, 1) := by decide +kernel
end
section
theorem dX6_learn_45 : decode cX6_learn 45 = .ok (.aload_n 0, 1) := by decide +kernel
theorem dX6_learn_46 : decode cX6_learn 46 = .ok (.getfield 25, 3) := by decide +kernel
theorem dX6_learn_49 : decode cX6_learn 49 = .ok (.getfield 48, 3) := by decide +kernel
theorem dX6_learn_52 : decode cX6_learn 52 = .ok (.iconst 0, 1) := by decide +kernel
theorem dX6_learn_53 : decode cX6_learn 53 = .ok (.iaload, 1) := by decide +kernel
theorem dX6_learn_54 : decode cX6_learn 54 = .ok (.if_icmp .gt 58, 3) := by decide +kernel
theorem dX6_learn_57 : decode cX6_learn 57 = .ok (.aload_n 0, 1) := by decide +kernel
theorem dX6_learn_58 : decode cX6_learn 58 = .ok (.getfield 33, 3) := by decide +kernel
theorem dX6_learn_61 : decode cX6_learn 61 = .ok (.ifCond .ne 51, 3) := by decide +kernel
theorem dX6_learn_64 : decode cX6_learn 64 = .ok (.aload_n 0, 1) := by decide +kernel
theorem dX6_learn_65 : decode cX6_learn 65 = .ok (.getfield 25, 3) := by decide +kernel
theorem dX6_learn_68 : decode cX6_learn 68 = .ok (.getfield 42, 3) := by decide +kernel
theorem dX6_learn_71 : decode cX6_learn 71 = .ok (.iconst 1, 1) := by decide +kernel
theorem dX6_learn_72 : decode cX6_learn 72 = .ok (.iaload, 1) := by decide +kernel
theorem dX6_learn_73 : decode cX6_learn 73 = .ok (.istore_n 2, 1) := by decide +kernel
theorem dX6_learn_74 : decode cX6_learn 74 = .ok (.iload_n 2, 1) := by decide +kernel
theorem dX6_learn_75 : decode cX6_learn 75 = .ok (.aload_n 0, 1) := by decide +kernel
theorem dX6_learn_76 : decode cX6_learn 76 = .ok (.getfield 25, 3) := by decide +kernel
theorem dX6_learn_79 : decode cX6_learn 79 = .ok (.getfield 48, 3) := by decide +kernel
theorem dX6_learn_82 : decode cX6_learn 82 = .ok (.iconst 1, 1) := by decide +kernel
theorem dX6_learn_83 : decode cX6_learn 83 = .ok (.iaload, 1) := by decide +kernel
theorem dX6_learn_84 : decode cX6_learn 84 = .ok (.if_icmp .gt 22, 3) := by decide +kernel
theorem dX6_learn_87 : decode cX6_learn 87 = .ok (.aload_n 0, 1) := by decide +kernel
theorem dX6_learn_88 : decode cX6_learn 88 = .ok (.getfield 33, 3) := by decide +kernel
theorem dX6_learn_91 : decode cX6_learn 91 = .ok (.ifCond .ne 15, 3) := by decide +kernel
theorem dX6_learn_94 : decode cX6_learn 94 = .ok (.aload_n 0, 1) := by decide +kernel
theorem dX6_learn_95 : decode cX6_learn 95 = .ok (.iload_n 1, 1) := by decide +kernel
theorem dX6_learn_96 : decode cX6_learn 96 = .ok (.iload_n 2, 1) := by decide +kernel
theorem dX6_learn_97 : decode cX6_learn 97 = .ok (.invokevirtual 51, 3) := by decide +kernel
theorem dX6_learn_100 : decode cX6_learn 100 = .ok (.iinc 2 1, 3) := by decide +kernel
theorem dX6_learn_103 : decode cX6_learn 103 = .ok (.goto (-29), 3) := by decide +kernel
theorem dX6_learn_106 : decode cX6_learn 106 = .ok (.iinc 1 1, 3) := by decide +kernel
theorem dX6_learn_109 : decode cX6_learn 109 = .ok (.goto (-65), 3) := by decide +kernel
theorem dX6_learn_112 : decode cX6_learn 112 = .ok (.return_, 1) := by decide +kernel
set_option maxRecDepth 20000 in
theorem ggX6_follow_J7_fill_d0a16 : GoodIn wsX6_follow wsJ7_fill_d0a16 := goodIn_r _ [9] (by decide +kernel) (by decide +kernel)
set_option maxRecDepth 20000 in
theorem gX6_follow_J7_fill_d0a16 : GoodIn wsX6_follow (va_wsS RX6 36 yJ7_fill_d0a16 wsJ7_fill_d0a16) := goodIn_app (goodIn_of _ (by decide +kernel)) ggX6_follow_J7_fill_d0a16
set_option maxRecDepth 20000 in
theorem ggX6_follow_X6_give : GoodIn wsX6_follow wsX6_give := goodIn_r _ [14, 1, 15, 16, 17, 18, 19, 20, 21, 22, 23, 24, 25, 26, 27, 4, 53, 54, 55, 56, 57, 58, 59] (by decide +kernel) (by decide +kernel)
set_option maxRecDepth 20000 in
theorem gX6_follow_X6_give : GoodIn wsX6_follow (wsV RX6 55 RX6 yX6_give wsX6_give) := goodIn_app (goodIn_of _ (by decide +kernel)) ggX6_follow_X6_give
set_option maxRecDepth 20000 in
theorem ggX6_follow_X6_perform : GoodIn wsX6_follow wsX6_perform := goodIn_r _ [31, 2, 32, 1, 4, 33, 34, 35, 36, 37, 38, 39, 40, 41, 42, 43, 44, 45, 46, 47, 13, 48, 24, 25, 18, 26, 27, 49, 50, 51, 52, 17, 19, 10, 11, 12, 14, 15, 16, 20, 21, 22, 23, 53, 54, 55, 56, 57, 58, 59, 60, 61, 62, 63, 64, 65, 66, 67, 68] (by decide +kernel) (by decide +kernel)
set_option maxRecDepth 20000 in
theorem gX6_follow_X6_perform : GoodIn wsX6_follow (wsV RX6 68 RX6 yX6_perform wsX6_perform) := goodIn_app (goodIn_of _ (by decide +kernel)) ggX6_follow_X6_perform
theorem dX6_follow_0 : decode cX6_follow 0 = .ok (.aload_n 0, 1) := by decide +kernel
theorem dX6_follow_1 : decode cX6_follow 1 = .ok (.getfield 18, 3) := by decide +kernel
theorem dX6_follow_4 : decode cX6_follow 4 = .ok (.lconst 0, 1) := by decide +kernel
theorem dX6_follow_5 : decode cX6_follow 5 = .ok (.invokestatic 36, 3) := by decide +kernel
theorem dX6_follow_8 : decode cX6_follow 8 = .ok (.aload_n 0, 1) := by decide +kernel
theorem dX6_follow_9 : decode cX6_follow 9 = .ok (.iconst 0, 1) := by decide +kernel
theorem dX6_follow_10 : decode cX6_follow 10 = .ok (.iload_n 1, 1) := by decide +kernel
theorem dX6_follow_11 : decode cX6_follow 11 = .ok (.i2l, 1) := by decide +kernel
theorem dX6_follow_12 : decode cX6_follow 12 = .ok (.invokevirtual 55, 3) := by decide +kernel
theorem dX6_follow_15 : decode cX6_follow 15 = .ok (.aload_n 0, 1) := by decide +kernel
theorem dX6_follow_16 : decode cX6_follow 16 = .ok (.iconst 1, 1) := by decide +kernel
theorem dX6_follow_17 : decode cX6_follow 17 = .ok (.iload_n 2, 1) := by decide +kernel
theorem dX6_follow_18 : decode cX6_follow 18 = .ok (.i2l, 1) := by decide +kernel
theorem dX6_follow_19 : decode cX6_follow 19 = .ok (.invokevirtual 55, 3) := by decide +kernel
theorem dX6_follow_22 : decode cX6_follow 22 = .ok (.iconst 0, 1) := by decide +kernel
theorem dX6_follow_23 : decode cX6_follow 23 = .ok (.istore_n 3, 1) := by decide +kernel
theorem dX6_follow_24 : decode cX6_follow 24 = .ok (.iload_n 3, 1) := by decide +kernel
theorem dX6_follow_25 : decode cX6_follow 25 = .ok (.aload_n 0, 1) := by decide +kernel
theorem dX6_follow_26 : decode cX6_follow 26 = .ok (.getfield 21, 3) := by decide +kernel
theorem dX6_follow_29 : decode cX6_follow 29 = .ok (.getfield 59, 3) := by decide +kernel
theorem dX6_follow_32 : decode cX6_follow 32 = .ok (.if_icmp .ge 29, 3) := by decide +kernel
theorem dX6_follow_35 : decode cX6_follow 35 = .ok (.aload_n 0, 1) := by decide +kernel
theorem dX6_follow_36 : decode cX6_follow 36 = .ok (.getfield 33, 3) := by decide +kernel
theorem dX6_follow_39 : decode cX6_follow 39 = .ok (.ifCond .ne 22, 3) := by decide +kernel
theorem dX6_follow_42 : decode cX6_follow 42 = .ok (.aload_n 0, 1) := by decide +kernel
theorem dX6_follow_43 : decode cX6_follow 43 = .ok (.aload_n 0, 1) := by decide +kernel
theorem dX6_follow_44 : decode cX6_follow 44 = .ok (.getfield 21, 3) := by decide +kernel
theorem dX6_follow_47 : decode cX6_follow 47 = .ok (.getfield 65, 3) := by decide +kernel
theorem dX6_follow_50 : decode cX6_follow 50 = .ok (.iload_n 3, 1) := by decide +kernel
theorem dX6_follow_51 : decode cX6_follow 51 = .ok (.iaload, 1) := by decide +kernel
theorem dX6_follow_52 : decode cX6_follow 52 = .ok (.invokevirtual 68, 3) := by decide +kernel
theorem dX6_follow_55 : decode cX6_follow 55 = .ok (.iinc 3 1, 3) := by decide +kernel
theorem dX6_follow_58 : decode cX6_follow 58 = .ok (.goto (-34), 3) := by decide +kernel
theorem dX6_follow_61 : decode cX6_follow 61 = .ok (.return_, 1) := by decide +kernel
set_option maxRecDepth 20000 in
theorem ggX6_perform_X4_valueOfA : GoodIn wsX6_perform wsX4_valueOfA := goodIn_r _ [10, 11, 50, 51, 52, 53, 54, 55, 56, 57, 58] (by decide +kernel) (by decide +kernel)
set_option maxRecDepth 20000 in
theorem gX6_perform_X4_valueOfA : GoodIn wsX6_perform (wsV RX6 75 RX4 yX4_valueOfA wsX4_valueOfA) := goodIn_app (goodIn_of _ (by decide +kernel)) ggX6_perform_X4_valueOfA
set_option maxRecDepth 20000 in
theorem ggX6_perform_X4_valueOfB : GoodIn wsX6_perform wsX4_valueOfB := goodIn_r _ [15, 16, 17, 50, 51, 52, 53, 54, 55, 56, 57, 58] (by decide +kernel) (by decide +kernel)
set_option maxRecDepth 20000 in
theorem gX6_perform_X4_valueOfB : GoodIn wsX6_perform (wsV RX6 79 RX4 yX4_valueOfB wsX4_valueOfB) := goodIn_app (goodIn_of _ (by decide +kernel)) ggX6_perform_X4_valueOfB
set_option maxRecDepth 20000 in
theorem ggX6_perform_X6_isProductTooFar : GoodIn wsX6_perform wsX6_isProductTooFar := goodIn_r _ [21, 22, 23, 24, 25, 26] (by decide +kernel) (by decide +kernel)
set_option maxRecDepth 20000 in
theorem gX6_perform_X6_isProductTooFar : GoodIn wsX6_perform (va_wsS RX6 82 yX6_isProductTooFar wsX6_isProductTooFar) := goodIn_app (goodIn_of _ (by decide +kernel)) ggX6_perform_X6_isProductTooFar
set_option maxRecDepth 20000 in
theorem ggX6_perform_X7_made : GoodIn wsX6_perform wsX7_made := goodIn_r _ [29, 30, 31, 24, 32] (by decide +kernel) (by decide +kernel)
set_option maxRecDepth 20000 in
theorem gX6_perform_X7_made_n89 : GoodIn wsX6_perform (wsX7_made) := ggX6_perform_X7_made
set_option maxRecDepth 20000 in
theorem ggX6_perform_X6_give : GoodIn wsX6_perform wsX6_give := goodIn_r _ [36, 3, 37, 38, 31, 24, 32, 39, 40, 41, 42, 22, 23, 25, 26, 4, 43, 44, 45, 46, 47, 48, 49] (by decide +kernel) (by decide +kernel)
set_option maxRecDepth 20000 in
theorem gX6_perform_X6_give : GoodIn wsX6_perform (wsV RX6 55 RX6 yX6_give wsX6_give) := goodIn_app (goodIn_of _ (by decide +kernel)) ggX6_perform_X6_give
theorem dX6_perform_0 : decode cX6_perform 0 = .ok (.aload_n 0, 1) := by decide +kernel
theorem dX6_perform_1 : decode cX6_perform 1 = .ok (.getfield 21, 3) := by decide +kernel
theorem dX6_perform_4 : decode cX6_perform 4 = .ok (.getfield 72, 3) := by decide +kernel
theorem dX6_perform_7 : decode cX6_perform 7 = .ok (.iload_n 1, 1) := by decide +kernel
theorem dX6_perform_8 : decode cX6_perform 8 = .ok (.iaload, 1) := by decide +kernel
theorem dX6_perform_9 : decode cX6_perform 9 = .ok (.istore_n 2, 1) := by decide +kernel
theorem dX6_perform_10 : decode cX6_perform 10 = .ok (.aload_n 0, 1) := by decide +kernel
theorem dX6_perform_11 : decode cX6_perform 11 = .ok (.getfield 21, 3) := by decide +kernel
theorem dX6_perform_14 : decode cX6_perform 14 = .ok (.iload_n 1, 1) := by decide +kernel
theorem dX6_perform_15 : decode cX6_perform 15 = .ok (.aload_n 0, 1) := by decide +kernel
theorem dX6_perform_16 : decode cX6_perform 16 = .ok (.getfield 18, 3) := by decide +kernel
theorem dX6_perform_19 : decode cX6_perform 19 = .ok (.invokevirtual 75, 3) := by decide +kernel
theorem dX6_perform_22 : decode cX6_perform 22 = .ok (.lstore_n 3, 1) := by decide +kernel
theorem dX6_perform_23 : decode cX6_perform 23 = .ok (.aload_n 0, 1) := by decide +kernel
theorem dX6_perform_24 : decode cX6_perform 24 = .ok (.getfield 21, 3) := by decide +kernel
theorem dX6_perform_27 : decode cX6_perform 27 = .ok (.iload_n 1, 1) := by decide +kernel
theorem dX6_perform_28 : decode cX6_perform 28 = .ok (.aload_n 0, 1) := by decide +kernel
theorem dX6_perform_29 : decode cX6_perform 29 = .ok (.getfield 18, 3) := by decide +kernel
theorem dX6_perform_32 : decode cX6_perform 32 = .ok (.invokevirtual 79, 3) := by decide +kernel
theorem dX6_perform_35 : decode cX6_perform 35 = .ok (.lstore 5, 2) := by decide +kernel
theorem dX6_perform_37 : decode cX6_perform 37 = .ok (.iload_n 2, 1) := by decide +kernel
theorem dX6_perform_38 : decode cX6_perform 38 = .ok (.iconst 4, 1) := by decide +kernel
theorem dX6_perform_39 : decode cX6_perform 39 = .ok (.if_icmp .ne 20, 3) := by decide +kernel
theorem dX6_perform_42 : decode cX6_perform 42 = .ok (.lload_n 3, 1) := by decide +kernel
theorem dX6_perform_43 : decode cX6_perform 43 = .ok (.lload 5, 2) := by decide +kernel
theorem dX6_perform_45 : decode cX6_perform 45 = .ok (.invokestatic 82, 3) := by decide +kernel
theorem dX6_perform_48 : decode cX6_perform 48 = .ok (.ifCond .eq 11, 3) := by decide +kernel
theorem dX6_perform_51 : decode cX6_perform 51 = .ok (.aload_n 0, 1) := by decide +kernel
theorem dX6_perform_52 : decode cX6_perform 52 = .ok (.iconst 1, 1) := by decide +kernel
theorem dX6_perform_53 : decode cX6_perform 53 = .ok (.putfield 33, 3) := by decide +kernel
theorem dX6_perform_56 : decode cX6_perform 56 = .ok (.goto 23, 3) := by decide +kernel
theorem dX6_perform_59 : decode cX6_perform 59 = .ok (.aload_n 0, 1) := by decide +kernel
theorem dX6_perform_60 : decode cX6_perform 60 = .ok (.aload_n 0, 1) := by decide +kernel
theorem dX6_perform_61 : decode cX6_perform 61 = .ok (.getfield 21, 3) := by decide +kernel
theorem dX6_perform_64 : decode cX6_perform 64 = .ok (.getfield 86, 3) := by decide +kernel
theorem dX6_perform_67 : decode cX6_perform 67 = .ok (.iload_n 1, 1) := by decide +kernel
theorem dX6_perform_68 : decode cX6_perform 68 = .ok (.iaload, 1) := by decide +kernel
theorem dX6_perform_69 : decode cX6_perform 69 = .ok (.iload_n 2, 1) := by decide +kernel
theorem dX6_perform_70 : decode cX6_perform 70 = .ok (.lload_n 3, 1) := by decide +kernel
theorem dX6_perform_71 : decode cX6_perform 71 = .ok (.lload 5, 2) := by decide +kernel
theorem dX6_perform_73 : decode cX6_perform 73 = .ok (.invokestatic 89, 3) := by decide +kernel
theorem dX6_perform_76 : decode cX6_perform 76 = .ok (.invokevirtual 55, 3) := by decide +kernel
theorem dX6_perform_79 : decode cX6_perform 79 = .ok (.return_, 1) := by decide +kernel
theorem dX6_isProductTooFar_0 : decode cX6_isProductTooFar 0 = .ok (.lload_n 0, 1) := by decide +kernel
theorem dX6_isProductTooFar_1 : decode cX6_isProductTooFar 1 = .ok (.lconst 0, 1) := by decide +kernel
theorem dX6_isProductTooFar_2 : decode cX6_isProductTooFar 2 = .ok (.lcmp, 1) := by decide +kernel
theorem dX6_isProductTooFar_3 : decode cX6_isProductTooFar 3 = .ok (.ifCond .eq 23, 3) := by decide +kernel
theorem dX6_isProductTooFar_6 : decode cX6_isProductTooFar 6 = .ok (.lload_n 2, 1) := by decide +kernel
theorem dX6_isProductTooFar_7 : decode cX6_isProductTooFar 7 = .ok (.invokestatic 93, 3) := by decide +kernel
theorem dX6_isProductTooFar_10 : decode cX6_isProductTooFar 10 = .ok (.ldc2_w 99, 3) := by decide +kernel
theorem dX6_isProductTooFar_13 : decode cX6_isProductTooFar 13 = .ok (.lload_n 0, 1) := by decide +kernel
theorem dX6_isProductTooFar_14 : decode cX6_isProductTooFar 14 = .ok (.invokestatic 93, 3) := by decide +kernel
theorem dX6_isProductTooFar_17 : decode cX6_isProductTooFar 17 = .ok (.ldiv, 1) := by decide +kernel
theorem dX6_isProductTooFar_18 : decode cX6_isProductTooFar 18 = .ok (.lcmp, 1) := by decide +kernel
theorem dX6_isProductTooFar_19 : decode cX6_isProductTooFar 19 = .ok (.ifCond .le 7, 3) := by decide +kernel
theorem dX6_isProductTooFar_22 : decode cX6_isProductTooFar 22 = .ok (.iconst 1, 1) := by decide +kernel
theorem dX6_isProductTooFar_23 : decode cX6_isProductTooFar 23 = .ok (.goto 4, 3) := by decide +kernel
theorem dX6_isProductTooFar_26 : decode cX6_isProductTooFar 26 = .ok (.iconst 0, 1) := by decide +kernel
theorem dX6_isProductTooFar_27 : decode cX6_isProductTooFar 27 = .ok (.ireturn, 1) := by decide +kernel
theorem dX6_give_0 : decode cX6_give 0 = .ok (.aload_n 0, 1) := by decide +kernel
theorem dX6_give_1 : decode cX6_give 1 = .ok (.getfield 18, 3) := by decide +kernel
theorem dX6_give_4 : decode cX6_give 4 = .ok (.iload_n 1, 1) := by decide +kernel
theorem dX6_give_5 : decode cX6_give 5 = .ok (.lload_n 2, 1) := by decide +kernel
theorem dX6_give_6 : decode cX6_give 6 = .ok (.lastore, 1) := by decide +kernel
theorem dX6_give_7 : decode cX6_give 7 = .ok (.aload_n 0, 1) := by decide +kernel
theorem dX6_give_8 : decode cX6_give 8 = .ok (.getfield 9, 3) := by decide +kernel
theorem dX6_give_11 : decode cX6_give 11 = .ok (.iload_n 1, 1) := by decide +kernel
theorem dX6_give_12 : decode cX6_give 12 = .ok (.aload_n 0, 1) := by decide +kernel
theorem dX6_give_13 : decode cX6_give 13 = .ok (.getfield 9, 3) := by decide +kernel
theorem dX6_give_16 : decode cX6_give 16 = .ok (.iload_n 1, 1) := by decide +kernel
theorem dX6_give_17 : decode cX6_give 17 = .ok (.laload, 1) := by decide +kernel
theorem dX6_give_18 : decode cX6_give 18 = .ok (.lload_n 2, 1) := by decide +kernel
theorem dX6_give_19 : decode cX6_give 19 = .ok (.invokestatic 101, 3) := by decide +kernel
theorem dX6_give_22 : decode cX6_give 22 = .ok (.lastore, 1) := by decide +kernel
theorem dX6_give_23 : decode cX6_give 23 = .ok (.aload_n 0, 1) := by decide +kernel
theorem dX6_give_24 : decode cX6_give 24 = .ok (.getfield 15, 3) := by decide +kernel
theorem dX6_give_27 : decode cX6_give 27 = .ok (.iload_n 1, 1) := by decide +kernel
theorem dX6_give_28 : decode cX6_give 28 = .ok (.aload_n 0, 1) := by decide +kernel
theorem dX6_give_29 : decode cX6_give 29 = .ok (.getfield 15, 3) := by decide +kernel
theorem dX6_give_32 : decode cX6_give 32 = .ok (.iload_n 1, 1) := by decide +kernel
theorem dX6_give_33 : decode cX6_give 33 = .ok (.laload, 1) := by decide +kernel
theorem dX6_give_34 : decode cX6_give 34 = .ok (.lload_n 2, 1) := by decide +kernel
theorem dX6_give_35 : decode cX6_give 35 = .ok (.invokestatic 105, 3) := by decide +kernel
theorem dX6_give_38 : decode cX6_give 38 = .ok (.lastore, 1) := by decide +kernel
theorem dX6_give_39 : decode cX6_give 39 = .ok (.lload_n 2, 1) := by decide +kernel
theorem dX6_give_40 : decode cX6_give 40 = .ok (.invokestatic 93, 3) := by decide +kernel
theorem dX6_give_43 : decode cX6_give 43 = .ok (.ldc2_w 99, 3) := by decide +kernel
theorem dX6_give_46 : decode cX6_give 46 = .ok (.lcmp, 1) := by decide +kernel
theorem dX6_give_47 : decode cX6_give 47 = .ok (.ifCond .le 8, 3) := by decide +kernel
theorem dX6_give_50 : decode cX6_give 50 = .ok (.aload_n 0, 1) := by decide +kernel
theorem dX6_give_51 : decode cX6_give 51 = .ok (.iconst 1, 1) := by decide +kernel
theorem dX6_give_52 : decode cX6_give 52 = .ok (.putfield 33, 3) := by decide +kernel
theorem dX6_give_55 : decode cX6_give 55 = .ok (.return_, 1) := by decide +kernel
set_option maxRecDepth 20000 in
theorem ggX7_init_X1_init : GoodIn wsX7_init wsX1_init := goodIn_r _ [34, 35, 2, 3, 36, 37, 38, 39, 40, 41, 42, 43, 44, 45, 6, 46, 47, 48, 49, 50, 51, 101, 102, 103, 104, 105] (by decide +kernel) (by decide +kernel)
set_option maxRecDepth 20000 in
theorem gX7_init_X1_init : GoodIn wsX7_init (wsX1_init) := ggX7_init_X1_init
set_option maxRecDepth 20000 in
theorem ggX7_init_X0_init : GoodIn wsX7_init wsX0_init := goodIn_r _ [53, 54, 2, 3, 36, 55, 56, 113, 114] (by decide +kernel) (by decide +kernel)
set_option maxRecDepth 20000 in
theorem gX7_init_X0_init_n18 : GoodIn wsX7_init (wsX0_init) := ggX7_init_X0_init
set_option maxRecDepth 20000 in
theorem ggX7_init_X4_init : GoodIn wsX7_init wsX4_init := goodIn_r _ [58, 59, 2, 3, 36, 60, 61, 62, 63, 38, 64, 65, 66, 115, 116, 117, 118, 119, 120, 121, 122, 123] (by decide +kernel) (by decide +kernel)
set_option maxRecDepth 20000 in
theorem gX7_init_X4_init_n25 : GoodIn wsX7_init (wsX4_init) := ggX7_init_X4_init
set_option maxRecDepth 20000 in
theorem ggX7_init_X3_init : GoodIn wsX7_init wsX3_init := goodIn_r _ [69, 70, 2, 3, 40, 71, 72, 73, 124, 125, 126, 127, 128, 129] (by decide +kernel) (by decide +kernel)
set_option maxRecDepth 20000 in
theorem gX7_init_X3_init : GoodIn wsX7_init (wsX3_init) := ggX7_init_X3_init
set_option maxRecDepth 20000 in
theorem ggX7_init_X5_init : GoodIn wsX7_init wsX5_init := goodIn_r _ [76, 77, 2, 3, 36, 78, 79, 80, 81, 82, 130, 131, 132, 133, 134, 135, 136] (by decide +kernel) (by decide +kernel)
set_option maxRecDepth 20000 in
theorem gX7_init_X5_init : GoodIn wsX7_init (wsX5_init) := ggX7_init_X5_init
set_option maxRecDepth 20000 in
theorem ggX7_init_X2_init : GoodIn wsX7_init wsX2_init := goodIn_r _ [85, 86, 2, 3, 40, 87, 88, 89, 90, 91, 137, 138, 139, 140, 141, 142, 143, 144, 145] (by decide +kernel) (by decide +kernel)
set_option maxRecDepth 20000 in
theorem gX7_init_X2_init : GoodIn wsX7_init (wsX2_init) := ggX7_init_X2_init
set_option maxRecDepth 20000 in
theorem ggX7_init_X6_init : GoodIn wsX7_init wsX6_init := goodIn_r _ [94, 95, 2, 3, 40, 96, 97, 98, 99, 100, 146, 147, 148, 149, 150, 151, 152] (by decide +kernel) (by decide +kernel)
set_option maxRecDepth 20000 in
theorem gX7_init_X6_init : GoodIn wsX7_init (wsX6_init) := ggX7_init_X6_init
theorem dX7_init_0 : decode cX7_init 0 = .ok (.aload_n 0, 1) := by decide +kernel
theorem dX7_init_1 : decode cX7_init 1 = .ok (.invokespecial 1, 3) := by decide +kernel
theorem dX7_init_4 : decode cX7_init 4 = .ok (.aload_n 0, 1) := by decide +kernel
theorem dX7_init_5 : decode cX7_init 5 = .ok (.new 7, 3) := by decide +kernel
theorem dX7_init_8 : decode cX7_init 8 = .ok (.dup, 1) := by decide +kernel
theorem dX7_init_9 : decode cX7_init 9 = .ok (.invokespecial 9, 3) := by decide +kernel
theorem dX7_init_12 : decode cX7_init 12 = .ok (.putfield 10, 3) := by decide +kernel
theorem dX7_init_15 : decode cX7_init 15 = .ok (.aload_n 0, 1) := by decide +kernel
theorem dX7_init_16 : decode cX7_init 16 = .ok (.new 16, 3) := by decide +kernel
theorem dX7_init_19 : decode cX7_init 19 = .ok (.dup, 1) := by decide +kernel
theorem dX7_init_20 : decode cX7_init 20 = .ok (.invokespecial 18, 3) := by decide +kernel
theorem dX7_init_23 : decode cX7_init 23 = .ok (.putfield 19, 3) := by decide +kernel
theorem dX7_init_26 : decode cX7_init 26 = .ok (.aload_n 0, 1) := by decide +kernel
theorem dX7_init_27 : decode cX7_init 27 = .ok (.new 23, 3) := by decide +kernel
theorem dX7_init_30 : decode cX7_init 30 = .ok (.dup, 1) := by decide +kernel
theorem dX7_init_31 : decode cX7_init 31 = .ok (.invokespecial 25, 3) := by decide +kernel
theorem dX7_init_34 : decode cX7_init 34 = .ok (.putfield 26, 3) := by decide +kernel
theorem dX7_init_37 : decode cX7_init 37 = .ok (.aload_n 0, 1) := by decide +kernel
theorem dX7_init_38 : decode cX7_init 38 = .ok (.new 30, 3) := by decide +kernel
theorem dX7_init_41 : decode cX7_init 41 = .ok (.dup, 1) := by decide +kernel
theorem dX7_init_42 : decode cX7_init 42 = .ok (.aload_n 0, 1) := by decide +kernel
theorem dX7_init_43 : decode cX7_init 43 = .ok (.getfield 10, 3) := by decide +kernel
theorem dX7_init_46 : decode cX7_init 46 = .ok (.aload_n 0, 1) := by decide +kernel
theorem dX7_init_47 : decode cX7_init 47 = .ok (.getfield 26, 3) := by decide +kernel
theorem dX7_init_50 : decode cX7_init 50 = .ok (.invokespecial 32, 3) := by decide +kernel
theorem dX7_init_53 : decode cX7_init 53 = .ok (.putfield 35, 3) := by decide +kernel
theorem dX7_init_56 : decode cX7_init 56 = .ok (.aload_n 0, 1) := by decide +kernel
theorem dX7_init_57 : decode cX7_init 57 = .ok (.new 39, 3) := by decide +kernel
theorem dX7_init_60 : decode cX7_init 60 = .ok (.dup, 1) := by decide +kernel
theorem dX7_init_61 : decode cX7_init 61 = .ok (.aload_n 0, 1) := by decide +kernel
theorem dX7_init_62 : decode cX7_init 62 = .ok (.getfield 35, 3) := by decide +kernel
theorem dX7_init_65 : decode cX7_init 65 = .ok (.aload_n 0, 1) := by decide +kernel
theorem dX7_init_66 : decode cX7_init 66 = .ok (.getfield 19, 3) := by decide +kernel
theorem dX7_init_69 : decode cX7_init 69 = .ok (.invokespecial 41, 3) := by decide +kernel
theorem dX7_init_72 : decode cX7_init 72 = .ok (.putfield 44, 3) := by decide +kernel
theorem dX7_init_75 : decode cX7_init 75 = .ok (.aload_n 0, 1) := by decide +kernel
theorem dX7_init_76 : decode cX7_init 76 = .ok (.new 48, 3) := by decide +kernel
theorem dX7_init_79 : decode cX7_init 79 = .ok (.dup, 1) := by decide +kernel
theorem dX7_init_80 : decode cX7_init 80 = .ok (.aload_n 0, 1) := by decide +kernel
theorem dX7_init_81 : decode cX7_init 81 = .ok (.getfield 10, 3) := by decide +kernel
theorem dX7_init_84 : decode cX7_init 84 = .ok (.aload_n 0, 1) := by decide +kernel
theorem dX7_init_85 : decode cX7_init 85 = .ok (.getfield 26, 3) := by decide +kernel
theorem dX7_init_88 : decode cX7_init 88 = .ok (.aload_n 0, 1) := by decide +kernel
theorem dX7_init_89 : decode cX7_init 89 = .ok (.getfield 19, 3) := by decide +kernel
theorem dX7_init_92 : decode cX7_init 92 = .ok (.invokespecial 50, 3) := by decide +kernel
theorem dX7_init_95 : decode cX7_init 95 = .ok (.putfield 53, 3) := by decide +kernel
theorem dX7_init_98 : decode cX7_init 98 = .ok (.aload_n 0, 1) := by decide +kernel
theorem dX7_init_99 : decode cX7_init 99 = .ok (.new 57, 3) := by decide +kernel
theorem dX7_init_102 : decode cX7_init 102 = .ok (.dup, 1) := by decide +kernel
theorem dX7_init_103 : decode cX7_init 103 = .ok (.aload_n 0, 1) := by decide +kernel
theorem dX7_init_104 : decode cX7_init 104 = .ok (.getfield 26, 3) := by decide +kernel
theorem dX7_init_107 : decode cX7_init 107 = .ok (.aload_n 0, 1) := by decide +kernel
theorem dX7_init_108 : decode cX7_init 108 = .ok (.getfield 19, 3) := by decide +kernel
theorem dX7_init_111 : decode cX7_init 111 = .ok (.invokespecial 59, 3) := by decide +kernel
theorem dX7_init_114 : decode cX7_init 114 = .ok (.putfield 62, 3) := by decide +kernel
theorem dX7_init_117 : decode cX7_init 117 = .ok (.return_, 1) := by decide +kernel
set_option maxRecDepth 20000 in
theorem ggX7_name_X7_isName : GoodIn wsX7_name wsX7_isName := goodIn_r _ [5] (by decide +kernel) (by decide +kernel)
set_option maxRecDepth 20000 in
theorem gX7_name_X7_isName : GoodIn wsX7_name (va_wsS RX7 66 yX7_isName wsX7_isName) := goodIn_app (goodIn_of _ (by decide +kernel)) ggX7_name_X7_isName
set_option maxRecDepth 20000 in
theorem ggX7_name_X1_tell : GoodIn wsX7_name wsX1_tell := goodIn_r _ [10, 11, 12, 13, 14, 15, 4, 16, 17, 18, 36, 37, 38, 39, 40] (by decide +kernel) (by decide +kernel)
set_option maxRecDepth 20000 in
theorem gX7_name_X1_tell : GoodIn wsX7_name (wsV RX7 70 RX1 yX1_tell wsX1_tell) := goodIn_app (goodIn_of _ (by decide +kernel)) ggX7_name_X1_tell
set_option maxRecDepth 20000 in
theorem ggX7_name_X7_forget : GoodIn wsX7_name wsX7_forget := goodIn_r _ [22, 23, 24, 25, 26, 27, 28, 29, 30, 31, 32, 33, 34, 35, 41, 42, 43, 44, 45, 46, 47, 48, 49, 50, 51, 52, 53, 54, 55, 56, 57, 58, 59, 60, 61, 62, 63] (by decide +kernel) (by decide +kernel)
set_option maxRecDepth 20000 in
theorem gX7_name_X7_forget : GoodIn wsX7_name (wsV RX7 74 RX7 yX7_forget wsX7_forget) := goodIn_app (goodIn_of _ (by decide +kernel)) ggX7_name_X7_forget
theorem dX7_name_0 : decode cX7_name 0 = .ok (.iload_n 1, 1) := by decide +kernel
theorem dX7_name_1 : decode cX7_name 1 = .ok (.invokestatic 66, 3) := by decide +kernel
theorem dX7_name_4 : decode cX7_name 4 = .ok (.ifCond .eq 14, 3) := by decide +kernel
theorem dX7_name_7 : decode cX7_name 7 = .ok (.iload_n 2, 1) := by decide +kernel
theorem dX7_name_8 : decode cX7_name 8 = .ok (.iconst 2, 1) := by decide +kernel
theorem dX7_name_9 : decode cX7_name 9 = .ok (.if_icmp .lt 9, 3) := by decide +kernel
theorem dX7_name_12 : decode cX7_name 12 = .ok (.iload_n 2, 1) := by decide +kernel
theorem dX7_name_13 : decode cX7_name 13 = .ok (.bipush 31, 2) := by decide +kernel
theorem dX7_name_15 : decode cX7_name 15 = .ok (.if_icmp .le 5, 3) := by decide +kernel
theorem dX7_name_18 : decode cX7_name 18 = .ok (.iconst 0, 1) := by decide +kernel
theorem dX7_name_19 : decode cX7_name 19 = .ok (.ireturn, 1) := by decide +kernel
theorem dX7_name_20 : decode cX7_name 20 = .ok (.aload_n 0, 1) := by decide +kernel
theorem dX7_name_21 : decode cX7_name 21 = .ok (.getfield 10, 3) := by decide +kernel
theorem dX7_name_24 : decode cX7_name 24 = .ok (.iload_n 1, 1) := by decide +kernel
theorem dX7_name_25 : decode cX7_name 25 = .ok (.iload_n 2, 1) := by decide +kernel
theorem dX7_name_26 : decode cX7_name 26 = .ok (.iload_n 3, 1) := by decide +kernel
theorem dX7_name_27 : decode cX7_name 27 = .ok (.invokevirtual 70, 3) := by decide +kernel
theorem dX7_name_30 : decode cX7_name 30 = .ok (.aload_n 0, 1) := by decide +kernel
theorem dX7_name_31 : decode cX7_name 31 = .ok (.invokevirtual 74, 3) := by decide +kernel
theorem dX7_name_34 : decode cX7_name 34 = .ok (.iconst 1, 1) := by decide +kernel
theorem dX7_name_35 : decode cX7_name 35 = .ok (.ireturn, 1) := by decide +kernel
set_option maxRecDepth 20000 in
theorem ggX7_span_X7_isTold : GoodIn wsX7_span wsX7_isTold := goodIn_r _ [7, 8, 9] (by decide +kernel) (by decide +kernel)
set_option maxRecDepth 20000 in
theorem gX7_span_X7_isTold : GoodIn wsX7_span (va_wsS RX7 77 yX7_isTold wsX7_isTold) := goodIn_app (goodIn_of _ (by decide +kernel)) ggX7_span_X7_isTold
set_option maxRecDepth 20000 in
theorem ggX7_span_X7_forget : GoodIn wsX7_span wsX7_forget := goodIn_r _ [13, 14, 15, 16, 17, 18, 19, 20, 21, 22, 23, 24, 25, 26, 29, 30, 31, 32, 33, 34, 35, 36, 37, 38, 39, 40, 41, 42, 43, 44, 45, 46, 47, 48, 49, 50, 51] (by decide +kernel) (by decide +kernel)
set_option maxRecDepth 20000 in
theorem gX7_span_X7_forget : GoodIn wsX7_span (wsV RX7 74 RX7 yX7_forget wsX7_forget) := goodIn_app (goodIn_of _ (by decide +kernel)) ggX7_span_X7_forget
theorem dX7_span_0 : decode cX7_span 0 = .ok (.iload_n 1, 1) := by decide +kernel
theorem dX7_span_1 : decode cX7_span 1 = .ok (.ifCond .lt 22, 3) := by decide +kernel
theorem dX7_span_4 : decode cX7_span 4 = .ok (.iload_n 1, 1) := by decide +kernel
theorem dX7_span_5 : decode cX7_span 5 = .ok (.iconst 2, 1) := by decide +kernel
theorem dX7_span_6 : decode cX7_span 6 = .ok (.if_icmp .ge 17, 3) := by decide +kernel
theorem dX7_span_9 : decode cX7_span 9 = .ok (.iload_n 2, 1) := by decide +kernel
theorem dX7_span_10 : decode cX7_span 10 = .ok (.invokestatic 77, 3) := by decide +kernel
theorem dX7_span_13 : decode cX7_span 13 = .ok (.ifCond .eq 10, 3) := by decide +kernel
theorem dX7_span_16 : decode cX7_span 16 = .ok (.iload_n 3, 1) := by decide +kernel
theorem dX7_span_17 : decode cX7_span 17 = .ok (.invokestatic 77, 3) := by decide +kernel
theorem dX7_span_20 : decode cX7_span 20 = .ok (.ifCond .ne 5, 3) := by decide +kernel
theorem dX7_span_23 : decode cX7_span 23 = .ok (.iconst 0, 1) := by decide +kernel
theorem dX7_span_24 : decode cX7_span 24 = .ok (.ireturn, 1) := by decide +kernel
theorem dX7_span_25 : decode cX7_span 25 = .ok (.iload_n 3, 1) := by decide +kernel
theorem dX7_span_26 : decode cX7_span 26 = .ok (.iload_n 2, 1) := by decide +kernel
theorem dX7_span_27 : decode cX7_span 27 = .ok (.if_icmp .lt 11, 3) := by decide +kernel
theorem dX7_span_30 : decode cX7_span 30 = .ok (.iload_n 3, 1) := by decide +kernel
theorem dX7_span_31 : decode cX7_span 31 = .ok (.iload_n 2, 1) := by decide +kernel
theorem dX7_span_32 : decode cX7_span 32 = .ok (.isub, 1) := by decide +kernel
theorem dX7_span_33 : decode cX7_span 33 = .ok (.bipush 32, 2) := by decide +kernel
theorem dX7_span_35 : decode cX7_span 35 = .ok (.if_icmp .lt 5, 3) := by decide +kernel
theorem dX7_span_38 : decode cX7_span 38 = .ok (.iconst 0, 1) := by decide +kernel
theorem dX7_span_39 : decode cX7_span 39 = .ok (.ireturn, 1) := by decide +kernel
theorem dX7_span_40 : decode cX7_span 40 = .ok (.aload_n 0, 1) := by decide +kernel
theorem dX7_span_41 : decode cX7_span 41 = .ok (.getfield 19, 3) := by decide +kernel
theorem dX7_span_44 : decode cX7_span 44 = .ok (.getfield 80, 3) := by decide +kernel
theorem dX7_span_47 : decode cX7_span 47 = .ok (.iload_n 1, 1) := by decide +kernel
theorem dX7_span_48 : decode cX7_span 48 = .ok (.iload_n 2, 1) := by decide +kernel
theorem dX7_span_49 : decode cX7_span 49 = .ok (.iastore, 1) := by decide +kernel
theorem dX7_span_50 : decode cX7_span 50 = .ok (.aload_n 0, 1) := by decide +kernel
theorem dX7_span_51 : decode cX7_span 51 = .ok (.getfield 19, 3) := by decide +kernel
theorem dX7_span_54 : decode cX7_span 54 = .ok (.getfield 84, 3) := by decide +kernel
theorem dX7_span_57 : decode cX7_span 57 = .ok (.iload_n 1, 1) := by decide +kernel
theorem dX7_span_58 : decode cX7_span 58 = .ok (.iload_n 3, 1) := by decide +kernel
theorem dX7_span_59 : decode cX7_span 59 = .ok (.iastore, 1) := by decide +kernel
theorem dX7_span_60 : decode cX7_span 60 = .ok (.aload_n 0, 1) := by decide +kernel
theorem dX7_span_61 : decode cX7_span 61 = .ok (.invokevirtual 74, 3) := by decide +kernel
theorem dX7_span_64 : decode cX7_span 64 = .ok (.iconst 1, 1) := by decide +kernel
theorem dX7_span_65 : decode cX7_span 65 = .ok (.ireturn, 1) := by decide +kernel
set_option maxRecDepth 20000 in
theorem ggX7_step_X7_canFollow : GoodIn wsX7_step wsX7_canFollow := goodIn_r _ [7, 1, 8, 9, 10, 11, 12, 13, 14, 70, 71, 72, 73, 74, 75, 76, 77, 78, 79, 80, 81, 82, 83, 84, 85] (by decide +kernel) (by decide +kernel)
set_option maxRecDepth 20000 in
theorem gX7_step_X7_canFollow : GoodIn wsX7_step (wsV RX7 91 RX7 yX7_canFollow wsX7_canFollow) := goodIn_app (goodIn_of _ (by decide +kernel)) ggX7_step_X7_canFollow
set_option maxRecDepth 20000 in
theorem ggX7_step_X7_canBe : GoodIn wsX7_step wsX7_canBe := goodIn_r _ [17, 18, 19, 6, 20, 21, 22, 23, 24, 25, 26, 27, 28, 29, 30, 31, 32, 33, 34, 35, 36, 37] (by decide +kernel) (by decide +kernel)
set_option maxRecDepth 20000 in
theorem gX7_step_X7_canBe : GoodIn wsX7_step (va_wsS RX7 94 yX7_canBe wsX7_canBe) := goodIn_app (goodIn_of _ (by decide +kernel)) ggX7_step_X7_canBe
set_option maxRecDepth 20000 in
theorem ggX7_step_X4_append : GoodIn wsX7_step wsX4_append := goodIn_r _ [41, 14, 13, 42, 43, 44, 45, 19, 6, 20, 25, 26, 31, 32, 46, 47, 48, 11, 49, 50, 51, 52, 53, 54, 55, 56, 57, 58, 59, 77, 78, 79, 80, 81, 82, 83, 84, 85] (by decide +kernel) (by decide +kernel)
set_option maxRecDepth 20000 in
theorem gX7_step_X4_append : GoodIn wsX7_step (wsV RX7 98 RX4 yX4_append wsX4_append) := goodIn_app (goodIn_of _ (by decide +kernel)) ggX7_step_X4_append
set_option maxRecDepth 20000 in
theorem ggX7_step_X7_forget : GoodIn wsX7_step wsX7_forget := goodIn_r _ [63, 64, 65, 66, 67, 68, 69, 70, 71, 72, 73, 74, 75, 76, 86, 87, 88, 89, 90, 91, 92, 93, 94, 95, 96, 97, 98, 99, 100, 101, 102, 103, 104, 105, 106, 107, 108] (by decide +kernel) (by decide +kernel)
set_option maxRecDepth 20000 in
theorem gX7_step_X7_forget : GoodIn wsX7_step (wsV RX7 74 RX7 yX7_forget wsX7_forget) := goodIn_app (goodIn_of _ (by decide +kernel)) ggX7_step_X7_forget
theorem dX7_step_0 : decode cX7_step 0 = .ok (.aload_n 0, 1) := by decide +kernel
theorem dX7_step_1 : decode cX7_step 1 = .ok (.getfield 26, 3) := by decide +kernel
theorem dX7_step_4 : decode cX7_step 4 = .ok (.getfield 87, 3) := by decide +kernel
theorem dX7_step_7 : decode cX7_step 7 = .ok (.bipush 24, 2) := by decide +kernel
theorem dX7_step_9 : decode cX7_step 9 = .ok (.if_icmp .ge 22, 3) := by decide +kernel
theorem dX7_step_12 : decode cX7_step 12 = .ok (.aload_n 0, 1) := by decide +kernel
theorem dX7_step_13 : decode cX7_step 13 = .ok (.iload_n 1, 1) := by decide +kernel
theorem dX7_step_14 : decode cX7_step 14 = .ok (.invokevirtual 91, 3) := by decide +kernel
theorem dX7_step_17 : decode cX7_step 17 = .ok (.ifCond .eq 14, 3) := by decide +kernel
theorem dX7_step_20 : decode cX7_step 20 = .ok (.iload_n 1, 1) := by decide +kernel
theorem dX7_step_21 : decode cX7_step 21 = .ok (.iload_n 2, 1) := by decide +kernel
theorem dX7_step_22 : decode cX7_step 22 = .ok (.iload_n 3, 1) := by decide +kernel
theorem dX7_step_23 : decode cX7_step 23 = .ok (.iload 4, 2) := by decide +kernel
theorem dX7_step_25 : decode cX7_step 25 = .ok (.invokestatic 94, 3) := by decide +kernel
theorem dX7_step_28 : decode cX7_step 28 = .ok (.ifCond .ne 5, 3) := by decide +kernel
theorem dX7_step_31 : decode cX7_step 31 = .ok (.iconst (-1), 1) := by decide +kernel
theorem dX7_step_32 : decode cX7_step 32 = .ok (.ireturn, 1) := by decide +kernel
theorem dX7_step_33 : decode cX7_step 33 = .ok (.aload_n 0, 1) := by decide +kernel
theorem dX7_step_34 : decode cX7_step 34 = .ok (.getfield 26, 3) := by decide +kernel
theorem dX7_step_37 : decode cX7_step 37 = .ok (.iload_n 1, 1) := by decide +kernel
theorem dX7_step_38 : decode cX7_step 38 = .ok (.iload_n 2, 1) := by decide +kernel
theorem dX7_step_39 : decode cX7_step 39 = .ok (.iload_n 3, 1) := by decide +kernel
theorem dX7_step_40 : decode cX7_step 40 = .ok (.iload 4, 2) := by decide +kernel
theorem dX7_step_42 : decode cX7_step 42 = .ok (.invokevirtual 98, 3) := by decide +kernel
theorem dX7_step_45 : decode cX7_step 45 = .ok (.aload_n 0, 1) := by decide +kernel
theorem dX7_step_46 : decode cX7_step 46 = .ok (.invokevirtual 74, 3) := by decide +kernel
theorem dX7_step_49 : decode cX7_step 49 = .ok (.aload_n 0, 1) := by decide +kernel
theorem dX7_step_50 : decode cX7_step 50 = .ok (.getfield 26, 3) := by decide +kernel
theorem dX7_step_53 : decode cX7_step 53 = .ok (.getfield 87, 3) := by decide +kernel
theorem dX7_step_56 : decode cX7_step 56 = .ok (.iconst 1, 1) := by decide +kernel
theorem dX7_step_57 : decode cX7_step 57 = .ok (.isub, 1) := by decide +kernel
theorem dX7_step_58 : decode cX7_step 58 = .ok (.ireturn, 1) := by decide +kernel
set_option maxRecDepth 20000 in
theorem ggX7_back_X4_dropLast : GoodIn wsX7_back wsX4_dropLast := goodIn_r _ [7, 8, 9, 10, 11, 12, 6, 13, 14, 15, 16, 17, 18, 19, 20, 21, 22, 23, 24, 25, 44, 45, 46, 47, 48, 49, 50, 51, 52] (by decide +kernel) (by decide +kernel)
set_option maxRecDepth 20000 in
theorem gX7_back_X4_dropLast : GoodIn wsX7_back (wsV RX7 102 RX4 yX4_dropLast wsX4_dropLast) := goodIn_app (goodIn_of _ (by decide +kernel)) ggX7_back_X4_dropLast
set_option maxRecDepth 20000 in
theorem ggX7_back_X7_forget : GoodIn wsX7_back wsX7_forget := goodIn_r _ [30, 31, 32, 33, 34, 35, 36, 37, 38, 39, 40, 41, 42, 43, 53, 54, 55, 56, 57, 58, 59, 60, 61, 62, 63, 64, 65, 66, 67, 68, 69, 70, 71, 72, 73, 74, 75] (by decide +kernel) (by decide +kernel)
set_option maxRecDepth 20000 in
theorem gX7_back_X7_forget : GoodIn wsX7_back (wsV RX7 74 RX7 yX7_forget wsX7_forget) := goodIn_app (goodIn_of _ (by decide +kernel)) ggX7_back_X7_forget
theorem dX7_back_0 : decode cX7_back 0 = .ok (.aload_n 0, 1) := by decide +kernel
theorem dX7_back_1 : decode cX7_back 1 = .ok (.getfield 26, 3) := by decide +kernel
theorem dX7_back_4 : decode cX7_back 4 = .ok (.getfield 87, 3) := by decide +kernel
theorem dX7_back_7 : decode cX7_back 7 = .ok (.ifCond .ne 5, 3) := by decide +kernel
theorem dX7_back_10 : decode cX7_back 10 = .ok (.iconst 0, 1) := by decide +kernel
theorem dX7_back_11 : decode cX7_back 11 = .ok (.ireturn, 1) := by decide +kernel
theorem dX7_back_12 : decode cX7_back 12 = .ok (.aload_n 0, 1) := by decide +kernel
theorem dX7_back_13 : decode cX7_back 13 = .ok (.getfield 26, 3) := by decide +kernel
theorem dX7_back_16 : decode cX7_back 16 = .ok (.invokevirtual 102, 3) := by decide +kernel
theorem dX7_back_19 : decode cX7_back 19 = .ok (.aload_n 0, 1) := by decide +kernel
theorem dX7_back_20 : decode cX7_back 20 = .ok (.invokevirtual 74, 3) := by decide +kernel
theorem dX7_back_23 : decode cX7_back 23 = .ok (.iconst 1, 1) := by decide +kernel
theorem dX7_back_24 : decode cX7_back 24 = .ok (.ireturn, 1) := by decide +kernel
set_option maxRecDepth 20000 in
theorem ggX7_mode_X7_forget : GoodIn wsX7_mode wsX7_forget := goodIn_r _ [7, 8, 9, 10, 11, 12, 13, 14, 15, 16, 17, 18, 19, 20, 26, 27, 28, 29, 30, 31, 32, 33, 34, 35, 36, 37, 38, 39, 40, 41, 42, 43, 44, 45, 46, 47, 48] (by decide +kernel) (by decide +kernel)
set_option maxRecDepth 20000 in
theorem gX7_mode_X7_forget : GoodIn wsX7_mode (wsV RX7 74 RX7 yX7_forget wsX7_forget) := goodIn_app (goodIn_of _ (by decide +kernel)) ggX7_mode_X7_forget
theorem dX7_mode_0 : decode cX7_mode 0 = .ok (.iload_n 1, 1) := by decide +kernel
theorem dX7_mode_1 : decode cX7_mode 1 = .ok (.ifCond .eq 10, 3) := by decide +kernel
theorem dX7_mode_4 : decode cX7_mode 4 = .ok (.iload_n 1, 1) := by decide +kernel
theorem dX7_mode_5 : decode cX7_mode 5 = .ok (.iconst 1, 1) := by decide +kernel
theorem dX7_mode_6 : decode cX7_mode 6 = .ok (.if_icmp .eq 5, 3) := by decide +kernel
theorem dX7_mode_9 : decode cX7_mode 9 = .ok (.iconst 0, 1) := by decide +kernel
theorem dX7_mode_10 : decode cX7_mode 10 = .ok (.ireturn, 1) := by decide +kernel
theorem dX7_mode_11 : decode cX7_mode 11 = .ok (.aload_n 0, 1) := by decide +kernel
theorem dX7_mode_12 : decode cX7_mode 12 = .ok (.getfield 10, 3) := by decide +kernel
theorem dX7_mode_15 : decode cX7_mode 15 = .ok (.iload_n 1, 1) := by decide +kernel
theorem dX7_mode_16 : decode cX7_mode 16 = .ok (.iconst 1, 1) := by decide +kernel
theorem dX7_mode_17 : decode cX7_mode 17 = .ok (.if_icmp .ne 7, 3) := by decide +kernel
theorem dX7_mode_20 : decode cX7_mode 20 = .ok (.iconst 1, 1) := by decide +kernel
theorem dX7_mode_21 : decode cX7_mode 21 = .ok (.goto 4, 3) := by decide +kernel
theorem dX7_mode_24 : decode cX7_mode 24 = .ok (.iconst 0, 1) := by decide +kernel
theorem dX7_mode_25 : decode cX7_mode 25 = .ok (.putfield 105, 3) := by decide +kernel
theorem dX7_mode_28 : decode cX7_mode 28 = .ok (.aload_n 0, 1) := by decide +kernel
theorem dX7_mode_29 : decode cX7_mode 29 = .ok (.invokevirtual 74, 3) := by decide +kernel
theorem dX7_mode_32 : decode cX7_mode 32 = .ok (.iconst 1, 1) := by decide +kernel
theorem dX7_mode_33 : decode cX7_mode 33 = .ok (.ireturn, 1) := by decide +kernel
set_option maxRecDepth 20000 in
theorem ggX7_run_X7_isName : GoodIn wsX7_run wsX7_isName := goodIn_r _ [8] (by decide +kernel) (by decide +kernel)
set_option maxRecDepth 20000 in
theorem gX7_run_X7_isName : GoodIn wsX7_run (va_wsS RX7 66 yX7_isName wsX7_isName) := goodIn_app (goodIn_of _ (by decide +kernel)) ggX7_run_X7_isName
set_option maxRecDepth 20000 in
theorem ggX7_run_X0_hold : GoodIn wsX7_run wsX0_hold := goodIn_r _ [13, 14, 15, 120, 121] (by decide +kernel) (by decide +kernel)
set_option maxRecDepth 20000 in
theorem gX7_run_X0_hold : GoodIn wsX7_run (wsV RX7 109 RX0 yX0_hold wsX0_hold) := goodIn_app (goodIn_of _ (by decide +kernel)) ggX7_run_X0_hold
set_option maxRecDepth 20000 in
theorem ggX7_run_X3_follow : GoodIn wsX7_run wsX3_follow := goodIn_r _ [20, 21, 22, 23, 24, 25, 26, 27, 28, 29, 30, 31, 32, 33, 34, 35, 36, 37, 38, 39, 40, 41, 42, 43, 44, 45, 46, 47, 48, 49, 50, 51, 52, 53, 54, 55, 56, 57, 58, 59, 60, 61, 62, 19, 63, 64, 65, 66, 67, 68, 69, 70, 71, 72, 73, 74, 75, 76, 77, 78, 79, 80, 81, 82, 83, 84, 7, 85, 86, 87, 88, 89, 90, 91, 92, 93, 94, 95, 96, 97, 98, 99, 100, 101, 102, 103, 104, 105, 106, 114, 115, 116, 117, 118, 119, 122, 123, 124, 125, 126, 127, 128, 129, 130, 131, 132, 133, 134, 135] (by decide +kernel) (by decide +kernel)
set_option maxRecDepth 20000 in
theorem gX7_run_X3_follow : GoodIn wsX7_run (wsV RX7 114 RX3 yX3_follow wsX3_follow) := goodIn_app (goodIn_of _ (by decide +kernel)) ggX7_run_X3_follow
theorem dX7_run_0 : decode cX7_run 0 = .ok (.iload_n 3, 1) := by decide +kernel
theorem dX7_run_1 : decode cX7_run 1 = .ok (.invokestatic 66, 3) := by decide +kernel
theorem dX7_run_4 : decode cX7_run 4 = .ok (.ifCond .eq 15, 3) := by decide +kernel
theorem dX7_run_7 : decode cX7_run 7 = .ok (.aload_n 0, 1) := by decide +kernel
theorem dX7_run_8 : decode cX7_run 8 = .ok (.getfield 19, 3) := by decide +kernel
theorem dX7_run_11 : decode cX7_run 11 = .ok (.iload_n 1, 1) := by decide +kernel
theorem dX7_run_12 : decode cX7_run 12 = .ok (.iload_n 2, 1) := by decide +kernel
theorem dX7_run_13 : decode cX7_run 13 = .ok (.invokevirtual 109, 3) := by decide +kernel
theorem dX7_run_16 : decode cX7_run 16 = .ok (.ifCond .ne 6, 3) := by decide +kernel
theorem dX7_run_19 : decode cX7_run 19 = .ok (.ldc 113, 2) := by decide +kernel
theorem dX7_run_21 : decode cX7_run 21 = .ok (.ireturn, 1) := by decide +kernel
theorem dX7_run_22 : decode cX7_run 22 = .ok (.aload_n 0, 1) := by decide +kernel
theorem dX7_run_23 : decode cX7_run 23 = .ok (.getfield 35, 3) := by decide +kernel
theorem dX7_run_26 : decode cX7_run 26 = .ok (.iload_n 1, 1) := by decide +kernel
theorem dX7_run_27 : decode cX7_run 27 = .ok (.iload_n 2, 1) := by decide +kernel
theorem dX7_run_28 : decode cX7_run 28 = .ok (.invokevirtual 114, 3) := by decide +kernel
theorem dX7_run_31 : decode cX7_run 31 = .ok (.aload_n 0, 1) := by decide +kernel
theorem dX7_run_32 : decode cX7_run 32 = .ok (.getfield 35, 3) := by decide +kernel
theorem dX7_run_35 : decode cX7_run 35 = .ok (.getfield 118, 3) := by decide +kernel
theorem dX7_run_38 : decode cX7_run 38 = .ok (.iload_n 3, 1) := by decide +kernel
theorem dX7_run_39 : decode cX7_run 39 = .ok (.laload, 1) := by decide +kernel
theorem dX7_run_40 : decode cX7_run 40 = .ok (.l2i, 1) := by decide +kernel
theorem dX7_run_41 : decode cX7_run 41 = .ok (.ireturn, 1) := by decide +kernel
set_option maxRecDepth 20000 in
theorem ggX7_first_X0_hold : GoodIn wsX7_first wsX0_hold := goodIn_r _ [8, 9, 10, 116, 117] (by decide +kernel) (by decide +kernel)
set_option maxRecDepth 20000 in
theorem gX7_first_X0_hold : GoodIn wsX7_first (wsV RX7 109 RX0 yX0_hold wsX0_hold) := goodIn_app (goodIn_of _ (by decide +kernel)) ggX7_first_X0_hold
set_option maxRecDepth 20000 in
theorem ggX7_first_X3_follow : GoodIn wsX7_first wsX3_follow := goodIn_r _ [15, 16, 17, 18, 19, 20, 21, 22, 23, 24, 25, 26, 27, 28, 29, 30, 31, 32, 33, 34, 35, 36, 37, 38, 39, 40, 41, 42, 43, 44, 45, 46, 47, 48, 49, 50, 51, 52, 53, 54, 55, 56, 57, 14, 58, 59, 60, 61, 62, 63, 64, 65, 66, 67, 68, 69, 70, 71, 72, 73, 74, 75, 76, 77, 78, 79, 80, 81, 82, 83, 84, 85, 86, 87, 88, 89, 90, 91, 92, 93, 94, 95, 96, 97, 98, 99, 100, 101, 102, 110, 111, 112, 113, 114, 115, 118, 119, 120, 121, 122, 123, 124, 125, 126, 127, 128, 129, 130, 131] (by decide +kernel) (by decide +kernel)
set_option maxRecDepth 20000 in
theorem gX7_first_X3_follow : GoodIn wsX7_first (wsV RX7 114 RX3 yX3_follow wsX3_follow) := goodIn_app (goodIn_of _ (by decide +kernel)) ggX7_first_X3_follow
theorem dX7_first_0 : decode cX7_first 0 = .ok (.aload_n 0, 1) := by decide +kernel
theorem dX7_first_1 : decode cX7_first 1 = .ok (.getfield 19, 3) := by decide +kernel
theorem dX7_first_4 : decode cX7_first 4 = .ok (.iload_n 1, 1) := by decide +kernel
theorem dX7_first_5 : decode cX7_first 5 = .ok (.iload_n 2, 1) := by decide +kernel
theorem dX7_first_6 : decode cX7_first 6 = .ok (.invokevirtual 109, 3) := by decide +kernel
theorem dX7_first_9 : decode cX7_first 9 = .ok (.ifCond .ne 5, 3) := by decide +kernel
theorem dX7_first_12 : decode cX7_first 12 = .ok (.iconst (-1), 1) := by decide +kernel
theorem dX7_first_13 : decode cX7_first 13 = .ok (.ireturn, 1) := by decide +kernel
theorem dX7_first_14 : decode cX7_first 14 = .ok (.aload_n 0, 1) := by decide +kernel
theorem dX7_first_15 : decode cX7_first 15 = .ok (.getfield 35, 3) := by decide +kernel
theorem dX7_first_18 : decode cX7_first 18 = .ok (.iload_n 1, 1) := by decide +kernel
theorem dX7_first_19 : decode cX7_first 19 = .ok (.iload_n 2, 1) := by decide +kernel
theorem dX7_first_20 : decode cX7_first 20 = .ok (.invokevirtual 114, 3) := by decide +kernel
theorem dX7_first_23 : decode cX7_first 23 = .ok (.aload_n 0, 1) := by decide +kernel
theorem dX7_first_24 : decode cX7_first 24 = .ok (.getfield 35, 3) := by decide +kernel
theorem dX7_first_27 : decode cX7_first 27 = .ok (.getfield 122, 3) := by decide +kernel
theorem dX7_first_30 : decode cX7_first 30 = .ok (.ireturn, 1) := by decide +kernel
set_option maxRecDepth 20000 in
theorem ggX7_judge_X7_isStep : GoodIn wsX7_judge wsX7_isStep := goodIn_r _ [7, 8, 9, 198, 199, 200, 201, 202, 203, 204, 205, 206, 207, 208, 209, 210, 211, 212, 213] (by decide +kernel) (by decide +kernel)
set_option maxRecDepth 20000 in
theorem gX7_judge_X7_isStep : GoodIn wsX7_judge (wsV RX7 125 RX7 yX7_isStep wsX7_isStep) := goodIn_app (goodIn_of _ (by decide +kernel)) ggX7_judge_X7_isStep
set_option maxRecDepth 20000 in
theorem ggX7_judge_X2_learn : GoodIn wsX7_judge wsX2_learn := goodIn_r _ [14, 15, 16, 17, 18, 19, 20, 21, 22, 23, 24, 25, 26, 27, 28, 29, 30, 31, 32, 33, 13, 34, 35, 36, 37, 38, 39, 40, 41, 42, 43, 44, 45, 46, 47, 48, 49, 50, 51, 52, 53, 54, 55, 56, 57, 58, 59, 60, 61, 62, 63, 64, 65, 66, 67, 68, 69, 70, 71, 72, 73, 74, 75, 76, 77, 78, 79, 80, 81, 82, 83, 84, 85, 86, 87, 88, 89, 90, 91, 92, 6, 93, 94, 214, 215, 216, 217, 218, 219, 220, 221, 222, 223, 224, 205, 206, 207, 208, 209, 210, 211, 212, 213, 225, 226, 227, 228, 229] (by decide +kernel) (by decide +kernel)
set_option maxRecDepth 20000 in
theorem gX7_judge_X2_learn : GoodIn wsX7_judge (wsV RX7 128 RX2 yX2_learn wsX2_learn) := goodIn_app (goodIn_of _ (by decide +kernel)) ggX7_judge_X2_learn
set_option maxRecDepth 20000 in
theorem ggX7_judge_X5_learn : GoodIn wsX7_judge wsX5_learn := goodIn_r _ [99, 100, 101, 102, 103, 104, 105, 106, 107, 108, 109, 110, 29, 111, 112, 113, 114, 115, 116, 117, 118, 119, 120, 121, 122, 123, 124, 125, 28, 30, 126, 127, 128, 46, 129, 130, 131, 51, 52, 53, 48, 49, 54, 55, 56, 57, 58, 59, 60, 132, 133, 134, 135, 136, 137, 138, 139, 140, 141, 142, 143, 144, 145, 146, 147, 148, 149, 150, 151, 152, 76, 77, 78, 79, 80, 153, 82, 83, 84, 85, 86, 92, 6, 93, 94, 154, 88, 89, 90, 91, 155, 156, 157, 158, 159, 160, 161, 162, 44, 45, 47, 163, 164, 165, 166, 167, 168, 169, 98, 170, 171, 172, 173, 174, 175, 176, 177, 178, 179, 180, 230, 231, 232, 233, 234, 235, 236, 223, 224, 237, 238, 239, 240, 241, 242, 205, 206, 207, 208, 209, 210, 211, 212, 213, 225, 226, 227, 228, 229] (by decide +kernel) (by decide +kernel)
set_option maxRecDepth 20000 in
theorem gX7_judge_X5_learn : GoodIn wsX7_judge (wsV RX7 131 RX5 yX5_learn wsX5_learn) := goodIn_app (goodIn_of _ (by decide +kernel)) ggX7_judge_X5_learn
set_option maxRecDepth 20000 in
theorem ggX7_judge_X7_judged : GoodIn wsX7_judge wsX7_judged := goodIn_r _ [184, 1, 2, 185, 186, 187, 188, 189, 13, 190, 16, 191, 192, 193, 194, 195, 196, 197, 198, 199, 200, 201, 202, 203, 204, 230, 231, 232, 233, 234, 235, 236, 214, 215, 216, 217, 218, 219, 220, 221, 222, 223, 224] (by decide +kernel) (by decide +kernel)
set_option maxRecDepth 20000 in
theorem gX7_judge_X7_judged : GoodIn wsX7_judge (wsV RX7 132 RX7 yX7_judged wsX7_judged) := goodIn_app (goodIn_of _ (by decide +kernel)) ggX7_judge_X7_judged
theorem dX7_judge_0 : decode cX7_judge 0 = .ok (.aload_n 0, 1) := by decide +kernel
theorem dX7_judge_1 : decode cX7_judge 1 = .ok (.iload_n 1, 1) := by decide +kernel
theorem dX7_judge_2 : decode cX7_judge 2 = .ok (.invokevirtual 125, 3) := by decide +kernel
theorem dX7_judge_5 : decode cX7_judge 5 = .ok (.ifCond .ne 5, 3) := by decide +kernel
theorem dX7_judge_8 : decode cX7_judge 8 = .ok (.iconst (-1), 1) := by decide +kernel
theorem dX7_judge_9 : decode cX7_judge 9 = .ok (.ireturn, 1) := by decide +kernel
theorem dX7_judge_10 : decode cX7_judge 10 = .ok (.aload_n 0, 1) := by decide +kernel
theorem dX7_judge_11 : decode cX7_judge 11 = .ok (.getfield 53, 3) := by decide +kernel
theorem dX7_judge_14 : decode cX7_judge 14 = .ok (.invokevirtual 128, 3) := by decide +kernel
theorem dX7_judge_17 : decode cX7_judge 17 = .ok (.aload_n 0, 1) := by decide +kernel
theorem dX7_judge_18 : decode cX7_judge 18 = .ok (.getfield 44, 3) := by decide +kernel
theorem dX7_judge_21 : decode cX7_judge 21 = .ok (.invokevirtual 131, 3) := by decide +kernel
theorem dX7_judge_24 : decode cX7_judge 24 = .ok (.aload_n 0, 1) := by decide +kernel
theorem dX7_judge_25 : decode cX7_judge 25 = .ok (.iload_n 1, 1) := by decide +kernel
theorem dX7_judge_26 : decode cX7_judge 26 = .ok (.invokevirtual 132, 3) := by decide +kernel
theorem dX7_judge_29 : decode cX7_judge 29 = .ok (.ireturn, 1) := by decide +kernel
set_option maxRecDepth 20000 in
theorem ggX7_over_X7_isStep : GoodIn wsX7_over wsX7_isStep := goodIn_r _ [7, 8, 9, 132, 133, 134, 135, 136, 137, 138, 146, 147, 148, 149, 150, 151, 152, 153, 154] (by decide +kernel) (by decide +kernel)
set_option maxRecDepth 20000 in
theorem gX7_over_X7_isStep : GoodIn wsX7_over (wsV RX7 125 RX7 yX7_isStep wsX7_isStep) := goodIn_app (goodIn_of _ (by decide +kernel)) ggX7_over_X7_isStep
set_option maxRecDepth 20000 in
theorem ggX7_over_X5_learn : GoodIn wsX7_over wsX5_learn := goodIn_r _ [14, 15, 16, 17, 18, 19, 20, 21, 22, 23, 24, 25, 26, 27, 28, 29, 30, 31, 32, 33, 34, 35, 36, 37, 38, 39, 40, 41, 42, 43, 44, 45, 46, 47, 48, 49, 50, 51, 52, 53, 54, 55, 56, 57, 58, 59, 60, 61, 62, 63, 64, 65, 66, 67, 68, 69, 70, 71, 72, 73, 74, 75, 76, 77, 78, 79, 80, 81, 82, 83, 84, 85, 86, 87, 88, 89, 90, 91, 92, 93, 94, 95, 6, 96, 97, 98, 99, 100, 101, 102, 103, 104, 105, 106, 107, 108, 109, 110, 111, 112, 113, 114, 115, 116, 117, 118, 119, 120, 13, 121, 122, 123, 124, 125, 126, 127, 128, 129, 130, 131, 139, 140, 141, 142, 143, 144, 145, 155, 156, 157, 158, 159, 160, 161, 162, 146, 147, 148, 149, 150, 151, 152, 153, 154, 163, 164, 165, 166, 167] (by decide +kernel) (by decide +kernel)
set_option maxRecDepth 20000 in
theorem gX7_over_X5_learn : GoodIn wsX7_over (wsV RX7 131 RX5 yX5_learn wsX5_learn) := goodIn_app (goodIn_of _ (by decide +kernel)) ggX7_over_X5_learn
theorem dX7_over_0 : decode cX7_over 0 = .ok (.aload_n 0, 1) := by decide +kernel
theorem dX7_over_1 : decode cX7_over 1 = .ok (.iload_n 1, 1) := by decide +kernel
theorem dX7_over_2 : decode cX7_over 2 = .ok (.invokevirtual 125, 3) := by decide +kernel
theorem dX7_over_5 : decode cX7_over 5 = .ok (.ifCond .ne 5, 3) := by decide +kernel
theorem dX7_over_8 : decode cX7_over 8 = .ok (.iconst (-1), 1) := by decide +kernel
theorem dX7_over_9 : decode cX7_over 9 = .ok (.ireturn, 1) := by decide +kernel
theorem dX7_over_10 : decode cX7_over 10 = .ok (.aload_n 0, 1) := by decide +kernel
theorem dX7_over_11 : decode cX7_over 11 = .ok (.getfield 44, 3) := by decide +kernel
theorem dX7_over_14 : decode cX7_over 14 = .ok (.invokevirtual 131, 3) := by decide +kernel
theorem dX7_over_17 : decode cX7_over 17 = .ok (.aload_n 0, 1) := by decide +kernel
theorem dX7_over_18 : decode cX7_over 18 = .ok (.getfield 44, 3) := by decide +kernel
theorem dX7_over_21 : decode cX7_over 21 = .ok (.getfield 136, 3) := by decide +kernel
theorem dX7_over_24 : decode cX7_over 24 = .ok (.iload_n 1, 1) := by decide +kernel
theorem dX7_over_25 : decode cX7_over 25 = .ok (.iaload, 1) := by decide +kernel
theorem dX7_over_26 : decode cX7_over 26 = .ok (.ireturn, 1) := by decide +kernel
set_option maxRecDepth 20000 in
theorem ggX7_shown_X7_isStep : GoodIn wsX7_shown wsX7_isStep := goodIn_r _ [7, 8, 9, 132, 133, 134, 135, 136, 137, 138, 146, 147, 148, 149, 150, 151, 152, 153, 154] (by decide +kernel) (by decide +kernel)
set_option maxRecDepth 20000 in
theorem gX7_shown_X7_isStep : GoodIn wsX7_shown (wsV RX7 125 RX7 yX7_isStep wsX7_isStep) := goodIn_app (goodIn_of _ (by decide +kernel)) ggX7_shown_X7_isStep
set_option maxRecDepth 20000 in
theorem ggX7_shown_X5_learn : GoodIn wsX7_shown wsX5_learn := goodIn_r _ [14, 15, 16, 17, 18, 19, 20, 21, 22, 23, 24, 25, 26, 27, 28, 29, 30, 31, 32, 33, 34, 35, 36, 37, 38, 39, 40, 41, 42, 43, 44, 45, 46, 47, 48, 49, 50, 51, 52, 53, 54, 55, 56, 57, 58, 59, 60, 61, 62, 63, 64, 65, 66, 67, 68, 69, 70, 71, 72, 73, 74, 75, 76, 77, 78, 79, 80, 81, 82, 83, 84, 85, 86, 87, 88, 89, 90, 91, 92, 93, 94, 95, 6, 96, 97, 98, 99, 100, 101, 102, 103, 104, 105, 106, 107, 108, 109, 110, 111, 112, 113, 114, 115, 116, 117, 118, 119, 120, 13, 121, 122, 123, 124, 125, 126, 127, 128, 129, 130, 131, 139, 140, 141, 142, 143, 144, 145, 155, 156, 157, 158, 159, 160, 161, 162, 146, 147, 148, 149, 150, 151, 152, 153, 154, 163, 164, 165, 166, 167] (by decide +kernel) (by decide +kernel)
set_option maxRecDepth 20000 in
theorem gX7_shown_X5_learn : GoodIn wsX7_shown (wsV RX7 131 RX5 yX5_learn wsX5_learn) := goodIn_app (goodIn_of _ (by decide +kernel)) ggX7_shown_X5_learn
theorem dX7_shown_0 : decode cX7_shown 0 = .ok (.aload_n 0, 1) := by decide +kernel
theorem dX7_shown_1 : decode cX7_shown 1 = .ok (.iload_n 1, 1) := by decide +kernel
theorem dX7_shown_2 : decode cX7_shown 2 = .ok (.invokevirtual 125, 3) := by decide +kernel
theorem dX7_shown_5 : decode cX7_shown 5 = .ok (.ifCond .ne 5, 3) := by decide +kernel
theorem dX7_shown_8 : decode cX7_shown 8 = .ok (.iconst (-1), 1) := by decide +kernel
theorem dX7_shown_9 : decode cX7_shown 9 = .ok (.ireturn, 1) := by decide +kernel
theorem dX7_shown_10 : decode cX7_shown 10 = .ok (.aload_n 0, 1) := by decide +kernel
theorem dX7_shown_11 : decode cX7_shown 11 = .ok (.getfield 44, 3) := by decide +kernel
theorem dX7_shown_14 : decode cX7_shown 14 = .ok (.invokevirtual 131, 3) := by decide +kernel
theorem dX7_shown_17 : decode cX7_shown 17 = .ok (.aload_n 0, 1) := by decide +kernel
theorem dX7_shown_18 : decode cX7_shown 18 = .ok (.getfield 44, 3) := by decide +kernel
theorem dX7_shown_21 : decode cX7_shown 21 = .ok (.getfield 139, 3) := by decide +kernel
theorem dX7_shown_24 : decode cX7_shown 24 = .ok (.iload_n 1, 1) := by decide +kernel
theorem dX7_shown_25 : decode cX7_shown 25 = .ok (.iaload, 1) := by decide +kernel
theorem dX7_shown_26 : decode cX7_shown 26 = .ok (.ireturn, 1) := by decide +kernel
set_option maxRecDepth 20000 in
theorem ggX7_turned_X7_isStep : GoodIn wsX7_turned wsX7_isStep := goodIn_r _ [9, 1, 10, 133, 134, 135, 136, 137, 138, 139, 140, 141, 142, 143, 144, 145, 146, 147, 148] (by decide +kernel) (by decide +kernel)
set_option maxRecDepth 20000 in
theorem gX7_turned_X7_isStep : GoodIn wsX7_turned (wsV RX7 125 RX7 yX7_isStep wsX7_isStep) := goodIn_app (goodIn_of _ (by decide +kernel)) ggX7_turned_X7_isStep
set_option maxRecDepth 20000 in
theorem ggX7_turned_X5_learn : GoodIn wsX7_turned wsX5_learn := goodIn_r _ [15, 16, 17, 18, 19, 20, 21, 22, 23, 24, 25, 26, 27, 28, 29, 30, 31, 32, 33, 34, 35, 36, 37, 38, 39, 40, 41, 42, 43, 44, 45, 46, 47, 48, 49, 50, 51, 52, 53, 54, 55, 56, 57, 58, 59, 60, 61, 62, 63, 64, 65, 66, 67, 68, 69, 70, 71, 72, 73, 74, 75, 76, 77, 78, 79, 80, 81, 82, 83, 84, 85, 86, 87, 88, 89, 90, 91, 92, 93, 94, 95, 96, 8, 97, 98, 99, 100, 101, 102, 103, 104, 105, 106, 107, 108, 109, 110, 111, 112, 113, 114, 115, 116, 117, 118, 119, 120, 121, 14, 122, 123, 124, 125, 126, 127, 128, 129, 130, 131, 132, 149, 150, 151, 152, 153, 154, 155, 156, 157, 158, 159, 160, 161, 162, 163, 140, 141, 142, 143, 144, 145, 146, 147, 148, 164, 165, 166, 167, 168] (by decide +kernel) (by decide +kernel)
set_option maxRecDepth 20000 in
theorem gX7_turned_X5_learn : GoodIn wsX7_turned (wsV RX7 131 RX5 yX5_learn wsX5_learn) := goodIn_app (goodIn_of _ (by decide +kernel)) ggX7_turned_X5_learn
theorem dX7_turned_0 : decode cX7_turned 0 = .ok (.aload_n 0, 1) := by decide +kernel
theorem dX7_turned_1 : decode cX7_turned 1 = .ok (.iload_n 1, 1) := by decide +kernel
theorem dX7_turned_2 : decode cX7_turned 2 = .ok (.invokevirtual 125, 3) := by decide +kernel
theorem dX7_turned_5 : decode cX7_turned 5 = .ok (.ifCond .eq 17, 3) := by decide +kernel
theorem dX7_turned_8 : decode cX7_turned 8 = .ok (.aload_n 0, 1) := by decide +kernel
theorem dX7_turned_9 : decode cX7_turned 9 = .ok (.getfield 26, 3) := by decide +kernel
theorem dX7_turned_12 : decode cX7_turned 12 = .ok (.getfield 142, 3) := by decide +kernel
theorem dX7_turned_15 : decode cX7_turned 15 = .ok (.iload_n 1, 1) := by decide +kernel
theorem dX7_turned_16 : decode cX7_turned 16 = .ok (.iaload, 1) := by decide +kernel
theorem dX7_turned_17 : decode cX7_turned 17 = .ok (.bipush 7, 2) := by decide +kernel
theorem dX7_turned_19 : decode cX7_turned 19 = .ok (.if_icmp .eq 5, 3) := by decide +kernel
theorem dX7_turned_22 : decode cX7_turned 22 = .ok (.iconst (-1), 1) := by decide +kernel
theorem dX7_turned_23 : decode cX7_turned 23 = .ok (.ireturn, 1) := by decide +kernel
theorem dX7_turned_24 : decode cX7_turned 24 = .ok (.aload_n 0, 1) := by decide +kernel
theorem dX7_turned_25 : decode cX7_turned 25 = .ok (.getfield 44, 3) := by decide +kernel
theorem dX7_turned_28 : decode cX7_turned 28 = .ok (.invokevirtual 131, 3) := by decide +kernel
theorem dX7_turned_31 : decode cX7_turned 31 = .ok (.aload_n 0, 1) := by decide +kernel
theorem dX7_turned_32 : decode cX7_turned 32 = .ok (.getfield 44, 3) := by decide +kernel
theorem dX7_turned_35 : decode cX7_turned 35 = .ok (.getfield 145, 3) := by decide +kernel
theorem dX7_turned_38 : decode cX7_turned 38 = .ok (.iload_n 1, 1) := by decide +kernel
theorem dX7_turned_39 : decode cX7_turned 39 = .ok (.iaload, 1) := by decide +kernel
theorem dX7_turned_40 : decode cX7_turned 40 = .ok (.ireturn, 1) := by decide +kernel
set_option maxRecDepth 20000 in
theorem ggX7_ends_X7_isName : GoodIn wsX7_ends wsX7_isName := goodIn_r _ [8] (by decide +kernel) (by decide +kernel)
set_option maxRecDepth 20000 in
theorem gX7_ends_X7_isName : GoodIn wsX7_ends (va_wsS RX7 66 yX7_isName wsX7_isName) := goodIn_app (goodIn_of _ (by decide +kernel)) ggX7_ends_X7_isName
set_option maxRecDepth 20000 in
theorem ggX7_ends_X2_learn : GoodIn wsX7_ends wsX2_learn := goodIn_r _ [13, 14, 15, 16, 17, 18, 19, 20, 21, 22, 23, 24, 25, 26, 27, 28, 29, 30, 31, 32, 12, 33, 34, 35, 36, 37, 38, 39, 40, 41, 42, 43, 44, 45, 46, 47, 48, 49, 50, 51, 52, 53, 54, 55, 56, 57, 58, 59, 60, 61, 62, 63, 64, 65, 66, 67, 68, 69, 70, 71, 72, 73, 74, 75, 76, 77, 78, 79, 80, 81, 82, 83, 84, 85, 86, 87, 88, 89, 90, 91, 7, 92, 93, 101, 102, 103, 104, 105, 106, 107, 108, 109, 110, 111, 112, 113, 114, 115, 116, 117, 118, 119, 120, 121, 122, 123, 124, 125] (by decide +kernel) (by decide +kernel)
set_option maxRecDepth 20000 in
theorem gX7_ends_X2_learn : GoodIn wsX7_ends (wsV RX7 128 RX2 yX2_learn wsX2_learn) := goodIn_app (goodIn_of _ (by decide +kernel)) ggX7_ends_X2_learn
theorem dX7_ends_0 : decode cX7_ends 0 = .ok (.iload_n 1, 1) := by decide +kernel
theorem dX7_ends_1 : decode cX7_ends 1 = .ok (.invokestatic 66, 3) := by decide +kernel
theorem dX7_ends_4 : decode cX7_ends 4 = .ok (.ifCond .eq 12, 3) := by decide +kernel
theorem dX7_ends_7 : decode cX7_ends 7 = .ok (.iload_n 2, 1) := by decide +kernel
theorem dX7_ends_8 : decode cX7_ends 8 = .ok (.ifCond .eq 11, 3) := by decide +kernel
theorem dX7_ends_11 : decode cX7_ends 11 = .ok (.iload_n 2, 1) := by decide +kernel
theorem dX7_ends_12 : decode cX7_ends 12 = .ok (.iconst 1, 1) := by decide +kernel
theorem dX7_ends_13 : decode cX7_ends 13 = .ok (.if_icmp .eq 6, 3) := by decide +kernel
theorem dX7_ends_16 : decode cX7_ends 16 = .ok (.ldc 113, 2) := by decide +kernel
theorem dX7_ends_18 : decode cX7_ends 18 = .ok (.ireturn, 1) := by decide +kernel
theorem dX7_ends_19 : decode cX7_ends 19 = .ok (.aload_n 0, 1) := by decide +kernel
theorem dX7_ends_20 : decode cX7_ends 20 = .ok (.getfield 53, 3) := by decide +kernel
theorem dX7_ends_23 : decode cX7_ends 23 = .ok (.invokevirtual 128, 3) := by decide +kernel
theorem dX7_ends_26 : decode cX7_ends 26 = .ok (.iload_n 2, 1) := by decide +kernel
theorem dX7_ends_27 : decode cX7_ends 27 = .ok (.ifCond .ne 15, 3) := by decide +kernel
theorem dX7_ends_30 : decode cX7_ends 30 = .ok (.aload_n 0, 1) := by decide +kernel
theorem dX7_ends_31 : decode cX7_ends 31 = .ok (.getfield 53, 3) := by decide +kernel
theorem dX7_ends_34 : decode cX7_ends 34 = .ok (.getfield 148, 3) := by decide +kernel
theorem dX7_ends_37 : decode cX7_ends 37 = .ok (.iload_n 1, 1) := by decide +kernel
theorem dX7_ends_38 : decode cX7_ends 38 = .ok (.laload, 1) := by decide +kernel
theorem dX7_ends_39 : decode cX7_ends 39 = .ok (.goto 12, 3) := by decide +kernel
theorem dX7_ends_42 : decode cX7_ends 42 = .ok (.aload_n 0, 1) := by decide +kernel
theorem dX7_ends_43 : decode cX7_ends 43 = .ok (.getfield 53, 3) := by decide +kernel
theorem dX7_ends_46 : decode cX7_ends 46 = .ok (.getfield 151, 3) := by decide +kernel
theorem dX7_ends_49 : decode cX7_ends 49 = .ok (.iload_n 1, 1) := by decide +kernel
theorem dX7_ends_50 : decode cX7_ends 50 = .ok (.laload, 1) := by decide +kernel
theorem dX7_ends_51 : decode cX7_ends 51 = .ok (.l2i, 1) := by decide +kernel
theorem dX7_ends_52 : decode cX7_ends 52 = .ok (.ireturn, 1) := by decide +kernel
set_option maxRecDepth 20000 in
theorem ggX7_need_X7_isName : GoodIn wsX7_need wsX7_isName := goodIn_r _ [5] (by decide +kernel) (by decide +kernel)
set_option maxRecDepth 20000 in
theorem gX7_need_X7_isName : GoodIn wsX7_need (va_wsS RX7 66 yX7_isName wsX7_isName) := goodIn_app (goodIn_of _ (by decide +kernel)) ggX7_need_X7_isName
set_option maxRecDepth 20000 in
theorem ggX7_need_X6_learn : GoodIn wsX7_need wsX6_learn := goodIn_r _ [10, 11, 12, 13, 14, 15, 16, 17, 18, 19, 20, 21, 22, 23, 24, 9, 25, 26, 27, 28, 29, 30, 31, 32, 33, 34, 35, 36, 37, 38, 39, 40, 41, 42, 43, 44, 45, 46, 47, 48, 49, 50, 51, 52, 53, 54, 55, 56, 57, 58, 59, 60, 61, 62, 63, 64, 65, 66, 4, 67, 68, 91, 92, 93, 94, 95, 96, 97, 98, 99, 100, 101, 102, 103, 104, 105, 106, 107, 108] (by decide +kernel) (by decide +kernel)
set_option maxRecDepth 20000 in
theorem gX7_need_X6_learn : GoodIn wsX7_need (wsV RX7 154 RX6 yX6_learn wsX6_learn) := goodIn_app (goodIn_of _ (by decide +kernel)) ggX7_need_X6_learn
set_option maxRecDepth 20000 in
theorem ggX7_need_X7_needed : GoodIn wsX7_need wsX7_needed := goodIn_r _ [72, 1, 73, 74, 75, 76, 77, 78, 79, 4, 80, 81, 82, 83, 84, 85, 86, 87, 88, 89, 90, 91, 92, 93, 94, 95, 96, 97, 109, 110, 111, 112, 113] (by decide +kernel) (by decide +kernel)
set_option maxRecDepth 20000 in
theorem gX7_need_X7_needed : GoodIn wsX7_need (wsV RX7 155 RX7 yX7_needed wsX7_needed) := goodIn_app (goodIn_of _ (by decide +kernel)) ggX7_need_X7_needed
theorem dX7_need_0 : decode cX7_need 0 = .ok (.iload_n 1, 1) := by decide +kernel
theorem dX7_need_1 : decode cX7_need 1 = .ok (.invokestatic 66, 3) := by decide +kernel
theorem dX7_need_4 : decode cX7_need 4 = .ok (.ifCond .ne 5, 3) := by decide +kernel
theorem dX7_need_7 : decode cX7_need 7 = .ok (.iconst (-1), 1) := by decide +kernel
theorem dX7_need_8 : decode cX7_need 8 = .ok (.ireturn, 1) := by decide +kernel
theorem dX7_need_9 : decode cX7_need 9 = .ok (.aload_n 0, 1) := by decide +kernel
theorem dX7_need_10 : decode cX7_need 10 = .ok (.getfield 62, 3) := by decide +kernel
theorem dX7_need_13 : decode cX7_need 13 = .ok (.invokevirtual 154, 3) := by decide +kernel
theorem dX7_need_16 : decode cX7_need 16 = .ok (.aload_n 0, 1) := by decide +kernel
theorem dX7_need_17 : decode cX7_need 17 = .ok (.iload_n 1, 1) := by decide +kernel
theorem dX7_need_18 : decode cX7_need 18 = .ok (.invokevirtual 155, 3) := by decide +kernel
theorem dX7_need_21 : decode cX7_need 21 = .ok (.ireturn, 1) := by decide +kernel
set_option maxRecDepth 20000 in
theorem ggX7_price_X6_learn : GoodIn wsX7_price wsX6_learn := goodIn_r _ [12, 13, 14, 15, 16, 17, 18, 19, 20, 21, 22, 23, 24, 25, 26, 11, 27, 28, 29, 30, 31, 32, 33, 34, 35, 36, 37, 6, 38, 39, 40, 41, 42, 43, 44, 45, 46, 47, 48, 49, 50, 51, 52, 53, 54, 55, 56, 57, 58, 59, 60, 61, 62, 63, 64, 65, 66, 67, 68, 69, 70, 101, 102, 103, 104, 105, 106, 107, 108, 109, 110, 111, 112, 113, 114, 115, 116, 117, 118] (by decide +kernel) (by decide +kernel)
set_option maxRecDepth 20000 in
theorem gX7_price_X6_learn : GoodIn wsX7_price (wsV RX7 154 RX6 yX6_learn wsX6_learn) := goodIn_app (goodIn_of _ (by decide +kernel)) ggX7_price_X6_learn
set_option maxRecDepth 20000 in
theorem ggX7_price_X7_canMend : GoodIn wsX7_price wsX7_canMend := goodIn_r _ [74, 75, 76, 77, 68, 78, 1, 79, 2, 80, 81, 82, 83, 84, 85, 86, 87, 88, 89, 90, 91, 92, 93, 94, 95, 101, 102, 103, 104, 105, 106, 107, 96, 97, 98, 99, 100] (by decide +kernel) (by decide +kernel)
set_option maxRecDepth 20000 in
theorem gX7_price_X7_canMend : GoodIn wsX7_price (wsV RX7 158 RX7 yX7_canMend wsX7_canMend) := goodIn_app (goodIn_of _ (by decide +kernel)) ggX7_price_X7_canMend
set_option maxRecDepth 20000 in
theorem ggX7_price_X7_needed : GoodIn wsX7_price wsX7_needed := goodIn_r _ [78, 1, 79, 2, 80, 81, 82, 83, 84, 68, 85, 86, 87, 88, 89, 90, 91, 92, 93, 94, 95, 101, 102, 103, 104, 105, 106, 107, 96, 97, 98, 99, 100] (by decide +kernel) (by decide +kernel)
set_option maxRecDepth 20000 in
theorem gX7_price_X7_needed : GoodIn wsX7_price (wsV RX7 155 RX7 yX7_needed wsX7_needed) := goodIn_app (goodIn_of _ (by decide +kernel)) ggX7_price_X7_needed
theorem dX7_price_0 : decode cX7_price 0 = .ok (.aload_n 0, 1) := by decide +kernel
theorem dX7_price_1 : decode cX7_price 1 = .ok (.getfield 62, 3) := by decide +kernel
theorem dX7_price_4 : decode cX7_price 4 = .ok (.invokevirtual 154, 3) := by decide +kernel
theorem dX7_price_7 : decode cX7_price 7 = .ok (.aload_n 0, 1) := by decide +kernel
theorem dX7_price_8 : decode cX7_price 8 = .ok (.invokevirtual 158, 3) := by decide +kernel
theorem dX7_price_11 : decode cX7_price 11 = .ok (.ifCond .ne 5, 3) := by decide +kernel
theorem dX7_price_14 : decode cX7_price 14 = .ok (.iconst (-1), 1) := by decide +kernel
theorem dX7_price_15 : decode cX7_price 15 = .ok (.ireturn, 1) := by decide +kernel
theorem dX7_price_16 : decode cX7_price 16 = .ok (.iconst 0, 1) := by decide +kernel
theorem dX7_price_17 : decode cX7_price 17 = .ok (.istore_n 1, 1) := by decide +kernel
theorem dX7_price_18 : decode cX7_price 18 = .ok (.iconst 0, 1) := by decide +kernel
theorem dX7_price_19 : decode cX7_price 19 = .ok (.istore_n 2, 1) := by decide +kernel
theorem dX7_price_20 : decode cX7_price 20 = .ok (.iload_n 2, 1) := by decide +kernel
theorem dX7_price_21 : decode cX7_price 21 = .ok (.bipush 6, 2) := by decide +kernel
theorem dX7_price_23 : decode cX7_price 23 = .ok (.if_icmp .ge 31, 3) := by decide +kernel
theorem dX7_price_26 : decode cX7_price 26 = .ok (.iload_n 1, 1) := by decide +kernel
theorem dX7_price_27 : decode cX7_price 27 = .ok (.iconst 0, 1) := by decide +kernel
theorem dX7_price_28 : decode cX7_price 28 = .ok (.aload_n 0, 1) := by decide +kernel
theorem dX7_price_29 : decode cX7_price 29 = .ok (.iload_n 2, 1) := by decide +kernel
theorem dX7_price_30 : decode cX7_price 30 = .ok (.invokevirtual 155, 3) := by decide +kernel
theorem dX7_price_33 : decode cX7_price 33 = .ok (.aload_n 0, 1) := by decide +kernel
theorem dX7_price_34 : decode cX7_price 34 = .ok (.getfield 10, 3) := by decide +kernel
theorem dX7_price_37 : decode cX7_price 37 = .ok (.getfield 162, 3) := by decide +kernel
theorem dX7_price_40 : decode cX7_price 40 = .ok (.iload_n 2, 1) := by decide +kernel
theorem dX7_price_41 : decode cX7_price 41 = .ok (.iaload, 1) := by decide +kernel
theorem dX7_price_42 : decode cX7_price 42 = .ok (.isub, 1) := by decide +kernel
theorem dX7_price_43 : decode cX7_price 43 = .ok (.invokestatic 165, 3) := by decide +kernel
theorem dX7_price_46 : decode cX7_price 46 = .ok (.iadd, 1) := by decide +kernel
theorem dX7_price_47 : decode cX7_price 47 = .ok (.istore_n 1, 1) := by decide +kernel
theorem dX7_price_48 : decode cX7_price 48 = .ok (.iinc 2 1, 3) := by decide +kernel
theorem dX7_price_51 : decode cX7_price 51 = .ok (.goto (-31), 3) := by decide +kernel
theorem dX7_price_54 : decode cX7_price 54 = .ok (.iload_n 1, 1) := by decide +kernel
theorem dX7_price_55 : decode cX7_price 55 = .ok (.ireturn, 1) := by decide +kernel
set_option maxRecDepth 20000 in
theorem ggX7_mend_X6_learn : GoodIn wsX7_mend wsX6_learn := goodIn_r _ [9, 10, 11, 12, 13, 14, 15, 16, 17, 18, 19, 20, 21, 22, 23, 8, 24, 25, 26, 27, 28, 29, 30, 31, 32, 33, 34, 35, 36, 37, 38, 39, 40, 41, 42, 43, 44, 45, 46, 47, 48, 49, 50, 51, 52, 53, 54, 55, 56, 57, 58, 59, 60, 61, 62, 63, 64, 65, 66, 67, 68, 116, 117, 118, 119, 120, 121, 122, 123, 124, 125, 126, 127, 128, 129, 130, 131, 132, 133] (by decide +kernel) (by decide +kernel)
set_option maxRecDepth 20000 in
theorem gX7_mend_X6_learn : GoodIn wsX7_mend (wsV RX7 154 RX6 yX6_learn wsX6_learn) := goodIn_app (goodIn_of _ (by decide +kernel)) ggX7_mend_X6_learn
set_option maxRecDepth 20000 in
theorem ggX7_mend_X7_canMend : GoodIn wsX7_mend wsX7_canMend := goodIn_r _ [72, 73, 74, 75, 66, 76, 1, 77, 2, 4, 78, 79, 80, 81, 82, 83, 84, 85, 104, 105, 106, 107, 108, 109, 110, 116, 117, 118, 119, 120, 121, 122, 111, 112, 113, 114, 115] (by decide +kernel) (by decide +kernel)
set_option maxRecDepth 20000 in
theorem gX7_mend_X7_canMend : GoodIn wsX7_mend (wsV RX7 158 RX7 yX7_canMend wsX7_canMend) := goodIn_app (goodIn_of _ (by decide +kernel)) ggX7_mend_X7_canMend
set_option maxRecDepth 20000 in
theorem ggX7_mend_X7_needed : GoodIn wsX7_mend wsX7_needed := goodIn_r _ [76, 1, 77, 2, 4, 78, 79, 80, 81, 66, 82, 83, 84, 85, 104, 105, 106, 107, 108, 109, 110, 116, 117, 118, 119, 120, 121, 122, 111, 112, 113, 114, 115] (by decide +kernel) (by decide +kernel)
set_option maxRecDepth 20000 in
theorem gX7_mend_X7_needed : GoodIn wsX7_mend (wsV RX7 155 RX7 yX7_needed wsX7_needed) := goodIn_app (goodIn_of _ (by decide +kernel)) ggX7_mend_X7_needed
set_option maxRecDepth 20000 in
theorem ggX7_mend_X1_tell : GoodIn wsX7_mend wsX1_tell := goodIn_r _ [90, 91, 92, 93, 94, 81, 66, 82, 84, 85, 111, 112, 113, 114, 115] (by decide +kernel) (by decide +kernel)
set_option maxRecDepth 20000 in
theorem gX7_mend_X1_tell : GoodIn wsX7_mend (wsV RX7 70 RX1 yX1_tell wsX1_tell) := goodIn_app (goodIn_of _ (by decide +kernel)) ggX7_mend_X1_tell
set_option maxRecDepth 20000 in
theorem ggX7_mend_X7_forget : GoodIn wsX7_mend wsX7_forget := goodIn_r _ [98, 99, 100, 101, 102, 1, 103, 104, 105, 106, 107, 108, 109, 110, 134, 135, 136, 137, 138, 139, 140, 141, 142, 143, 144, 145, 146, 147, 148, 149, 116, 117, 118, 119, 120, 121, 122] (by decide +kernel) (by decide +kernel)
set_option maxRecDepth 20000 in
theorem gX7_mend_X7_forget : GoodIn wsX7_mend (wsV RX7 74 RX7 yX7_forget wsX7_forget) := goodIn_app (goodIn_of _ (by decide +kernel)) ggX7_mend_X7_forget
theorem dX7_mend_0 : decode cX7_mend 0 = .ok (.aload_n 0, 1) := by decide +kernel
theorem dX7_mend_1 : decode cX7_mend 1 = .ok (.getfield 62, 3) := by decide +kernel
theorem dX7_mend_4 : decode cX7_mend 4 = .ok (.invokevirtual 154, 3) := by decide +kernel
theorem dX7_mend_7 : decode cX7_mend 7 = .ok (.aload_n 0, 1) := by decide +kernel
theorem dX7_mend_8 : decode cX7_mend 8 = .ok (.invokevirtual 158, 3) := by decide +kernel
theorem dX7_mend_11 : decode cX7_mend 11 = .ok (.ifCond .ne 5, 3) := by decide +kernel
theorem dX7_mend_14 : decode cX7_mend 14 = .ok (.iconst (-1), 1) := by decide +kernel
theorem dX7_mend_15 : decode cX7_mend 15 = .ok (.ireturn, 1) := by decide +kernel
theorem dX7_mend_16 : decode cX7_mend 16 = .ok (.iconst 0, 1) := by decide +kernel
theorem dX7_mend_17 : decode cX7_mend 17 = .ok (.istore_n 1, 1) := by decide +kernel
theorem dX7_mend_18 : decode cX7_mend 18 = .ok (.iconst 0, 1) := by decide +kernel
theorem dX7_mend_19 : decode cX7_mend 19 = .ok (.istore_n 2, 1) := by decide +kernel
theorem dX7_mend_20 : decode cX7_mend 20 = .ok (.iload_n 2, 1) := by decide +kernel
theorem dX7_mend_21 : decode cX7_mend 21 = .ok (.bipush 6, 2) := by decide +kernel
theorem dX7_mend_23 : decode cX7_mend 23 = .ok (.if_icmp .ge 49, 3) := by decide +kernel
theorem dX7_mend_26 : decode cX7_mend 26 = .ok (.aload_n 0, 1) := by decide +kernel
theorem dX7_mend_27 : decode cX7_mend 27 = .ok (.iload_n 2, 1) := by decide +kernel
theorem dX7_mend_28 : decode cX7_mend 28 = .ok (.invokevirtual 155, 3) := by decide +kernel
theorem dX7_mend_31 : decode cX7_mend 31 = .ok (.istore_n 3, 1) := by decide +kernel
theorem dX7_mend_32 : decode cX7_mend 32 = .ok (.iload_n 3, 1) := by decide +kernel
theorem dX7_mend_33 : decode cX7_mend 33 = .ok (.aload_n 0, 1) := by decide +kernel
theorem dX7_mend_34 : decode cX7_mend 34 = .ok (.getfield 10, 3) := by decide +kernel
theorem dX7_mend_37 : decode cX7_mend 37 = .ok (.getfield 162, 3) := by decide +kernel
theorem dX7_mend_40 : decode cX7_mend 40 = .ok (.iload_n 2, 1) := by decide +kernel
theorem dX7_mend_41 : decode cX7_mend 41 = .ok (.iaload, 1) := by decide +kernel
theorem dX7_mend_42 : decode cX7_mend 42 = .ok (.if_icmp .le 24, 3) := by decide +kernel
theorem dX7_mend_45 : decode cX7_mend 45 = .ok (.aload_n 0, 1) := by decide +kernel
theorem dX7_mend_46 : decode cX7_mend 46 = .ok (.getfield 10, 3) := by decide +kernel
theorem dX7_mend_49 : decode cX7_mend 49 = .ok (.iload_n 2, 1) := by decide +kernel
theorem dX7_mend_50 : decode cX7_mend 50 = .ok (.iload_n 3, 1) := by decide +kernel
theorem dX7_mend_51 : decode cX7_mend 51 = .ok (.aload_n 0, 1) := by decide +kernel
theorem dX7_mend_52 : decode cX7_mend 52 = .ok (.getfield 10, 3) := by decide +kernel
theorem dX7_mend_55 : decode cX7_mend 55 = .ok (.getfield 171, 3) := by decide +kernel
theorem dX7_mend_58 : decode cX7_mend 58 = .ok (.iload_n 2, 1) := by decide +kernel
theorem dX7_mend_59 : decode cX7_mend 59 = .ok (.baload, 1) := by decide +kernel
theorem dX7_mend_60 : decode cX7_mend 60 = .ok (.invokevirtual 70, 3) := by decide +kernel
theorem dX7_mend_63 : decode cX7_mend 63 = .ok (.iinc 1 1, 3) := by decide +kernel
theorem dX7_mend_66 : decode cX7_mend 66 = .ok (.iinc 2 1, 3) := by decide +kernel
theorem dX7_mend_69 : decode cX7_mend 69 = .ok (.goto (-49), 3) := by decide +kernel
theorem dX7_mend_72 : decode cX7_mend 72 = .ok (.aload_n 0, 1) := by decide +kernel
theorem dX7_mend_73 : decode cX7_mend 73 = .ok (.invokevirtual 74, 3) := by decide +kernel
theorem dX7_mend_76 : decode cX7_mend 76 = .ok (.iload_n 1, 1) := by decide +kernel
theorem dX7_mend_77 : decode cX7_mend 77 = .ok (.ireturn, 1) := by decide +kernel
set_option maxRecDepth 20000 in
theorem ggX7_mean_X7_isStep : GoodIn wsX7_mean wsX7_isStep := goodIn_r _ [7, 1, 8, 9, 10, 11, 12, 13, 14, 15, 16, 17, 18, 19, 20, 21, 22, 23, 24] (by decide +kernel) (by decide +kernel)
set_option maxRecDepth 20000 in
theorem gX7_mean_X7_isStep : GoodIn wsX7_mean (wsV RX7 125 RX7 yX7_isStep wsX7_isStep) := goodIn_app (goodIn_of _ (by decide +kernel)) ggX7_mean_X7_isStep
theorem dX7_mean_0 : decode cX7_mean 0 = .ok (.aload_n 0, 1) := by decide +kernel
theorem dX7_mean_1 : decode cX7_mean 1 = .ok (.iload_n 1, 1) := by decide +kernel
theorem dX7_mean_2 : decode cX7_mean 2 = .ok (.invokevirtual 125, 3) := by decide +kernel
theorem dX7_mean_5 : decode cX7_mean 5 = .ok (.ifCond .eq 16, 3) := by decide +kernel
theorem dX7_mean_8 : decode cX7_mean 8 = .ok (.aload_n 0, 1) := by decide +kernel
theorem dX7_mean_9 : decode cX7_mean 9 = .ok (.getfield 26, 3) := by decide +kernel
theorem dX7_mean_12 : decode cX7_mean 12 = .ok (.getfield 175, 3) := by decide +kernel
theorem dX7_mean_15 : decode cX7_mean 15 = .ok (.iload_n 1, 1) := by decide +kernel
theorem dX7_mean_16 : decode cX7_mean 16 = .ok (.baload, 1) := by decide +kernel
theorem dX7_mean_17 : decode cX7_mean 17 = .ok (.iload_n 2, 1) := by decide +kernel
theorem dX7_mean_18 : decode cX7_mean 18 = .ok (.if_icmp .ne 5, 3) := by decide +kernel
theorem dX7_mean_21 : decode cX7_mean 21 = .ok (.iconst 0, 1) := by decide +kernel
theorem dX7_mean_22 : decode cX7_mean 22 = .ok (.ireturn, 1) := by decide +kernel
theorem dX7_mean_23 : decode cX7_mean 23 = .ok (.aload_n 0, 1) := by decide +kernel
theorem dX7_mean_24 : decode cX7_mean 24 = .ok (.getfield 26, 3) := by decide +kernel
theorem dX7_mean_27 : decode cX7_mean 27 = .ok (.getfield 175, 3) := by decide +kernel
theorem dX7_mean_30 : decode cX7_mean 30 = .ok (.iload_n 1, 1) := by decide +kernel
theorem dX7_mean_31 : decode cX7_mean 31 = .ok (.iload_n 2, 1) := by decide +kernel
theorem dX7_mean_32 : decode cX7_mean 32 = .ok (.bastore, 1) := by decide +kernel
theorem dX7_mean_33 : decode cX7_mean 33 = .ok (.iconst 1, 1) := by decide +kernel
theorem dX7_mean_34 : decode cX7_mean 34 = .ok (.ireturn, 1) := by decide +kernel
set_option maxRecDepth 20000 in
theorem ggX7_listed_X2_learn : GoodIn wsX7_listed wsX2_learn := goodIn_r _ [9, 10, 11, 12, 13, 14, 15, 16, 17, 18, 19, 20, 21, 22, 23, 24, 25, 26, 27, 28, 8, 29, 30, 31, 32, 33, 34, 35, 36, 37, 38, 39, 40, 41, 42, 43, 44, 45, 46, 47, 48, 49, 50, 51, 52, 53, 54, 55, 56, 57, 58, 59, 60, 61, 62, 63, 64, 65, 66, 67, 68, 69, 70, 71, 72, 73, 74, 75, 76, 77, 78, 79, 80, 81, 82, 83, 84, 85, 86, 87, 88, 89, 90, 223, 224, 225, 226, 227, 228, 229, 230, 231, 232, 233, 214, 215, 216, 217, 218, 219, 220, 221, 222, 234, 235, 236, 237, 238] (by decide +kernel) (by decide +kernel)
set_option maxRecDepth 20000 in
theorem gX7_listed_X2_learn : GoodIn wsX7_listed (wsV RX7 128 RX2 yX2_learn wsX2_learn) := goodIn_app (goodIn_of _ (by decide +kernel)) ggX7_listed_X2_learn
set_option maxRecDepth 20000 in
theorem ggX7_listed_X5_learn : GoodIn wsX7_listed wsX5_learn := goodIn_r _ [95, 96, 97, 98, 99, 100, 101, 102, 103, 104, 105, 106, 24, 107, 108, 109, 110, 111, 112, 113, 114, 115, 116, 117, 118, 119, 120, 121, 23, 25, 122, 123, 124, 41, 125, 126, 127, 46, 47, 48, 43, 44, 49, 50, 51, 52, 53, 54, 55, 128, 129, 130, 131, 132, 133, 134, 135, 136, 137, 138, 139, 140, 141, 142, 143, 144, 145, 146, 147, 148, 71, 72, 73, 74, 75, 149, 77, 78, 79, 80, 81, 87, 88, 89, 90, 150, 83, 84, 85, 86, 151, 152, 153, 154, 155, 156, 157, 158, 39, 40, 42, 159, 160, 161, 162, 163, 164, 165, 94, 166, 167, 168, 169, 170, 171, 172, 173, 174, 175, 176, 239, 240, 241, 242, 243, 244, 245, 232, 233, 246, 247, 248, 249, 250, 251, 214, 215, 216, 217, 218, 219, 220, 221, 222, 234, 235, 236, 237, 238] (by decide +kernel) (by decide +kernel)
set_option maxRecDepth 20000 in
theorem gX7_listed_X5_learn : GoodIn wsX7_listed (wsV RX7 131 RX5 yX5_learn wsX5_learn) := goodIn_app (goodIn_of _ (by decide +kernel)) ggX7_listed_X5_learn
set_option maxRecDepth 20000 in
theorem ggX7_listed_X7_isListed : GoodIn wsX7_listed wsX7_isListed := goodIn_r _ [180, 3, 181, 182, 183, 184, 88, 185, 1, 2, 186, 187, 188, 189, 190, 8, 191, 11, 192, 193, 194, 195, 196, 197, 198, 207, 208, 209, 210, 211, 212, 213, 214, 215, 216, 217, 218, 219, 220, 221, 222, 239, 240, 241, 242, 243, 244, 245, 223, 224, 225, 226, 227, 228, 229, 230, 231, 232, 233] (by decide +kernel) (by decide +kernel)
set_option maxRecDepth 20000 in
theorem gX7_listed_X7_isListed : GoodIn wsX7_listed (wsV RX7 178 RX7 yX7_isListed wsX7_isListed) := goodIn_app (goodIn_of _ (by decide +kernel)) ggX7_listed_X7_isListed
set_option maxRecDepth 20000 in
theorem ggX7_listed_X7_listedBefore : GoodIn wsX7_listed wsX7_listedBefore := goodIn_r _ [202, 3, 4, 177, 178, 179, 88, 180, 181, 182, 183, 184, 185, 1, 2, 186, 187, 188, 189, 190, 8, 191, 11, 192, 193, 194, 195, 196, 197, 198, 203, 204, 205, 206, 207, 208, 209, 210, 211, 212, 213, 214, 215, 216, 217, 218, 219, 220, 221, 222, 239, 240, 241, 242, 243, 244, 245, 223, 224, 225, 226, 227, 228, 229, 230, 231, 232, 233] (by decide +kernel) (by decide +kernel)
set_option maxRecDepth 20000 in
theorem gX7_listed_X7_listedBefore : GoodIn wsX7_listed (wsV RX7 181 RX7 yX7_listedBefore wsX7_listedBefore) := goodIn_app (goodIn_of _ (by decide +kernel)) ggX7_listed_X7_listedBefore
theorem dX7_listed_0 : decode cX7_listed 0 = .ok (.aload_n 0, 1) := by decide +kernel
theorem dX7_listed_1 : decode cX7_listed 1 = .ok (.getfield 53, 3) := by decide +kernel
theorem dX7_listed_4 : decode cX7_listed 4 = .ok (.invokevirtual 128, 3) := by decide +kernel
theorem dX7_listed_7 : decode cX7_listed 7 = .ok (.aload_n 0, 1) := by decide +kernel
theorem dX7_listed_8 : decode cX7_listed 8 = .ok (.getfield 44, 3) := by decide +kernel
theorem dX7_listed_11 : decode cX7_listed 11 = .ok (.invokevirtual 131, 3) := by decide +kernel
theorem dX7_listed_14 : decode cX7_listed 14 = .ok (.iconst 0, 1) := by decide +kernel
theorem dX7_listed_15 : decode cX7_listed 15 = .ok (.istore_n 2, 1) := by decide +kernel
theorem dX7_listed_16 : decode cX7_listed 16 = .ok (.iload_n 2, 1) := by decide +kernel
theorem dX7_listed_17 : decode cX7_listed 17 = .ok (.aload_n 0, 1) := by decide +kernel
theorem dX7_listed_18 : decode cX7_listed 18 = .ok (.getfield 26, 3) := by decide +kernel
theorem dX7_listed_21 : decode cX7_listed 21 = .ok (.getfield 87, 3) := by decide +kernel
theorem dX7_listed_24 : decode cX7_listed 24 = .ok (.if_icmp .ge 28, 3) := by decide +kernel
theorem dX7_listed_27 : decode cX7_listed 27 = .ok (.aload_n 0, 1) := by decide +kernel
theorem dX7_listed_28 : decode cX7_listed 28 = .ok (.iload_n 2, 1) := by decide +kernel
theorem dX7_listed_29 : decode cX7_listed 29 = .ok (.invokevirtual 178, 3) := by decide +kernel
theorem dX7_listed_32 : decode cX7_listed 32 = .ok (.ifCond .eq 14, 3) := by decide +kernel
theorem dX7_listed_35 : decode cX7_listed 35 = .ok (.aload_n 0, 1) := by decide +kernel
theorem dX7_listed_36 : decode cX7_listed 36 = .ok (.iload_n 2, 1) := by decide +kernel
theorem dX7_listed_37 : decode cX7_listed 37 = .ok (.invokevirtual 181, 3) := by decide +kernel
theorem dX7_listed_40 : decode cX7_listed 40 = .ok (.iload_n 1, 1) := by decide +kernel
theorem dX7_listed_41 : decode cX7_listed 41 = .ok (.if_icmp .ne 5, 3) := by decide +kernel
theorem dX7_listed_44 : decode cX7_listed 44 = .ok (.iload_n 2, 1) := by decide +kernel
theorem dX7_listed_45 : decode cX7_listed 45 = .ok (.ireturn, 1) := by decide +kernel
theorem dX7_listed_46 : decode cX7_listed 46 = .ok (.iinc 2 1, 3) := by decide +kernel
theorem dX7_listed_49 : decode cX7_listed 49 = .ok (.goto (-33), 3) := by decide +kernel
theorem dX7_listed_52 : decode cX7_listed 52 = .ok (.iconst (-1), 1) := by decide +kernel
theorem dX7_listed_53 : decode cX7_listed 53 = .ok (.ireturn, 1) := by decide +kernel
set_option maxRecDepth 20000 in
theorem ggX7_count_X0_runs : GoodIn wsX7_count wsX0_runs := goodIn_r _ [14, 15, 16, 174, 175] (by decide +kernel) (by decide +kernel)
set_option maxRecDepth 20000 in
theorem gX7_count_X0_runs : GoodIn wsX7_count (wsV RX7 184 RX0 yX0_runs wsX0_runs) := goodIn_app (goodIn_of _ (by decide +kernel)) ggX7_count_X0_runs
set_option maxRecDepth 20000 in
theorem ggX7_count_X5_learn : GoodIn wsX7_count wsX5_learn := goodIn_r _ [21, 22, 23, 24, 25, 26, 27, 28, 29, 30, 31, 32, 33, 34, 35, 36, 37, 38, 39, 40, 41, 42, 43, 44, 45, 46, 47, 48, 49, 50, 51, 52, 53, 54, 55, 56, 57, 58, 59, 60, 61, 62, 63, 64, 65, 66, 67, 68, 69, 70, 71, 72, 73, 74, 75, 76, 77, 78, 79, 80, 81, 82, 83, 84, 85, 86, 87, 88, 89, 90, 91, 92, 93, 94, 95, 96, 97, 98, 99, 100, 101, 102, 103, 104, 105, 106, 107, 108, 109, 110, 111, 112, 113, 114, 115, 116, 117, 118, 119, 120, 121, 122, 123, 124, 125, 126, 127, 128, 20, 129, 130, 131, 132, 133, 134, 135, 136, 137, 138, 139, 167, 168, 169, 170, 171, 172, 173, 174, 175, 176, 177, 178, 179, 180, 181, 158, 159, 160, 161, 162, 163, 164, 165, 166, 153, 154, 155, 156, 157] (by decide +kernel) (by decide +kernel)
set_option maxRecDepth 20000 in
theorem gX7_count_X5_learn : GoodIn wsX7_count (wsV RX7 131 RX5 yX5_learn wsX5_learn) := goodIn_app (goodIn_of _ (by decide +kernel)) ggX7_count_X5_learn
set_option maxRecDepth 20000 in
theorem ggX7_count_X4_marks : GoodIn wsX7_count wsX4_marks := goodIn_r _ [143, 144, 145, 158, 159, 160, 161, 162, 163, 164, 165, 166] (by decide +kernel) (by decide +kernel)
set_option maxRecDepth 20000 in
theorem gX7_count_X4_marks : GoodIn wsX7_count (wsV RX7 191 RX4 yX4_marks wsX4_marks) := goodIn_app (goodIn_of _ (by decide +kernel)) ggX7_count_X4_marks
theorem dX7_count_0 : decode cX7_count 0 = .ok (.iload_n 1, 1) := by decide +kernel
theorem dX7_count_1 : decode cX7_count 1 = .ok (.bipush 10, 2) := by decide +kernel
theorem dX7_count_3 : decode cX7_count 3 = .ok (.if_icmp .lt 22, 3) := by decide +kernel
theorem dX7_count_6 : decode cX7_count 6 = .ok (.iload_n 1, 1) := by decide +kernel
theorem dX7_count_7 : decode cX7_count 7 = .ok (.bipush 16, 2) := by decide +kernel
theorem dX7_count_9 : decode cX7_count 9 = .ok (.if_icmp .ge 16, 3) := by decide +kernel
theorem dX7_count_12 : decode cX7_count 12 = .ok (.aload_n 0, 1) := by decide +kernel
theorem dX7_count_13 : decode cX7_count 13 = .ok (.getfield 10, 3) := by decide +kernel
theorem dX7_count_16 : decode cX7_count 16 = .ok (.getfield 162, 3) := by decide +kernel
theorem dX7_count_19 : decode cX7_count 19 = .ok (.iload_n 1, 1) := by decide +kernel
theorem dX7_count_20 : decode cX7_count 20 = .ok (.bipush 10, 2) := by decide +kernel
theorem dX7_count_22 : decode cX7_count 22 = .ok (.isub, 1) := by decide +kernel
theorem dX7_count_23 : decode cX7_count 23 = .ok (.iaload, 1) := by decide +kernel
theorem dX7_count_24 : decode cX7_count 24 = .ok (.ireturn, 1) := by decide +kernel
theorem dX7_count_25 : decode cX7_count 25 = .ok (.iload_n 1, 1) := by decide +kernel
theorem dX7_count_26 : decode cX7_count 26 = .ok (.bipush 20, 2) := by decide +kernel
theorem dX7_count_28 : decode cX7_count 28 = .ok (.if_icmp .lt 30, 3) := by decide +kernel
theorem dX7_count_31 : decode cX7_count 31 = .ok (.iload_n 1, 1) := by decide +kernel
theorem dX7_count_32 : decode cX7_count 32 = .ok (.bipush 26, 2) := by decide +kernel
theorem dX7_count_34 : decode cX7_count 34 = .ok (.if_icmp .ge 24, 3) := by decide +kernel
theorem dX7_count_37 : decode cX7_count 37 = .ok (.aload_n 0, 1) := by decide +kernel
theorem dX7_count_38 : decode cX7_count 38 = .ok (.getfield 10, 3) := by decide +kernel
theorem dX7_count_41 : decode cX7_count 41 = .ok (.getfield 171, 3) := by decide +kernel
theorem dX7_count_44 : decode cX7_count 44 = .ok (.iload_n 1, 1) := by decide +kernel
theorem dX7_count_45 : decode cX7_count 45 = .ok (.bipush 20, 2) := by decide +kernel
theorem dX7_count_47 : decode cX7_count 47 = .ok (.isub, 1) := by decide +kernel
theorem dX7_count_48 : decode cX7_count 48 = .ok (.baload, 1) := by decide +kernel
theorem dX7_count_49 : decode cX7_count 49 = .ok (.ifCond .eq 7, 3) := by decide +kernel
theorem dX7_count_52 : decode cX7_count 52 = .ok (.iconst 1, 1) := by decide +kernel
theorem dX7_count_53 : decode cX7_count 53 = .ok (.goto 4, 3) := by decide +kernel
theorem dX7_count_56 : decode cX7_count 56 = .ok (.iconst 0, 1) := by decide +kernel
theorem dX7_count_57 : decode cX7_count 57 = .ok (.ireturn, 1) := by decide +kernel
theorem dX7_count_58 : decode cX7_count 58 = .ok (.iload_n 1, 1) := by decide +kernel
theorem dX7_count_59 : decode cX7_count 59 = .ok (.tableswitch 88 0 4 #[33, 41, 49, 64, 72], 33) := by decide +kernel
theorem dX7_count_92 : decode cX7_count 92 = .ok (.aload_n 0, 1) := by decide +kernel
theorem dX7_count_93 : decode cX7_count 93 = .ok (.getfield 26, 3) := by decide +kernel
theorem dX7_count_96 : decode cX7_count 96 = .ok (.getfield 87, 3) := by decide +kernel
theorem dX7_count_99 : decode cX7_count 99 = .ok (.ireturn, 1) := by decide +kernel
theorem dX7_count_100 : decode cX7_count 100 = .ok (.aload_n 0, 1) := by decide +kernel
theorem dX7_count_101 : decode cX7_count 101 = .ok (.getfield 19, 3) := by decide +kernel
theorem dX7_count_104 : decode cX7_count 104 = .ok (.invokevirtual 184, 3) := by decide +kernel
theorem dX7_count_107 : decode cX7_count 107 = .ok (.ireturn, 1) := by decide +kernel
theorem dX7_count_108 : decode cX7_count 108 = .ok (.aload_n 0, 1) := by decide +kernel
theorem dX7_count_109 : decode cX7_count 109 = .ok (.getfield 44, 3) := by decide +kernel
theorem dX7_count_112 : decode cX7_count 112 = .ok (.invokevirtual 131, 3) := by decide +kernel
theorem dX7_count_115 : decode cX7_count 115 = .ok (.aload_n 0, 1) := by decide +kernel
theorem dX7_count_116 : decode cX7_count 116 = .ok (.getfield 44, 3) := by decide +kernel
theorem dX7_count_119 : decode cX7_count 119 = .ok (.getfield 188, 3) := by decide +kernel
theorem dX7_count_122 : decode cX7_count 122 = .ok (.ireturn, 1) := by decide +kernel
theorem dX7_count_123 : decode cX7_count 123 = .ok (.aload_n 0, 1) := by decide +kernel
theorem dX7_count_124 : decode cX7_count 124 = .ok (.getfield 26, 3) := by decide +kernel
theorem dX7_count_127 : decode cX7_count 127 = .ok (.invokevirtual 191, 3) := by decide +kernel
theorem dX7_count_130 : decode cX7_count 130 = .ok (.ireturn, 1) := by decide +kernel
theorem dX7_count_131 : decode cX7_count 131 = .ok (.aload_n 0, 1) := by decide +kernel
theorem dX7_count_132 : decode cX7_count 132 = .ok (.getfield 10, 3) := by decide +kernel
theorem dX7_count_135 : decode cX7_count 135 = .ok (.getfield 105, 3) := by decide +kernel
theorem dX7_count_138 : decode cX7_count 138 = .ok (.ifCond .eq 7, 3) := by decide +kernel
theorem dX7_count_141 : decode cX7_count 141 = .ok (.iconst 1, 1) := by decide +kernel
theorem dX7_count_142 : decode cX7_count 142 = .ok (.goto 4, 3) := by decide +kernel
theorem dX7_count_145 : decode cX7_count 145 = .ok (.iconst 0, 1) := by decide +kernel
theorem dX7_count_146 : decode cX7_count 146 = .ok (.ireturn, 1) := by decide +kernel
theorem dX7_count_147 : decode cX7_count 147 = .ok (.iconst (-1), 1) := by decide +kernel
theorem dX7_count_148 : decode cX7_count 148 = .ok (.ireturn, 1) := by decide +kernel
theorem dX7_isName_0 : decode cX7_isName 0 = .ok (.iload_n 0, 1) := by decide +kernel
theorem dX7_isName_1 : decode cX7_isName 1 = .ok (.ifCond .lt 13, 3) := by decide +kernel
theorem dX7_isName_4 : decode cX7_isName 4 = .ok (.iload_n 0, 1) := by decide +kernel
theorem dX7_isName_5 : decode cX7_isName 5 = .ok (.bipush 6, 2) := by decide +kernel
theorem dX7_isName_7 : decode cX7_isName 7 = .ok (.if_icmp .ge 7, 3) := by decide +kernel
theorem dX7_isName_10 : decode cX7_isName 10 = .ok (.iconst 1, 1) := by decide +kernel
theorem dX7_isName_11 : decode cX7_isName 11 = .ok (.goto 4, 3) := by decide +kernel
theorem dX7_isName_14 : decode cX7_isName 14 = .ok (.iconst 0, 1) := by decide +kernel
theorem dX7_isName_15 : decode cX7_isName 15 = .ok (.ireturn, 1) := by decide +kernel
theorem dX7_isTold_0 : decode cX7_isTold 0 = .ok (.iload_n 0, 1) := by decide +kernel
theorem dX7_isTold_1 : decode cX7_isTold 1 = .ok (.ldc 194, 2) := by decide +kernel
theorem dX7_isTold_3 : decode cX7_isTold 3 = .ok (.if_icmp .lt 13, 3) := by decide +kernel
theorem dX7_isTold_6 : decode cX7_isTold 6 = .ok (.iload_n 0, 1) := by decide +kernel
theorem dX7_isTold_7 : decode cX7_isTold 7 = .ok (.ldc 195, 2) := by decide +kernel
theorem dX7_isTold_9 : decode cX7_isTold 9 = .ok (.if_icmp .gt 7, 3) := by decide +kernel
theorem dX7_isTold_12 : decode cX7_isTold 12 = .ok (.iconst 1, 1) := by decide +kernel
theorem dX7_isTold_13 : decode cX7_isTold 13 = .ok (.goto 4, 3) := by decide +kernel
theorem dX7_isTold_16 : decode cX7_isTold 16 = .ok (.iconst 0, 1) := by decide +kernel
theorem dX7_isTold_17 : decode cX7_isTold 17 = .ok (.ireturn, 1) := by decide +kernel
theorem dX7_isStep_0 : decode cX7_isStep 0 = .ok (.iload_n 1, 1) := by decide +kernel
theorem dX7_isStep_1 : decode cX7_isStep 1 = .ok (.ifCond .lt 18, 3) := by decide +kernel
theorem dX7_isStep_4 : decode cX7_isStep 4 = .ok (.iload_n 1, 1) := by decide +kernel
theorem dX7_isStep_5 : decode cX7_isStep 5 = .ok (.aload_n 0, 1) := by decide +kernel
theorem dX7_isStep_6 : decode cX7_isStep 6 = .ok (.getfield 26, 3) := by decide +kernel
theorem dX7_isStep_9 : decode cX7_isStep 9 = .ok (.getfield 87, 3) := by decide +kernel
theorem dX7_isStep_12 : decode cX7_isStep 12 = .ok (.if_icmp .ge 7, 3) := by decide +kernel
theorem dX7_isStep_15 : decode cX7_isStep 15 = .ok (.iconst 1, 1) := by decide +kernel
theorem dX7_isStep_16 : decode cX7_isStep 16 = .ok (.goto 4, 3) := by decide +kernel
theorem dX7_isStep_19 : decode cX7_isStep 19 = .ok (.iconst 0, 1) := by decide +kernel
theorem dX7_isStep_20 : decode cX7_isStep 20 = .ok (.ireturn, 1) := by decide +kernel
set_option maxRecDepth 20000 in
theorem ggX7_canFollow_X4_inLoop : GoodIn wsX7_canFollow wsX4_inLoop := goodIn_r _ [6, 7, 8, 16, 17, 18, 19, 20, 21, 22, 23, 24] (by decide +kernel) (by decide +kernel)
set_option maxRecDepth 20000 in
theorem gX7_canFollow_X4_inLoop : GoodIn wsX7_canFollow (wsV RX7 196 RX4 yX4_inLoop wsX4_inLoop) := goodIn_app (goodIn_of _ (by decide +kernel)) ggX7_canFollow_X4_inLoop
theorem dX7_canFollow_0 : decode cX7_canFollow 0 = .ok (.iload_n 1, 1) := by decide +kernel
theorem dX7_canFollow_1 : decode cX7_canFollow 1 = .ok (.bipush 8, 2) := by decide +kernel
theorem dX7_canFollow_3 : decode cX7_canFollow 3 = .ok (.if_icmp .ne 19, 3) := by decide +kernel
theorem dX7_canFollow_6 : decode cX7_canFollow 6 = .ok (.aload_n 0, 1) := by decide +kernel
theorem dX7_canFollow_7 : decode cX7_canFollow 7 = .ok (.getfield 26, 3) := by decide +kernel
theorem dX7_canFollow_10 : decode cX7_canFollow 10 = .ok (.invokevirtual 196, 3) := by decide +kernel
theorem dX7_canFollow_13 : decode cX7_canFollow 13 = .ok (.ifCond .ne 7, 3) := by decide +kernel
theorem dX7_canFollow_16 : decode cX7_canFollow 16 = .ok (.iconst 1, 1) := by decide +kernel
theorem dX7_canFollow_17 : decode cX7_canFollow 17 = .ok (.goto 4, 3) := by decide +kernel
theorem dX7_canFollow_20 : decode cX7_canFollow 20 = .ok (.iconst 0, 1) := by decide +kernel
theorem dX7_canFollow_21 : decode cX7_canFollow 21 = .ok (.ireturn, 1) := by decide +kernel
theorem dX7_canFollow_22 : decode cX7_canFollow 22 = .ok (.iload_n 1, 1) := by decide +kernel
theorem dX7_canFollow_23 : decode cX7_canFollow 23 = .ok (.bipush 9, 2) := by decide +kernel
theorem dX7_canFollow_25 : decode cX7_canFollow 25 = .ok (.if_icmp .ne 13, 3) := by decide +kernel
theorem dX7_canFollow_28 : decode cX7_canFollow 28 = .ok (.aload_n 0, 1) := by decide +kernel
theorem dX7_canFollow_29 : decode cX7_canFollow 29 = .ok (.getfield 26, 3) := by decide +kernel
theorem dX7_canFollow_32 : decode cX7_canFollow 32 = .ok (.invokevirtual 196, 3) := by decide +kernel
theorem dX7_canFollow_35 : decode cX7_canFollow 35 = .ok (.ifCond .eq 7, 3) := by decide +kernel
theorem dX7_canFollow_38 : decode cX7_canFollow 38 = .ok (.iconst 1, 1) := by decide +kernel
theorem dX7_canFollow_39 : decode cX7_canFollow 39 = .ok (.goto 4, 3) := by decide +kernel
theorem dX7_canFollow_42 : decode cX7_canFollow 42 = .ok (.iconst 0, 1) := by decide +kernel
theorem dX7_canFollow_43 : decode cX7_canFollow 43 = .ok (.ireturn, 1) := by decide +kernel
set_option maxRecDepth 20000 in
theorem ggX7_canBe_X7_hasTarget : GoodIn wsX7_canBe wsX7_hasTarget := goodIn_r _ [4] (by decide +kernel) (by decide +kernel)
set_option maxRecDepth 20000 in
theorem gX7_canBe_X7_hasTarget : GoodIn wsX7_canBe (va_wsS RX7 199 yX7_hasTarget wsX7_hasTarget) := goodIn_app (goodIn_of _ (by decide +kernel)) ggX7_canBe_X7_hasTarget
set_option maxRecDepth 20000 in
theorem ggX7_canBe_X7_isName : GoodIn wsX7_canBe wsX7_isName := goodIn_r _ [7] (by decide +kernel) (by decide +kernel)
set_option maxRecDepth 20000 in
theorem gX7_canBe_X7_isName : GoodIn wsX7_canBe (va_wsS RX7 66 yX7_isName wsX7_isName) := goodIn_app (goodIn_of _ (by decide +kernel)) ggX7_canBe_X7_isName
set_option maxRecDepth 20000 in
theorem ggX7_canBe_X7_readsA : GoodIn wsX7_canBe wsX7_readsA := goodIn_r _ [10] (by decide +kernel) (by decide +kernel)
set_option maxRecDepth 20000 in
theorem gX7_canBe_X7_readsA : GoodIn wsX7_canBe (va_wsS RX7 202 yX7_readsA wsX7_readsA) := goodIn_app (goodIn_of _ (by decide +kernel)) ggX7_canBe_X7_readsA
set_option maxRecDepth 20000 in
theorem ggX7_canBe_X7_canBeB : GoodIn wsX7_canBe wsX7_canBeB := goodIn_r _ [13, 14, 15, 3, 16, 5, 6, 7, 17, 18, 19, 20, 21] (by decide +kernel) (by decide +kernel)
set_option maxRecDepth 20000 in
theorem gX7_canBe_X7_canBeB : GoodIn wsX7_canBe (va_wsS RX7 205 yX7_canBeB wsX7_canBeB) := goodIn_app (goodIn_of _ (by decide +kernel)) ggX7_canBe_X7_canBeB
theorem dX7_canBe_0 : decode cX7_canBe 0 = .ok (.iload_n 0, 1) := by decide +kernel
theorem dX7_canBe_1 : decode cX7_canBe 1 = .ok (.ifCond .lt 9, 3) := by decide +kernel
theorem dX7_canBe_4 : decode cX7_canBe 4 = .ok (.iload_n 0, 1) := by decide +kernel
theorem dX7_canBe_5 : decode cX7_canBe 5 = .ok (.bipush 9, 2) := by decide +kernel
theorem dX7_canBe_7 : decode cX7_canBe 7 = .ok (.if_icmp .le 5, 3) := by decide +kernel
theorem dX7_canBe_10 : decode cX7_canBe 10 = .ok (.iconst 0, 1) := by decide +kernel
theorem dX7_canBe_11 : decode cX7_canBe 11 = .ok (.ireturn, 1) := by decide +kernel
theorem dX7_canBe_12 : decode cX7_canBe 12 = .ok (.iload_n 0, 1) := by decide +kernel
theorem dX7_canBe_13 : decode cX7_canBe 13 = .ok (.invokestatic 199, 3) := by decide +kernel
theorem dX7_canBe_16 : decode cX7_canBe 16 = .ok (.ifCond .eq 12, 3) := by decide +kernel
theorem dX7_canBe_19 : decode cX7_canBe 19 = .ok (.iload_n 1, 1) := by decide +kernel
theorem dX7_canBe_20 : decode cX7_canBe 20 = .ok (.invokestatic 66, 3) := by decide +kernel
theorem dX7_canBe_23 : decode cX7_canBe 23 = .ok (.ifCond .ne 5, 3) := by decide +kernel
theorem dX7_canBe_26 : decode cX7_canBe 26 = .ok (.iconst 0, 1) := by decide +kernel
theorem dX7_canBe_27 : decode cX7_canBe 27 = .ok (.ireturn, 1) := by decide +kernel
theorem dX7_canBe_28 : decode cX7_canBe 28 = .ok (.iload_n 0, 1) := by decide +kernel
theorem dX7_canBe_29 : decode cX7_canBe 29 = .ok (.invokestatic 202, 3) := by decide +kernel
theorem dX7_canBe_32 : decode cX7_canBe 32 = .ok (.ifCond .eq 12, 3) := by decide +kernel
theorem dX7_canBe_35 : decode cX7_canBe 35 = .ok (.iload_n 2, 1) := by decide +kernel
theorem dX7_canBe_36 : decode cX7_canBe 36 = .ok (.invokestatic 66, 3) := by decide +kernel
theorem dX7_canBe_39 : decode cX7_canBe 39 = .ok (.ifCond .ne 5, 3) := by decide +kernel
theorem dX7_canBe_42 : decode cX7_canBe 42 = .ok (.iconst 0, 1) := by decide +kernel
theorem dX7_canBe_43 : decode cX7_canBe 43 = .ok (.ireturn, 1) := by decide +kernel
theorem dX7_canBe_44 : decode cX7_canBe 44 = .ok (.iload_n 0, 1) := by decide +kernel
theorem dX7_canBe_45 : decode cX7_canBe 45 = .ok (.iload_n 3, 1) := by decide +kernel
theorem dX7_canBe_46 : decode cX7_canBe 46 = .ok (.invokestatic 205, 3) := by decide +kernel
theorem dX7_canBe_49 : decode cX7_canBe 49 = .ok (.ireturn, 1) := by decide +kernel
set_option maxRecDepth 20000 in
theorem ggX7_canBeB_X7_readsB : GoodIn wsX7_canBeB wsX7_readsB := goodIn_r _ [4] (by decide +kernel) (by decide +kernel)
set_option maxRecDepth 20000 in
theorem gX7_canBeB_X7_readsB : GoodIn wsX7_canBeB (va_wsS RX7 208 yX7_readsB wsX7_readsB) := goodIn_app (goodIn_of _ (by decide +kernel)) ggX7_canBeB_X7_readsB
set_option maxRecDepth 20000 in
theorem ggX7_canBeB_X7_isName : GoodIn wsX7_canBeB wsX7_isName := goodIn_r _ [7] (by decide +kernel) (by decide +kernel)
set_option maxRecDepth 20000 in
theorem gX7_canBeB_X7_isName : GoodIn wsX7_canBeB (va_wsS RX7 66 yX7_isName wsX7_isName) := goodIn_app (goodIn_of _ (by decide +kernel)) ggX7_canBeB_X7_isName
set_option maxRecDepth 20000 in
theorem ggX7_canBeB_X7_isTold : GoodIn wsX7_canBeB wsX7_isTold := goodIn_r _ [10, 11, 12] (by decide +kernel) (by decide +kernel)
set_option maxRecDepth 20000 in
theorem gX7_canBeB_X7_isTold : GoodIn wsX7_canBeB (va_wsS RX7 77 yX7_isTold wsX7_isTold) := goodIn_app (goodIn_of _ (by decide +kernel)) ggX7_canBeB_X7_isTold
theorem dX7_canBeB_0 : decode cX7_canBeB 0 = .ok (.iload_n 0, 1) := by decide +kernel
theorem dX7_canBeB_1 : decode cX7_canBeB 1 = .ok (.invokestatic 208, 3) := by decide +kernel
theorem dX7_canBeB_4 : decode cX7_canBeB 4 = .ok (.ifCond .eq 8, 3) := by decide +kernel
theorem dX7_canBeB_7 : decode cX7_canBeB 7 = .ok (.iload_n 1, 1) := by decide +kernel
theorem dX7_canBeB_8 : decode cX7_canBeB 8 = .ok (.invokestatic 66, 3) := by decide +kernel
theorem dX7_canBeB_11 : decode cX7_canBeB 11 = .ok (.ireturn, 1) := by decide +kernel
theorem dX7_canBeB_12 : decode cX7_canBeB 12 = .ok (.iload_n 0, 1) := by decide +kernel
theorem dX7_canBeB_13 : decode cX7_canBeB 13 = .ok (.lookupswitch 73 #[(0, 35), (5, 40), (8, 56)], 35) := by decide +kernel
theorem dX7_canBeB_48 : decode cX7_canBeB 48 = .ok (.iload_n 1, 1) := by decide +kernel
theorem dX7_canBeB_49 : decode cX7_canBeB 49 = .ok (.invokestatic 77, 3) := by decide +kernel
theorem dX7_canBeB_52 : decode cX7_canBeB 52 = .ok (.ireturn, 1) := by decide +kernel
theorem dX7_canBeB_53 : decode cX7_canBeB 53 = .ok (.iload_n 1, 1) := by decide +kernel
theorem dX7_canBeB_54 : decode cX7_canBeB 54 = .ok (.ifCond .lt 13, 3) := by decide +kernel
theorem dX7_canBeB_57 : decode cX7_canBeB 57 = .ok (.iload_n 1, 1) := by decide +kernel
theorem dX7_canBeB_58 : decode cX7_canBeB 58 = .ok (.bipush 12, 2) := by decide +kernel
theorem dX7_canBeB_60 : decode cX7_canBeB 60 = .ok (.if_icmp .gt 7, 3) := by decide +kernel
theorem dX7_canBeB_63 : decode cX7_canBeB 63 = .ok (.iconst 1, 1) := by decide +kernel
theorem dX7_canBeB_64 : decode cX7_canBeB 64 = .ok (.goto 4, 3) := by decide +kernel
theorem dX7_canBeB_67 : decode cX7_canBeB 67 = .ok (.iconst 0, 1) := by decide +kernel
theorem dX7_canBeB_68 : decode cX7_canBeB 68 = .ok (.ireturn, 1) := by decide +kernel
theorem dX7_canBeB_69 : decode cX7_canBeB 69 = .ok (.iload_n 1, 1) := by decide +kernel
theorem dX7_canBeB_70 : decode cX7_canBeB 70 = .ok (.iconst 1, 1) := by decide +kernel
theorem dX7_canBeB_71 : decode cX7_canBeB 71 = .ok (.if_icmp .lt 13, 3) := by decide +kernel
theorem dX7_canBeB_74 : decode cX7_canBeB 74 = .ok (.iload_n 1, 1) := by decide +kernel
theorem dX7_canBeB_75 : decode cX7_canBeB 75 = .ok (.bipush 12, 2) := by decide +kernel
theorem dX7_canBeB_77 : decode cX7_canBeB 77 = .ok (.if_icmp .gt 7, 3) := by decide +kernel
theorem dX7_canBeB_80 : decode cX7_canBeB 80 = .ok (.iconst 1, 1) := by decide +kernel
theorem dX7_canBeB_81 : decode cX7_canBeB 81 = .ok (.goto 4, 3) := by decide +kernel
theorem dX7_canBeB_84 : decode cX7_canBeB 84 = .ok (.iconst 0, 1) := by decide +kernel
theorem dX7_canBeB_85 : decode cX7_canBeB 85 = .ok (.ireturn, 1) := by decide +kernel
theorem dX7_canBeB_86 : decode cX7_canBeB 86 = .ok (.iconst 1, 1) := by decide +kernel
theorem dX7_canBeB_87 : decode cX7_canBeB 87 = .ok (.ireturn, 1) := by decide +kernel
theorem dX7_hasTarget_0 : decode cX7_hasTarget 0 = .ok (.iload_n 0, 1) := by decide +kernel
theorem dX7_hasTarget_1 : decode cX7_hasTarget 1 = .ok (.ifCond .lt 13, 3) := by decide +kernel
theorem dX7_hasTarget_4 : decode cX7_hasTarget 4 = .ok (.iload_n 0, 1) := by decide +kernel
theorem dX7_hasTarget_5 : decode cX7_hasTarget 5 = .ok (.bipush 7, 2) := by decide +kernel
theorem dX7_hasTarget_7 : decode cX7_hasTarget 7 = .ok (.if_icmp .gt 7, 3) := by decide +kernel
theorem dX7_hasTarget_10 : decode cX7_hasTarget 10 = .ok (.iconst 1, 1) := by decide +kernel
theorem dX7_hasTarget_11 : decode cX7_hasTarget 11 = .ok (.goto 4, 3) := by decide +kernel
theorem dX7_hasTarget_14 : decode cX7_hasTarget 14 = .ok (.iconst 0, 1) := by decide +kernel
theorem dX7_hasTarget_15 : decode cX7_hasTarget 15 = .ok (.ireturn, 1) := by decide +kernel
theorem dX7_readsA_0 : decode cX7_readsA 0 = .ok (.iload_n 0, 1) := by decide +kernel
theorem dX7_readsA_1 : decode cX7_readsA 1 = .ok (.iconst 1, 1) := by decide +kernel
theorem dX7_readsA_2 : decode cX7_readsA 2 = .ok (.if_icmp .lt 13, 3) := by decide +kernel
theorem dX7_readsA_5 : decode cX7_readsA 5 = .ok (.iload_n 0, 1) := by decide +kernel
theorem dX7_readsA_6 : decode cX7_readsA 6 = .ok (.bipush 7, 2) := by decide +kernel
theorem dX7_readsA_8 : decode cX7_readsA 8 = .ok (.if_icmp .gt 7, 3) := by decide +kernel
theorem dX7_readsA_11 : decode cX7_readsA 11 = .ok (.iconst 1, 1) := by decide +kernel
theorem dX7_readsA_12 : decode cX7_readsA 12 = .ok (.goto 4, 3) := by decide +kernel
theorem dX7_readsA_15 : decode cX7_readsA 15 = .ok (.iconst 0, 1) := by decide +kernel
theorem dX7_readsA_16 : decode cX7_readsA 16 = .ok (.ireturn, 1) := by decide +kernel
theorem dX7_readsB_0 : decode cX7_readsB 0 = .ok (.iload_n 0, 1) := by decide +kernel
theorem dX7_readsB_1 : decode cX7_readsB 1 = .ok (.iconst 2, 1) := by decide +kernel
theorem dX7_readsB_2 : decode cX7_readsB 2 = .ok (.if_icmp .eq 25, 3) := by decide +kernel
theorem dX7_readsB_5 : decode cX7_readsB 5 = .ok (.iload_n 0, 1) := by decide +kernel
theorem dX7_readsB_6 : decode cX7_readsB 6 = .ok (.iconst 3, 1) := by decide +kernel
theorem dX7_readsB_7 : decode cX7_readsB 7 = .ok (.if_icmp .eq 20, 3) := by decide +kernel
theorem dX7_readsB_10 : decode cX7_readsB 10 = .ok (.iload_n 0, 1) := by decide +kernel
theorem dX7_readsB_11 : decode cX7_readsB 11 = .ok (.iconst 4, 1) := by decide +kernel
theorem dX7_readsB_12 : decode cX7_readsB 12 = .ok (.if_icmp .eq 15, 3) := by decide +kernel
theorem dX7_readsB_15 : decode cX7_readsB 15 = .ok (.iload_n 0, 1) := by decide +kernel
theorem dX7_readsB_16 : decode cX7_readsB 16 = .ok (.bipush 6, 2) := by decide +kernel
theorem dX7_readsB_18 : decode cX7_readsB 18 = .ok (.if_icmp .eq 9, 3) := by decide +kernel
theorem dX7_readsB_21 : decode cX7_readsB 21 = .ok (.iload_n 0, 1) := by decide +kernel
theorem dX7_readsB_22 : decode cX7_readsB 22 = .ok (.bipush 7, 2) := by decide +kernel
theorem dX7_readsB_24 : decode cX7_readsB 24 = .ok (.if_icmp .ne 7, 3) := by decide +kernel
theorem dX7_readsB_27 : decode cX7_readsB 27 = .ok (.iconst 1, 1) := by decide +kernel
theorem dX7_readsB_28 : decode cX7_readsB 28 = .ok (.goto 4, 3) := by decide +kernel
theorem dX7_readsB_31 : decode cX7_readsB 31 = .ok (.iconst 0, 1) := by decide +kernel
theorem dX7_readsB_32 : decode cX7_readsB 32 = .ok (.ireturn, 1) := by decide +kernel
theorem dX7_made_0 : decode cX7_made 0 = .ok (.iload_n 0, 1) := by decide +kernel
theorem dX7_made_1 : decode cX7_made 1 = .ok (.tableswitch 70 0 6 #[43, 45, 47, 51, 55, 59, 64], 43) := by decide +kernel
theorem dX7_made_44 : decode cX7_made 44 = .ok (.lload_n 3, 1) := by decide +kernel
theorem dX7_made_45 : decode cX7_made 45 = .ok (.lreturn, 1) := by decide +kernel
theorem dX7_made_46 : decode cX7_made 46 = .ok (.lload_n 1, 1) := by decide +kernel
theorem dX7_made_47 : decode cX7_made 47 = .ok (.lreturn, 1) := by decide +kernel
theorem dX7_made_48 : decode cX7_made 48 = .ok (.lload_n 1, 1) := by decide +kernel
theorem dX7_made_49 : decode cX7_made 49 = .ok (.lload_n 3, 1) := by decide +kernel
theorem dX7_made_50 : decode cX7_made 50 = .ok (.ladd, 1) := by decide +kernel
theorem dX7_made_51 : decode cX7_made 51 = .ok (.lreturn, 1) := by decide +kernel
theorem dX7_made_52 : decode cX7_made 52 = .ok (.lload_n 1, 1) := by decide +kernel
theorem dX7_made_53 : decode cX7_made 53 = .ok (.lload_n 3, 1) := by decide +kernel
theorem dX7_made_54 : decode cX7_made 54 = .ok (.lsub, 1) := by decide +kernel
theorem dX7_made_55 : decode cX7_made 55 = .ok (.lreturn, 1) := by decide +kernel
theorem dX7_made_56 : decode cX7_made 56 = .ok (.lload_n 1, 1) := by decide +kernel
theorem dX7_made_57 : decode cX7_made 57 = .ok (.lload_n 3, 1) := by decide +kernel
theorem dX7_made_58 : decode cX7_made 58 = .ok (.lmul, 1) := by decide +kernel
theorem dX7_made_59 : decode cX7_made 59 = .ok (.lreturn, 1) := by decide +kernel
theorem dX7_made_60 : decode cX7_made 60 = .ok (.lload_n 1, 1) := by decide +kernel
theorem dX7_made_61 : decode cX7_made 61 = .ok (.lload_n 3, 1) := by decide +kernel
theorem dX7_made_62 : decode cX7_made 62 = .ok (.l2i, 1) := by decide +kernel
theorem dX7_made_63 : decode cX7_made 63 = .ok (.lshl, 1) := by decide +kernel
theorem dX7_made_64 : decode cX7_made 64 = .ok (.lreturn, 1) := by decide +kernel
theorem dX7_made_65 : decode cX7_made 65 = .ok (.lload_n 1, 1) := by decide +kernel
theorem dX7_made_66 : decode cX7_made 66 = .ok (.lload_n 3, 1) := by decide +kernel
theorem dX7_made_67 : decode cX7_made 67 = .ok (.invokestatic 211, 3) := by decide +kernel
theorem dX7_made_70 : decode cX7_made 70 = .ok (.lreturn, 1) := by decide +kernel
theorem dX7_made_71 : decode cX7_made 71 = .ok (.lload_n 1, 1) := by decide +kernel
theorem dX7_made_72 : decode cX7_made 72 = .ok (.lload_n 3, 1) := by decide +kernel
theorem dX7_made_73 : decode cX7_made 73 = .ok (.lcmp, 1) := by decide +kernel
theorem dX7_made_74 : decode cX7_made 74 = .ok (.ifCond .ge 7, 3) := by decide +kernel
theorem dX7_made_77 : decode cX7_made 77 = .ok (.lconst 1, 1) := by decide +kernel
theorem dX7_made_78 : decode cX7_made 78 = .ok (.goto 4, 3) := by decide +kernel
theorem dX7_made_81 : decode cX7_made 81 = .ok (.lconst 0, 1) := by decide +kernel
theorem dX7_made_82 : decode cX7_made 82 = .ok (.lreturn, 1) := by decide +kernel
theorem dX7_leastOf_0 : decode cX7_leastOf 0 = .ok (.iload_n 1, 1) := by decide +kernel
theorem dX7_leastOf_1 : decode cX7_leastOf 1 = .ok (.ifCond .eq 12, 3) := by decide +kernel
end
section
theorem dX7_leastOf_4 : decode cX7_leastOf 4 = .ok (.lconst 1, 1) := by decide +kernel
theorem dX7_leastOf_5 : decode cX7_leastOf 5 = .ok (.iload_n 0, 1) := by decide +kernel
theorem dX7_leastOf_6 : decode cX7_leastOf 6 = .ok (.iconst 1, 1) := by decide +kernel
theorem dX7_leastOf_7 : decode cX7_leastOf 7 = .ok (.isub, 1) := by decide +kernel
theorem dX7_leastOf_8 : decode cX7_leastOf 8 = .ok (.lshl, 1) := by decide +kernel
theorem dX7_leastOf_9 : decode cX7_leastOf 9 = .ok (.lneg, 1) := by decide +kernel
theorem dX7_leastOf_10 : decode cX7_leastOf 10 = .ok (.goto 4, 3) := by decide +kernel
theorem dX7_leastOf_13 : decode cX7_leastOf 13 = .ok (.lconst 0, 1) := by decide +kernel
theorem dX7_leastOf_14 : decode cX7_leastOf 14 = .ok (.lreturn, 1) := by decide +kernel
theorem dX7_greatestOf_0 : decode cX7_greatestOf 0 = .ok (.lconst 1, 1) := by decide +kernel
theorem dX7_greatestOf_1 : decode cX7_greatestOf 1 = .ok (.iload_n 1, 1) := by decide +kernel
theorem dX7_greatestOf_2 : decode cX7_greatestOf 2 = .ok (.ifCond .eq 9, 3) := by decide +kernel
theorem dX7_greatestOf_5 : decode cX7_greatestOf 5 = .ok (.iload_n 0, 1) := by decide +kernel
theorem dX7_greatestOf_6 : decode cX7_greatestOf 6 = .ok (.iconst 1, 1) := by decide +kernel
theorem dX7_greatestOf_7 : decode cX7_greatestOf 7 = .ok (.isub, 1) := by decide +kernel
theorem dX7_greatestOf_8 : decode cX7_greatestOf 8 = .ok (.goto 4, 3) := by decide +kernel
theorem dX7_greatestOf_11 : decode cX7_greatestOf 11 = .ok (.iload_n 0, 1) := by decide +kernel
theorem dX7_greatestOf_12 : decode cX7_greatestOf 12 = .ok (.lshl, 1) := by decide +kernel
theorem dX7_greatestOf_13 : decode cX7_greatestOf 13 = .ok (.lconst 1, 1) := by decide +kernel
theorem dX7_greatestOf_14 : decode cX7_greatestOf 14 = .ok (.lsub, 1) := by decide +kernel
theorem dX7_greatestOf_15 : decode cX7_greatestOf 15 = .ok (.lreturn, 1) := by decide +kernel
theorem dX7_forget_0 : decode cX7_forget 0 = .ok (.aload_n 0, 1) := by decide +kernel
theorem dX7_forget_1 : decode cX7_forget 1 = .ok (.getfield 44, 3) := by decide +kernel
theorem dX7_forget_4 : decode cX7_forget 4 = .ok (.iconst 0, 1) := by decide +kernel
theorem dX7_forget_5 : decode cX7_forget 5 = .ok (.putfield 215, 3) := by decide +kernel
theorem dX7_forget_8 : decode cX7_forget 8 = .ok (.aload_n 0, 1) := by decide +kernel
theorem dX7_forget_9 : decode cX7_forget 9 = .ok (.getfield 53, 3) := by decide +kernel
theorem dX7_forget_12 : decode cX7_forget 12 = .ok (.iconst 0, 1) := by decide +kernel
theorem dX7_forget_13 : decode cX7_forget 13 = .ok (.putfield 218, 3) := by decide +kernel
theorem dX7_forget_16 : decode cX7_forget 16 = .ok (.aload_n 0, 1) := by decide +kernel
theorem dX7_forget_17 : decode cX7_forget 17 = .ok (.getfield 62, 3) := by decide +kernel
theorem dX7_forget_20 : decode cX7_forget 20 = .ok (.iconst 0, 1) := by decide +kernel
theorem dX7_forget_21 : decode cX7_forget 21 = .ok (.putfield 219, 3) := by decide +kernel
theorem dX7_forget_24 : decode cX7_forget 24 = .ok (.return_, 1) := by decide +kernel
set_option maxRecDepth 20000 in
theorem ggX7_judged_X2_couldGoOver : GoodIn wsX7_judged wsX2_couldGoOver := goodIn_r _ [9, 10, 32, 33, 34, 35, 36, 37, 38, 39, 40] (by decide +kernel) (by decide +kernel)
set_option maxRecDepth 20000 in
theorem gX7_judged_X2_couldGoOver : GoodIn wsX7_judged (wsV RX7 220 RX2 yX2_couldGoOver wsX2_couldGoOver) := goodIn_app (goodIn_of _ (by decide +kernel)) ggX7_judged_X2_couldGoOver
set_option maxRecDepth 20000 in
theorem ggX7_judged_X0_runs : GoodIn wsX7_judged wsX0_runs := goodIn_r _ [15, 16, 17, 41, 42] (by decide +kernel) (by decide +kernel)
set_option maxRecDepth 20000 in
theorem gX7_judged_X0_runs : GoodIn wsX7_judged (wsV RX7 184 RX0 yX0_runs wsX0_runs) := goodIn_app (goodIn_of _ (by decide +kernel)) ggX7_judged_X0_runs
theorem dX7_judged_0 : decode cX7_judged 0 = .ok (.aload_n 0, 1) := by decide +kernel
theorem dX7_judged_1 : decode cX7_judged 1 = .ok (.getfield 53, 3) := by decide +kernel
theorem dX7_judged_4 : decode cX7_judged 4 = .ok (.iload_n 1, 1) := by decide +kernel
theorem dX7_judged_5 : decode cX7_judged 5 = .ok (.invokevirtual 220, 3) := by decide +kernel
theorem dX7_judged_8 : decode cX7_judged 8 = .ok (.ifCond .ne 5, 3) := by decide +kernel
theorem dX7_judged_11 : decode cX7_judged 11 = .ok (.iconst 0, 1) := by decide +kernel
theorem dX7_judged_12 : decode cX7_judged 12 = .ok (.ireturn, 1) := by decide +kernel
theorem dX7_judged_13 : decode cX7_judged 13 = .ok (.aload_n 0, 1) := by decide +kernel
theorem dX7_judged_14 : decode cX7_judged 14 = .ok (.getfield 44, 3) := by decide +kernel
theorem dX7_judged_17 : decode cX7_judged 17 = .ok (.getfield 136, 3) := by decide +kernel
theorem dX7_judged_20 : decode cX7_judged 20 = .ok (.iload_n 1, 1) := by decide +kernel
theorem dX7_judged_21 : decode cX7_judged 21 = .ok (.iaload, 1) := by decide +kernel
theorem dX7_judged_22 : decode cX7_judged 22 = .ok (.ifCond .ne 5, 3) := by decide +kernel
theorem dX7_judged_25 : decode cX7_judged 25 = .ok (.iconst 1, 1) := by decide +kernel
theorem dX7_judged_26 : decode cX7_judged 26 = .ok (.ireturn, 1) := by decide +kernel
theorem dX7_judged_27 : decode cX7_judged 27 = .ok (.aload_n 0, 1) := by decide +kernel
theorem dX7_judged_28 : decode cX7_judged 28 = .ok (.getfield 44, 3) := by decide +kernel
theorem dX7_judged_31 : decode cX7_judged 31 = .ok (.getfield 136, 3) := by decide +kernel
theorem dX7_judged_34 : decode cX7_judged 34 = .ok (.iload_n 1, 1) := by decide +kernel
theorem dX7_judged_35 : decode cX7_judged 35 = .ok (.iaload, 1) := by decide +kernel
theorem dX7_judged_36 : decode cX7_judged 36 = .ok (.aload_n 0, 1) := by decide +kernel
theorem dX7_judged_37 : decode cX7_judged 37 = .ok (.getfield 19, 3) := by decide +kernel
theorem dX7_judged_40 : decode cX7_judged 40 = .ok (.invokevirtual 184, 3) := by decide +kernel
theorem dX7_judged_43 : decode cX7_judged 43 = .ok (.if_icmp .ge 7, 3) := by decide +kernel
theorem dX7_judged_46 : decode cX7_judged 46 = .ok (.iconst 2, 1) := by decide +kernel
theorem dX7_judged_47 : decode cX7_judged 47 = .ok (.goto 4, 3) := by decide +kernel
theorem dX7_judged_50 : decode cX7_judged 50 = .ok (.iconst 3, 1) := by decide +kernel
theorem dX7_judged_51 : decode cX7_judged 51 = .ok (.ireturn, 1) := by decide +kernel
set_option maxRecDepth 20000 in
theorem ggX7_needed_X7_leastOf : GoodIn wsX7_needed wsX7_leastOf := goodIn_r _ [10] (by decide +kernel) (by decide +kernel)
set_option maxRecDepth 20000 in
theorem gX7_needed_X7_leastOf : GoodIn wsX7_needed (va_wsS RX7 227 yX7_leastOf wsX7_leastOf) := goodIn_app (goodIn_of _ (by decide +kernel)) ggX7_needed_X7_leastOf
set_option maxRecDepth 20000 in
theorem ggX7_needed_X7_greatestOf : GoodIn wsX7_needed wsX7_greatestOf := goodIn_r _ [13] (by decide +kernel) (by decide +kernel)
set_option maxRecDepth 20000 in
theorem gX7_needed_X7_greatestOf : GoodIn wsX7_needed (va_wsS RX7 232 yX7_greatestOf wsX7_greatestOf) := goodIn_app (goodIn_of _ (by decide +kernel)) ggX7_needed_X7_greatestOf
theorem dX7_needed_0 : decode cX7_needed 0 = .ok (.aload_n 0, 1) := by decide +kernel
theorem dX7_needed_1 : decode cX7_needed 1 = .ok (.getfield 62, 3) := by decide +kernel
theorem dX7_needed_4 : decode cX7_needed 4 = .ok (.getfield 223, 3) := by decide +kernel
theorem dX7_needed_7 : decode cX7_needed 7 = .ok (.ifCond .eq 5, 3) := by decide +kernel
theorem dX7_needed_10 : decode cX7_needed 10 = .ok (.iconst (-1), 1) := by decide +kernel
theorem dX7_needed_11 : decode cX7_needed 11 = .ok (.ireturn, 1) := by decide +kernel
theorem dX7_needed_12 : decode cX7_needed 12 = .ok (.aload_n 0, 1) := by decide +kernel
theorem dX7_needed_13 : decode cX7_needed 13 = .ok (.getfield 10, 3) := by decide +kernel
theorem dX7_needed_16 : decode cX7_needed 16 = .ok (.getfield 171, 3) := by decide +kernel
theorem dX7_needed_19 : decode cX7_needed 19 = .ok (.iload_n 1, 1) := by decide +kernel
theorem dX7_needed_20 : decode cX7_needed 20 = .ok (.baload, 1) := by decide +kernel
theorem dX7_needed_21 : decode cX7_needed 21 = .ok (.istore_n 2, 1) := by decide +kernel
theorem dX7_needed_22 : decode cX7_needed 22 = .ok (.iconst 2, 1) := by decide +kernel
theorem dX7_needed_23 : decode cX7_needed 23 = .ok (.istore_n 3, 1) := by decide +kernel
theorem dX7_needed_24 : decode cX7_needed 24 = .ok (.iload_n 3, 1) := by decide +kernel
theorem dX7_needed_25 : decode cX7_needed 25 = .ok (.bipush 31, 2) := by decide +kernel
theorem dX7_needed_27 : decode cX7_needed 27 = .ok (.if_icmp .gt 47, 3) := by decide +kernel
theorem dX7_needed_30 : decode cX7_needed 30 = .ok (.aload_n 0, 1) := by decide +kernel
theorem dX7_needed_31 : decode cX7_needed 31 = .ok (.getfield 62, 3) := by decide +kernel
theorem dX7_needed_34 : decode cX7_needed 34 = .ok (.getfield 226, 3) := by decide +kernel
theorem dX7_needed_37 : decode cX7_needed 37 = .ok (.iload_n 1, 1) := by decide +kernel
theorem dX7_needed_38 : decode cX7_needed 38 = .ok (.laload, 1) := by decide +kernel
theorem dX7_needed_39 : decode cX7_needed 39 = .ok (.iload_n 3, 1) := by decide +kernel
theorem dX7_needed_40 : decode cX7_needed 40 = .ok (.iload_n 2, 1) := by decide +kernel
theorem dX7_needed_41 : decode cX7_needed 41 = .ok (.invokestatic 227, 3) := by decide +kernel
theorem dX7_needed_44 : decode cX7_needed 44 = .ok (.lcmp, 1) := by decide +kernel
theorem dX7_needed_45 : decode cX7_needed 45 = .ok (.ifCond .lt 23, 3) := by decide +kernel
theorem dX7_needed_48 : decode cX7_needed 48 = .ok (.aload_n 0, 1) := by decide +kernel
theorem dX7_needed_49 : decode cX7_needed 49 = .ok (.getfield 62, 3) := by decide +kernel
theorem dX7_needed_52 : decode cX7_needed 52 = .ok (.getfield 231, 3) := by decide +kernel
theorem dX7_needed_55 : decode cX7_needed 55 = .ok (.iload_n 1, 1) := by decide +kernel
theorem dX7_needed_56 : decode cX7_needed 56 = .ok (.laload, 1) := by decide +kernel
theorem dX7_needed_57 : decode cX7_needed 57 = .ok (.iload_n 3, 1) := by decide +kernel
theorem dX7_needed_58 : decode cX7_needed 58 = .ok (.iload_n 2, 1) := by decide +kernel
theorem dX7_needed_59 : decode cX7_needed 59 = .ok (.invokestatic 232, 3) := by decide +kernel
theorem dX7_needed_62 : decode cX7_needed 62 = .ok (.lcmp, 1) := by decide +kernel
theorem dX7_needed_63 : decode cX7_needed 63 = .ok (.ifCond .gt 5, 3) := by decide +kernel
theorem dX7_needed_66 : decode cX7_needed 66 = .ok (.iload_n 3, 1) := by decide +kernel
theorem dX7_needed_67 : decode cX7_needed 67 = .ok (.ireturn, 1) := by decide +kernel
theorem dX7_needed_68 : decode cX7_needed 68 = .ok (.iinc 3 1, 3) := by decide +kernel
theorem dX7_needed_71 : decode cX7_needed 71 = .ok (.goto (-47), 3) := by decide +kernel
theorem dX7_needed_74 : decode cX7_needed 74 = .ok (.iconst (-1), 1) := by decide +kernel
theorem dX7_needed_75 : decode cX7_needed 75 = .ok (.ireturn, 1) := by decide +kernel
set_option maxRecDepth 20000 in
theorem ggX7_canMend_X7_needed : GoodIn wsX7_canMend wsX7_needed := goodIn_r _ [5, 6, 7, 8, 9, 10, 11, 12, 13, 4, 14, 15, 16, 17, 18, 19, 20, 21, 22, 23, 24, 25, 26, 27, 28, 29, 30, 31, 32, 33, 34, 35, 36] (by decide +kernel) (by decide +kernel)
set_option maxRecDepth 20000 in
theorem gX7_canMend_X7_needed : GoodIn wsX7_canMend (wsV RX7 155 RX7 yX7_needed wsX7_needed) := goodIn_app (goodIn_of _ (by decide +kernel)) ggX7_canMend_X7_needed
theorem dX7_canMend_0 : decode cX7_canMend 0 = .ok (.iconst 0, 1) := by decide +kernel
theorem dX7_canMend_1 : decode cX7_canMend 1 = .ok (.istore_n 1, 1) := by decide +kernel
theorem dX7_canMend_2 : decode cX7_canMend 2 = .ok (.iload_n 1, 1) := by decide +kernel
theorem dX7_canMend_3 : decode cX7_canMend 3 = .ok (.bipush 6, 2) := by decide +kernel
theorem dX7_canMend_5 : decode cX7_canMend 5 = .ok (.if_icmp .ge 20, 3) := by decide +kernel
theorem dX7_canMend_8 : decode cX7_canMend 8 = .ok (.aload_n 0, 1) := by decide +kernel
theorem dX7_canMend_9 : decode cX7_canMend 9 = .ok (.iload_n 1, 1) := by decide +kernel
theorem dX7_canMend_10 : decode cX7_canMend 10 = .ok (.invokevirtual 155, 3) := by decide +kernel
theorem dX7_canMend_13 : decode cX7_canMend 13 = .ok (.iconst (-1), 1) := by decide +kernel
theorem dX7_canMend_14 : decode cX7_canMend 14 = .ok (.if_icmp .ne 5, 3) := by decide +kernel
theorem dX7_canMend_17 : decode cX7_canMend 17 = .ok (.iconst 0, 1) := by decide +kernel
theorem dX7_canMend_18 : decode cX7_canMend 18 = .ok (.ireturn, 1) := by decide +kernel
theorem dX7_canMend_19 : decode cX7_canMend 19 = .ok (.iinc 1 1, 3) := by decide +kernel
theorem dX7_canMend_22 : decode cX7_canMend 22 = .ok (.goto (-20), 3) := by decide +kernel
theorem dX7_canMend_25 : decode cX7_canMend 25 = .ok (.iconst 1, 1) := by decide +kernel
theorem dX7_canMend_26 : decode cX7_canMend 26 = .ok (.ireturn, 1) := by decide +kernel
set_option maxRecDepth 20000 in
theorem ggX7_isListed_X7_judged : GoodIn wsX7_isListed wsX7_judged := goodIn_r _ [7, 8, 9, 10, 11, 12, 13, 14, 15, 16, 17, 18, 19, 20, 21, 22, 23, 24, 25, 26, 27, 28, 29, 30, 31, 41, 42, 43, 44, 45, 46, 47, 48, 49, 50, 51, 52, 53, 54, 55, 56, 57, 58] (by decide +kernel) (by decide +kernel)
set_option maxRecDepth 20000 in
theorem gX7_isListed_X7_judged : GoodIn wsX7_isListed (wsV RX7 132 RX7 yX7_judged wsX7_judged) := goodIn_app (goodIn_of _ (by decide +kernel)) ggX7_isListed_X7_judged
theorem dX7_isListed_0 : decode cX7_isListed 0 = .ok (.aload_n 0, 1) := by decide +kernel
theorem dX7_isListed_1 : decode cX7_isListed 1 = .ok (.getfield 26, 3) := by decide +kernel
theorem dX7_isListed_4 : decode cX7_isListed 4 = .ok (.getfield 175, 3) := by decide +kernel
theorem dX7_isListed_7 : decode cX7_isListed 7 = .ok (.iload_n 1, 1) := by decide +kernel
theorem dX7_isListed_8 : decode cX7_isListed 8 = .ok (.baload, 1) := by decide +kernel
theorem dX7_isListed_9 : decode cX7_isListed 9 = .ok (.ifCond .ne 16, 3) := by decide +kernel
theorem dX7_isListed_12 : decode cX7_isListed 12 = .ok (.aload_n 0, 1) := by decide +kernel
theorem dX7_isListed_13 : decode cX7_isListed 13 = .ok (.iload_n 1, 1) := by decide +kernel
theorem dX7_isListed_14 : decode cX7_isListed 14 = .ok (.invokevirtual 132, 3) := by decide +kernel
theorem dX7_isListed_17 : decode cX7_isListed 17 = .ok (.iconst 2, 1) := by decide +kernel
theorem dX7_isListed_18 : decode cX7_isListed 18 = .ok (.if_icmp .lt 7, 3) := by decide +kernel
theorem dX7_isListed_21 : decode cX7_isListed 21 = .ok (.iconst 1, 1) := by decide +kernel
theorem dX7_isListed_22 : decode cX7_isListed 22 = .ok (.goto 4, 3) := by decide +kernel
theorem dX7_isListed_25 : decode cX7_isListed 25 = .ok (.iconst 0, 1) := by decide +kernel
theorem dX7_isListed_26 : decode cX7_isListed 26 = .ok (.ireturn, 1) := by decide +kernel
set_option maxRecDepth 20000 in
theorem ggX7_listedBefore_X7_isListed : GoodIn wsX7_listedBefore wsX7_isListed := goodIn_r _ [7, 1, 8, 9, 10, 11, 6, 12, 13, 14, 15, 16, 17, 18, 19, 20, 21, 22, 23, 24, 25, 26, 27, 28, 29, 34, 35, 36, 37, 38, 39, 40, 41, 42, 43, 44, 45, 46, 47, 48, 49, 50, 51, 52, 53, 54, 55, 56, 57, 58, 59, 60, 61, 62, 63, 64, 65, 66, 67] (by decide +kernel) (by decide +kernel)
set_option maxRecDepth 20000 in
theorem gX7_listedBefore_X7_isListed : GoodIn wsX7_listedBefore (wsV RX7 178 RX7 yX7_isListed wsX7_isListed) := goodIn_app (goodIn_of _ (by decide +kernel)) ggX7_listedBefore_X7_isListed
set_option maxRecDepth 20000 in
theorem ggX7_listedBefore_X7_comesBefore : GoodIn wsX7_listedBefore wsX7_comesBefore := goodIn_r _ [33, 14, 15, 34, 35, 36, 37, 38, 39, 40, 50, 51, 52, 53, 54, 55, 56] (by decide +kernel) (by decide +kernel)
set_option maxRecDepth 20000 in
theorem gX7_listedBefore_X7_comesBefore : GoodIn wsX7_listedBefore (wsV RX7 235 RX7 yX7_comesBefore wsX7_comesBefore) := goodIn_app (goodIn_of _ (by decide +kernel)) ggX7_listedBefore_X7_comesBefore
theorem dX7_listedBefore_0 : decode cX7_listedBefore 0 = .ok (.iconst 0, 1) := by decide +kernel
theorem dX7_listedBefore_1 : decode cX7_listedBefore 1 = .ok (.istore_n 2, 1) := by decide +kernel
theorem dX7_listedBefore_2 : decode cX7_listedBefore 2 = .ok (.iconst 0, 1) := by decide +kernel
theorem dX7_listedBefore_3 : decode cX7_listedBefore 3 = .ok (.istore_n 3, 1) := by decide +kernel
theorem dX7_listedBefore_4 : decode cX7_listedBefore 4 = .ok (.iload_n 3, 1) := by decide +kernel
theorem dX7_listedBefore_5 : decode cX7_listedBefore 5 = .ok (.aload_n 0, 1) := by decide +kernel
theorem dX7_listedBefore_6 : decode cX7_listedBefore 6 = .ok (.getfield 26, 3) := by decide +kernel
theorem dX7_listedBefore_9 : decode cX7_listedBefore 9 = .ok (.getfield 87, 3) := by decide +kernel
theorem dX7_listedBefore_12 : decode cX7_listedBefore 12 = .ok (.if_icmp .ge 29, 3) := by decide +kernel
theorem dX7_listedBefore_15 : decode cX7_listedBefore 15 = .ok (.aload_n 0, 1) := by decide +kernel
theorem dX7_listedBefore_16 : decode cX7_listedBefore 16 = .ok (.iload_n 3, 1) := by decide +kernel
theorem dX7_listedBefore_17 : decode cX7_listedBefore 17 = .ok (.invokevirtual 178, 3) := by decide +kernel
theorem dX7_listedBefore_20 : decode cX7_listedBefore 20 = .ok (.ifCond .eq 15, 3) := by decide +kernel
theorem dX7_listedBefore_23 : decode cX7_listedBefore 23 = .ok (.aload_n 0, 1) := by decide +kernel
theorem dX7_listedBefore_24 : decode cX7_listedBefore 24 = .ok (.iload_n 3, 1) := by decide +kernel
theorem dX7_listedBefore_25 : decode cX7_listedBefore 25 = .ok (.iload_n 1, 1) := by decide +kernel
theorem dX7_listedBefore_26 : decode cX7_listedBefore 26 = .ok (.invokevirtual 235, 3) := by decide +kernel
theorem dX7_listedBefore_29 : decode cX7_listedBefore 29 = .ok (.ifCond .eq 6, 3) := by decide +kernel
theorem dX7_listedBefore_32 : decode cX7_listedBefore 32 = .ok (.iinc 2 1, 3) := by decide +kernel
theorem dX7_listedBefore_35 : decode cX7_listedBefore 35 = .ok (.iinc 3 1, 3) := by decide +kernel
theorem dX7_listedBefore_38 : decode cX7_listedBefore 38 = .ok (.goto (-34), 3) := by decide +kernel
theorem dX7_listedBefore_41 : decode cX7_listedBefore 41 = .ok (.iload_n 2, 1) := by decide +kernel
theorem dX7_listedBefore_42 : decode cX7_listedBefore 42 = .ok (.ireturn, 1) := by decide +kernel
theorem dX7_comesBefore_0 : decode cX7_comesBefore 0 = .ok (.aload_n 0, 1) := by decide +kernel
theorem dX7_comesBefore_1 : decode cX7_comesBefore 1 = .ok (.getfield 44, 3) := by decide +kernel
theorem dX7_comesBefore_4 : decode cX7_comesBefore 4 = .ok (.getfield 136, 3) := by decide +kernel
theorem dX7_comesBefore_7 : decode cX7_comesBefore 7 = .ok (.iload_n 1, 1) := by decide +kernel
theorem dX7_comesBefore_8 : decode cX7_comesBefore 8 = .ok (.iaload, 1) := by decide +kernel
theorem dX7_comesBefore_9 : decode cX7_comesBefore 9 = .ok (.aload_n 0, 1) := by decide +kernel
theorem dX7_comesBefore_10 : decode cX7_comesBefore 10 = .ok (.getfield 44, 3) := by decide +kernel
theorem dX7_comesBefore_13 : decode cX7_comesBefore 13 = .ok (.getfield 136, 3) := by decide +kernel
theorem dX7_comesBefore_16 : decode cX7_comesBefore 16 = .ok (.iload_n 2, 1) := by decide +kernel
theorem dX7_comesBefore_17 : decode cX7_comesBefore 17 = .ok (.iaload, 1) := by decide +kernel
theorem dX7_comesBefore_18 : decode cX7_comesBefore 18 = .ok (.if_icmp .eq 30, 3) := by decide +kernel
theorem dX7_comesBefore_21 : decode cX7_comesBefore 21 = .ok (.aload_n 0, 1) := by decide +kernel
theorem dX7_comesBefore_22 : decode cX7_comesBefore 22 = .ok (.getfield 44, 3) := by decide +kernel
theorem dX7_comesBefore_25 : decode cX7_comesBefore 25 = .ok (.getfield 136, 3) := by decide +kernel
theorem dX7_comesBefore_28 : decode cX7_comesBefore 28 = .ok (.iload_n 1, 1) := by decide +kernel
theorem dX7_comesBefore_29 : decode cX7_comesBefore 29 = .ok (.iaload, 1) := by decide +kernel
theorem dX7_comesBefore_30 : decode cX7_comesBefore 30 = .ok (.aload_n 0, 1) := by decide +kernel
theorem dX7_comesBefore_31 : decode cX7_comesBefore 31 = .ok (.getfield 44, 3) := by decide +kernel
theorem dX7_comesBefore_34 : decode cX7_comesBefore 34 = .ok (.getfield 136, 3) := by decide +kernel
theorem dX7_comesBefore_37 : decode cX7_comesBefore 37 = .ok (.iload_n 2, 1) := by decide +kernel
theorem dX7_comesBefore_38 : decode cX7_comesBefore 38 = .ok (.iaload, 1) := by decide +kernel
theorem dX7_comesBefore_39 : decode cX7_comesBefore 39 = .ok (.if_icmp .le 7, 3) := by decide +kernel
theorem dX7_comesBefore_42 : decode cX7_comesBefore 42 = .ok (.iconst 1, 1) := by decide +kernel
theorem dX7_comesBefore_43 : decode cX7_comesBefore 43 = .ok (.goto 4, 3) := by decide +kernel
theorem dX7_comesBefore_46 : decode cX7_comesBefore 46 = .ok (.iconst 0, 1) := by decide +kernel
theorem dX7_comesBefore_47 : decode cX7_comesBefore 47 = .ok (.ireturn, 1) := by decide +kernel
theorem dX7_comesBefore_48 : decode cX7_comesBefore 48 = .ok (.iload_n 1, 1) := by decide +kernel
theorem dX7_comesBefore_49 : decode cX7_comesBefore 49 = .ok (.iload_n 2, 1) := by decide +kernel
theorem dX7_comesBefore_50 : decode cX7_comesBefore 50 = .ok (.if_icmp .ge 7, 3) := by decide +kernel
theorem dX7_comesBefore_53 : decode cX7_comesBefore 53 = .ok (.iconst 1, 1) := by decide +kernel
theorem dX7_comesBefore_54 : decode cX7_comesBefore 54 = .ok (.goto 4, 3) := by decide +kernel
theorem dX7_comesBefore_57 : decode cX7_comesBefore 57 = .ok (.iconst 0, 1) := by decide +kernel
theorem dX7_comesBefore_58 : decode cX7_comesBefore 58 = .ok (.ireturn, 1) := by decide +kernel
theorem dX8_init_0 : decode cX8_init 0 = .ok (.aload_n 0, 1) := by decide +kernel
theorem dX8_init_1 : decode cX8_init 1 = .ok (.invokespecial 1, 3) := by decide +kernel
theorem dX8_init_4 : decode cX8_init 4 = .ok (.aload_n 0, 1) := by decide +kernel
theorem dX8_init_5 : decode cX8_init 5 = .ok (.bipush 6, 2) := by decide +kernel
theorem dX8_init_7 : decode cX8_init 7 = .ok (.newarray .int, 2) := by decide +kernel
theorem dX8_init_9 : decode cX8_init 9 = .ok (.putfield 9, 3) := by decide +kernel
theorem dX8_init_12 : decode cX8_init 12 = .ok (.aload_n 0, 1) := by decide +kernel
theorem dX8_init_13 : decode cX8_init 13 = .ok (.bipush 6, 2) := by decide +kernel
theorem dX8_init_15 : decode cX8_init 15 = .ok (.newarray .boolean, 2) := by decide +kernel
theorem dX8_init_17 : decode cX8_init 17 = .ok (.putfield 13, 3) := by decide +kernel
theorem dX8_init_20 : decode cX8_init 20 = .ok (.aload_n 0, 1) := by decide +kernel
theorem dX8_init_21 : decode cX8_init 21 = .ok (.iconst 2, 1) := by decide +kernel
theorem dX8_init_22 : decode cX8_init 22 = .ok (.newarray .int, 2) := by decide +kernel
theorem dX8_init_24 : decode cX8_init 24 = .ok (.putfield 17, 3) := by decide +kernel
theorem dX8_init_27 : decode cX8_init 27 = .ok (.aload_n 0, 1) := by decide +kernel
theorem dX8_init_28 : decode cX8_init 28 = .ok (.iconst 2, 1) := by decide +kernel
theorem dX8_init_29 : decode cX8_init 29 = .ok (.newarray .int, 2) := by decide +kernel
theorem dX8_init_31 : decode cX8_init 31 = .ok (.putfield 20, 3) := by decide +kernel
theorem dX8_init_34 : decode cX8_init 34 = .ok (.aload_n 0, 1) := by decide +kernel
theorem dX8_init_35 : decode cX8_init 35 = .ok (.bipush 24, 2) := by decide +kernel
theorem dX8_init_37 : decode cX8_init 37 = .ok (.newarray .int, 2) := by decide +kernel
theorem dX8_init_39 : decode cX8_init 39 = .ok (.putfield 23, 3) := by decide +kernel
theorem dX8_init_42 : decode cX8_init 42 = .ok (.aload_n 0, 1) := by decide +kernel
theorem dX8_init_43 : decode cX8_init 43 = .ok (.bipush 24, 2) := by decide +kernel
theorem dX8_init_45 : decode cX8_init 45 = .ok (.newarray .int, 2) := by decide +kernel
theorem dX8_init_47 : decode cX8_init 47 = .ok (.putfield 26, 3) := by decide +kernel
theorem dX8_init_50 : decode cX8_init 50 = .ok (.aload_n 0, 1) := by decide +kernel
theorem dX8_init_51 : decode cX8_init 51 = .ok (.bipush 24, 2) := by decide +kernel
theorem dX8_init_53 : decode cX8_init 53 = .ok (.newarray .int, 2) := by decide +kernel
theorem dX8_init_55 : decode cX8_init 55 = .ok (.putfield 29, 3) := by decide +kernel
theorem dX8_init_58 : decode cX8_init 58 = .ok (.aload_n 0, 1) := by decide +kernel
theorem dX8_init_59 : decode cX8_init 59 = .ok (.bipush 24, 2) := by decide +kernel
theorem dX8_init_61 : decode cX8_init 61 = .ok (.newarray .int, 2) := by decide +kernel
theorem dX8_init_63 : decode cX8_init 63 = .ok (.putfield 32, 3) := by decide +kernel
theorem dX8_init_66 : decode cX8_init 66 = .ok (.aload_n 0, 1) := by decide +kernel
theorem dX8_init_67 : decode cX8_init 67 = .ok (.bipush 24, 2) := by decide +kernel
theorem dX8_init_69 : decode cX8_init 69 = .ok (.newarray .boolean, 2) := by decide +kernel
theorem dX8_init_71 : decode cX8_init 71 = .ok (.putfield 35, 3) := by decide +kernel
theorem dX8_init_74 : decode cX8_init 74 = .ok (.aload_n 0, 1) := by decide +kernel
theorem dX8_init_75 : decode cX8_init 75 = .ok (.sipush 288, 3) := by decide +kernel
theorem dX8_init_78 : decode cX8_init 78 = .ok (.newarray .int, 2) := by decide +kernel
theorem dX8_init_80 : decode cX8_init 80 = .ok (.putfield 38, 3) := by decide +kernel
theorem dX8_init_83 : decode cX8_init 83 = .ok (.aload_n 0, 1) := by decide +kernel
theorem dX8_init_84 : decode cX8_init 84 = .ok (.bipush 6, 2) := by decide +kernel
theorem dX8_init_86 : decode cX8_init 86 = .ok (.newarray .long, 2) := by decide +kernel
theorem dX8_init_88 : decode cX8_init 88 = .ok (.putfield 41, 3) := by decide +kernel
theorem dX8_init_91 : decode cX8_init 91 = .ok (.aload_n 0, 1) := by decide +kernel
theorem dX8_init_92 : decode cX8_init 92 = .ok (.bipush 24, 2) := by decide +kernel
theorem dX8_init_94 : decode cX8_init 94 = .ok (.newarray .boolean, 2) := by decide +kernel
theorem dX8_init_96 : decode cX8_init 96 = .ok (.putfield 45, 3) := by decide +kernel
theorem dX8_init_99 : decode cX8_init 99 = .ok (.aload_n 0, 1) := by decide +kernel
theorem dX8_init_100 : decode cX8_init 100 = .ok (.bipush 24, 2) := by decide +kernel
theorem dX8_init_102 : decode cX8_init 102 = .ok (.newarray .boolean, 2) := by decide +kernel
theorem dX8_init_104 : decode cX8_init 104 = .ok (.putfield 48, 3) := by decide +kernel
theorem dX8_init_107 : decode cX8_init 107 = .ok (.aload_n 0, 1) := by decide +kernel
theorem dX8_init_108 : decode cX8_init 108 = .ok (.bipush 24, 2) := by decide +kernel
theorem dX8_init_110 : decode cX8_init 110 = .ok (.newarray .int, 2) := by decide +kernel
theorem dX8_init_112 : decode cX8_init 112 = .ok (.putfield 51, 3) := by decide +kernel
theorem dX8_init_115 : decode cX8_init 115 = .ok (.aload_n 0, 1) := by decide +kernel
theorem dX8_init_116 : decode cX8_init 116 = .ok (.bipush 24, 2) := by decide +kernel
theorem dX8_init_118 : decode cX8_init 118 = .ok (.newarray .int, 2) := by decide +kernel
theorem dX8_init_120 : decode cX8_init 120 = .ok (.putfield 54, 3) := by decide +kernel
theorem dX8_init_123 : decode cX8_init 123 = .ok (.aload_n 0, 1) := by decide +kernel
theorem dX8_init_124 : decode cX8_init 124 = .ok (.bipush 24, 2) := by decide +kernel
theorem dX8_init_126 : decode cX8_init 126 = .ok (.newarray .int, 2) := by decide +kernel
theorem dX8_init_128 : decode cX8_init 128 = .ok (.putfield 57, 3) := by decide +kernel
theorem dX8_init_131 : decode cX8_init 131 = .ok (.aload_n 0, 1) := by decide +kernel
theorem dX8_init_132 : decode cX8_init 132 = .ok (.bipush 6, 2) := by decide +kernel
theorem dX8_init_134 : decode cX8_init 134 = .ok (.newarray .long, 2) := by decide +kernel
theorem dX8_init_136 : decode cX8_init 136 = .ok (.putfield 60, 3) := by decide +kernel
theorem dX8_init_139 : decode cX8_init 139 = .ok (.aload_n 0, 1) := by decide +kernel
theorem dX8_init_140 : decode cX8_init 140 = .ok (.bipush 6, 2) := by decide +kernel
theorem dX8_init_142 : decode cX8_init 142 = .ok (.newarray .long, 2) := by decide +kernel
theorem dX8_init_144 : decode cX8_init 144 = .ok (.putfield 63, 3) := by decide +kernel
theorem dX8_init_147 : decode cX8_init 147 = .ok (.aload_n 0, 1) := by decide +kernel
theorem dX8_init_148 : decode cX8_init 148 = .ok (.bipush 24, 2) := by decide +kernel
theorem dX8_init_150 : decode cX8_init 150 = .ok (.newarray .boolean, 2) := by decide +kernel
theorem dX8_init_152 : decode cX8_init 152 = .ok (.putfield 66, 3) := by decide +kernel
theorem dX8_init_155 : decode cX8_init 155 = .ok (.aload_n 0, 1) := by decide +kernel
theorem dX8_init_156 : decode cX8_init 156 = .ok (.bipush 6, 2) := by decide +kernel
theorem dX8_init_158 : decode cX8_init 158 = .ok (.newarray .long, 2) := by decide +kernel
theorem dX8_init_160 : decode cX8_init 160 = .ok (.putfield 69, 3) := by decide +kernel
theorem dX8_init_163 : decode cX8_init 163 = .ok (.aload_n 0, 1) := by decide +kernel
theorem dX8_init_164 : decode cX8_init 164 = .ok (.bipush 6, 2) := by decide +kernel
theorem dX8_init_166 : decode cX8_init 166 = .ok (.newarray .long, 2) := by decide +kernel
theorem dX8_init_168 : decode cX8_init 168 = .ok (.putfield 72, 3) := by decide +kernel
theorem dX8_init_171 : decode cX8_init 171 = .ok (.iconst 0, 1) := by decide +kernel
theorem dX8_init_172 : decode cX8_init 172 = .ok (.istore_n 1, 1) := by decide +kernel
theorem dX8_init_173 : decode cX8_init 173 = .ok (.iload_n 1, 1) := by decide +kernel
theorem dX8_init_174 : decode cX8_init 174 = .ok (.bipush 6, 2) := by decide +kernel
theorem dX8_init_176 : decode cX8_init 176 = .ok (.if_icmp .ge 24, 3) := by decide +kernel
theorem dX8_init_179 : decode cX8_init 179 = .ok (.aload_n 0, 1) := by decide +kernel
theorem dX8_init_180 : decode cX8_init 180 = .ok (.getfield 9, 3) := by decide +kernel
theorem dX8_init_183 : decode cX8_init 183 = .ok (.iload_n 1, 1) := by decide +kernel
theorem dX8_init_184 : decode cX8_init 184 = .ok (.bipush 16, 2) := by decide +kernel
theorem dX8_init_186 : decode cX8_init 186 = .ok (.iastore, 1) := by decide +kernel
theorem dX8_init_187 : decode cX8_init 187 = .ok (.aload_n 0, 1) := by decide +kernel
theorem dX8_init_188 : decode cX8_init 188 = .ok (.getfield 13, 3) := by decide +kernel
theorem dX8_init_191 : decode cX8_init 191 = .ok (.iload_n 1, 1) := by decide +kernel
theorem dX8_init_192 : decode cX8_init 192 = .ok (.iconst 1, 1) := by decide +kernel
theorem dX8_init_193 : decode cX8_init 193 = .ok (.bastore, 1) := by decide +kernel
theorem dX8_init_194 : decode cX8_init 194 = .ok (.iinc 1 1, 3) := by decide +kernel
theorem dX8_init_197 : decode cX8_init 197 = .ok (.goto (-24), 3) := by decide +kernel
theorem dX8_init_200 : decode cX8_init 200 = .ok (.return_, 1) := by decide +kernel
theorem dX8_in_0 : decode cX8_in 0 = .ok (.lload_n 0, 1) := by decide +kernel
theorem dX8_in_1 : decode cX8_in 1 = .ok (.lload_n 2, 1) := by decide +kernel
theorem dX8_in_2 : decode cX8_in 2 = .ok (.lcmp, 1) := by decide +kernel
theorem dX8_in_3 : decode cX8_in 3 = .ok (.ifCond .lt 14, 3) := by decide +kernel
theorem dX8_in_6 : decode cX8_in 6 = .ok (.lload_n 0, 1) := by decide +kernel
theorem dX8_in_7 : decode cX8_in 7 = .ok (.lload 4, 2) := by decide +kernel
theorem dX8_in_9 : decode cX8_in 9 = .ok (.lcmp, 1) := by decide +kernel
theorem dX8_in_10 : decode cX8_in 10 = .ok (.ifCond .gt 7, 3) := by decide +kernel
theorem dX8_in_13 : decode cX8_in 13 = .ok (.iconst 1, 1) := by decide +kernel
theorem dX8_in_14 : decode cX8_in 14 = .ok (.goto 4, 3) := by decide +kernel
theorem dX8_in_17 : decode cX8_in 17 = .ok (.iconst 0, 1) := by decide +kernel
theorem dX8_in_18 : decode cX8_in 18 = .ok (.ireturn, 1) := by decide +kernel
set_option maxRecDepth 20000 in
theorem ggX8_isStep_X8_in : GoodIn wsX8_isStep wsX8_in := goodIn_r _ [5] (by decide +kernel) (by decide +kernel)
set_option maxRecDepth 20000 in
theorem gX8_isStep_X8_in : GoodIn wsX8_isStep (va_wsS RX8 79 yX8_in wsX8_in) := goodIn_app (goodIn_of _ (by decide +kernel)) ggX8_isStep_X8_in
theorem dX8_isStep_0 : decode cX8_isStep 0 = .ok (.iload_n 1, 1) := by decide +kernel
theorem dX8_isStep_1 : decode cX8_isStep 1 = .ok (.i2l, 1) := by decide +kernel
theorem dX8_isStep_2 : decode cX8_isStep 2 = .ok (.lconst 0, 1) := by decide +kernel
theorem dX8_isStep_3 : decode cX8_isStep 3 = .ok (.aload_n 0, 1) := by decide +kernel
theorem dX8_isStep_4 : decode cX8_isStep 4 = .ok (.getfield 75, 3) := by decide +kernel
theorem dX8_isStep_7 : decode cX8_isStep 7 = .ok (.iconst 1, 1) := by decide +kernel
theorem dX8_isStep_8 : decode cX8_isStep 8 = .ok (.isub, 1) := by decide +kernel
theorem dX8_isStep_9 : decode cX8_isStep 9 = .ok (.i2l, 1) := by decide +kernel
theorem dX8_isStep_10 : decode cX8_isStep 10 = .ok (.invokestatic 79, 3) := by decide +kernel
theorem dX8_isStep_13 : decode cX8_isStep 13 = .ok (.ireturn, 1) := by decide +kernel
set_option maxRecDepth 20000 in
theorem ggX8_isName_X8_in : GoodIn wsX8_isName wsX8_in := goodIn_r _ [5] (by decide +kernel) (by decide +kernel)
set_option maxRecDepth 20000 in
theorem gX8_isName_X8_in : GoodIn wsX8_isName (va_wsS RX8 79 yX8_in wsX8_in) := goodIn_app (goodIn_of _ (by decide +kernel)) ggX8_isName_X8_in
theorem dX8_isName_0 : decode cX8_isName 0 = .ok (.iload_n 0, 1) := by decide +kernel
theorem dX8_isName_1 : decode cX8_isName 1 = .ok (.i2l, 1) := by decide +kernel
theorem dX8_isName_2 : decode cX8_isName 2 = .ok (.lconst 0, 1) := by decide +kernel
theorem dX8_isName_3 : decode cX8_isName 3 = .ok (.ldc2_w 83, 3) := by decide +kernel
theorem dX8_isName_6 : decode cX8_isName 6 = .ok (.invokestatic 79, 3) := by decide +kernel
theorem dX8_isName_9 : decode cX8_isName 9 = .ok (.ireturn, 1) := by decide +kernel
set_option maxRecDepth 20000 in
theorem ggX8_name_X8_isName : GoodIn wsX8_name wsX8_isName := goodIn_r _ [8, 9, 10, 11, 7, 12] (by decide +kernel) (by decide +kernel)
set_option maxRecDepth 20000 in
theorem gX8_name_X8_isName : GoodIn wsX8_name (va_wsS RX8 85 yX8_isName wsX8_isName) := goodIn_app (goodIn_of _ (by decide +kernel)) ggX8_name_X8_isName
set_option maxRecDepth 20000 in
theorem ggX8_name_X8_in : GoodIn wsX8_name wsX8_in := goodIn_r _ [12] (by decide +kernel) (by decide +kernel)
set_option maxRecDepth 20000 in
theorem gX8_name_X8_in : GoodIn wsX8_name (va_wsS RX8 79 yX8_in wsX8_in) := goodIn_app (goodIn_of _ (by decide +kernel)) ggX8_name_X8_in
theorem dX8_name_0 : decode cX8_name 0 = .ok (.iload_n 1, 1) := by decide +kernel
theorem dX8_name_1 : decode cX8_name 1 = .ok (.invokestatic 85, 3) := by decide +kernel
theorem dX8_name_4 : decode cX8_name 4 = .ok (.ifCond .eq 17, 3) := by decide +kernel
theorem dX8_name_7 : decode cX8_name 7 = .ok (.iload_n 2, 1) := by decide +kernel
theorem dX8_name_8 : decode cX8_name 8 = .ok (.i2l, 1) := by decide +kernel
theorem dX8_name_9 : decode cX8_name 9 = .ok (.ldc2_w 89, 3) := by decide +kernel
theorem dX8_name_12 : decode cX8_name 12 = .ok (.ldc2_w 91, 3) := by decide +kernel
theorem dX8_name_15 : decode cX8_name 15 = .ok (.invokestatic 79, 3) := by decide +kernel
theorem dX8_name_18 : decode cX8_name 18 = .ok (.ifCond .ne 5, 3) := by decide +kernel
theorem dX8_name_21 : decode cX8_name 21 = .ok (.iconst 0, 1) := by decide +kernel
theorem dX8_name_22 : decode cX8_name 22 = .ok (.ireturn, 1) := by decide +kernel
theorem dX8_name_23 : decode cX8_name 23 = .ok (.aload_n 0, 1) := by decide +kernel
theorem dX8_name_24 : decode cX8_name 24 = .ok (.getfield 9, 3) := by decide +kernel
theorem dX8_name_27 : decode cX8_name 27 = .ok (.iload_n 1, 1) := by decide +kernel
theorem dX8_name_28 : decode cX8_name 28 = .ok (.iload_n 2, 1) := by decide +kernel
theorem dX8_name_29 : decode cX8_name 29 = .ok (.iastore, 1) := by decide +kernel
theorem dX8_name_30 : decode cX8_name 30 = .ok (.aload_n 0, 1) := by decide +kernel
theorem dX8_name_31 : decode cX8_name 31 = .ok (.getfield 13, 3) := by decide +kernel
theorem dX8_name_34 : decode cX8_name 34 = .ok (.iload_n 1, 1) := by decide +kernel
theorem dX8_name_35 : decode cX8_name 35 = .ok (.iload_n 3, 1) := by decide +kernel
theorem dX8_name_36 : decode cX8_name 36 = .ok (.bastore, 1) := by decide +kernel
theorem dX8_name_37 : decode cX8_name 37 = .ok (.iconst 1, 1) := by decide +kernel
theorem dX8_name_38 : decode cX8_name 38 = .ok (.ireturn, 1) := by decide +kernel
set_option maxRecDepth 20000 in
theorem ggX8_span_X8_in : GoodIn wsX8_span wsX8_in := goodIn_r _ [8] (by decide +kernel) (by decide +kernel)
set_option maxRecDepth 20000 in
theorem gX8_span_X8_in : GoodIn wsX8_span (va_wsS RX8 79 yX8_in wsX8_in) := goodIn_app (goodIn_of _ (by decide +kernel)) ggX8_span_X8_in
theorem dX8_span_0 : decode cX8_span 0 = .ok (.iload_n 1, 1) := by decide +kernel
theorem dX8_span_1 : decode cX8_span 1 = .ok (.i2l, 1) := by decide +kernel
theorem dX8_span_2 : decode cX8_span 2 = .ok (.lconst 0, 1) := by decide +kernel
theorem dX8_span_3 : decode cX8_span 3 = .ok (.lconst 1, 1) := by decide +kernel
theorem dX8_span_4 : decode cX8_span 4 = .ok (.invokestatic 79, 3) := by decide +kernel
theorem dX8_span_7 : decode cX8_span 7 = .ok (.ifCond .eq 38, 3) := by decide +kernel
theorem dX8_span_10 : decode cX8_span 10 = .ok (.iload_n 2, 1) := by decide +kernel
theorem dX8_span_11 : decode cX8_span 11 = .ok (.i2l, 1) := by decide +kernel
theorem dX8_span_12 : decode cX8_span 12 = .ok (.ldc2_w 93, 3) := by decide +kernel
theorem dX8_span_15 : decode cX8_span 15 = .ok (.ldc2_w 95, 3) := by decide +kernel
theorem dX8_span_18 : decode cX8_span 18 = .ok (.invokestatic 79, 3) := by decide +kernel
theorem dX8_span_21 : decode cX8_span 21 = .ok (.ifCond .eq 24, 3) := by decide +kernel
theorem dX8_span_24 : decode cX8_span 24 = .ok (.iload_n 3, 1) := by decide +kernel
theorem dX8_span_25 : decode cX8_span 25 = .ok (.i2l, 1) := by decide +kernel
theorem dX8_span_26 : decode cX8_span 26 = .ok (.iload_n 2, 1) := by decide +kernel
theorem dX8_span_27 : decode cX8_span 27 = .ok (.i2l, 1) := by decide +kernel
theorem dX8_span_28 : decode cX8_span 28 = .ok (.ldc2_w 95, 3) := by decide +kernel
theorem dX8_span_31 : decode cX8_span 31 = .ok (.invokestatic 79, 3) := by decide +kernel
theorem dX8_span_34 : decode cX8_span 34 = .ok (.ifCond .eq 11, 3) := by decide +kernel
theorem dX8_span_37 : decode cX8_span 37 = .ok (.iload_n 3, 1) := by decide +kernel
theorem dX8_span_38 : decode cX8_span 38 = .ok (.iload_n 2, 1) := by decide +kernel
theorem dX8_span_39 : decode cX8_span 39 = .ok (.isub, 1) := by decide +kernel
theorem dX8_span_40 : decode cX8_span 40 = .ok (.bipush 31, 2) := by decide +kernel
theorem dX8_span_42 : decode cX8_span 42 = .ok (.if_icmp .le 5, 3) := by decide +kernel
theorem dX8_span_45 : decode cX8_span 45 = .ok (.iconst 0, 1) := by decide +kernel
theorem dX8_span_46 : decode cX8_span 46 = .ok (.ireturn, 1) := by decide +kernel
theorem dX8_span_47 : decode cX8_span 47 = .ok (.aload_n 0, 1) := by decide +kernel
theorem dX8_span_48 : decode cX8_span 48 = .ok (.getfield 17, 3) := by decide +kernel
theorem dX8_span_51 : decode cX8_span 51 = .ok (.iload_n 1, 1) := by decide +kernel
theorem dX8_span_52 : decode cX8_span 52 = .ok (.iload_n 2, 1) := by decide +kernel
theorem dX8_span_53 : decode cX8_span 53 = .ok (.iastore, 1) := by decide +kernel
theorem dX8_span_54 : decode cX8_span 54 = .ok (.aload_n 0, 1) := by decide +kernel
theorem dX8_span_55 : decode cX8_span 55 = .ok (.getfield 20, 3) := by decide +kernel
theorem dX8_span_58 : decode cX8_span 58 = .ok (.iload_n 1, 1) := by decide +kernel
theorem dX8_span_59 : decode cX8_span 59 = .ok (.iload_n 3, 1) := by decide +kernel
theorem dX8_span_60 : decode cX8_span 60 = .ok (.iastore, 1) := by decide +kernel
theorem dX8_span_61 : decode cX8_span 61 = .ok (.iconst 1, 1) := by decide +kernel
theorem dX8_span_62 : decode cX8_span 62 = .ok (.ireturn, 1) := by decide +kernel
theorem dX8_isOpen_0 : decode cX8_isOpen 0 = .ok (.iconst 0, 1) := by decide +kernel
theorem dX8_isOpen_1 : decode cX8_isOpen 1 = .ok (.istore_n 1, 1) := by decide +kernel
theorem dX8_isOpen_2 : decode cX8_isOpen 2 = .ok (.iconst 0, 1) := by decide +kernel
theorem dX8_isOpen_3 : decode cX8_isOpen 3 = .ok (.istore_n 2, 1) := by decide +kernel
theorem dX8_isOpen_4 : decode cX8_isOpen 4 = .ok (.iload_n 2, 1) := by decide +kernel
theorem dX8_isOpen_5 : decode cX8_isOpen 5 = .ok (.aload_n 0, 1) := by decide +kernel
theorem dX8_isOpen_6 : decode cX8_isOpen 6 = .ok (.getfield 75, 3) := by decide +kernel
theorem dX8_isOpen_9 : decode cX8_isOpen 9 = .ok (.if_icmp .ge 41, 3) := by decide +kernel
theorem dX8_isOpen_12 : decode cX8_isOpen 12 = .ok (.aload_n 0, 1) := by decide +kernel
theorem dX8_isOpen_13 : decode cX8_isOpen 13 = .ok (.getfield 23, 3) := by decide +kernel
theorem dX8_isOpen_16 : decode cX8_isOpen 16 = .ok (.iload_n 2, 1) := by decide +kernel
theorem dX8_isOpen_17 : decode cX8_isOpen 17 = .ok (.iaload, 1) := by decide +kernel
theorem dX8_isOpen_18 : decode cX8_isOpen 18 = .ok (.bipush 8, 2) := by decide +kernel
theorem dX8_isOpen_20 : decode cX8_isOpen 20 = .ok (.if_icmp .eq 18, 3) := by decide +kernel
theorem dX8_isOpen_23 : decode cX8_isOpen 23 = .ok (.aload_n 0, 1) := by decide +kernel
theorem dX8_isOpen_24 : decode cX8_isOpen 24 = .ok (.getfield 23, 3) := by decide +kernel
theorem dX8_isOpen_27 : decode cX8_isOpen 27 = .ok (.iload_n 2, 1) := by decide +kernel
theorem dX8_isOpen_28 : decode cX8_isOpen 28 = .ok (.iaload, 1) := by decide +kernel
theorem dX8_isOpen_29 : decode cX8_isOpen 29 = .ok (.bipush 9, 2) := by decide +kernel
theorem dX8_isOpen_31 : decode cX8_isOpen 31 = .ok (.if_icmp .eq 11, 3) := by decide +kernel
theorem dX8_isOpen_34 : decode cX8_isOpen 34 = .ok (.iload_n 1, 1) := by decide +kernel
theorem dX8_isOpen_35 : decode cX8_isOpen 35 = .ok (.ifCond .eq 7, 3) := by decide +kernel
theorem dX8_isOpen_38 : decode cX8_isOpen 38 = .ok (.iconst 1, 1) := by decide +kernel
theorem dX8_isOpen_39 : decode cX8_isOpen 39 = .ok (.goto 4, 3) := by decide +kernel
theorem dX8_isOpen_42 : decode cX8_isOpen 42 = .ok (.iconst 0, 1) := by decide +kernel
theorem dX8_isOpen_43 : decode cX8_isOpen 43 = .ok (.istore_n 1, 1) := by decide +kernel
theorem dX8_isOpen_44 : decode cX8_isOpen 44 = .ok (.iinc 2 1, 3) := by decide +kernel
theorem dX8_isOpen_47 : decode cX8_isOpen 47 = .ok (.goto (-43), 3) := by decide +kernel
theorem dX8_isOpen_50 : decode cX8_isOpen 50 = .ok (.iload_n 1, 1) := by decide +kernel
theorem dX8_isOpen_51 : decode cX8_isOpen 51 = .ok (.ireturn, 1) := by decide +kernel
set_option maxRecDepth 20000 in
theorem ggX8_canBe_X8_isName : GoodIn wsX8_canBe wsX8_isName := goodIn_r _ [7, 8, 9, 10, 6, 11] (by decide +kernel) (by decide +kernel)
set_option maxRecDepth 20000 in
theorem gX8_canBe_X8_isName : GoodIn wsX8_canBe (va_wsS RX8 85 yX8_isName wsX8_isName) := goodIn_app (goodIn_of _ (by decide +kernel)) ggX8_canBe_X8_isName
set_option maxRecDepth 20000 in
theorem ggX8_canBe_X8_in : GoodIn wsX8_canBe wsX8_in := goodIn_r _ [11] (by decide +kernel) (by decide +kernel)
set_option maxRecDepth 20000 in
theorem gX8_canBe_X8_in : GoodIn wsX8_canBe (va_wsS RX8 79 yX8_in wsX8_in) := goodIn_app (goodIn_of _ (by decide +kernel)) ggX8_canBe_X8_in
set_option maxRecDepth 20000 in
theorem ggX8_canBe_X8_isOpen : GoodIn wsX8_canBe wsX8_isOpen := goodIn_r _ [15, 16, 17, 18, 19, 20, 21, 22, 23, 24, 25, 26, 27, 28, 29, 30, 31, 32, 33, 34, 35, 36, 37, 38, 39, 40, 41, 42, 43] (by decide +kernel) (by decide +kernel)
set_option maxRecDepth 20000 in
theorem gX8_canBe_X8_isOpen : GoodIn wsX8_canBe (wsV RX8 99 RX8 yX8_isOpen wsX8_isOpen) := goodIn_app (goodIn_of _ (by decide +kernel)) ggX8_canBe_X8_isOpen
theorem dX8_canBe_0 : decode cX8_canBe 0 = .ok (.iload_n 1, 1) := by decide +kernel
theorem dX8_canBe_1 : decode cX8_canBe 1 = .ok (.tableswitch 195 0 9 #[55, 83, 103, 103, 103, 131, 103, 103, 164, 190], 55) := by decide +kernel
theorem dX8_canBe_56 : decode cX8_canBe 56 = .ok (.iload_n 2, 1) := by decide +kernel
theorem dX8_canBe_57 : decode cX8_canBe 57 = .ok (.invokestatic 85, 3) := by decide +kernel
theorem dX8_canBe_60 : decode cX8_canBe 60 = .ok (.ifCond .eq 22, 3) := by decide +kernel
theorem dX8_canBe_63 : decode cX8_canBe 63 = .ok (.iload 4, 2) := by decide +kernel
theorem dX8_canBe_65 : decode cX8_canBe 65 = .ok (.i2l, 1) := by decide +kernel
theorem dX8_canBe_66 : decode cX8_canBe 66 = .ok (.ldc2_w 93, 3) := by decide +kernel
theorem dX8_canBe_69 : decode cX8_canBe 69 = .ok (.ldc2_w 95, 3) := by decide +kernel
theorem dX8_canBe_72 : decode cX8_canBe 72 = .ok (.invokestatic 79, 3) := by decide +kernel
theorem dX8_canBe_75 : decode cX8_canBe 75 = .ok (.ifCond .eq 7, 3) := by decide +kernel
theorem dX8_canBe_78 : decode cX8_canBe 78 = .ok (.iconst 1, 1) := by decide +kernel
theorem dX8_canBe_79 : decode cX8_canBe 79 = .ok (.goto 4, 3) := by decide +kernel
theorem dX8_canBe_82 : decode cX8_canBe 82 = .ok (.iconst 0, 1) := by decide +kernel
theorem dX8_canBe_83 : decode cX8_canBe 83 = .ok (.ireturn, 1) := by decide +kernel
theorem dX8_canBe_84 : decode cX8_canBe 84 = .ok (.iload_n 2, 1) := by decide +kernel
theorem dX8_canBe_85 : decode cX8_canBe 85 = .ok (.invokestatic 85, 3) := by decide +kernel
theorem dX8_canBe_88 : decode cX8_canBe 88 = .ok (.ifCond .eq 14, 3) := by decide +kernel
theorem dX8_canBe_91 : decode cX8_canBe 91 = .ok (.iload_n 3, 1) := by decide +kernel
theorem dX8_canBe_92 : decode cX8_canBe 92 = .ok (.invokestatic 85, 3) := by decide +kernel
theorem dX8_canBe_95 : decode cX8_canBe 95 = .ok (.ifCond .eq 7, 3) := by decide +kernel
theorem dX8_canBe_98 : decode cX8_canBe 98 = .ok (.iconst 1, 1) := by decide +kernel
theorem dX8_canBe_99 : decode cX8_canBe 99 = .ok (.goto 4, 3) := by decide +kernel
theorem dX8_canBe_102 : decode cX8_canBe 102 = .ok (.iconst 0, 1) := by decide +kernel
theorem dX8_canBe_103 : decode cX8_canBe 103 = .ok (.ireturn, 1) := by decide +kernel
theorem dX8_canBe_104 : decode cX8_canBe 104 = .ok (.iload_n 2, 1) := by decide +kernel
theorem dX8_canBe_105 : decode cX8_canBe 105 = .ok (.invokestatic 85, 3) := by decide +kernel
theorem dX8_canBe_108 : decode cX8_canBe 108 = .ok (.ifCond .eq 22, 3) := by decide +kernel
theorem dX8_canBe_111 : decode cX8_canBe 111 = .ok (.iload_n 3, 1) := by decide +kernel
theorem dX8_canBe_112 : decode cX8_canBe 112 = .ok (.invokestatic 85, 3) := by decide +kernel
theorem dX8_canBe_115 : decode cX8_canBe 115 = .ok (.ifCond .eq 15, 3) := by decide +kernel
theorem dX8_canBe_118 : decode cX8_canBe 118 = .ok (.iload 4, 2) := by decide +kernel
theorem dX8_canBe_120 : decode cX8_canBe 120 = .ok (.invokestatic 85, 3) := by decide +kernel
theorem dX8_canBe_123 : decode cX8_canBe 123 = .ok (.ifCond .eq 7, 3) := by decide +kernel
theorem dX8_canBe_126 : decode cX8_canBe 126 = .ok (.iconst 1, 1) := by decide +kernel
theorem dX8_canBe_127 : decode cX8_canBe 127 = .ok (.goto 4, 3) := by decide +kernel
theorem dX8_canBe_130 : decode cX8_canBe 130 = .ok (.iconst 0, 1) := by decide +kernel
theorem dX8_canBe_131 : decode cX8_canBe 131 = .ok (.ireturn, 1) := by decide +kernel
theorem dX8_canBe_132 : decode cX8_canBe 132 = .ok (.iload_n 2, 1) := by decide +kernel
theorem dX8_canBe_133 : decode cX8_canBe 133 = .ok (.invokestatic 85, 3) := by decide +kernel
theorem dX8_canBe_136 : decode cX8_canBe 136 = .ok (.ifCond .eq 27, 3) := by decide +kernel
theorem dX8_canBe_139 : decode cX8_canBe 139 = .ok (.iload_n 3, 1) := by decide +kernel
theorem dX8_canBe_140 : decode cX8_canBe 140 = .ok (.invokestatic 85, 3) := by decide +kernel
theorem dX8_canBe_143 : decode cX8_canBe 143 = .ok (.ifCond .eq 20, 3) := by decide +kernel
theorem dX8_canBe_146 : decode cX8_canBe 146 = .ok (.iload 4, 2) := by decide +kernel
theorem dX8_canBe_148 : decode cX8_canBe 148 = .ok (.i2l, 1) := by decide +kernel
theorem dX8_canBe_149 : decode cX8_canBe 149 = .ok (.lconst 0, 1) := by decide +kernel
theorem dX8_canBe_150 : decode cX8_canBe 150 = .ok (.ldc2_w 97, 3) := by decide +kernel
theorem dX8_canBe_153 : decode cX8_canBe 153 = .ok (.invokestatic 79, 3) := by decide +kernel
theorem dX8_canBe_156 : decode cX8_canBe 156 = .ok (.ifCond .eq 7, 3) := by decide +kernel
theorem dX8_canBe_159 : decode cX8_canBe 159 = .ok (.iconst 1, 1) := by decide +kernel
theorem dX8_canBe_160 : decode cX8_canBe 160 = .ok (.goto 4, 3) := by decide +kernel
theorem dX8_canBe_163 : decode cX8_canBe 163 = .ok (.iconst 0, 1) := by decide +kernel
theorem dX8_canBe_164 : decode cX8_canBe 164 = .ok (.ireturn, 1) := by decide +kernel
theorem dX8_canBe_165 : decode cX8_canBe 165 = .ok (.iload 4, 2) := by decide +kernel
theorem dX8_canBe_167 : decode cX8_canBe 167 = .ok (.i2l, 1) := by decide +kernel
theorem dX8_canBe_168 : decode cX8_canBe 168 = .ok (.lconst 1, 1) := by decide +kernel
theorem dX8_canBe_169 : decode cX8_canBe 169 = .ok (.ldc2_w 97, 3) := by decide +kernel
theorem dX8_canBe_172 : decode cX8_canBe 172 = .ok (.invokestatic 79, 3) := by decide +kernel
theorem dX8_canBe_175 : decode cX8_canBe 175 = .ok (.ifCond .eq 14, 3) := by decide +kernel
theorem dX8_canBe_178 : decode cX8_canBe 178 = .ok (.aload_n 0, 1) := by decide +kernel
theorem dX8_canBe_179 : decode cX8_canBe 179 = .ok (.invokevirtual 99, 3) := by decide +kernel
theorem dX8_canBe_182 : decode cX8_canBe 182 = .ok (.ifCond .ne 7, 3) := by decide +kernel
theorem dX8_canBe_185 : decode cX8_canBe 185 = .ok (.iconst 1, 1) := by decide +kernel
theorem dX8_canBe_186 : decode cX8_canBe 186 = .ok (.goto 4, 3) := by decide +kernel
theorem dX8_canBe_189 : decode cX8_canBe 189 = .ok (.iconst 0, 1) := by decide +kernel
theorem dX8_canBe_190 : decode cX8_canBe 190 = .ok (.ireturn, 1) := by decide +kernel
theorem dX8_canBe_191 : decode cX8_canBe 191 = .ok (.aload_n 0, 1) := by decide +kernel
theorem dX8_canBe_192 : decode cX8_canBe 192 = .ok (.invokevirtual 99, 3) := by decide +kernel
theorem dX8_canBe_195 : decode cX8_canBe 195 = .ok (.ireturn, 1) := by decide +kernel
theorem dX8_canBe_196 : decode cX8_canBe 196 = .ok (.iconst 0, 1) := by decide +kernel
theorem dX8_canBe_197 : decode cX8_canBe 197 = .ok (.ireturn, 1) := by decide +kernel
set_option maxRecDepth 20000 in
theorem ggX8_step_X8_canBe : GoodIn wsX8_step wsX8_canBe := goodIn_r _ [11, 12, 13, 14, 15, 16, 10, 17, 18, 19, 20, 21, 22, 23, 24, 25, 1, 2, 26, 27, 28, 29, 30, 31, 32, 33, 34, 35, 36, 37, 38, 39, 40, 41, 42, 43, 44, 45, 46, 47, 48, 49, 50, 51] (by decide +kernel) (by decide +kernel)
set_option maxRecDepth 20000 in
theorem gX8_step_X8_canBe : GoodIn wsX8_step (wsV RX8 103 RX8 yX8_canBe wsX8_canBe) := goodIn_app (goodIn_of _ (by decide +kernel)) ggX8_step_X8_canBe
theorem dX8_step_0 : decode cX8_step 0 = .ok (.aload_n 0, 1) := by decide +kernel
theorem dX8_step_1 : decode cX8_step 1 = .ok (.iload_n 1, 1) := by decide +kernel
theorem dX8_step_2 : decode cX8_step 2 = .ok (.iload_n 2, 1) := by decide +kernel
theorem dX8_step_3 : decode cX8_step 3 = .ok (.iload_n 3, 1) := by decide +kernel
theorem dX8_step_4 : decode cX8_step 4 = .ok (.iload 4, 2) := by decide +kernel
theorem dX8_step_6 : decode cX8_step 6 = .ok (.invokevirtual 103, 3) := by decide +kernel
theorem dX8_step_9 : decode cX8_step 9 = .ok (.ifCond .eq 12, 3) := by decide +kernel
theorem dX8_step_12 : decode cX8_step 12 = .ok (.aload_n 0, 1) := by decide +kernel
theorem dX8_step_13 : decode cX8_step 13 = .ok (.getfield 75, 3) := by decide +kernel
theorem dX8_step_16 : decode cX8_step 16 = .ok (.bipush 24, 2) := by decide +kernel
theorem dX8_step_18 : decode cX8_step 18 = .ok (.if_icmp .ne 5, 3) := by decide +kernel
theorem dX8_step_21 : decode cX8_step 21 = .ok (.iconst (-1), 1) := by decide +kernel
theorem dX8_step_22 : decode cX8_step 22 = .ok (.ireturn, 1) := by decide +kernel
theorem dX8_step_23 : decode cX8_step 23 = .ok (.aload_n 0, 1) := by decide +kernel
theorem dX8_step_24 : decode cX8_step 24 = .ok (.getfield 23, 3) := by decide +kernel
theorem dX8_step_27 : decode cX8_step 27 = .ok (.aload_n 0, 1) := by decide +kernel
theorem dX8_step_28 : decode cX8_step 28 = .ok (.getfield 75, 3) := by decide +kernel
theorem dX8_step_31 : decode cX8_step 31 = .ok (.iload_n 1, 1) := by decide +kernel
theorem dX8_step_32 : decode cX8_step 32 = .ok (.iastore, 1) := by decide +kernel
theorem dX8_step_33 : decode cX8_step 33 = .ok (.aload_n 0, 1) := by decide +kernel
theorem dX8_step_34 : decode cX8_step 34 = .ok (.getfield 26, 3) := by decide +kernel
theorem dX8_step_37 : decode cX8_step 37 = .ok (.aload_n 0, 1) := by decide +kernel
theorem dX8_step_38 : decode cX8_step 38 = .ok (.getfield 75, 3) := by decide +kernel
theorem dX8_step_41 : decode cX8_step 41 = .ok (.iload_n 2, 1) := by decide +kernel
theorem dX8_step_42 : decode cX8_step 42 = .ok (.iastore, 1) := by decide +kernel
theorem dX8_step_43 : decode cX8_step 43 = .ok (.aload_n 0, 1) := by decide +kernel
theorem dX8_step_44 : decode cX8_step 44 = .ok (.getfield 29, 3) := by decide +kernel
theorem dX8_step_47 : decode cX8_step 47 = .ok (.aload_n 0, 1) := by decide +kernel
theorem dX8_step_48 : decode cX8_step 48 = .ok (.getfield 75, 3) := by decide +kernel
theorem dX8_step_51 : decode cX8_step 51 = .ok (.iload_n 3, 1) := by decide +kernel
theorem dX8_step_52 : decode cX8_step 52 = .ok (.iastore, 1) := by decide +kernel
theorem dX8_step_53 : decode cX8_step 53 = .ok (.aload_n 0, 1) := by decide +kernel
theorem dX8_step_54 : decode cX8_step 54 = .ok (.getfield 32, 3) := by decide +kernel
theorem dX8_step_57 : decode cX8_step 57 = .ok (.aload_n 0, 1) := by decide +kernel
theorem dX8_step_58 : decode cX8_step 58 = .ok (.getfield 75, 3) := by decide +kernel
theorem dX8_step_61 : decode cX8_step 61 = .ok (.iload 4, 2) := by decide +kernel
theorem dX8_step_63 : decode cX8_step 63 = .ok (.iastore, 1) := by decide +kernel
theorem dX8_step_64 : decode cX8_step 64 = .ok (.aload_n 0, 1) := by decide +kernel
theorem dX8_step_65 : decode cX8_step 65 = .ok (.getfield 35, 3) := by decide +kernel
theorem dX8_step_68 : decode cX8_step 68 = .ok (.aload_n 0, 1) := by decide +kernel
theorem dX8_step_69 : decode cX8_step 69 = .ok (.getfield 75, 3) := by decide +kernel
theorem dX8_step_72 : decode cX8_step 72 = .ok (.iconst 0, 1) := by decide +kernel
theorem dX8_step_73 : decode cX8_step 73 = .ok (.bastore, 1) := by decide +kernel
theorem dX8_step_74 : decode cX8_step 74 = .ok (.aload_n 0, 1) := by decide +kernel
theorem dX8_step_75 : decode cX8_step 75 = .ok (.dup, 1) := by decide +kernel
theorem dX8_step_76 : decode cX8_step 76 = .ok (.getfield 75, 3) := by decide +kernel
theorem dX8_step_79 : decode cX8_step 79 = .ok (.iconst 1, 1) := by decide +kernel
theorem dX8_step_80 : decode cX8_step 80 = .ok (.iadd, 1) := by decide +kernel
theorem dX8_step_81 : decode cX8_step 81 = .ok (.putfield 75, 3) := by decide +kernel
theorem dX8_step_84 : decode cX8_step 84 = .ok (.aload_n 0, 1) := by decide +kernel
theorem dX8_step_85 : decode cX8_step 85 = .ok (.getfield 75, 3) := by decide +kernel
theorem dX8_step_88 : decode cX8_step 88 = .ok (.iconst 1, 1) := by decide +kernel
theorem dX8_step_89 : decode cX8_step 89 = .ok (.isub, 1) := by decide +kernel
theorem dX8_step_90 : decode cX8_step 90 = .ok (.ireturn, 1) := by decide +kernel
theorem dX8_back_0 : decode cX8_back 0 = .ok (.aload_n 0, 1) := by decide +kernel
theorem dX8_back_1 : decode cX8_back 1 = .ok (.getfield 75, 3) := by decide +kernel
theorem dX8_back_4 : decode cX8_back 4 = .ok (.ifCond .ne 5, 3) := by decide +kernel
theorem dX8_back_7 : decode cX8_back 7 = .ok (.iconst 0, 1) := by decide +kernel
theorem dX8_back_8 : decode cX8_back 8 = .ok (.ireturn, 1) := by decide +kernel
theorem dX8_back_9 : decode cX8_back 9 = .ok (.aload_n 0, 1) := by decide +kernel
theorem dX8_back_10 : decode cX8_back 10 = .ok (.dup, 1) := by decide +kernel
theorem dX8_back_11 : decode cX8_back 11 = .ok (.getfield 75, 3) := by decide +kernel
theorem dX8_back_14 : decode cX8_back 14 = .ok (.iconst 1, 1) := by decide +kernel
theorem dX8_back_15 : decode cX8_back 15 = .ok (.isub, 1) := by decide +kernel
theorem dX8_back_16 : decode cX8_back 16 = .ok (.putfield 75, 3) := by decide +kernel
theorem dX8_back_19 : decode cX8_back 19 = .ok (.iconst 1, 1) := by decide +kernel
theorem dX8_back_20 : decode cX8_back 20 = .ok (.ireturn, 1) := by decide +kernel
set_option maxRecDepth 20000 in
theorem ggX8_mode_X8_in : GoodIn wsX8_mode wsX8_in := goodIn_r _ [5] (by decide +kernel) (by decide +kernel)
set_option maxRecDepth 20000 in
theorem gX8_mode_X8_in : GoodIn wsX8_mode (va_wsS RX8 79 yX8_in wsX8_in) := goodIn_app (goodIn_of _ (by decide +kernel)) ggX8_mode_X8_in
theorem dX8_mode_0 : decode cX8_mode 0 = .ok (.iload_n 1, 1) := by decide +kernel
theorem dX8_mode_1 : decode cX8_mode 1 = .ok (.i2l, 1) := by decide +kernel
theorem dX8_mode_2 : decode cX8_mode 2 = .ok (.lconst 0, 1) := by decide +kernel
theorem dX8_mode_3 : decode cX8_mode 3 = .ok (.lconst 1, 1) := by decide +kernel
theorem dX8_mode_4 : decode cX8_mode 4 = .ok (.invokestatic 79, 3) := by decide +kernel
theorem dX8_mode_7 : decode cX8_mode 7 = .ok (.ifCond .ne 5, 3) := by decide +kernel
theorem dX8_mode_10 : decode cX8_mode 10 = .ok (.iconst 0, 1) := by decide +kernel
theorem dX8_mode_11 : decode cX8_mode 11 = .ok (.ireturn, 1) := by decide +kernel
theorem dX8_mode_12 : decode cX8_mode 12 = .ok (.aload_n 0, 1) := by decide +kernel
theorem dX8_mode_13 : decode cX8_mode 13 = .ok (.iload_n 1, 1) := by decide +kernel
theorem dX8_mode_14 : decode cX8_mode 14 = .ok (.putfield 107, 3) := by decide +kernel
theorem dX8_mode_17 : decode cX8_mode 17 = .ok (.iconst 1, 1) := by decide +kernel
theorem dX8_mode_18 : decode cX8_mode 18 = .ok (.ireturn, 1) := by decide +kernel
theorem dX8_lays_0 : decode cX8_lays 0 = .ok (.aload_n 0, 1) := by decide +kernel
theorem dX8_lays_1 : decode cX8_lays 1 = .ok (.iconst 0, 1) := by decide +kernel
theorem dX8_lays_2 : decode cX8_lays 2 = .ok (.putfield 110, 3) := by decide +kernel
theorem dX8_lays_5 : decode cX8_lays 5 = .ok (.iconst 0, 1) := by decide +kernel
theorem dX8_lays_6 : decode cX8_lays 6 = .ok (.istore_n 1, 1) := by decide +kernel
theorem dX8_lays_7 : decode cX8_lays 7 = .ok (.iload_n 1, 1) := by decide +kernel
theorem dX8_lays_8 : decode cX8_lays 8 = .ok (.aload_n 0, 1) := by decide +kernel
theorem dX8_lays_9 : decode cX8_lays 9 = .ok (.getfield 75, 3) := by decide +kernel
theorem dX8_lays_12 : decode cX8_lays 12 = .ok (.if_icmp .ge 135, 3) := by decide +kernel
theorem dX8_lays_15 : decode cX8_lays 15 = .ok (.aload_n 0, 1) := by decide +kernel
theorem dX8_lays_16 : decode cX8_lays 16 = .ok (.getfield 23, 3) := by decide +kernel
theorem dX8_lays_19 : decode cX8_lays 19 = .ok (.iload_n 1, 1) := by decide +kernel
theorem dX8_lays_20 : decode cX8_lays 20 = .ok (.iaload, 1) := by decide +kernel
theorem dX8_lays_21 : decode cX8_lays 21 = .ok (.bipush 8, 2) := by decide +kernel
theorem dX8_lays_23 : decode cX8_lays 23 = .ok (.if_icmp .eq 37, 3) := by decide +kernel
theorem dX8_lays_26 : decode cX8_lays 26 = .ok (.aload_n 0, 1) := by decide +kernel
theorem dX8_lays_27 : decode cX8_lays 27 = .ok (.getfield 23, 3) := by decide +kernel
theorem dX8_lays_30 : decode cX8_lays 30 = .ok (.iload_n 1, 1) := by decide +kernel
theorem dX8_lays_31 : decode cX8_lays 31 = .ok (.iaload, 1) := by decide +kernel
theorem dX8_lays_32 : decode cX8_lays 32 = .ok (.bipush 9, 2) := by decide +kernel
theorem dX8_lays_34 : decode cX8_lays 34 = .ok (.if_icmp .eq 20, 3) := by decide +kernel
theorem dX8_lays_37 : decode cX8_lays 37 = .ok (.aload_n 0, 1) := by decide +kernel
theorem dX8_lays_38 : decode cX8_lays 38 = .ok (.getfield 38, 3) := by decide +kernel
theorem dX8_lays_41 : decode cX8_lays 41 = .ok (.aload_n 0, 1) := by decide +kernel
theorem dX8_lays_42 : decode cX8_lays 42 = .ok (.dup, 1) := by decide +kernel
theorem dX8_lays_43 : decode cX8_lays 43 = .ok (.getfield 110, 3) := by decide +kernel
theorem dX8_lays_46 : decode cX8_lays 46 = .ok (.dup_x1, 1) := by decide +kernel
theorem dX8_lays_47 : decode cX8_lays 47 = .ok (.iconst 1, 1) := by decide +kernel
theorem dX8_lays_48 : decode cX8_lays 48 = .ok (.iadd, 1) := by decide +kernel
theorem dX8_lays_49 : decode cX8_lays 49 = .ok (.putfield 110, 3) := by decide +kernel
theorem dX8_lays_52 : decode cX8_lays 52 = .ok (.iload_n 1, 1) := by decide +kernel
theorem dX8_lays_53 : decode cX8_lays 53 = .ok (.iastore, 1) := by decide +kernel
theorem dX8_lays_54 : decode cX8_lays 54 = .ok (.iinc 1 1, 3) := by decide +kernel
theorem dX8_lays_57 : decode cX8_lays 57 = .ok (.goto (-50), 3) := by decide +kernel
theorem dX8_lays_60 : decode cX8_lays 60 = .ok (.iload_n 1, 1) := by decide +kernel
theorem dX8_lays_61 : decode cX8_lays 61 = .ok (.iconst 1, 1) := by decide +kernel
theorem dX8_lays_62 : decode cX8_lays 62 = .ok (.iadd, 1) := by decide +kernel
theorem dX8_lays_63 : decode cX8_lays 63 = .ok (.istore_n 2, 1) := by decide +kernel
theorem dX8_lays_64 : decode cX8_lays 64 = .ok (.iload_n 2, 1) := by decide +kernel
theorem dX8_lays_65 : decode cX8_lays 65 = .ok (.aload_n 0, 1) := by decide +kernel
theorem dX8_lays_66 : decode cX8_lays 66 = .ok (.getfield 75, 3) := by decide +kernel
theorem dX8_lays_69 : decode cX8_lays 69 = .ok (.if_icmp .ge 20, 3) := by decide +kernel
theorem dX8_lays_72 : decode cX8_lays 72 = .ok (.aload_n 0, 1) := by decide +kernel
theorem dX8_lays_73 : decode cX8_lays 73 = .ok (.getfield 23, 3) := by decide +kernel
theorem dX8_lays_76 : decode cX8_lays 76 = .ok (.iload_n 2, 1) := by decide +kernel
theorem dX8_lays_77 : decode cX8_lays 77 = .ok (.iaload, 1) := by decide +kernel
theorem dX8_lays_78 : decode cX8_lays 78 = .ok (.bipush 9, 2) := by decide +kernel
theorem dX8_lays_80 : decode cX8_lays 80 = .ok (.if_icmp .eq 9, 3) := by decide +kernel
theorem dX8_lays_83 : decode cX8_lays 83 = .ok (.iinc 2 1, 3) := by decide +kernel
theorem dX8_lays_86 : decode cX8_lays 86 = .ok (.goto (-22), 3) := by decide +kernel
theorem dX8_lays_89 : decode cX8_lays 89 = .ok (.iconst 0, 1) := by decide +kernel
theorem dX8_lays_90 : decode cX8_lays 90 = .ok (.istore_n 3, 1) := by decide +kernel
theorem dX8_lays_91 : decode cX8_lays 91 = .ok (.iload_n 3, 1) := by decide +kernel
theorem dX8_lays_92 : decode cX8_lays 92 = .ok (.aload_n 0, 1) := by decide +kernel
theorem dX8_lays_93 : decode cX8_lays 93 = .ok (.getfield 32, 3) := by decide +kernel
theorem dX8_lays_96 : decode cX8_lays 96 = .ok (.iload_n 1, 1) := by decide +kernel
theorem dX8_lays_97 : decode cX8_lays 97 = .ok (.iaload, 1) := by decide +kernel
theorem dX8_lays_98 : decode cX8_lays 98 = .ok (.if_icmp .ge 44, 3) := by decide +kernel
theorem dX8_lays_101 : decode cX8_lays 101 = .ok (.iload_n 1, 1) := by decide +kernel
theorem dX8_lays_102 : decode cX8_lays 102 = .ok (.iconst 1, 1) := by decide +kernel
theorem dX8_lays_103 : decode cX8_lays 103 = .ok (.iadd, 1) := by decide +kernel
theorem dX8_lays_104 : decode cX8_lays 104 = .ok (.istore 4, 2) := by decide +kernel
theorem dX8_lays_106 : decode cX8_lays 106 = .ok (.iload 4, 2) := by decide +kernel
theorem dX8_lays_108 : decode cX8_lays 108 = .ok (.iload_n 2, 1) := by decide +kernel
theorem dX8_lays_109 : decode cX8_lays 109 = .ok (.if_icmp .ge 27, 3) := by decide +kernel
theorem dX8_lays_112 : decode cX8_lays 112 = .ok (.aload_n 0, 1) := by decide +kernel
theorem dX8_lays_113 : decode cX8_lays 113 = .ok (.getfield 38, 3) := by decide +kernel
theorem dX8_lays_116 : decode cX8_lays 116 = .ok (.aload_n 0, 1) := by decide +kernel
theorem dX8_lays_117 : decode cX8_lays 117 = .ok (.dup, 1) := by decide +kernel
theorem dX8_lays_118 : decode cX8_lays 118 = .ok (.getfield 110, 3) := by decide +kernel
theorem dX8_lays_121 : decode cX8_lays 121 = .ok (.dup_x1, 1) := by decide +kernel
theorem dX8_lays_122 : decode cX8_lays 122 = .ok (.iconst 1, 1) := by decide +kernel
theorem dX8_lays_123 : decode cX8_lays 123 = .ok (.iadd, 1) := by decide +kernel
theorem dX8_lays_124 : decode cX8_lays 124 = .ok (.putfield 110, 3) := by decide +kernel
theorem dX8_lays_127 : decode cX8_lays 127 = .ok (.iload 4, 2) := by decide +kernel
theorem dX8_lays_129 : decode cX8_lays 129 = .ok (.iastore, 1) := by decide +kernel
theorem dX8_lays_130 : decode cX8_lays 130 = .ok (.iinc 4 1, 3) := by decide +kernel
theorem dX8_lays_133 : decode cX8_lays 133 = .ok (.goto (-27), 3) := by decide +kernel
theorem dX8_lays_136 : decode cX8_lays 136 = .ok (.iinc 3 1, 3) := by decide +kernel
theorem dX8_lays_139 : decode cX8_lays 139 = .ok (.goto (-48), 3) := by decide +kernel
theorem dX8_lays_142 : decode cX8_lays 142 = .ok (.iload_n 2, 1) := by decide +kernel
theorem dX8_lays_143 : decode cX8_lays 143 = .ok (.istore_n 1, 1) := by decide +kernel
theorem dX8_lays_144 : decode cX8_lays 144 = .ok (.goto (-137), 3) := by decide +kernel
theorem dX8_lays_147 : decode cX8_lays 147 = .ok (.return_, 1) := by decide +kernel
theorem dX8_low_0 : decode cX8_low 0 = .ok (.aload_n 0, 1) := by decide +kernel
theorem dX8_low_1 : decode cX8_low 1 = .ok (.getfield 13, 3) := by decide +kernel
theorem dX8_low_4 : decode cX8_low 4 = .ok (.iload_n 1, 1) := by decide +kernel
theorem dX8_low_5 : decode cX8_low 5 = .ok (.baload, 1) := by decide +kernel
theorem dX8_low_6 : decode cX8_low 6 = .ok (.ifCond .eq 17, 3) := by decide +kernel
theorem dX8_low_9 : decode cX8_low 9 = .ok (.lconst 1, 1) := by decide +kernel
theorem dX8_low_10 : decode cX8_low 10 = .ok (.aload_n 0, 1) := by decide +kernel
theorem dX8_low_11 : decode cX8_low 11 = .ok (.getfield 9, 3) := by decide +kernel
theorem dX8_low_14 : decode cX8_low 14 = .ok (.iload_n 1, 1) := by decide +kernel
theorem dX8_low_15 : decode cX8_low 15 = .ok (.iaload, 1) := by decide +kernel
theorem dX8_low_16 : decode cX8_low 16 = .ok (.iconst 1, 1) := by decide +kernel
theorem dX8_low_17 : decode cX8_low 17 = .ok (.isub, 1) := by decide +kernel
theorem dX8_low_18 : decode cX8_low 18 = .ok (.lshl, 1) := by decide +kernel
theorem dX8_low_19 : decode cX8_low 19 = .ok (.lneg, 1) := by decide +kernel
theorem dX8_low_20 : decode cX8_low 20 = .ok (.goto 4, 3) := by decide +kernel
theorem dX8_low_23 : decode cX8_low 23 = .ok (.lconst 0, 1) := by decide +kernel
theorem dX8_low_24 : decode cX8_low 24 = .ok (.lreturn, 1) := by decide +kernel
theorem dX8_high_0 : decode cX8_high 0 = .ok (.lconst 1, 1) := by decide +kernel
theorem dX8_high_1 : decode cX8_high 1 = .ok (.aload_n 0, 1) := by decide +kernel
theorem dX8_high_2 : decode cX8_high 2 = .ok (.getfield 13, 3) := by decide +kernel
theorem dX8_high_5 : decode cX8_high 5 = .ok (.iload_n 1, 1) := by decide +kernel
theorem dX8_high_6 : decode cX8_high 6 = .ok (.baload, 1) := by decide +kernel
theorem dX8_high_7 : decode cX8_high 7 = .ok (.ifCond .eq 14, 3) := by decide +kernel
theorem dX8_high_10 : decode cX8_high 10 = .ok (.aload_n 0, 1) := by decide +kernel
theorem dX8_high_11 : decode cX8_high 11 = .ok (.getfield 9, 3) := by decide +kernel
theorem dX8_high_14 : decode cX8_high 14 = .ok (.iload_n 1, 1) := by decide +kernel
theorem dX8_high_15 : decode cX8_high 15 = .ok (.iaload, 1) := by decide +kernel
theorem dX8_high_16 : decode cX8_high 16 = .ok (.iconst 1, 1) := by decide +kernel
theorem dX8_high_17 : decode cX8_high 17 = .ok (.isub, 1) := by decide +kernel
theorem dX8_high_18 : decode cX8_high 18 = .ok (.goto 9, 3) := by decide +kernel
theorem dX8_high_21 : decode cX8_high 21 = .ok (.aload_n 0, 1) := by decide +kernel
theorem dX8_high_22 : decode cX8_high 22 = .ok (.getfield 9, 3) := by decide +kernel
theorem dX8_high_25 : decode cX8_high 25 = .ok (.iload_n 1, 1) := by decide +kernel
theorem dX8_high_26 : decode cX8_high 26 = .ok (.iaload, 1) := by decide +kernel
theorem dX8_high_27 : decode cX8_high 27 = .ok (.lshl, 1) := by decide +kernel
theorem dX8_high_28 : decode cX8_high 28 = .ok (.lconst 1, 1) := by decide +kernel
theorem dX8_high_29 : decode cX8_high 29 = .ok (.lsub, 1) := by decide +kernel
theorem dX8_high_30 : decode cX8_high 30 = .ok (.lreturn, 1) := by decide +kernel
theorem dX8_rest_0 : decode cX8_rest 0 = .ok (.lload_n 0, 1) := by decide +kernel
theorem dX8_rest_1 : decode cX8_rest 1 = .ok (.lload_n 2, 1) := by decide +kernel
theorem dX8_rest_2 : decode cX8_rest 2 = .ok (.lrem, 1) := by decide +kernel
theorem dX8_rest_3 : decode cX8_rest 3 = .ok (.lstore 4, 2) := by decide +kernel
theorem dX8_rest_5 : decode cX8_rest 5 = .ok (.lload 4, 2) := by decide +kernel
theorem dX8_rest_7 : decode cX8_rest 7 = .ok (.lconst 0, 1) := by decide +kernel
theorem dX8_rest_8 : decode cX8_rest 8 = .ok (.lcmp, 1) := by decide +kernel
theorem dX8_rest_9 : decode cX8_rest 9 = .ok (.ifCond .ge 10, 3) := by decide +kernel
theorem dX8_rest_12 : decode cX8_rest 12 = .ok (.lload 4, 2) := by decide +kernel
theorem dX8_rest_14 : decode cX8_rest 14 = .ok (.lload_n 2, 1) := by decide +kernel
theorem dX8_rest_15 : decode cX8_rest 15 = .ok (.ladd, 1) := by decide +kernel
theorem dX8_rest_16 : decode cX8_rest 16 = .ok (.goto 5, 3) := by decide +kernel
theorem dX8_rest_19 : decode cX8_rest 19 = .ok (.lload 4, 2) := by decide +kernel
theorem dX8_rest_21 : decode cX8_rest 21 = .ok (.lreturn, 1) := by decide +kernel
set_option maxRecDepth 20000 in
theorem ggX8_put_X8_low : GoodIn wsX8_put wsX8_low := goodIn_r _ [7, 8, 2, 19, 20, 21, 22, 23, 24, 25, 26, 27, 28, 29, 30, 31, 32, 33, 34, 35, 36, 37, 38, 39, 40, 41, 42, 43, 44] (by decide +kernel) (by decide +kernel)
set_option maxRecDepth 20000 in
theorem gX8_put_X8_low : GoodIn wsX8_put (wsV RX8 113 RX8 yX8_low wsX8_low) := goodIn_app (goodIn_of _ (by decide +kernel)) ggX8_put_X8_low
set_option maxRecDepth 20000 in
theorem ggX8_put_X8_high : GoodIn wsX8_put wsX8_high := goodIn_r _ [12, 8, 2, 19, 20, 21, 22, 23, 24, 25, 26, 27, 28, 29, 30, 31, 32, 33, 34, 35, 36, 37, 38, 39, 40, 41, 42, 43, 44] (by decide +kernel) (by decide +kernel)
set_option maxRecDepth 20000 in
theorem gX8_put_X8_high : GoodIn wsX8_put (wsV RX8 117 RX8 yX8_high wsX8_high) := goodIn_app (goodIn_of _ (by decide +kernel)) ggX8_put_X8_high
set_option maxRecDepth 20000 in
theorem ggX8_put_X8_in : GoodIn wsX8_put wsX8_in := goodIn_r _ [15] (by decide +kernel) (by decide +kernel)
set_option maxRecDepth 20000 in
theorem gX8_put_X8_in : GoodIn wsX8_put (va_wsS RX8 79 yX8_in wsX8_in) := goodIn_app (goodIn_of _ (by decide +kernel)) ggX8_put_X8_in
set_option maxRecDepth 20000 in
theorem ggX8_put_X8_rest : GoodIn wsX8_put wsX8_rest := goodIn_r _ [18] (by decide +kernel) (by decide +kernel)
set_option maxRecDepth 20000 in
theorem gX8_put_X8_rest : GoodIn wsX8_put (va_wsS RX8 120 yX8_rest wsX8_rest) := goodIn_app (goodIn_of _ (by decide +kernel)) ggX8_put_X8_rest
theorem dX8_put_0 : decode cX8_put 0 = .ok (.lload_n 2, 1) := by decide +kernel
theorem dX8_put_1 : decode cX8_put 1 = .ok (.aload_n 0, 1) := by decide +kernel
theorem dX8_put_2 : decode cX8_put 2 = .ok (.iload_n 1, 1) := by decide +kernel
theorem dX8_put_3 : decode cX8_put 3 = .ok (.invokevirtual 113, 3) := by decide +kernel
theorem dX8_put_6 : decode cX8_put 6 = .ok (.aload_n 0, 1) := by decide +kernel
theorem dX8_put_7 : decode cX8_put 7 = .ok (.iload_n 1, 1) := by decide +kernel
theorem dX8_put_8 : decode cX8_put 8 = .ok (.invokevirtual 117, 3) := by decide +kernel
theorem dX8_put_11 : decode cX8_put 11 = .ok (.invokestatic 79, 3) := by decide +kernel
theorem dX8_put_14 : decode cX8_put 14 = .ok (.ifCond .eq 5, 3) := by decide +kernel
theorem dX8_put_17 : decode cX8_put 17 = .ok (.lload_n 2, 1) := by decide +kernel
theorem dX8_put_18 : decode cX8_put 18 = .ok (.lreturn, 1) := by decide +kernel
theorem dX8_put_19 : decode cX8_put 19 = .ok (.aload_n 0, 1) := by decide +kernel
theorem dX8_put_20 : decode cX8_put 20 = .ok (.getfield 107, 3) := by decide +kernel
theorem dX8_put_23 : decode cX8_put 23 = .ok (.iconst 1, 1) := by decide +kernel
theorem dX8_put_24 : decode cX8_put 24 = .ok (.if_icmp .ne 27, 3) := by decide +kernel
theorem dX8_put_27 : decode cX8_put 27 = .ok (.lload_n 2, 1) := by decide +kernel
theorem dX8_put_28 : decode cX8_put 28 = .ok (.aload_n 0, 1) := by decide +kernel
theorem dX8_put_29 : decode cX8_put 29 = .ok (.iload_n 1, 1) := by decide +kernel
theorem dX8_put_30 : decode cX8_put 30 = .ok (.invokevirtual 113, 3) := by decide +kernel
theorem dX8_put_33 : decode cX8_put 33 = .ok (.lcmp, 1) := by decide +kernel
theorem dX8_put_34 : decode cX8_put 34 = .ok (.ifCond .ge 11, 3) := by decide +kernel
theorem dX8_put_37 : decode cX8_put 37 = .ok (.aload_n 0, 1) := by decide +kernel
theorem dX8_put_38 : decode cX8_put 38 = .ok (.iload_n 1, 1) := by decide +kernel
theorem dX8_put_39 : decode cX8_put 39 = .ok (.invokevirtual 113, 3) := by decide +kernel
theorem dX8_put_42 : decode cX8_put 42 = .ok (.goto 8, 3) := by decide +kernel
theorem dX8_put_45 : decode cX8_put 45 = .ok (.aload_n 0, 1) := by decide +kernel
theorem dX8_put_46 : decode cX8_put 46 = .ok (.iload_n 1, 1) := by decide +kernel
theorem dX8_put_47 : decode cX8_put 47 = .ok (.invokevirtual 117, 3) := by decide +kernel
theorem dX8_put_50 : decode cX8_put 50 = .ok (.lreturn, 1) := by decide +kernel
theorem dX8_put_51 : decode cX8_put 51 = .ok (.aload_n 0, 1) := by decide +kernel
theorem dX8_put_52 : decode cX8_put 52 = .ok (.iload_n 1, 1) := by decide +kernel
theorem dX8_put_53 : decode cX8_put 53 = .ok (.invokevirtual 113, 3) := by decide +kernel
theorem dX8_put_56 : decode cX8_put 56 = .ok (.lload_n 2, 1) := by decide +kernel
theorem dX8_put_57 : decode cX8_put 57 = .ok (.aload_n 0, 1) := by decide +kernel
theorem dX8_put_58 : decode cX8_put 58 = .ok (.iload_n 1, 1) := by decide +kernel
theorem dX8_put_59 : decode cX8_put 59 = .ok (.invokevirtual 113, 3) := by decide +kernel
theorem dX8_put_62 : decode cX8_put 62 = .ok (.lsub, 1) := by decide +kernel
theorem dX8_put_63 : decode cX8_put 63 = .ok (.lconst 1, 1) := by decide +kernel
theorem dX8_put_64 : decode cX8_put 64 = .ok (.aload_n 0, 1) := by decide +kernel
theorem dX8_put_65 : decode cX8_put 65 = .ok (.getfield 9, 3) := by decide +kernel
theorem dX8_put_68 : decode cX8_put 68 = .ok (.iload_n 1, 1) := by decide +kernel
theorem dX8_put_69 : decode cX8_put 69 = .ok (.iaload, 1) := by decide +kernel
theorem dX8_put_70 : decode cX8_put 70 = .ok (.lshl, 1) := by decide +kernel
theorem dX8_put_71 : decode cX8_put 71 = .ok (.invokestatic 120, 3) := by decide +kernel
theorem dX8_put_74 : decode cX8_put 74 = .ok (.ladd, 1) := by decide +kernel
theorem dX8_put_75 : decode cX8_put 75 = .ok (.lreturn, 1) := by decide +kernel
set_option maxRecDepth 20000 in
theorem ggX8_goesOver_X8_low : GoodIn wsX8_goesOver wsX8_low := goodIn_r _ [5, 6, 7, 15, 16, 17, 18, 19, 20, 21, 22, 23, 24, 25, 26, 27, 28, 29, 30, 31, 32, 33, 34, 35, 36, 37, 38, 39, 40] (by decide +kernel) (by decide +kernel)
set_option maxRecDepth 20000 in
theorem gX8_goesOver_X8_low : GoodIn wsX8_goesOver (wsV RX8 113 RX8 yX8_low wsX8_low) := goodIn_app (goodIn_of _ (by decide +kernel)) ggX8_goesOver_X8_low
set_option maxRecDepth 20000 in
theorem ggX8_goesOver_X8_high : GoodIn wsX8_goesOver wsX8_high := goodIn_r _ [11, 6, 7, 15, 16, 17, 18, 19, 20, 21, 22, 23, 24, 25, 26, 27, 28, 29, 30, 31, 32, 33, 34, 35, 36, 37, 38, 39, 40] (by decide +kernel) (by decide +kernel)
set_option maxRecDepth 20000 in
theorem gX8_goesOver_X8_high : GoodIn wsX8_goesOver (wsV RX8 117 RX8 yX8_high wsX8_high) := goodIn_app (goodIn_of _ (by decide +kernel)) ggX8_goesOver_X8_high
set_option maxRecDepth 20000 in
theorem ggX8_goesOver_X8_in : GoodIn wsX8_goesOver wsX8_in := goodIn_r _ [14] (by decide +kernel) (by decide +kernel)
set_option maxRecDepth 20000 in
theorem gX8_goesOver_X8_in : GoodIn wsX8_goesOver (va_wsS RX8 79 yX8_in wsX8_in) := goodIn_app (goodIn_of _ (by decide +kernel)) ggX8_goesOver_X8_in
theorem dX8_goesOver_0 : decode cX8_goesOver 0 = .ok (.lload_n 2, 1) := by decide +kernel
theorem dX8_goesOver_1 : decode cX8_goesOver 1 = .ok (.aload_n 0, 1) := by decide +kernel
theorem dX8_goesOver_2 : decode cX8_goesOver 2 = .ok (.iload_n 1, 1) := by decide +kernel
theorem dX8_goesOver_3 : decode cX8_goesOver 3 = .ok (.invokevirtual 113, 3) := by decide +kernel
theorem dX8_goesOver_6 : decode cX8_goesOver 6 = .ok (.aload_n 0, 1) := by decide +kernel
theorem dX8_goesOver_7 : decode cX8_goesOver 7 = .ok (.iload_n 1, 1) := by decide +kernel
theorem dX8_goesOver_8 : decode cX8_goesOver 8 = .ok (.invokevirtual 117, 3) := by decide +kernel
theorem dX8_goesOver_11 : decode cX8_goesOver 11 = .ok (.invokestatic 79, 3) := by decide +kernel
theorem dX8_goesOver_14 : decode cX8_goesOver 14 = .ok (.ifCond .ne 7, 3) := by decide +kernel
theorem dX8_goesOver_17 : decode cX8_goesOver 17 = .ok (.iconst 1, 1) := by decide +kernel
theorem dX8_goesOver_18 : decode cX8_goesOver 18 = .ok (.goto 4, 3) := by decide +kernel
theorem dX8_goesOver_21 : decode cX8_goesOver 21 = .ok (.iconst 0, 1) := by decide +kernel
theorem dX8_goesOver_22 : decode cX8_goesOver 22 = .ok (.ireturn, 1) := by decide +kernel
set_option maxRecDepth 20000 in
theorem ggX8_belowOf_X8_rest : GoodIn wsX8_belowOf wsX8_rest := goodIn_r _ [13] (by decide +kernel) (by decide +kernel)
set_option maxRecDepth 20000 in
theorem gX8_belowOf_X8_rest : GoodIn wsX8_belowOf (va_wsS RX8 120 yX8_rest wsX8_rest) := goodIn_app (goodIn_of _ (by decide +kernel)) ggX8_belowOf_X8_rest
theorem dX8_belowOf_0 : decode cX8_belowOf 0 = .ok (.aload_n 0, 1) := by decide +kernel
theorem dX8_belowOf_1 : decode cX8_belowOf 1 = .ok (.getfield 41, 3) := by decide +kernel
theorem dX8_belowOf_4 : decode cX8_belowOf 4 = .ok (.aload_n 0, 1) := by decide +kernel
theorem dX8_belowOf_5 : decode cX8_belowOf 5 = .ok (.getfield 29, 3) := by decide +kernel
theorem dX8_belowOf_8 : decode cX8_belowOf 8 = .ok (.iload_n 1, 1) := by decide +kernel
theorem dX8_belowOf_9 : decode cX8_belowOf 9 = .ok (.iaload, 1) := by decide +kernel
theorem dX8_belowOf_10 : decode cX8_belowOf 10 = .ok (.laload, 1) := by decide +kernel
theorem dX8_belowOf_11 : decode cX8_belowOf 11 = .ok (.lstore_n 2, 1) := by decide +kernel
theorem dX8_belowOf_12 : decode cX8_belowOf 12 = .ok (.aload_n 0, 1) := by decide +kernel
theorem dX8_belowOf_13 : decode cX8_belowOf 13 = .ok (.getfield 41, 3) := by decide +kernel
theorem dX8_belowOf_16 : decode cX8_belowOf 16 = .ok (.aload_n 0, 1) := by decide +kernel
theorem dX8_belowOf_17 : decode cX8_belowOf 17 = .ok (.getfield 32, 3) := by decide +kernel
theorem dX8_belowOf_20 : decode cX8_belowOf 20 = .ok (.iload_n 1, 1) := by decide +kernel
theorem dX8_belowOf_21 : decode cX8_belowOf 21 = .ok (.iaload, 1) := by decide +kernel
theorem dX8_belowOf_22 : decode cX8_belowOf 22 = .ok (.laload, 1) := by decide +kernel
theorem dX8_belowOf_23 : decode cX8_belowOf 23 = .ok (.lstore 4, 2) := by decide +kernel
theorem dX8_belowOf_25 : decode cX8_belowOf 25 = .ok (.aload_n 0, 1) := by decide +kernel
theorem dX8_belowOf_26 : decode cX8_belowOf 26 = .ok (.getfield 13, 3) := by decide +kernel
theorem dX8_belowOf_29 : decode cX8_belowOf 29 = .ok (.aload_n 0, 1) := by decide +kernel
theorem dX8_belowOf_30 : decode cX8_belowOf 30 = .ok (.getfield 29, 3) := by decide +kernel
theorem dX8_belowOf_33 : decode cX8_belowOf 33 = .ok (.iload_n 1, 1) := by decide +kernel
theorem dX8_belowOf_34 : decode cX8_belowOf 34 = .ok (.iaload, 1) := by decide +kernel
theorem dX8_belowOf_35 : decode cX8_belowOf 35 = .ok (.baload, 1) := by decide +kernel
theorem dX8_belowOf_36 : decode cX8_belowOf 36 = .ok (.aload_n 0, 1) := by decide +kernel
theorem dX8_belowOf_37 : decode cX8_belowOf 37 = .ok (.getfield 13, 3) := by decide +kernel
theorem dX8_belowOf_40 : decode cX8_belowOf 40 = .ok (.aload_n 0, 1) := by decide +kernel
theorem dX8_belowOf_41 : decode cX8_belowOf 41 = .ok (.getfield 32, 3) := by decide +kernel
theorem dX8_belowOf_44 : decode cX8_belowOf 44 = .ok (.iload_n 1, 1) := by decide +kernel
theorem dX8_belowOf_45 : decode cX8_belowOf 45 = .ok (.iaload, 1) := by decide +kernel
theorem dX8_belowOf_46 : decode cX8_belowOf 46 = .ok (.baload, 1) := by decide +kernel
theorem dX8_belowOf_47 : decode cX8_belowOf 47 = .ok (.if_icmp .ne 16, 3) := by decide +kernel
theorem dX8_belowOf_50 : decode cX8_belowOf 50 = .ok (.lload_n 2, 1) := by decide +kernel
theorem dX8_belowOf_51 : decode cX8_belowOf 51 = .ok (.lload 4, 2) := by decide +kernel
theorem dX8_belowOf_53 : decode cX8_belowOf 53 = .ok (.lcmp, 1) := by decide +kernel
theorem dX8_belowOf_54 : decode cX8_belowOf 54 = .ok (.ifCond .ge 7, 3) := by decide +kernel
theorem dX8_belowOf_57 : decode cX8_belowOf 57 = .ok (.iconst 1, 1) := by decide +kernel
theorem dX8_belowOf_58 : decode cX8_belowOf 58 = .ok (.goto 4, 3) := by decide +kernel
theorem dX8_belowOf_61 : decode cX8_belowOf 61 = .ok (.iconst 0, 1) := by decide +kernel
theorem dX8_belowOf_62 : decode cX8_belowOf 62 = .ok (.ireturn, 1) := by decide +kernel
theorem dX8_belowOf_63 : decode cX8_belowOf 63 = .ok (.lconst 1, 1) := by decide +kernel
theorem dX8_belowOf_64 : decode cX8_belowOf 64 = .ok (.aload_n 0, 1) := by decide +kernel
theorem dX8_belowOf_65 : decode cX8_belowOf 65 = .ok (.getfield 9, 3) := by decide +kernel
theorem dX8_belowOf_68 : decode cX8_belowOf 68 = .ok (.aload_n 0, 1) := by decide +kernel
theorem dX8_belowOf_69 : decode cX8_belowOf 69 = .ok (.getfield 29, 3) := by decide +kernel
theorem dX8_belowOf_72 : decode cX8_belowOf 72 = .ok (.iload_n 1, 1) := by decide +kernel
theorem dX8_belowOf_73 : decode cX8_belowOf 73 = .ok (.iaload, 1) := by decide +kernel
theorem dX8_belowOf_74 : decode cX8_belowOf 74 = .ok (.iaload, 1) := by decide +kernel
theorem dX8_belowOf_75 : decode cX8_belowOf 75 = .ok (.aload_n 0, 1) := by decide +kernel
theorem dX8_belowOf_76 : decode cX8_belowOf 76 = .ok (.getfield 9, 3) := by decide +kernel
theorem dX8_belowOf_79 : decode cX8_belowOf 79 = .ok (.aload_n 0, 1) := by decide +kernel
theorem dX8_belowOf_80 : decode cX8_belowOf 80 = .ok (.getfield 32, 3) := by decide +kernel
theorem dX8_belowOf_83 : decode cX8_belowOf 83 = .ok (.iload_n 1, 1) := by decide +kernel
theorem dX8_belowOf_84 : decode cX8_belowOf 84 = .ok (.iaload, 1) := by decide +kernel
theorem dX8_belowOf_85 : decode cX8_belowOf 85 = .ok (.iaload, 1) := by decide +kernel
theorem dX8_belowOf_86 : decode cX8_belowOf 86 = .ok (.invokestatic 124, 3) := by decide +kernel
theorem dX8_belowOf_89 : decode cX8_belowOf 89 = .ok (.lshl, 1) := by decide +kernel
theorem dX8_belowOf_90 : decode cX8_belowOf 90 = .ok (.lstore 6, 2) := by decide +kernel
theorem dX8_belowOf_92 : decode cX8_belowOf 92 = .ok (.lload_n 2, 1) := by decide +kernel
theorem dX8_belowOf_93 : decode cX8_belowOf 93 = .ok (.lload 6, 2) := by decide +kernel
theorem dX8_belowOf_95 : decode cX8_belowOf 95 = .ok (.invokestatic 120, 3) := by decide +kernel
theorem dX8_belowOf_98 : decode cX8_belowOf 98 = .ok (.lload 4, 2) := by decide +kernel
theorem dX8_belowOf_100 : decode cX8_belowOf 100 = .ok (.lload 6, 2) := by decide +kernel
theorem dX8_belowOf_102 : decode cX8_belowOf 102 = .ok (.invokestatic 120, 3) := by decide +kernel
theorem dX8_belowOf_105 : decode cX8_belowOf 105 = .ok (.lcmp, 1) := by decide +kernel
theorem dX8_belowOf_106 : decode cX8_belowOf 106 = .ok (.ifCond .ge 7, 3) := by decide +kernel
theorem dX8_belowOf_109 : decode cX8_belowOf 109 = .ok (.iconst 1, 1) := by decide +kernel
theorem dX8_belowOf_110 : decode cX8_belowOf 110 = .ok (.goto 4, 3) := by decide +kernel
theorem dX8_belowOf_113 : decode cX8_belowOf 113 = .ok (.iconst 0, 1) := by decide +kernel
theorem dX8_belowOf_114 : decode cX8_belowOf 114 = .ok (.ireturn, 1) := by decide +kernel
set_option maxRecDepth 20000 in
theorem ggX8_valueOf_X8_belowOf : GoodIn wsX8_valueOf wsX8_belowOf := goodIn_r _ [13, 3, 4, 2, 14, 15, 16, 17, 7, 18, 19, 20, 12, 21, 22, 23, 24, 25, 26, 27, 28, 29, 30, 31, 32, 33, 34, 35, 36, 37, 38, 39, 40, 41, 42, 43, 44, 45, 46, 47] (by decide +kernel) (by decide +kernel)
set_option maxRecDepth 20000 in
theorem gX8_valueOf_X8_belowOf : GoodIn wsX8_valueOf (wsV RX8 133 RX8 yX8_belowOf wsX8_belowOf) := goodIn_app (goodIn_of _ (by decide +kernel)) ggX8_valueOf_X8_belowOf
theorem dX8_valueOf_0 : decode cX8_valueOf 0 = .ok (.aload_n 0, 1) := by decide +kernel
theorem dX8_valueOf_1 : decode cX8_valueOf 1 = .ok (.getfield 23, 3) := by decide +kernel
theorem dX8_valueOf_4 : decode cX8_valueOf 4 = .ok (.iload_n 1, 1) := by decide +kernel
theorem dX8_valueOf_5 : decode cX8_valueOf 5 = .ok (.iaload, 1) := by decide +kernel
theorem dX8_valueOf_6 : decode cX8_valueOf 6 = .ok (.tableswitch 181 0 6 #[42, 50, 62, 86, 110, 134, 155], 42) := by decide +kernel
theorem dX8_valueOf_48 : decode cX8_valueOf 48 = .ok (.aload_n 0, 1) := by decide +kernel
theorem dX8_valueOf_49 : decode cX8_valueOf 49 = .ok (.getfield 32, 3) := by decide +kernel
theorem dX8_valueOf_52 : decode cX8_valueOf 52 = .ok (.iload_n 1, 1) := by decide +kernel
theorem dX8_valueOf_53 : decode cX8_valueOf 53 = .ok (.iaload, 1) := by decide +kernel
theorem dX8_valueOf_54 : decode cX8_valueOf 54 = .ok (.i2l, 1) := by decide +kernel
theorem dX8_valueOf_55 : decode cX8_valueOf 55 = .ok (.lreturn, 1) := by decide +kernel
theorem dX8_valueOf_56 : decode cX8_valueOf 56 = .ok (.aload_n 0, 1) := by decide +kernel
theorem dX8_valueOf_57 : decode cX8_valueOf 57 = .ok (.getfield 41, 3) := by decide +kernel
theorem dX8_valueOf_60 : decode cX8_valueOf 60 = .ok (.aload_n 0, 1) := by decide +kernel
theorem dX8_valueOf_61 : decode cX8_valueOf 61 = .ok (.getfield 29, 3) := by decide +kernel
theorem dX8_valueOf_64 : decode cX8_valueOf 64 = .ok (.iload_n 1, 1) := by decide +kernel
theorem dX8_valueOf_65 : decode cX8_valueOf 65 = .ok (.iaload, 1) := by decide +kernel
theorem dX8_valueOf_66 : decode cX8_valueOf 66 = .ok (.laload, 1) := by decide +kernel
theorem dX8_valueOf_67 : decode cX8_valueOf 67 = .ok (.lreturn, 1) := by decide +kernel
theorem dX8_valueOf_68 : decode cX8_valueOf 68 = .ok (.aload_n 0, 1) := by decide +kernel
theorem dX8_valueOf_69 : decode cX8_valueOf 69 = .ok (.getfield 41, 3) := by decide +kernel
theorem dX8_valueOf_72 : decode cX8_valueOf 72 = .ok (.aload_n 0, 1) := by decide +kernel
theorem dX8_valueOf_73 : decode cX8_valueOf 73 = .ok (.getfield 29, 3) := by decide +kernel
theorem dX8_valueOf_76 : decode cX8_valueOf 76 = .ok (.iload_n 1, 1) := by decide +kernel
theorem dX8_valueOf_77 : decode cX8_valueOf 77 = .ok (.iaload, 1) := by decide +kernel
theorem dX8_valueOf_78 : decode cX8_valueOf 78 = .ok (.laload, 1) := by decide +kernel
theorem dX8_valueOf_79 : decode cX8_valueOf 79 = .ok (.aload_n 0, 1) := by decide +kernel
theorem dX8_valueOf_80 : decode cX8_valueOf 80 = .ok (.getfield 41, 3) := by decide +kernel
theorem dX8_valueOf_83 : decode cX8_valueOf 83 = .ok (.aload_n 0, 1) := by decide +kernel
theorem dX8_valueOf_84 : decode cX8_valueOf 84 = .ok (.getfield 32, 3) := by decide +kernel
theorem dX8_valueOf_87 : decode cX8_valueOf 87 = .ok (.iload_n 1, 1) := by decide +kernel
theorem dX8_valueOf_88 : decode cX8_valueOf 88 = .ok (.iaload, 1) := by decide +kernel
theorem dX8_valueOf_89 : decode cX8_valueOf 89 = .ok (.laload, 1) := by decide +kernel
theorem dX8_valueOf_90 : decode cX8_valueOf 90 = .ok (.ladd, 1) := by decide +kernel
theorem dX8_valueOf_91 : decode cX8_valueOf 91 = .ok (.lreturn, 1) := by decide +kernel
theorem dX8_valueOf_92 : decode cX8_valueOf 92 = .ok (.aload_n 0, 1) := by decide +kernel
theorem dX8_valueOf_93 : decode cX8_valueOf 93 = .ok (.getfield 41, 3) := by decide +kernel
theorem dX8_valueOf_96 : decode cX8_valueOf 96 = .ok (.aload_n 0, 1) := by decide +kernel
theorem dX8_valueOf_97 : decode cX8_valueOf 97 = .ok (.getfield 29, 3) := by decide +kernel
theorem dX8_valueOf_100 : decode cX8_valueOf 100 = .ok (.iload_n 1, 1) := by decide +kernel
theorem dX8_valueOf_101 : decode cX8_valueOf 101 = .ok (.iaload, 1) := by decide +kernel
theorem dX8_valueOf_102 : decode cX8_valueOf 102 = .ok (.laload, 1) := by decide +kernel
theorem dX8_valueOf_103 : decode cX8_valueOf 103 = .ok (.aload_n 0, 1) := by decide +kernel
theorem dX8_valueOf_104 : decode cX8_valueOf 104 = .ok (.getfield 41, 3) := by decide +kernel
theorem dX8_valueOf_107 : decode cX8_valueOf 107 = .ok (.aload_n 0, 1) := by decide +kernel
theorem dX8_valueOf_108 : decode cX8_valueOf 108 = .ok (.getfield 32, 3) := by decide +kernel
theorem dX8_valueOf_111 : decode cX8_valueOf 111 = .ok (.iload_n 1, 1) := by decide +kernel
theorem dX8_valueOf_112 : decode cX8_valueOf 112 = .ok (.iaload, 1) := by decide +kernel
theorem dX8_valueOf_113 : decode cX8_valueOf 113 = .ok (.laload, 1) := by decide +kernel
theorem dX8_valueOf_114 : decode cX8_valueOf 114 = .ok (.lsub, 1) := by decide +kernel
theorem dX8_valueOf_115 : decode cX8_valueOf 115 = .ok (.lreturn, 1) := by decide +kernel
theorem dX8_valueOf_116 : decode cX8_valueOf 116 = .ok (.aload_n 0, 1) := by decide +kernel
theorem dX8_valueOf_117 : decode cX8_valueOf 117 = .ok (.getfield 41, 3) := by decide +kernel
theorem dX8_valueOf_120 : decode cX8_valueOf 120 = .ok (.aload_n 0, 1) := by decide +kernel
theorem dX8_valueOf_121 : decode cX8_valueOf 121 = .ok (.getfield 29, 3) := by decide +kernel
theorem dX8_valueOf_124 : decode cX8_valueOf 124 = .ok (.iload_n 1, 1) := by decide +kernel
theorem dX8_valueOf_125 : decode cX8_valueOf 125 = .ok (.iaload, 1) := by decide +kernel
theorem dX8_valueOf_126 : decode cX8_valueOf 126 = .ok (.laload, 1) := by decide +kernel
theorem dX8_valueOf_127 : decode cX8_valueOf 127 = .ok (.aload_n 0, 1) := by decide +kernel
theorem dX8_valueOf_128 : decode cX8_valueOf 128 = .ok (.getfield 41, 3) := by decide +kernel
theorem dX8_valueOf_131 : decode cX8_valueOf 131 = .ok (.aload_n 0, 1) := by decide +kernel
theorem dX8_valueOf_132 : decode cX8_valueOf 132 = .ok (.getfield 32, 3) := by decide +kernel
theorem dX8_valueOf_135 : decode cX8_valueOf 135 = .ok (.iload_n 1, 1) := by decide +kernel
theorem dX8_valueOf_136 : decode cX8_valueOf 136 = .ok (.iaload, 1) := by decide +kernel
theorem dX8_valueOf_137 : decode cX8_valueOf 137 = .ok (.laload, 1) := by decide +kernel
theorem dX8_valueOf_138 : decode cX8_valueOf 138 = .ok (.lmul, 1) := by decide +kernel
theorem dX8_valueOf_139 : decode cX8_valueOf 139 = .ok (.lreturn, 1) := by decide +kernel
theorem dX8_valueOf_140 : decode cX8_valueOf 140 = .ok (.aload_n 0, 1) := by decide +kernel
theorem dX8_valueOf_141 : decode cX8_valueOf 141 = .ok (.getfield 41, 3) := by decide +kernel
theorem dX8_valueOf_144 : decode cX8_valueOf 144 = .ok (.aload_n 0, 1) := by decide +kernel
theorem dX8_valueOf_145 : decode cX8_valueOf 145 = .ok (.getfield 29, 3) := by decide +kernel
theorem dX8_valueOf_148 : decode cX8_valueOf 148 = .ok (.iload_n 1, 1) := by decide +kernel
theorem dX8_valueOf_149 : decode cX8_valueOf 149 = .ok (.iaload, 1) := by decide +kernel
theorem dX8_valueOf_150 : decode cX8_valueOf 150 = .ok (.laload, 1) := by decide +kernel
theorem dX8_valueOf_151 : decode cX8_valueOf 151 = .ok (.lconst 1, 1) := by decide +kernel
theorem dX8_valueOf_152 : decode cX8_valueOf 152 = .ok (.aload_n 0, 1) := by decide +kernel
theorem dX8_valueOf_153 : decode cX8_valueOf 153 = .ok (.getfield 32, 3) := by decide +kernel
theorem dX8_valueOf_156 : decode cX8_valueOf 156 = .ok (.iload_n 1, 1) := by decide +kernel
theorem dX8_valueOf_157 : decode cX8_valueOf 157 = .ok (.iaload, 1) := by decide +kernel
theorem dX8_valueOf_158 : decode cX8_valueOf 158 = .ok (.lshl, 1) := by decide +kernel
theorem dX8_valueOf_159 : decode cX8_valueOf 159 = .ok (.lmul, 1) := by decide +kernel
theorem dX8_valueOf_160 : decode cX8_valueOf 160 = .ok (.lreturn, 1) := by decide +kernel
theorem dX8_valueOf_161 : decode cX8_valueOf 161 = .ok (.aload_n 0, 1) := by decide +kernel
theorem dX8_valueOf_162 : decode cX8_valueOf 162 = .ok (.getfield 41, 3) := by decide +kernel
theorem dX8_valueOf_165 : decode cX8_valueOf 165 = .ok (.aload_n 0, 1) := by decide +kernel
theorem dX8_valueOf_166 : decode cX8_valueOf 166 = .ok (.getfield 29, 3) := by decide +kernel
theorem dX8_valueOf_169 : decode cX8_valueOf 169 = .ok (.iload_n 1, 1) := by decide +kernel
theorem dX8_valueOf_170 : decode cX8_valueOf 170 = .ok (.iaload, 1) := by decide +kernel
theorem dX8_valueOf_171 : decode cX8_valueOf 171 = .ok (.laload, 1) := by decide +kernel
theorem dX8_valueOf_172 : decode cX8_valueOf 172 = .ok (.aload_n 0, 1) := by decide +kernel
theorem dX8_valueOf_173 : decode cX8_valueOf 173 = .ok (.getfield 41, 3) := by decide +kernel
theorem dX8_valueOf_176 : decode cX8_valueOf 176 = .ok (.aload_n 0, 1) := by decide +kernel
theorem dX8_valueOf_177 : decode cX8_valueOf 177 = .ok (.getfield 32, 3) := by decide +kernel
theorem dX8_valueOf_180 : decode cX8_valueOf 180 = .ok (.iload_n 1, 1) := by decide +kernel
theorem dX8_valueOf_181 : decode cX8_valueOf 181 = .ok (.iaload, 1) := by decide +kernel
theorem dX8_valueOf_182 : decode cX8_valueOf 182 = .ok (.laload, 1) := by decide +kernel
theorem dX8_valueOf_183 : decode cX8_valueOf 183 = .ok (.invokestatic 130, 3) := by decide +kernel
theorem dX8_valueOf_186 : decode cX8_valueOf 186 = .ok (.lreturn, 1) := by decide +kernel
theorem dX8_valueOf_187 : decode cX8_valueOf 187 = .ok (.aload_n 0, 1) := by decide +kernel
theorem dX8_valueOf_188 : decode cX8_valueOf 188 = .ok (.iload_n 1, 1) := by decide +kernel
theorem dX8_valueOf_189 : decode cX8_valueOf 189 = .ok (.invokevirtual 133, 3) := by decide +kernel
theorem dX8_valueOf_192 : decode cX8_valueOf 192 = .ok (.ifCond .eq 7, 3) := by decide +kernel
theorem dX8_valueOf_195 : decode cX8_valueOf 195 = .ok (.lconst 1, 1) := by decide +kernel
theorem dX8_valueOf_196 : decode cX8_valueOf 196 = .ok (.goto 4, 3) := by decide +kernel
theorem dX8_valueOf_199 : decode cX8_valueOf 199 = .ok (.lconst 0, 1) := by decide +kernel
theorem dX8_valueOf_200 : decode cX8_valueOf 200 = .ok (.lreturn, 1) := by decide +kernel
set_option maxRecDepth 20000 in
theorem ggX8_runs_X8_put : GoodIn wsX8_runs wsX8_put := goodIn_r _ [16, 17, 18, 19, 20, 21, 15, 22, 23, 24, 25, 26, 27, 28, 29, 30, 31, 32, 33, 53, 54, 55, 56, 57, 58, 59, 60, 61, 62, 63, 64, 65, 66, 67, 68, 69, 70, 71, 72, 73, 74, 75, 76, 77, 78] (by decide +kernel) (by decide +kernel)
set_option maxRecDepth 20000 in
theorem gX8_runs_X8_put : GoodIn wsX8_runs (wsV RX8 139 RX8 yX8_put wsX8_put) := goodIn_app (goodIn_of _ (by decide +kernel)) ggX8_runs_X8_put
set_option maxRecDepth 20000 in
theorem ggX8_runs_X8_valueOf : GoodIn wsX8_runs wsX8_valueOf := goodIn_r _ [37, 8, 10, 1, 9, 38, 39, 40, 41, 42, 43, 44, 15, 45, 23, 18, 46, 47, 48, 31, 32, 33, 53, 54, 55, 56, 57, 58, 59, 60, 61, 62, 63, 64, 65, 66, 67, 68, 69, 70, 71, 72, 73, 74, 75, 76, 77, 78] (by decide +kernel) (by decide +kernel)
set_option maxRecDepth 20000 in
theorem gX8_runs_X8_valueOf : GoodIn wsX8_runs (wsV RX8 143 RX8 yX8_valueOf wsX8_valueOf) := goodIn_app (goodIn_of _ (by decide +kernel)) ggX8_runs_X8_valueOf
set_option maxRecDepth 20000 in
theorem ggX8_runs_X8_goesOver : GoodIn wsX8_runs wsX8_goesOver := goodIn_r _ [52, 19, 20, 21, 15, 22, 23, 18, 24, 25, 26, 27, 28, 29, 30, 53, 54, 55, 56, 57, 58, 59, 60, 61, 62, 63, 64, 65, 66, 67, 68, 69, 70, 71, 72, 73, 74, 75, 76, 77, 78] (by decide +kernel) (by decide +kernel)
set_option maxRecDepth 20000 in
theorem gX8_runs_X8_goesOver : GoodIn wsX8_runs (wsV RX8 146 RX8 yX8_goesOver wsX8_goesOver) := goodIn_app (goodIn_of _ (by decide +kernel)) ggX8_runs_X8_goesOver
theorem dX8_runs_0 : decode cX8_runs 0 = .ok (.iconst 0, 1) := by decide +kernel
theorem dX8_runs_1 : decode cX8_runs 1 = .ok (.istore_n 3, 1) := by decide +kernel
theorem dX8_runs_2 : decode cX8_runs 2 = .ok (.iload_n 3, 1) := by decide +kernel
theorem dX8_runs_3 : decode cX8_runs 3 = .ok (.bipush 6, 2) := by decide +kernel
theorem dX8_runs_5 : decode cX8_runs 5 = .ok (.if_icmp .ge 16, 3) := by decide +kernel
theorem dX8_runs_8 : decode cX8_runs 8 = .ok (.aload_n 0, 1) := by decide +kernel
theorem dX8_runs_9 : decode cX8_runs 9 = .ok (.getfield 41, 3) := by decide +kernel
theorem dX8_runs_12 : decode cX8_runs 12 = .ok (.iload_n 3, 1) := by decide +kernel
theorem dX8_runs_13 : decode cX8_runs 13 = .ok (.lconst 0, 1) := by decide +kernel
theorem dX8_runs_14 : decode cX8_runs 14 = .ok (.lastore, 1) := by decide +kernel
theorem dX8_runs_15 : decode cX8_runs 15 = .ok (.iinc 3 1, 3) := by decide +kernel
theorem dX8_runs_18 : decode cX8_runs 18 = .ok (.goto (-16), 3) := by decide +kernel
theorem dX8_runs_21 : decode cX8_runs 21 = .ok (.iconst 0, 1) := by decide +kernel
theorem dX8_runs_22 : decode cX8_runs 22 = .ok (.istore_n 3, 1) := by decide +kernel
theorem dX8_runs_23 : decode cX8_runs 23 = .ok (.iload_n 3, 1) := by decide +kernel
theorem dX8_runs_24 : decode cX8_runs 24 = .ok (.aload_n 0, 1) := by decide +kernel
theorem dX8_runs_25 : decode cX8_runs 25 = .ok (.getfield 75, 3) := by decide +kernel
theorem dX8_runs_28 : decode cX8_runs 28 = .ok (.if_icmp .ge 23, 3) := by decide +kernel
theorem dX8_runs_31 : decode cX8_runs 31 = .ok (.aload_n 0, 1) := by decide +kernel
theorem dX8_runs_32 : decode cX8_runs 32 = .ok (.getfield 45, 3) := by decide +kernel
theorem dX8_runs_35 : decode cX8_runs 35 = .ok (.iload_n 3, 1) := by decide +kernel
theorem dX8_runs_36 : decode cX8_runs 36 = .ok (.iconst 0, 1) := by decide +kernel
theorem dX8_runs_37 : decode cX8_runs 37 = .ok (.bastore, 1) := by decide +kernel
theorem dX8_runs_38 : decode cX8_runs 38 = .ok (.aload_n 0, 1) := by decide +kernel
theorem dX8_runs_39 : decode cX8_runs 39 = .ok (.getfield 48, 3) := by decide +kernel
theorem dX8_runs_42 : decode cX8_runs 42 = .ok (.iload_n 3, 1) := by decide +kernel
theorem dX8_runs_43 : decode cX8_runs 43 = .ok (.iconst 0, 1) := by decide +kernel
theorem dX8_runs_44 : decode cX8_runs 44 = .ok (.bastore, 1) := by decide +kernel
theorem dX8_runs_45 : decode cX8_runs 45 = .ok (.iinc 3 1, 3) := by decide +kernel
theorem dX8_runs_48 : decode cX8_runs 48 = .ok (.goto (-25), 3) := by decide +kernel
theorem dX8_runs_51 : decode cX8_runs 51 = .ok (.aload_n 0, 1) := by decide +kernel
theorem dX8_runs_52 : decode cX8_runs 52 = .ok (.iconst (-1), 1) := by decide +kernel
theorem dX8_runs_53 : decode cX8_runs 53 = .ok (.putfield 136, 3) := by decide +kernel
theorem dX8_runs_56 : decode cX8_runs 56 = .ok (.aload_n 0, 1) := by decide +kernel
theorem dX8_runs_57 : decode cX8_runs 57 = .ok (.getfield 41, 3) := by decide +kernel
theorem dX8_runs_60 : decode cX8_runs 60 = .ok (.iconst 0, 1) := by decide +kernel
theorem dX8_runs_61 : decode cX8_runs 61 = .ok (.aload_n 0, 1) := by decide +kernel
theorem dX8_runs_62 : decode cX8_runs 62 = .ok (.iconst 0, 1) := by decide +kernel
theorem dX8_runs_63 : decode cX8_runs 63 = .ok (.iload_n 1, 1) := by decide +kernel
theorem dX8_runs_64 : decode cX8_runs 64 = .ok (.i2l, 1) := by decide +kernel
theorem dX8_runs_65 : decode cX8_runs 65 = .ok (.invokevirtual 139, 3) := by decide +kernel
theorem dX8_runs_68 : decode cX8_runs 68 = .ok (.lastore, 1) := by decide +kernel
theorem dX8_runs_69 : decode cX8_runs 69 = .ok (.aload_n 0, 1) := by decide +kernel
theorem dX8_runs_70 : decode cX8_runs 70 = .ok (.getfield 41, 3) := by decide +kernel
theorem dX8_runs_73 : decode cX8_runs 73 = .ok (.iconst 1, 1) := by decide +kernel
theorem dX8_runs_74 : decode cX8_runs 74 = .ok (.aload_n 0, 1) := by decide +kernel
theorem dX8_runs_75 : decode cX8_runs 75 = .ok (.iconst 1, 1) := by decide +kernel
theorem dX8_runs_76 : decode cX8_runs 76 = .ok (.iload_n 2, 1) := by decide +kernel
theorem dX8_runs_77 : decode cX8_runs 77 = .ok (.i2l, 1) := by decide +kernel
theorem dX8_runs_78 : decode cX8_runs 78 = .ok (.invokevirtual 139, 3) := by decide +kernel
theorem dX8_runs_81 : decode cX8_runs 81 = .ok (.lastore, 1) := by decide +kernel
theorem dX8_runs_82 : decode cX8_runs 82 = .ok (.iconst 0, 1) := by decide +kernel
theorem dX8_runs_83 : decode cX8_runs 83 = .ok (.istore_n 3, 1) := by decide +kernel
theorem dX8_runs_84 : decode cX8_runs 84 = .ok (.iload_n 3, 1) := by decide +kernel
theorem dX8_runs_85 : decode cX8_runs 85 = .ok (.aload_n 0, 1) := by decide +kernel
theorem dX8_runs_86 : decode cX8_runs 86 = .ok (.getfield 110, 3) := by decide +kernel
theorem dX8_runs_89 : decode cX8_runs 89 = .ok (.if_icmp .ge 156, 3) := by decide +kernel
theorem dX8_runs_92 : decode cX8_runs 92 = .ok (.aload_n 0, 1) := by decide +kernel
theorem dX8_runs_93 : decode cX8_runs 93 = .ok (.getfield 38, 3) := by decide +kernel
theorem dX8_runs_96 : decode cX8_runs 96 = .ok (.iload_n 3, 1) := by decide +kernel
theorem dX8_runs_97 : decode cX8_runs 97 = .ok (.iaload, 1) := by decide +kernel
theorem dX8_runs_98 : decode cX8_runs 98 = .ok (.istore 4, 2) := by decide +kernel
theorem dX8_runs_100 : decode cX8_runs 100 = .ok (.aload_n 0, 1) := by decide +kernel
theorem dX8_runs_101 : decode cX8_runs 101 = .ok (.iload 4, 2) := by decide +kernel
theorem dX8_runs_103 : decode cX8_runs 103 = .ok (.invokevirtual 143, 3) := by decide +kernel
theorem dX8_runs_106 : decode cX8_runs 106 = .ok (.lstore 5, 2) := by decide +kernel
theorem dX8_runs_108 : decode cX8_runs 108 = .ok (.aload_n 0, 1) := by decide +kernel
theorem dX8_runs_109 : decode cX8_runs 109 = .ok (.getfield 23, 3) := by decide +kernel
theorem dX8_runs_112 : decode cX8_runs 112 = .ok (.iload 4, 2) := by decide +kernel
theorem dX8_runs_114 : decode cX8_runs 114 = .ok (.iaload, 1) := by decide +kernel
theorem dX8_runs_115 : decode cX8_runs 115 = .ok (.bipush 7, 2) := by decide +kernel
theorem dX8_runs_117 : decode cX8_runs 117 = .ok (.if_icmp .ne 59, 3) := by decide +kernel
theorem dX8_runs_120 : decode cX8_runs 120 = .ok (.lload 5, 2) := by decide +kernel
theorem dX8_runs_122 : decode cX8_runs 122 = .ok (.lconst 1, 1) := by decide +kernel
theorem dX8_runs_123 : decode cX8_runs 123 = .ok (.lcmp, 1) := by decide +kernel
theorem dX8_runs_124 : decode cX8_runs 124 = .ok (.ifCond .ne 7, 3) := by decide +kernel
theorem dX8_runs_127 : decode cX8_runs 127 = .ok (.iconst 1, 1) := by decide +kernel
theorem dX8_runs_128 : decode cX8_runs 128 = .ok (.goto 4, 3) := by decide +kernel
theorem dX8_runs_131 : decode cX8_runs 131 = .ok (.iconst 0, 1) := by decide +kernel
theorem dX8_runs_132 : decode cX8_runs 132 = .ok (.aload_n 0, 1) := by decide +kernel
theorem dX8_runs_133 : decode cX8_runs 133 = .ok (.getfield 41, 3) := by decide +kernel
theorem dX8_runs_136 : decode cX8_runs 136 = .ok (.aload_n 0, 1) := by decide +kernel
theorem dX8_runs_137 : decode cX8_runs 137 = .ok (.getfield 29, 3) := by decide +kernel
theorem dX8_runs_140 : decode cX8_runs 140 = .ok (.iload 4, 2) := by decide +kernel
theorem dX8_runs_142 : decode cX8_runs 142 = .ok (.iaload, 1) := by decide +kernel
theorem dX8_runs_143 : decode cX8_runs 143 = .ok (.laload, 1) := by decide +kernel
theorem dX8_runs_144 : decode cX8_runs 144 = .ok (.aload_n 0, 1) := by decide +kernel
theorem dX8_runs_145 : decode cX8_runs 145 = .ok (.getfield 41, 3) := by decide +kernel
theorem dX8_runs_148 : decode cX8_runs 148 = .ok (.aload_n 0, 1) := by decide +kernel
theorem dX8_runs_149 : decode cX8_runs 149 = .ok (.getfield 32, 3) := by decide +kernel
end
section
theorem dX8_runs_152 : decode cX8_runs 152 = .ok (.iload 4, 2) := by decide +kernel
theorem dX8_runs_154 : decode cX8_runs 154 = .ok (.iaload, 1) := by decide +kernel
theorem dX8_runs_155 : decode cX8_runs 155 = .ok (.laload, 1) := by decide +kernel
theorem dX8_runs_156 : decode cX8_runs 156 = .ok (.lcmp, 1) := by decide +kernel
theorem dX8_runs_157 : decode cX8_runs 157 = .ok (.ifCond .ge 7, 3) := by decide +kernel
theorem dX8_runs_160 : decode cX8_runs 160 = .ok (.iconst 1, 1) := by decide +kernel
theorem dX8_runs_161 : decode cX8_runs 161 = .ok (.goto 4, 3) := by decide +kernel
theorem dX8_runs_164 : decode cX8_runs 164 = .ok (.iconst 0, 1) := by decide +kernel
theorem dX8_runs_165 : decode cX8_runs 165 = .ok (.if_icmp .eq 11, 3) := by decide +kernel
theorem dX8_runs_168 : decode cX8_runs 168 = .ok (.aload_n 0, 1) := by decide +kernel
theorem dX8_runs_169 : decode cX8_runs 169 = .ok (.getfield 48, 3) := by decide +kernel
theorem dX8_runs_172 : decode cX8_runs 172 = .ok (.iload 4, 2) := by decide +kernel
theorem dX8_runs_174 : decode cX8_runs 174 = .ok (.iconst 1, 1) := by decide +kernel
theorem dX8_runs_175 : decode cX8_runs 175 = .ok (.bastore, 1) := by decide +kernel
theorem dX8_runs_176 : decode cX8_runs 176 = .ok (.aload_n 0, 1) := by decide +kernel
theorem dX8_runs_177 : decode cX8_runs 177 = .ok (.aload_n 0, 1) := by decide +kernel
theorem dX8_runs_178 : decode cX8_runs 178 = .ok (.getfield 26, 3) := by decide +kernel
theorem dX8_runs_181 : decode cX8_runs 181 = .ok (.iload 4, 2) := by decide +kernel
theorem dX8_runs_183 : decode cX8_runs 183 = .ok (.iaload, 1) := by decide +kernel
theorem dX8_runs_184 : decode cX8_runs 184 = .ok (.lload 5, 2) := by decide +kernel
theorem dX8_runs_186 : decode cX8_runs 186 = .ok (.invokevirtual 146, 3) := by decide +kernel
theorem dX8_runs_189 : decode cX8_runs 189 = .ok (.ifCond .eq 25, 3) := by decide +kernel
theorem dX8_runs_192 : decode cX8_runs 192 = .ok (.aload_n 0, 1) := by decide +kernel
theorem dX8_runs_193 : decode cX8_runs 193 = .ok (.getfield 45, 3) := by decide +kernel
theorem dX8_runs_196 : decode cX8_runs 196 = .ok (.iload 4, 2) := by decide +kernel
theorem dX8_runs_198 : decode cX8_runs 198 = .ok (.iconst 1, 1) := by decide +kernel
theorem dX8_runs_199 : decode cX8_runs 199 = .ok (.bastore, 1) := by decide +kernel
theorem dX8_runs_200 : decode cX8_runs 200 = .ok (.aload_n 0, 1) := by decide +kernel
theorem dX8_runs_201 : decode cX8_runs 201 = .ok (.getfield 136, 3) := by decide +kernel
theorem dX8_runs_204 : decode cX8_runs 204 = .ok (.iconst (-1), 1) := by decide +kernel
theorem dX8_runs_205 : decode cX8_runs 205 = .ok (.if_icmp .ne 9, 3) := by decide +kernel
theorem dX8_runs_208 : decode cX8_runs 208 = .ok (.aload_n 0, 1) := by decide +kernel
theorem dX8_runs_209 : decode cX8_runs 209 = .ok (.iload 4, 2) := by decide +kernel
theorem dX8_runs_211 : decode cX8_runs 211 = .ok (.putfield 136, 3) := by decide +kernel
theorem dX8_runs_214 : decode cX8_runs 214 = .ok (.aload_n 0, 1) := by decide +kernel
theorem dX8_runs_215 : decode cX8_runs 215 = .ok (.getfield 41, 3) := by decide +kernel
theorem dX8_runs_218 : decode cX8_runs 218 = .ok (.aload_n 0, 1) := by decide +kernel
theorem dX8_runs_219 : decode cX8_runs 219 = .ok (.getfield 26, 3) := by decide +kernel
theorem dX8_runs_222 : decode cX8_runs 222 = .ok (.iload 4, 2) := by decide +kernel
theorem dX8_runs_224 : decode cX8_runs 224 = .ok (.iaload, 1) := by decide +kernel
theorem dX8_runs_225 : decode cX8_runs 225 = .ok (.aload_n 0, 1) := by decide +kernel
theorem dX8_runs_226 : decode cX8_runs 226 = .ok (.aload_n 0, 1) := by decide +kernel
theorem dX8_runs_227 : decode cX8_runs 227 = .ok (.getfield 26, 3) := by decide +kernel
theorem dX8_runs_230 : decode cX8_runs 230 = .ok (.iload 4, 2) := by decide +kernel
theorem dX8_runs_232 : decode cX8_runs 232 = .ok (.iaload, 1) := by decide +kernel
theorem dX8_runs_233 : decode cX8_runs 233 = .ok (.lload 5, 2) := by decide +kernel
theorem dX8_runs_235 : decode cX8_runs 235 = .ok (.invokevirtual 139, 3) := by decide +kernel
theorem dX8_runs_238 : decode cX8_runs 238 = .ok (.lastore, 1) := by decide +kernel
theorem dX8_runs_239 : decode cX8_runs 239 = .ok (.iinc 3 1, 3) := by decide +kernel
theorem dX8_runs_242 : decode cX8_runs 242 = .ok (.goto (-158), 3) := by decide +kernel
theorem dX8_runs_245 : decode cX8_runs 245 = .ok (.return_, 1) := by decide +kernel
theorem dX8_many_0 : decode cX8_many 0 = .ok (.aload_n 0, 1) := by decide +kernel
theorem dX8_many_1 : decode cX8_many 1 = .ok (.getfield 20, 3) := by decide +kernel
theorem dX8_many_4 : decode cX8_many 4 = .ok (.iconst 0, 1) := by decide +kernel
theorem dX8_many_5 : decode cX8_many 5 = .ok (.iaload, 1) := by decide +kernel
theorem dX8_many_6 : decode cX8_many 6 = .ok (.aload_n 0, 1) := by decide +kernel
theorem dX8_many_7 : decode cX8_many 7 = .ok (.getfield 17, 3) := by decide +kernel
theorem dX8_many_10 : decode cX8_many 10 = .ok (.iconst 0, 1) := by decide +kernel
theorem dX8_many_11 : decode cX8_many 11 = .ok (.iaload, 1) := by decide +kernel
theorem dX8_many_12 : decode cX8_many 12 = .ok (.isub, 1) := by decide +kernel
theorem dX8_many_13 : decode cX8_many 13 = .ok (.iconst 1, 1) := by decide +kernel
theorem dX8_many_14 : decode cX8_many 14 = .ok (.iadd, 1) := by decide +kernel
theorem dX8_many_15 : decode cX8_many 15 = .ok (.aload_n 0, 1) := by decide +kernel
theorem dX8_many_16 : decode cX8_many 16 = .ok (.getfield 20, 3) := by decide +kernel
theorem dX8_many_19 : decode cX8_many 19 = .ok (.iconst 1, 1) := by decide +kernel
theorem dX8_many_20 : decode cX8_many 20 = .ok (.iaload, 1) := by decide +kernel
theorem dX8_many_21 : decode cX8_many 21 = .ok (.aload_n 0, 1) := by decide +kernel
theorem dX8_many_22 : decode cX8_many 22 = .ok (.getfield 17, 3) := by decide +kernel
theorem dX8_many_25 : decode cX8_many 25 = .ok (.iconst 1, 1) := by decide +kernel
theorem dX8_many_26 : decode cX8_many 26 = .ok (.iaload, 1) := by decide +kernel
theorem dX8_many_27 : decode cX8_many 27 = .ok (.isub, 1) := by decide +kernel
theorem dX8_many_28 : decode cX8_many 28 = .ok (.iconst 1, 1) := by decide +kernel
theorem dX8_many_29 : decode cX8_many 29 = .ok (.iadd, 1) := by decide +kernel
theorem dX8_many_30 : decode cX8_many 30 = .ok (.imul, 1) := by decide +kernel
theorem dX8_many_31 : decode cX8_many 31 = .ok (.ireturn, 1) := by decide +kernel
set_option maxRecDepth 20000 in
theorem ggX8_all_X8_lays : GoodIn wsX8_all wsX8_lays := goodIn_r _ [15, 16, 2, 17, 18, 19, 67, 68, 69, 70, 71, 72, 73, 74, 75, 76, 77, 78, 79, 80, 81, 82, 83, 84, 85, 86, 87, 88, 89, 90, 91, 92] (by decide +kernel) (by decide +kernel)
set_option maxRecDepth 20000 in
theorem gX8_all_X8_lays : GoodIn wsX8_all (wsV RX8 150 RX8 yX8_lays wsX8_lays) := goodIn_app (goodIn_of _ (by decide +kernel)) ggX8_all_X8_lays
set_option maxRecDepth 20000 in
theorem ggX8_all_X8_runs : GoodIn wsX8_all wsX8_runs := goodIn_r _ [23, 24, 2, 10, 9, 8, 16, 18, 17, 25, 19, 26, 27, 28, 29, 14, 30, 31, 32, 33, 34, 35, 36, 37, 38, 39, 40, 41, 42, 43, 44, 45, 46, 47, 48, 49, 50, 51, 52, 53, 54, 55, 56, 57, 58, 59, 60, 61, 62, 63, 64, 65, 66, 67, 68, 69, 70, 71, 72, 73, 74, 75, 76, 77, 78, 79, 80, 81, 82, 83, 84, 85, 86, 87, 88, 89, 90, 91, 92] (by decide +kernel) (by decide +kernel)
set_option maxRecDepth 20000 in
theorem gX8_all_X8_runs : GoodIn wsX8_all (wsV RX8 156 RX8 yX8_runs wsX8_runs) := goodIn_app (goodIn_of _ (by decide +kernel)) ggX8_all_X8_runs
theorem dX8_all_0 : decode cX8_all 0 = .ok (.aload_n 0, 1) := by decide +kernel
theorem dX8_all_1 : decode cX8_all 1 = .ok (.invokevirtual 150, 3) := by decide +kernel
theorem dX8_all_4 : decode cX8_all 4 = .ok (.aload_n 0, 1) := by decide +kernel
theorem dX8_all_5 : decode cX8_all 5 = .ok (.iconst 0, 1) := by decide +kernel
theorem dX8_all_6 : decode cX8_all 6 = .ok (.putfield 153, 3) := by decide +kernel
theorem dX8_all_9 : decode cX8_all 9 = .ok (.iconst 0, 1) := by decide +kernel
theorem dX8_all_10 : decode cX8_all 10 = .ok (.istore_n 1, 1) := by decide +kernel
theorem dX8_all_11 : decode cX8_all 11 = .ok (.iload_n 1, 1) := by decide +kernel
theorem dX8_all_12 : decode cX8_all 12 = .ok (.aload_n 0, 1) := by decide +kernel
theorem dX8_all_13 : decode cX8_all 13 = .ok (.getfield 75, 3) := by decide +kernel
theorem dX8_all_16 : decode cX8_all 16 = .ok (.if_icmp .ge 30, 3) := by decide +kernel
theorem dX8_all_19 : decode cX8_all 19 = .ok (.aload_n 0, 1) := by decide +kernel
theorem dX8_all_20 : decode cX8_all 20 = .ok (.getfield 51, 3) := by decide +kernel
theorem dX8_all_23 : decode cX8_all 23 = .ok (.iload_n 1, 1) := by decide +kernel
theorem dX8_all_24 : decode cX8_all 24 = .ok (.iconst 0, 1) := by decide +kernel
theorem dX8_all_25 : decode cX8_all 25 = .ok (.iastore, 1) := by decide +kernel
theorem dX8_all_26 : decode cX8_all 26 = .ok (.aload_n 0, 1) := by decide +kernel
theorem dX8_all_27 : decode cX8_all 27 = .ok (.getfield 54, 3) := by decide +kernel
theorem dX8_all_30 : decode cX8_all 30 = .ok (.iload_n 1, 1) := by decide +kernel
theorem dX8_all_31 : decode cX8_all 31 = .ok (.iconst 0, 1) := by decide +kernel
theorem dX8_all_32 : decode cX8_all 32 = .ok (.iastore, 1) := by decide +kernel
theorem dX8_all_33 : decode cX8_all 33 = .ok (.aload_n 0, 1) := by decide +kernel
theorem dX8_all_34 : decode cX8_all 34 = .ok (.getfield 57, 3) := by decide +kernel
theorem dX8_all_37 : decode cX8_all 37 = .ok (.iload_n 1, 1) := by decide +kernel
theorem dX8_all_38 : decode cX8_all 38 = .ok (.iconst (-1), 1) := by decide +kernel
theorem dX8_all_39 : decode cX8_all 39 = .ok (.iastore, 1) := by decide +kernel
theorem dX8_all_40 : decode cX8_all 40 = .ok (.iinc 1 1, 3) := by decide +kernel
theorem dX8_all_43 : decode cX8_all 43 = .ok (.goto (-32), 3) := by decide +kernel
theorem dX8_all_46 : decode cX8_all 46 = .ok (.aload_n 0, 1) := by decide +kernel
theorem dX8_all_47 : decode cX8_all 47 = .ok (.getfield 17, 3) := by decide +kernel
theorem dX8_all_50 : decode cX8_all 50 = .ok (.iconst 0, 1) := by decide +kernel
theorem dX8_all_51 : decode cX8_all 51 = .ok (.iaload, 1) := by decide +kernel
theorem dX8_all_52 : decode cX8_all 52 = .ok (.istore_n 1, 1) := by decide +kernel
theorem dX8_all_53 : decode cX8_all 53 = .ok (.iload_n 1, 1) := by decide +kernel
theorem dX8_all_54 : decode cX8_all 54 = .ok (.aload_n 0, 1) := by decide +kernel
theorem dX8_all_55 : decode cX8_all 55 = .ok (.getfield 20, 3) := by decide +kernel
theorem dX8_all_58 : decode cX8_all 58 = .ok (.iconst 0, 1) := by decide +kernel
theorem dX8_all_59 : decode cX8_all 59 = .ok (.iaload, 1) := by decide +kernel
theorem dX8_all_60 : decode cX8_all 60 = .ok (.if_icmp .gt 149, 3) := by decide +kernel
theorem dX8_all_63 : decode cX8_all 63 = .ok (.aload_n 0, 1) := by decide +kernel
theorem dX8_all_64 : decode cX8_all 64 = .ok (.getfield 17, 3) := by decide +kernel
theorem dX8_all_67 : decode cX8_all 67 = .ok (.iconst 1, 1) := by decide +kernel
theorem dX8_all_68 : decode cX8_all 68 = .ok (.iaload, 1) := by decide +kernel
theorem dX8_all_69 : decode cX8_all 69 = .ok (.istore_n 2, 1) := by decide +kernel
theorem dX8_all_70 : decode cX8_all 70 = .ok (.iload_n 2, 1) := by decide +kernel
theorem dX8_all_71 : decode cX8_all 71 = .ok (.aload_n 0, 1) := by decide +kernel
theorem dX8_all_72 : decode cX8_all 72 = .ok (.getfield 20, 3) := by decide +kernel
theorem dX8_all_75 : decode cX8_all 75 = .ok (.iconst 1, 1) := by decide +kernel
theorem dX8_all_76 : decode cX8_all 76 = .ok (.iaload, 1) := by decide +kernel
theorem dX8_all_77 : decode cX8_all 77 = .ok (.if_icmp .gt 126, 3) := by decide +kernel
theorem dX8_all_80 : decode cX8_all 80 = .ok (.aload_n 0, 1) := by decide +kernel
theorem dX8_all_81 : decode cX8_all 81 = .ok (.iload_n 1, 1) := by decide +kernel
theorem dX8_all_82 : decode cX8_all 82 = .ok (.iload_n 2, 1) := by decide +kernel
theorem dX8_all_83 : decode cX8_all 83 = .ok (.invokevirtual 156, 3) := by decide +kernel
theorem dX8_all_86 : decode cX8_all 86 = .ok (.aload_n 0, 1) := by decide +kernel
theorem dX8_all_87 : decode cX8_all 87 = .ok (.getfield 136, 3) := by decide +kernel
theorem dX8_all_90 : decode cX8_all 90 = .ok (.iconst (-1), 1) := by decide +kernel
theorem dX8_all_91 : decode cX8_all 91 = .ok (.if_icmp .eq 13, 3) := by decide +kernel
theorem dX8_all_94 : decode cX8_all 94 = .ok (.aload_n 0, 1) := by decide +kernel
theorem dX8_all_95 : decode cX8_all 95 = .ok (.dup, 1) := by decide +kernel
theorem dX8_all_96 : decode cX8_all 96 = .ok (.getfield 153, 3) := by decide +kernel
theorem dX8_all_99 : decode cX8_all 99 = .ok (.iconst 1, 1) := by decide +kernel
theorem dX8_all_100 : decode cX8_all 100 = .ok (.iadd, 1) := by decide +kernel
theorem dX8_all_101 : decode cX8_all 101 = .ok (.putfield 153, 3) := by decide +kernel
theorem dX8_all_104 : decode cX8_all 104 = .ok (.iconst 0, 1) := by decide +kernel
theorem dX8_all_105 : decode cX8_all 105 = .ok (.istore_n 3, 1) := by decide +kernel
theorem dX8_all_106 : decode cX8_all 106 = .ok (.iload_n 3, 1) := by decide +kernel
theorem dX8_all_107 : decode cX8_all 107 = .ok (.aload_n 0, 1) := by decide +kernel
theorem dX8_all_108 : decode cX8_all 108 = .ok (.getfield 75, 3) := by decide +kernel
theorem dX8_all_111 : decode cX8_all 111 = .ok (.if_icmp .ge 86, 3) := by decide +kernel
theorem dX8_all_114 : decode cX8_all 114 = .ok (.aload_n 0, 1) := by decide +kernel
theorem dX8_all_115 : decode cX8_all 115 = .ok (.getfield 48, 3) := by decide +kernel
theorem dX8_all_118 : decode cX8_all 118 = .ok (.iload_n 3, 1) := by decide +kernel
theorem dX8_all_119 : decode cX8_all 119 = .ok (.baload, 1) := by decide +kernel
theorem dX8_all_120 : decode cX8_all 120 = .ok (.ifCond .eq 13, 3) := by decide +kernel
theorem dX8_all_123 : decode cX8_all 123 = .ok (.aload_n 0, 1) := by decide +kernel
theorem dX8_all_124 : decode cX8_all 124 = .ok (.getfield 54, 3) := by decide +kernel
theorem dX8_all_127 : decode cX8_all 127 = .ok (.iload_n 3, 1) := by decide +kernel
theorem dX8_all_128 : decode cX8_all 128 = .ok (.dup2, 1) := by decide +kernel
theorem dX8_all_129 : decode cX8_all 129 = .ok (.iaload, 1) := by decide +kernel
theorem dX8_all_130 : decode cX8_all 130 = .ok (.iconst 1, 1) := by decide +kernel
theorem dX8_all_131 : decode cX8_all 131 = .ok (.iadd, 1) := by decide +kernel
theorem dX8_all_132 : decode cX8_all 132 = .ok (.iastore, 1) := by decide +kernel
theorem dX8_all_133 : decode cX8_all 133 = .ok (.aload_n 0, 1) := by decide +kernel
theorem dX8_all_134 : decode cX8_all 134 = .ok (.getfield 45, 3) := by decide +kernel
theorem dX8_all_137 : decode cX8_all 137 = .ok (.iload_n 3, 1) := by decide +kernel
theorem dX8_all_138 : decode cX8_all 138 = .ok (.baload, 1) := by decide +kernel
theorem dX8_all_139 : decode cX8_all 139 = .ok (.ifCond .ne 6, 3) := by decide +kernel
theorem dX8_all_142 : decode cX8_all 142 = .ok (.goto 49, 3) := by decide +kernel
theorem dX8_all_145 : decode cX8_all 145 = .ok (.aload_n 0, 1) := by decide +kernel
theorem dX8_all_146 : decode cX8_all 146 = .ok (.getfield 51, 3) := by decide +kernel
theorem dX8_all_149 : decode cX8_all 149 = .ok (.iload_n 3, 1) := by decide +kernel
theorem dX8_all_150 : decode cX8_all 150 = .ok (.dup2, 1) := by decide +kernel
theorem dX8_all_151 : decode cX8_all 151 = .ok (.iaload, 1) := by decide +kernel
theorem dX8_all_152 : decode cX8_all 152 = .ok (.iconst 1, 1) := by decide +kernel
theorem dX8_all_153 : decode cX8_all 153 = .ok (.iadd, 1) := by decide +kernel
theorem dX8_all_154 : decode cX8_all 154 = .ok (.iastore, 1) := by decide +kernel
theorem dX8_all_155 : decode cX8_all 155 = .ok (.aload_n 0, 1) := by decide +kernel
theorem dX8_all_156 : decode cX8_all 156 = .ok (.getfield 57, 3) := by decide +kernel
theorem dX8_all_159 : decode cX8_all 159 = .ok (.iload_n 3, 1) := by decide +kernel
theorem dX8_all_160 : decode cX8_all 160 = .ok (.iaload, 1) := by decide +kernel
theorem dX8_all_161 : decode cX8_all 161 = .ok (.iconst (-1), 1) := by decide +kernel
theorem dX8_all_162 : decode cX8_all 162 = .ok (.if_icmp .ne 29, 3) := by decide +kernel
theorem dX8_all_165 : decode cX8_all 165 = .ok (.aload_n 0, 1) := by decide +kernel
theorem dX8_all_166 : decode cX8_all 166 = .ok (.getfield 57, 3) := by decide +kernel
theorem dX8_all_169 : decode cX8_all 169 = .ok (.iload_n 3, 1) := by decide +kernel
theorem dX8_all_170 : decode cX8_all 170 = .ok (.bipush 32, 2) := by decide +kernel
theorem dX8_all_172 : decode cX8_all 172 = .ok (.iload_n 1, 1) := by decide +kernel
theorem dX8_all_173 : decode cX8_all 173 = .ok (.aload_n 0, 1) := by decide +kernel
theorem dX8_all_174 : decode cX8_all 174 = .ok (.getfield 17, 3) := by decide +kernel
theorem dX8_all_177 : decode cX8_all 177 = .ok (.iconst 0, 1) := by decide +kernel
theorem dX8_all_178 : decode cX8_all 178 = .ok (.iaload, 1) := by decide +kernel
theorem dX8_all_179 : decode cX8_all 179 = .ok (.isub, 1) := by decide +kernel
theorem dX8_all_180 : decode cX8_all 180 = .ok (.imul, 1) := by decide +kernel
theorem dX8_all_181 : decode cX8_all 181 = .ok (.iload_n 2, 1) := by decide +kernel
theorem dX8_all_182 : decode cX8_all 182 = .ok (.iadd, 1) := by decide +kernel
theorem dX8_all_183 : decode cX8_all 183 = .ok (.aload_n 0, 1) := by decide +kernel
theorem dX8_all_184 : decode cX8_all 184 = .ok (.getfield 17, 3) := by decide +kernel
theorem dX8_all_187 : decode cX8_all 187 = .ok (.iconst 1, 1) := by decide +kernel
theorem dX8_all_188 : decode cX8_all 188 = .ok (.iaload, 1) := by decide +kernel
theorem dX8_all_189 : decode cX8_all 189 = .ok (.isub, 1) := by decide +kernel
theorem dX8_all_190 : decode cX8_all 190 = .ok (.iastore, 1) := by decide +kernel
theorem dX8_all_191 : decode cX8_all 191 = .ok (.iinc 3 1, 3) := by decide +kernel
theorem dX8_all_194 : decode cX8_all 194 = .ok (.goto (-88), 3) := by decide +kernel
theorem dX8_all_197 : decode cX8_all 197 = .ok (.iinc 2 1, 3) := by decide +kernel
theorem dX8_all_200 : decode cX8_all 200 = .ok (.goto (-130), 3) := by decide +kernel
theorem dX8_all_203 : decode cX8_all 203 = .ok (.iinc 1 1, 3) := by decide +kernel
theorem dX8_all_206 : decode cX8_all 206 = .ok (.goto (-153), 3) := by decide +kernel
theorem dX8_all_209 : decode cX8_all 209 = .ok (.return_, 1) := by decide +kernel
set_option maxRecDepth 20000 in
theorem ggX8_isRun_X8_in : GoodIn wsX8_isRun wsX8_in := goodIn_r _ [6] (by decide +kernel) (by decide +kernel)
set_option maxRecDepth 20000 in
theorem gX8_isRun_X8_in : GoodIn wsX8_isRun (va_wsS RX8 79 yX8_in wsX8_in) := goodIn_app (goodIn_of _ (by decide +kernel)) ggX8_isRun_X8_in
theorem dX8_isRun_0 : decode cX8_isRun 0 = .ok (.iload_n 1, 1) := by decide +kernel
theorem dX8_isRun_1 : decode cX8_isRun 1 = .ok (.i2l, 1) := by decide +kernel
theorem dX8_isRun_2 : decode cX8_isRun 2 = .ok (.aload_n 0, 1) := by decide +kernel
theorem dX8_isRun_3 : decode cX8_isRun 3 = .ok (.getfield 17, 3) := by decide +kernel
theorem dX8_isRun_6 : decode cX8_isRun 6 = .ok (.iconst 0, 1) := by decide +kernel
theorem dX8_isRun_7 : decode cX8_isRun 7 = .ok (.iaload, 1) := by decide +kernel
theorem dX8_isRun_8 : decode cX8_isRun 8 = .ok (.i2l, 1) := by decide +kernel
theorem dX8_isRun_9 : decode cX8_isRun 9 = .ok (.aload_n 0, 1) := by decide +kernel
theorem dX8_isRun_10 : decode cX8_isRun 10 = .ok (.getfield 20, 3) := by decide +kernel
theorem dX8_isRun_13 : decode cX8_isRun 13 = .ok (.iconst 0, 1) := by decide +kernel
theorem dX8_isRun_14 : decode cX8_isRun 14 = .ok (.iaload, 1) := by decide +kernel
theorem dX8_isRun_15 : decode cX8_isRun 15 = .ok (.i2l, 1) := by decide +kernel
theorem dX8_isRun_16 : decode cX8_isRun 16 = .ok (.invokestatic 79, 3) := by decide +kernel
theorem dX8_isRun_19 : decode cX8_isRun 19 = .ok (.ifCond .eq 29, 3) := by decide +kernel
theorem dX8_isRun_22 : decode cX8_isRun 22 = .ok (.iload_n 2, 1) := by decide +kernel
theorem dX8_isRun_23 : decode cX8_isRun 23 = .ok (.i2l, 1) := by decide +kernel
theorem dX8_isRun_24 : decode cX8_isRun 24 = .ok (.aload_n 0, 1) := by decide +kernel
theorem dX8_isRun_25 : decode cX8_isRun 25 = .ok (.getfield 17, 3) := by decide +kernel
theorem dX8_isRun_28 : decode cX8_isRun 28 = .ok (.iconst 1, 1) := by decide +kernel
theorem dX8_isRun_29 : decode cX8_isRun 29 = .ok (.iaload, 1) := by decide +kernel
theorem dX8_isRun_30 : decode cX8_isRun 30 = .ok (.i2l, 1) := by decide +kernel
theorem dX8_isRun_31 : decode cX8_isRun 31 = .ok (.aload_n 0, 1) := by decide +kernel
theorem dX8_isRun_32 : decode cX8_isRun 32 = .ok (.getfield 20, 3) := by decide +kernel
theorem dX8_isRun_35 : decode cX8_isRun 35 = .ok (.iconst 1, 1) := by decide +kernel
theorem dX8_isRun_36 : decode cX8_isRun 36 = .ok (.iaload, 1) := by decide +kernel
theorem dX8_isRun_37 : decode cX8_isRun 37 = .ok (.i2l, 1) := by decide +kernel
theorem dX8_isRun_38 : decode cX8_isRun 38 = .ok (.invokestatic 79, 3) := by decide +kernel
theorem dX8_isRun_41 : decode cX8_isRun 41 = .ok (.ifCond .eq 7, 3) := by decide +kernel
theorem dX8_isRun_44 : decode cX8_isRun 44 = .ok (.iconst 1, 1) := by decide +kernel
theorem dX8_isRun_45 : decode cX8_isRun 45 = .ok (.goto 4, 3) := by decide +kernel
theorem dX8_isRun_48 : decode cX8_isRun 48 = .ok (.iconst 0, 1) := by decide +kernel
theorem dX8_isRun_49 : decode cX8_isRun 49 = .ok (.ireturn, 1) := by decide +kernel
set_option maxRecDepth 20000 in
theorem ggX8_run_X8_isRun : GoodIn wsX8_run wsX8_isRun := goodIn_r _ [7, 8, 9, 10, 11, 6, 12, 72, 73, 74, 75, 76, 77, 78, 79, 80, 81, 82, 83, 84, 85, 86, 87, 88, 89, 90, 91, 92, 93, 94, 95, 96, 97] (by decide +kernel) (by decide +kernel)
set_option maxRecDepth 20000 in
theorem gX8_run_X8_isRun : GoodIn wsX8_run (wsV RX8 160 RX8 yX8_isRun wsX8_isRun) := goodIn_app (goodIn_of _ (by decide +kernel)) ggX8_run_X8_isRun
set_option maxRecDepth 20000 in
theorem ggX8_run_X8_isName : GoodIn wsX8_run wsX8_isName := goodIn_r _ [15, 16, 10, 11, 6, 12] (by decide +kernel) (by decide +kernel)
set_option maxRecDepth 20000 in
theorem gX8_run_X8_isName : GoodIn wsX8_run (va_wsS RX8 85 yX8_isName wsX8_isName) := goodIn_app (goodIn_of _ (by decide +kernel)) ggX8_run_X8_isName
set_option maxRecDepth 20000 in
theorem ggX8_run_X8_lays : GoodIn wsX8_run wsX8_lays := goodIn_r _ [20, 21, 22, 23, 24, 25, 72, 73, 74, 75, 76, 77, 78, 79, 80, 81, 82, 83, 84, 85, 86, 87, 88, 89, 90, 91, 92, 93, 94, 95, 96, 97] (by decide +kernel) (by decide +kernel)
set_option maxRecDepth 20000 in
theorem gX8_run_X8_lays : GoodIn wsX8_run (wsV RX8 150 RX8 yX8_lays wsX8_lays) := goodIn_app (goodIn_of _ (by decide +kernel)) ggX8_run_X8_lays
set_option maxRecDepth 20000 in
theorem ggX8_run_X8_runs : GoodIn wsX8_run wsX8_runs := goodIn_r _ [29, 2, 22, 30, 31, 32, 21, 24, 23, 33, 25, 34, 35, 36, 37, 6, 38, 39, 40, 41, 42, 43, 44, 45, 46, 47, 48, 49, 10, 11, 12, 50, 51, 52, 53, 54, 55, 56, 57, 58, 59, 60, 61, 62, 63, 64, 65, 66, 67, 68, 69, 70, 71, 72, 73, 74, 75, 76, 77, 78, 79, 80, 81, 82, 83, 84, 85, 86, 87, 88, 89, 90, 91, 92, 93, 94, 95, 96, 97] (by decide +kernel) (by decide +kernel)
set_option maxRecDepth 20000 in
theorem gX8_run_X8_runs : GoodIn wsX8_run (wsV RX8 156 RX8 yX8_runs wsX8_runs) := goodIn_app (goodIn_of _ (by decide +kernel)) ggX8_run_X8_runs
theorem dX8_run_0 : decode cX8_run 0 = .ok (.aload_n 0, 1) := by decide +kernel
theorem dX8_run_1 : decode cX8_run 1 = .ok (.iload_n 1, 1) := by decide +kernel
theorem dX8_run_2 : decode cX8_run 2 = .ok (.iload_n 2, 1) := by decide +kernel
theorem dX8_run_3 : decode cX8_run 3 = .ok (.invokevirtual 160, 3) := by decide +kernel
theorem dX8_run_6 : decode cX8_run 6 = .ok (.ifCond .eq 10, 3) := by decide +kernel
theorem dX8_run_9 : decode cX8_run 9 = .ok (.iload_n 3, 1) := by decide +kernel
theorem dX8_run_10 : decode cX8_run 10 = .ok (.invokestatic 85, 3) := by decide +kernel
theorem dX8_run_13 : decode cX8_run 13 = .ok (.ifCond .ne 6, 3) := by decide +kernel
theorem dX8_run_16 : decode cX8_run 16 = .ok (.ldc 164, 2) := by decide +kernel
theorem dX8_run_18 : decode cX8_run 18 = .ok (.ireturn, 1) := by decide +kernel
theorem dX8_run_19 : decode cX8_run 19 = .ok (.aload_n 0, 1) := by decide +kernel
theorem dX8_run_20 : decode cX8_run 20 = .ok (.invokevirtual 150, 3) := by decide +kernel
theorem dX8_run_23 : decode cX8_run 23 = .ok (.aload_n 0, 1) := by decide +kernel
theorem dX8_run_24 : decode cX8_run 24 = .ok (.iload_n 1, 1) := by decide +kernel
theorem dX8_run_25 : decode cX8_run 25 = .ok (.iload_n 2, 1) := by decide +kernel
theorem dX8_run_26 : decode cX8_run 26 = .ok (.invokevirtual 156, 3) := by decide +kernel
theorem dX8_run_29 : decode cX8_run 29 = .ok (.aload_n 0, 1) := by decide +kernel
theorem dX8_run_30 : decode cX8_run 30 = .ok (.getfield 41, 3) := by decide +kernel
theorem dX8_run_33 : decode cX8_run 33 = .ok (.iload_n 3, 1) := by decide +kernel
theorem dX8_run_34 : decode cX8_run 34 = .ok (.laload, 1) := by decide +kernel
theorem dX8_run_35 : decode cX8_run 35 = .ok (.l2i, 1) := by decide +kernel
theorem dX8_run_36 : decode cX8_run 36 = .ok (.ireturn, 1) := by decide +kernel
set_option maxRecDepth 20000 in
theorem ggX8_first_X8_isRun : GoodIn wsX8_first wsX8_isRun := goodIn_r _ [6, 7, 8, 9, 10, 5, 11, 67, 68, 69, 70, 71, 72, 73, 74, 75, 76, 77, 78, 79, 80, 81, 82, 83, 84, 85, 86, 87, 88, 89, 90, 91, 92] (by decide +kernel) (by decide +kernel)
set_option maxRecDepth 20000 in
theorem gX8_first_X8_isRun : GoodIn wsX8_first (wsV RX8 160 RX8 yX8_isRun wsX8_isRun) := goodIn_app (goodIn_of _ (by decide +kernel)) ggX8_first_X8_isRun
set_option maxRecDepth 20000 in
theorem ggX8_first_X8_lays : GoodIn wsX8_first wsX8_lays := goodIn_r _ [15, 16, 17, 18, 19, 20, 67, 68, 69, 70, 71, 72, 73, 74, 75, 76, 77, 78, 79, 80, 81, 82, 83, 84, 85, 86, 87, 88, 89, 90, 91, 92] (by decide +kernel) (by decide +kernel)
set_option maxRecDepth 20000 in
theorem gX8_first_X8_lays : GoodIn wsX8_first (wsV RX8 150 RX8 yX8_lays wsX8_lays) := goodIn_app (goodIn_of _ (by decide +kernel)) ggX8_first_X8_lays
set_option maxRecDepth 20000 in
theorem ggX8_first_X8_runs : GoodIn wsX8_first wsX8_runs := goodIn_r _ [24, 25, 17, 26, 27, 1, 16, 19, 18, 28, 20, 29, 30, 31, 32, 5, 33, 34, 35, 36, 37, 38, 39, 40, 41, 42, 43, 44, 9, 10, 11, 45, 46, 47, 48, 49, 50, 51, 52, 53, 54, 55, 56, 57, 58, 59, 60, 61, 62, 63, 64, 65, 66, 67, 68, 69, 70, 71, 72, 73, 74, 75, 76, 77, 78, 79, 80, 81, 82, 83, 84, 85, 86, 87, 88, 89, 90, 91, 92] (by decide +kernel) (by decide +kernel)
set_option maxRecDepth 20000 in
theorem gX8_first_X8_runs : GoodIn wsX8_first (wsV RX8 156 RX8 yX8_runs wsX8_runs) := goodIn_app (goodIn_of _ (by decide +kernel)) ggX8_first_X8_runs
theorem dX8_first_0 : decode cX8_first 0 = .ok (.aload_n 0, 1) := by decide +kernel
theorem dX8_first_1 : decode cX8_first 1 = .ok (.iload_n 1, 1) := by decide +kernel
theorem dX8_first_2 : decode cX8_first 2 = .ok (.iload_n 2, 1) := by decide +kernel
theorem dX8_first_3 : decode cX8_first 3 = .ok (.invokevirtual 160, 3) := by decide +kernel
theorem dX8_first_6 : decode cX8_first 6 = .ok (.ifCond .ne 5, 3) := by decide +kernel
theorem dX8_first_9 : decode cX8_first 9 = .ok (.iconst (-1), 1) := by decide +kernel
theorem dX8_first_10 : decode cX8_first 10 = .ok (.ireturn, 1) := by decide +kernel
theorem dX8_first_11 : decode cX8_first 11 = .ok (.aload_n 0, 1) := by decide +kernel
theorem dX8_first_12 : decode cX8_first 12 = .ok (.invokevirtual 150, 3) := by decide +kernel
theorem dX8_first_15 : decode cX8_first 15 = .ok (.aload_n 0, 1) := by decide +kernel
theorem dX8_first_16 : decode cX8_first 16 = .ok (.iload_n 1, 1) := by decide +kernel
theorem dX8_first_17 : decode cX8_first 17 = .ok (.iload_n 2, 1) := by decide +kernel
theorem dX8_first_18 : decode cX8_first 18 = .ok (.invokevirtual 156, 3) := by decide +kernel
theorem dX8_first_21 : decode cX8_first 21 = .ok (.aload_n 0, 1) := by decide +kernel
theorem dX8_first_22 : decode cX8_first 22 = .ok (.getfield 136, 3) := by decide +kernel
theorem dX8_first_25 : decode cX8_first 25 = .ok (.ireturn, 1) := by decide +kernel
set_option maxRecDepth 20000 in
theorem ggX8_ends_X8_goesOver : GoodIn wsX8_ends wsX8_goesOver := goodIn_r _ [8, 9, 10, 11, 7, 12, 13, 14, 15, 16, 17, 18, 19, 20, 21, 29, 30, 31, 32, 33, 34, 35, 36, 37, 38, 39, 40, 41, 42, 43, 44, 45, 46, 47, 48, 49, 50, 51, 52, 53, 54] (by decide +kernel) (by decide +kernel)
set_option maxRecDepth 20000 in
theorem gX8_ends_X8_goesOver : GoodIn wsX8_ends (wsV RX8 146 RX8 yX8_goesOver wsX8_goesOver) := goodIn_app (goodIn_of _ (by decide +kernel)) ggX8_ends_X8_goesOver
set_option maxRecDepth 20000 in
theorem ggX8_ends_X8_low : GoodIn wsX8_ends wsX8_low := goodIn_r _ [12, 13, 14, 29, 30, 31, 32, 33, 34, 35, 36, 37, 38, 39, 40, 41, 42, 43, 44, 45, 46, 47, 48, 49, 50, 51, 52, 53, 54] (by decide +kernel) (by decide +kernel)
set_option maxRecDepth 20000 in
theorem gX8_ends_X8_low : GoodIn wsX8_ends (wsV RX8 113 RX8 yX8_low wsX8_low) := goodIn_app (goodIn_of _ (by decide +kernel)) ggX8_ends_X8_low
set_option maxRecDepth 20000 in
theorem ggX8_ends_X8_high : GoodIn wsX8_ends wsX8_high := goodIn_r _ [18, 13, 14, 29, 30, 31, 32, 33, 34, 35, 36, 37, 38, 39, 40, 41, 42, 43, 44, 45, 46, 47, 48, 49, 50, 51, 52, 53, 54] (by decide +kernel) (by decide +kernel)
set_option maxRecDepth 20000 in
theorem gX8_ends_X8_high : GoodIn wsX8_ends (wsV RX8 117 RX8 yX8_high wsX8_high) := goodIn_app (goodIn_of _ (by decide +kernel)) ggX8_ends_X8_high
set_option maxRecDepth 20000 in
theorem ggX8_ends_X8_put : GoodIn wsX8_ends wsX8_put := goodIn_r _ [25, 3, 14, 9, 10, 11, 7, 12, 13, 15, 16, 17, 18, 19, 20, 21, 26, 27, 28, 29, 30, 31, 32, 33, 34, 35, 36, 37, 38, 39, 40, 41, 42, 43, 44, 45, 46, 47, 48, 49, 50, 51, 52, 53, 54] (by decide +kernel) (by decide +kernel)
set_option maxRecDepth 20000 in
theorem gX8_ends_X8_put : GoodIn wsX8_ends (wsV RX8 139 RX8 yX8_put wsX8_put) := goodIn_app (goodIn_of _ (by decide +kernel)) ggX8_ends_X8_put
theorem dX8_ends_0 : decode cX8_ends 0 = .ok (.aload_n 0, 1) := by decide +kernel
theorem dX8_ends_1 : decode cX8_ends 1 = .ok (.iload_n 1, 1) := by decide +kernel
theorem dX8_ends_2 : decode cX8_ends 2 = .ok (.lload_n 2, 1) := by decide +kernel
theorem dX8_ends_3 : decode cX8_ends 3 = .ok (.invokevirtual 146, 3) := by decide +kernel
theorem dX8_ends_6 : decode cX8_ends 6 = .ok (.ifCond .ne 13, 3) := by decide +kernel
theorem dX8_ends_9 : decode cX8_ends 9 = .ok (.aload_n 0, 1) := by decide +kernel
theorem dX8_ends_10 : decode cX8_ends 10 = .ok (.iload_n 1, 1) := by decide +kernel
theorem dX8_ends_11 : decode cX8_ends 11 = .ok (.lload 4, 2) := by decide +kernel
theorem dX8_ends_13 : decode cX8_ends 13 = .ok (.invokevirtual 146, 3) := by decide +kernel
theorem dX8_ends_16 : decode cX8_ends 16 = .ok (.ifCond .eq 7, 3) := by decide +kernel
theorem dX8_ends_19 : decode cX8_ends 19 = .ok (.iconst 1, 1) := by decide +kernel
theorem dX8_ends_20 : decode cX8_ends 20 = .ok (.goto 4, 3) := by decide +kernel
theorem dX8_ends_23 : decode cX8_ends 23 = .ok (.iconst 0, 1) := by decide +kernel
theorem dX8_ends_24 : decode cX8_ends 24 = .ok (.istore 6, 2) := by decide +kernel
theorem dX8_ends_26 : decode cX8_ends 26 = .ok (.iload 6, 2) := by decide +kernel
theorem dX8_ends_28 : decode cX8_ends 28 = .ok (.ifCond .ne 21, 3) := by decide +kernel
theorem dX8_ends_31 : decode cX8_ends 31 = .ok (.aload_n 0, 1) := by decide +kernel
theorem dX8_ends_32 : decode cX8_ends 32 = .ok (.getfield 60, 3) := by decide +kernel
theorem dX8_ends_35 : decode cX8_ends 35 = .ok (.iload_n 1, 1) := by decide +kernel
theorem dX8_ends_36 : decode cX8_ends 36 = .ok (.lload_n 2, 1) := by decide +kernel
theorem dX8_ends_37 : decode cX8_ends 37 = .ok (.lastore, 1) := by decide +kernel
theorem dX8_ends_38 : decode cX8_ends 38 = .ok (.aload_n 0, 1) := by decide +kernel
theorem dX8_ends_39 : decode cX8_ends 39 = .ok (.getfield 63, 3) := by decide +kernel
theorem dX8_ends_42 : decode cX8_ends 42 = .ok (.iload_n 1, 1) := by decide +kernel
theorem dX8_ends_43 : decode cX8_ends 43 = .ok (.lload 4, 2) := by decide +kernel
theorem dX8_ends_45 : decode cX8_ends 45 = .ok (.lastore, 1) := by decide +kernel
theorem dX8_ends_46 : decode cX8_ends 46 = .ok (.goto 60, 3) := by decide +kernel
theorem dX8_ends_49 : decode cX8_ends 49 = .ok (.aload_n 0, 1) := by decide +kernel
theorem dX8_ends_50 : decode cX8_ends 50 = .ok (.getfield 107, 3) := by decide +kernel
theorem dX8_ends_53 : decode cX8_ends 53 = .ok (.ifCond .ne 28, 3) := by decide +kernel
theorem dX8_ends_56 : decode cX8_ends 56 = .ok (.aload_n 0, 1) := by decide +kernel
theorem dX8_ends_57 : decode cX8_ends 57 = .ok (.getfield 60, 3) := by decide +kernel
theorem dX8_ends_60 : decode cX8_ends 60 = .ok (.iload_n 1, 1) := by decide +kernel
theorem dX8_ends_61 : decode cX8_ends 61 = .ok (.aload_n 0, 1) := by decide +kernel
theorem dX8_ends_62 : decode cX8_ends 62 = .ok (.iload_n 1, 1) := by decide +kernel
theorem dX8_ends_63 : decode cX8_ends 63 = .ok (.invokevirtual 113, 3) := by decide +kernel
theorem dX8_ends_66 : decode cX8_ends 66 = .ok (.lastore, 1) := by decide +kernel
theorem dX8_ends_67 : decode cX8_ends 67 = .ok (.aload_n 0, 1) := by decide +kernel
theorem dX8_ends_68 : decode cX8_ends 68 = .ok (.getfield 63, 3) := by decide +kernel
theorem dX8_ends_71 : decode cX8_ends 71 = .ok (.iload_n 1, 1) := by decide +kernel
theorem dX8_ends_72 : decode cX8_ends 72 = .ok (.aload_n 0, 1) := by decide +kernel
theorem dX8_ends_73 : decode cX8_ends 73 = .ok (.iload_n 1, 1) := by decide +kernel
theorem dX8_ends_74 : decode cX8_ends 74 = .ok (.invokevirtual 117, 3) := by decide +kernel
theorem dX8_ends_77 : decode cX8_ends 77 = .ok (.lastore, 1) := by decide +kernel
theorem dX8_ends_78 : decode cX8_ends 78 = .ok (.goto 28, 3) := by decide +kernel
theorem dX8_ends_81 : decode cX8_ends 81 = .ok (.aload_n 0, 1) := by decide +kernel
theorem dX8_ends_82 : decode cX8_ends 82 = .ok (.getfield 60, 3) := by decide +kernel
theorem dX8_ends_85 : decode cX8_ends 85 = .ok (.iload_n 1, 1) := by decide +kernel
theorem dX8_ends_86 : decode cX8_ends 86 = .ok (.aload_n 0, 1) := by decide +kernel
theorem dX8_ends_87 : decode cX8_ends 87 = .ok (.iload_n 1, 1) := by decide +kernel
theorem dX8_ends_88 : decode cX8_ends 88 = .ok (.lload_n 2, 1) := by decide +kernel
theorem dX8_ends_89 : decode cX8_ends 89 = .ok (.invokevirtual 139, 3) := by decide +kernel
theorem dX8_ends_92 : decode cX8_ends 92 = .ok (.lastore, 1) := by decide +kernel
theorem dX8_ends_93 : decode cX8_ends 93 = .ok (.aload_n 0, 1) := by decide +kernel
theorem dX8_ends_94 : decode cX8_ends 94 = .ok (.getfield 63, 3) := by decide +kernel
theorem dX8_ends_97 : decode cX8_ends 97 = .ok (.iload_n 1, 1) := by decide +kernel
theorem dX8_ends_98 : decode cX8_ends 98 = .ok (.aload_n 0, 1) := by decide +kernel
theorem dX8_ends_99 : decode cX8_ends 99 = .ok (.iload_n 1, 1) := by decide +kernel
theorem dX8_ends_100 : decode cX8_ends 100 = .ok (.lload 4, 2) := by decide +kernel
theorem dX8_ends_102 : decode cX8_ends 102 = .ok (.invokevirtual 139, 3) := by decide +kernel
theorem dX8_ends_105 : decode cX8_ends 105 = .ok (.lastore, 1) := by decide +kernel
theorem dX8_ends_106 : decode cX8_ends 106 = .ok (.iload 6, 2) := by decide +kernel
theorem dX8_ends_108 : decode cX8_ends 108 = .ok (.ireturn, 1) := by decide +kernel
set_option maxRecDepth 20000 in
theorem ggX8_products_X8_ends : GoodIn wsX8_products wsX8_ends := goodIn_r _ [17, 1, 4, 18, 19, 20, 21, 16, 22, 23, 24, 25, 26, 27, 28, 29, 30, 31, 32, 33, 34, 35, 36, 37, 38, 39, 40, 41, 42, 43, 44, 45, 46, 47, 48, 49, 50, 51, 52, 53, 54, 55, 56, 57, 58, 59, 60, 61, 62, 63, 64, 65, 66, 67, 68] (by decide +kernel) (by decide +kernel)
set_option maxRecDepth 20000 in
theorem gX8_products_X8_ends : GoodIn wsX8_products (wsV RX8 167 RX8 yX8_ends wsX8_ends) := goodIn_app (goodIn_of _ (by decide +kernel)) ggX8_products_X8_ends
theorem dX8_products_0 : decode cX8_products 0 = .ok (.aload_n 0, 1) := by decide +kernel
theorem dX8_products_1 : decode cX8_products 1 = .ok (.getfield 60, 3) := by decide +kernel
theorem dX8_products_4 : decode cX8_products 4 = .ok (.aload_n 0, 1) := by decide +kernel
theorem dX8_products_5 : decode cX8_products 5 = .ok (.getfield 29, 3) := by decide +kernel
theorem dX8_products_8 : decode cX8_products 8 = .ok (.iload_n 1, 1) := by decide +kernel
theorem dX8_products_9 : decode cX8_products 9 = .ok (.iaload, 1) := by decide +kernel
theorem dX8_products_10 : decode cX8_products 10 = .ok (.laload, 1) := by decide +kernel
theorem dX8_products_11 : decode cX8_products 11 = .ok (.aload_n 0, 1) := by decide +kernel
theorem dX8_products_12 : decode cX8_products 12 = .ok (.getfield 60, 3) := by decide +kernel
theorem dX8_products_15 : decode cX8_products 15 = .ok (.aload_n 0, 1) := by decide +kernel
theorem dX8_products_16 : decode cX8_products 16 = .ok (.getfield 32, 3) := by decide +kernel
theorem dX8_products_19 : decode cX8_products 19 = .ok (.iload_n 1, 1) := by decide +kernel
theorem dX8_products_20 : decode cX8_products 20 = .ok (.iaload, 1) := by decide +kernel
theorem dX8_products_21 : decode cX8_products 21 = .ok (.laload, 1) := by decide +kernel
theorem dX8_products_22 : decode cX8_products 22 = .ok (.lmul, 1) := by decide +kernel
theorem dX8_products_23 : decode cX8_products 23 = .ok (.lstore_n 2, 1) := by decide +kernel
theorem dX8_products_24 : decode cX8_products 24 = .ok (.aload_n 0, 1) := by decide +kernel
theorem dX8_products_25 : decode cX8_products 25 = .ok (.getfield 60, 3) := by decide +kernel
theorem dX8_products_28 : decode cX8_products 28 = .ok (.aload_n 0, 1) := by decide +kernel
theorem dX8_products_29 : decode cX8_products 29 = .ok (.getfield 29, 3) := by decide +kernel
theorem dX8_products_32 : decode cX8_products 32 = .ok (.iload_n 1, 1) := by decide +kernel
theorem dX8_products_33 : decode cX8_products 33 = .ok (.iaload, 1) := by decide +kernel
theorem dX8_products_34 : decode cX8_products 34 = .ok (.laload, 1) := by decide +kernel
theorem dX8_products_35 : decode cX8_products 35 = .ok (.aload_n 0, 1) := by decide +kernel
theorem dX8_products_36 : decode cX8_products 36 = .ok (.getfield 63, 3) := by decide +kernel
theorem dX8_products_39 : decode cX8_products 39 = .ok (.aload_n 0, 1) := by decide +kernel
theorem dX8_products_40 : decode cX8_products 40 = .ok (.getfield 32, 3) := by decide +kernel
theorem dX8_products_43 : decode cX8_products 43 = .ok (.iload_n 1, 1) := by decide +kernel
theorem dX8_products_44 : decode cX8_products 44 = .ok (.iaload, 1) := by decide +kernel
theorem dX8_products_45 : decode cX8_products 45 = .ok (.laload, 1) := by decide +kernel
theorem dX8_products_46 : decode cX8_products 46 = .ok (.lmul, 1) := by decide +kernel
theorem dX8_products_47 : decode cX8_products 47 = .ok (.lstore 4, 2) := by decide +kernel
theorem dX8_products_49 : decode cX8_products 49 = .ok (.aload_n 0, 1) := by decide +kernel
theorem dX8_products_50 : decode cX8_products 50 = .ok (.getfield 63, 3) := by decide +kernel
theorem dX8_products_53 : decode cX8_products 53 = .ok (.aload_n 0, 1) := by decide +kernel
theorem dX8_products_54 : decode cX8_products 54 = .ok (.getfield 29, 3) := by decide +kernel
theorem dX8_products_57 : decode cX8_products 57 = .ok (.iload_n 1, 1) := by decide +kernel
theorem dX8_products_58 : decode cX8_products 58 = .ok (.iaload, 1) := by decide +kernel
theorem dX8_products_59 : decode cX8_products 59 = .ok (.laload, 1) := by decide +kernel
theorem dX8_products_60 : decode cX8_products 60 = .ok (.aload_n 0, 1) := by decide +kernel
theorem dX8_products_61 : decode cX8_products 61 = .ok (.getfield 60, 3) := by decide +kernel
theorem dX8_products_64 : decode cX8_products 64 = .ok (.aload_n 0, 1) := by decide +kernel
theorem dX8_products_65 : decode cX8_products 65 = .ok (.getfield 32, 3) := by decide +kernel
theorem dX8_products_68 : decode cX8_products 68 = .ok (.iload_n 1, 1) := by decide +kernel
theorem dX8_products_69 : decode cX8_products 69 = .ok (.iaload, 1) := by decide +kernel
theorem dX8_products_70 : decode cX8_products 70 = .ok (.laload, 1) := by decide +kernel
theorem dX8_products_71 : decode cX8_products 71 = .ok (.lmul, 1) := by decide +kernel
theorem dX8_products_72 : decode cX8_products 72 = .ok (.lstore 6, 2) := by decide +kernel
theorem dX8_products_74 : decode cX8_products 74 = .ok (.aload_n 0, 1) := by decide +kernel
theorem dX8_products_75 : decode cX8_products 75 = .ok (.getfield 63, 3) := by decide +kernel
theorem dX8_products_78 : decode cX8_products 78 = .ok (.aload_n 0, 1) := by decide +kernel
theorem dX8_products_79 : decode cX8_products 79 = .ok (.getfield 29, 3) := by decide +kernel
theorem dX8_products_82 : decode cX8_products 82 = .ok (.iload_n 1, 1) := by decide +kernel
theorem dX8_products_83 : decode cX8_products 83 = .ok (.iaload, 1) := by decide +kernel
theorem dX8_products_84 : decode cX8_products 84 = .ok (.laload, 1) := by decide +kernel
theorem dX8_products_85 : decode cX8_products 85 = .ok (.aload_n 0, 1) := by decide +kernel
theorem dX8_products_86 : decode cX8_products 86 = .ok (.getfield 63, 3) := by decide +kernel
theorem dX8_products_89 : decode cX8_products 89 = .ok (.aload_n 0, 1) := by decide +kernel
theorem dX8_products_90 : decode cX8_products 90 = .ok (.getfield 32, 3) := by decide +kernel
theorem dX8_products_93 : decode cX8_products 93 = .ok (.iload_n 1, 1) := by decide +kernel
theorem dX8_products_94 : decode cX8_products 94 = .ok (.iaload, 1) := by decide +kernel
theorem dX8_products_95 : decode cX8_products 95 = .ok (.laload, 1) := by decide +kernel
theorem dX8_products_96 : decode cX8_products 96 = .ok (.lmul, 1) := by decide +kernel
theorem dX8_products_97 : decode cX8_products 97 = .ok (.lstore 8, 2) := by decide +kernel
theorem dX8_products_99 : decode cX8_products 99 = .ok (.aload_n 0, 1) := by decide +kernel
theorem dX8_products_100 : decode cX8_products 100 = .ok (.aload_n 0, 1) := by decide +kernel
theorem dX8_products_101 : decode cX8_products 101 = .ok (.getfield 26, 3) := by decide +kernel
theorem dX8_products_104 : decode cX8_products 104 = .ok (.iload_n 1, 1) := by decide +kernel
theorem dX8_products_105 : decode cX8_products 105 = .ok (.iaload, 1) := by decide +kernel
theorem dX8_products_106 : decode cX8_products 106 = .ok (.lload_n 2, 1) := by decide +kernel
theorem dX8_products_107 : decode cX8_products 107 = .ok (.lload 4, 2) := by decide +kernel
theorem dX8_products_109 : decode cX8_products 109 = .ok (.invokestatic 130, 3) := by decide +kernel
theorem dX8_products_112 : decode cX8_products 112 = .ok (.lload 6, 2) := by decide +kernel
theorem dX8_products_114 : decode cX8_products 114 = .ok (.lload 8, 2) := by decide +kernel
theorem dX8_products_116 : decode cX8_products 116 = .ok (.invokestatic 130, 3) := by decide +kernel
theorem dX8_products_119 : decode cX8_products 119 = .ok (.invokestatic 130, 3) := by decide +kernel
theorem dX8_products_122 : decode cX8_products 122 = .ok (.lload_n 2, 1) := by decide +kernel
theorem dX8_products_123 : decode cX8_products 123 = .ok (.lload 4, 2) := by decide +kernel
theorem dX8_products_125 : decode cX8_products 125 = .ok (.invokestatic 165, 3) := by decide +kernel
theorem dX8_products_128 : decode cX8_products 128 = .ok (.lload 6, 2) := by decide +kernel
theorem dX8_products_130 : decode cX8_products 130 = .ok (.lload 8, 2) := by decide +kernel
theorem dX8_products_132 : decode cX8_products 132 = .ok (.invokestatic 165, 3) := by decide +kernel
theorem dX8_products_135 : decode cX8_products 135 = .ok (.invokestatic 165, 3) := by decide +kernel
theorem dX8_products_138 : decode cX8_products 138 = .ok (.invokevirtual 167, 3) := by decide +kernel
theorem dX8_products_141 : decode cX8_products 141 = .ok (.ireturn, 1) := by decide +kernel
set_option maxRecDepth 20000 in
theorem ggX8_belows_X8_ends : GoodIn wsX8_belows wsX8_ends := goodIn_r _ [11, 5, 4, 12, 13, 14, 15, 10, 16, 17, 18, 19, 20, 1, 21, 22, 23, 24, 25, 26, 27, 28, 29, 30, 31, 32, 33, 34, 35, 36, 37, 38, 39, 40, 41, 42, 43, 44, 45, 46, 47, 48, 49, 50, 51, 52, 53, 54, 55, 56, 57, 58, 59, 60, 61] (by decide +kernel) (by decide +kernel)
set_option maxRecDepth 20000 in
theorem gX8_belows_X8_ends : GoodIn wsX8_belows (wsV RX8 167 RX8 yX8_ends wsX8_ends) := goodIn_app (goodIn_of _ (by decide +kernel)) ggX8_belows_X8_ends
theorem dX8_belows_0 : decode cX8_belows 0 = .ok (.aload_n 0, 1) := by decide +kernel
theorem dX8_belows_1 : decode cX8_belows 1 = .ok (.getfield 13, 3) := by decide +kernel
theorem dX8_belows_4 : decode cX8_belows 4 = .ok (.aload_n 0, 1) := by decide +kernel
theorem dX8_belows_5 : decode cX8_belows 5 = .ok (.getfield 29, 3) := by decide +kernel
theorem dX8_belows_8 : decode cX8_belows 8 = .ok (.iload_n 1, 1) := by decide +kernel
theorem dX8_belows_9 : decode cX8_belows 9 = .ok (.iaload, 1) := by decide +kernel
theorem dX8_belows_10 : decode cX8_belows 10 = .ok (.baload, 1) := by decide +kernel
theorem dX8_belows_11 : decode cX8_belows 11 = .ok (.aload_n 0, 1) := by decide +kernel
theorem dX8_belows_12 : decode cX8_belows 12 = .ok (.getfield 13, 3) := by decide +kernel
theorem dX8_belows_15 : decode cX8_belows 15 = .ok (.aload_n 0, 1) := by decide +kernel
theorem dX8_belows_16 : decode cX8_belows 16 = .ok (.getfield 32, 3) := by decide +kernel
theorem dX8_belows_19 : decode cX8_belows 19 = .ok (.iload_n 1, 1) := by decide +kernel
theorem dX8_belows_20 : decode cX8_belows 20 = .ok (.iaload, 1) := by decide +kernel
theorem dX8_belows_21 : decode cX8_belows 21 = .ok (.baload, 1) := by decide +kernel
theorem dX8_belows_22 : decode cX8_belows 22 = .ok (.if_icmp .ne 7, 3) := by decide +kernel
theorem dX8_belows_25 : decode cX8_belows 25 = .ok (.iconst 1, 1) := by decide +kernel
theorem dX8_belows_26 : decode cX8_belows 26 = .ok (.goto 4, 3) := by decide +kernel
theorem dX8_belows_29 : decode cX8_belows 29 = .ok (.iconst 0, 1) := by decide +kernel
theorem dX8_belows_30 : decode cX8_belows 30 = .ok (.istore_n 2, 1) := by decide +kernel
theorem dX8_belows_31 : decode cX8_belows 31 = .ok (.iload_n 2, 1) := by decide +kernel
theorem dX8_belows_32 : decode cX8_belows 32 = .ok (.ifCond .eq 42, 3) := by decide +kernel
theorem dX8_belows_35 : decode cX8_belows 35 = .ok (.aload_n 0, 1) := by decide +kernel
theorem dX8_belows_36 : decode cX8_belows 36 = .ok (.getfield 63, 3) := by decide +kernel
theorem dX8_belows_39 : decode cX8_belows 39 = .ok (.aload_n 0, 1) := by decide +kernel
theorem dX8_belows_40 : decode cX8_belows 40 = .ok (.getfield 29, 3) := by decide +kernel
theorem dX8_belows_43 : decode cX8_belows 43 = .ok (.iload_n 1, 1) := by decide +kernel
theorem dX8_belows_44 : decode cX8_belows 44 = .ok (.iaload, 1) := by decide +kernel
theorem dX8_belows_45 : decode cX8_belows 45 = .ok (.laload, 1) := by decide +kernel
theorem dX8_belows_46 : decode cX8_belows 46 = .ok (.aload_n 0, 1) := by decide +kernel
theorem dX8_belows_47 : decode cX8_belows 47 = .ok (.getfield 60, 3) := by decide +kernel
theorem dX8_belows_50 : decode cX8_belows 50 = .ok (.aload_n 0, 1) := by decide +kernel
theorem dX8_belows_51 : decode cX8_belows 51 = .ok (.getfield 32, 3) := by decide +kernel
theorem dX8_belows_54 : decode cX8_belows 54 = .ok (.iload_n 1, 1) := by decide +kernel
theorem dX8_belows_55 : decode cX8_belows 55 = .ok (.iaload, 1) := by decide +kernel
theorem dX8_belows_56 : decode cX8_belows 56 = .ok (.laload, 1) := by decide +kernel
theorem dX8_belows_57 : decode cX8_belows 57 = .ok (.lcmp, 1) := by decide +kernel
theorem dX8_belows_58 : decode cX8_belows 58 = .ok (.ifCond .ge 16, 3) := by decide +kernel
theorem dX8_belows_61 : decode cX8_belows 61 = .ok (.aload_n 0, 1) := by decide +kernel
theorem dX8_belows_62 : decode cX8_belows 62 = .ok (.aload_n 0, 1) := by decide +kernel
theorem dX8_belows_63 : decode cX8_belows 63 = .ok (.getfield 26, 3) := by decide +kernel
theorem dX8_belows_66 : decode cX8_belows 66 = .ok (.iload_n 1, 1) := by decide +kernel
theorem dX8_belows_67 : decode cX8_belows 67 = .ok (.iaload, 1) := by decide +kernel
theorem dX8_belows_68 : decode cX8_belows 68 = .ok (.lconst 1, 1) := by decide +kernel
theorem dX8_belows_69 : decode cX8_belows 69 = .ok (.lconst 1, 1) := by decide +kernel
theorem dX8_belows_70 : decode cX8_belows 70 = .ok (.invokevirtual 167, 3) := by decide +kernel
theorem dX8_belows_73 : decode cX8_belows 73 = .ok (.ireturn, 1) := by decide +kernel
theorem dX8_belows_74 : decode cX8_belows 74 = .ok (.iload_n 2, 1) := by decide +kernel
theorem dX8_belows_75 : decode cX8_belows 75 = .ok (.ifCond .eq 44, 3) := by decide +kernel
theorem dX8_belows_78 : decode cX8_belows 78 = .ok (.aload_n 0, 1) := by decide +kernel
theorem dX8_belows_79 : decode cX8_belows 79 = .ok (.getfield 60, 3) := by decide +kernel
theorem dX8_belows_82 : decode cX8_belows 82 = .ok (.aload_n 0, 1) := by decide +kernel
theorem dX8_belows_83 : decode cX8_belows 83 = .ok (.getfield 29, 3) := by decide +kernel
theorem dX8_belows_86 : decode cX8_belows 86 = .ok (.iload_n 1, 1) := by decide +kernel
theorem dX8_belows_87 : decode cX8_belows 87 = .ok (.iaload, 1) := by decide +kernel
theorem dX8_belows_88 : decode cX8_belows 88 = .ok (.laload, 1) := by decide +kernel
theorem dX8_belows_89 : decode cX8_belows 89 = .ok (.aload_n 0, 1) := by decide +kernel
theorem dX8_belows_90 : decode cX8_belows 90 = .ok (.getfield 63, 3) := by decide +kernel
theorem dX8_belows_93 : decode cX8_belows 93 = .ok (.aload_n 0, 1) := by decide +kernel
theorem dX8_belows_94 : decode cX8_belows 94 = .ok (.getfield 32, 3) := by decide +kernel
theorem dX8_belows_97 : decode cX8_belows 97 = .ok (.iload_n 1, 1) := by decide +kernel
theorem dX8_belows_98 : decode cX8_belows 98 = .ok (.iaload, 1) := by decide +kernel
theorem dX8_belows_99 : decode cX8_belows 99 = .ok (.laload, 1) := by decide +kernel
theorem dX8_belows_100 : decode cX8_belows 100 = .ok (.lcmp, 1) := by decide +kernel
theorem dX8_belows_101 : decode cX8_belows 101 = .ok (.ifCond .lt 18, 3) := by decide +kernel
theorem dX8_belows_104 : decode cX8_belows 104 = .ok (.aload_n 0, 1) := by decide +kernel
theorem dX8_belows_105 : decode cX8_belows 105 = .ok (.aload_n 0, 1) := by decide +kernel
theorem dX8_belows_106 : decode cX8_belows 106 = .ok (.getfield 26, 3) := by decide +kernel
theorem dX8_belows_109 : decode cX8_belows 109 = .ok (.iload_n 1, 1) := by decide +kernel
theorem dX8_belows_110 : decode cX8_belows 110 = .ok (.iaload, 1) := by decide +kernel
theorem dX8_belows_111 : decode cX8_belows 111 = .ok (.lconst 0, 1) := by decide +kernel
theorem dX8_belows_112 : decode cX8_belows 112 = .ok (.lconst 0, 1) := by decide +kernel
theorem dX8_belows_113 : decode cX8_belows 113 = .ok (.invokevirtual 167, 3) := by decide +kernel
theorem dX8_belows_116 : decode cX8_belows 116 = .ok (.goto 15, 3) := by decide +kernel
theorem dX8_belows_119 : decode cX8_belows 119 = .ok (.aload_n 0, 1) := by decide +kernel
theorem dX8_belows_120 : decode cX8_belows 120 = .ok (.aload_n 0, 1) := by decide +kernel
theorem dX8_belows_121 : decode cX8_belows 121 = .ok (.getfield 26, 3) := by decide +kernel
theorem dX8_belows_124 : decode cX8_belows 124 = .ok (.iload_n 1, 1) := by decide +kernel
theorem dX8_belows_125 : decode cX8_belows 125 = .ok (.iaload, 1) := by decide +kernel
theorem dX8_belows_126 : decode cX8_belows 126 = .ok (.lconst 0, 1) := by decide +kernel
theorem dX8_belows_127 : decode cX8_belows 127 = .ok (.lconst 1, 1) := by decide +kernel
theorem dX8_belows_128 : decode cX8_belows 128 = .ok (.invokevirtual 167, 3) := by decide +kernel
theorem dX8_belows_131 : decode cX8_belows 131 = .ok (.ireturn, 1) := by decide +kernel
set_option maxRecDepth 20000 in
theorem ggX8_goes_X8_ends : GoodIn wsX8_goes wsX8_ends := goodIn_r _ [15, 4, 6, 16, 17, 18, 19, 14, 20, 21, 22, 23, 24, 25, 26, 27, 28, 29, 30, 31, 32, 33, 34, 35, 36, 37, 38, 39, 40, 52, 53, 54, 55, 56, 57, 58, 59, 60, 61, 62, 63, 64, 65, 66, 67, 68, 69, 70, 71, 72, 73, 74, 75, 76, 77] (by decide +kernel) (by decide +kernel)
set_option maxRecDepth 20000 in
theorem gX8_goes_X8_ends : GoodIn wsX8_goes (wsV RX8 167 RX8 yX8_ends wsX8_ends) := goodIn_app (goodIn_of _ (by decide +kernel)) ggX8_goes_X8_ends
set_option maxRecDepth 20000 in
theorem ggX8_goes_X8_products : GoodIn wsX8_goes wsX8_products := goodIn_r _ [44, 4, 5, 3, 6, 1, 7, 8, 9, 10, 45, 46, 47, 11, 12, 13, 14, 15, 16, 17, 18, 19, 20, 21, 22, 23, 24, 25, 26, 27, 28, 29, 30, 31, 32, 33, 34, 35, 36, 37, 38, 39, 40, 52, 53, 54, 55, 56, 57, 58, 59, 60, 61, 62, 63, 64, 65, 66, 67, 68, 69, 70, 71, 72, 73, 74, 75, 76, 77] (by decide +kernel) (by decide +kernel)
set_option maxRecDepth 20000 in
theorem gX8_goes_X8_products : GoodIn wsX8_goes (wsV RX8 171 RX8 yX8_products wsX8_products) := goodIn_app (goodIn_of _ (by decide +kernel)) ggX8_goes_X8_products
set_option maxRecDepth 20000 in
theorem ggX8_goes_X8_belows : GoodIn wsX8_goes wsX8_belows := goodIn_r _ [51, 25, 5, 3, 6, 4, 1, 11, 12, 13, 14, 15, 16, 17, 18, 19, 20, 21, 22, 23, 24, 26, 27, 28, 29, 30, 31, 32, 33, 34, 35, 36, 37, 38, 39, 40, 52, 53, 54, 55, 56, 57, 58, 59, 60, 61, 62, 63, 64, 65, 66, 67, 68, 69, 70, 71, 72, 73, 74, 75, 76, 77] (by decide +kernel) (by decide +kernel)
set_option maxRecDepth 20000 in
theorem gX8_goes_X8_belows : GoodIn wsX8_goes (wsV RX8 174 RX8 yX8_belows wsX8_belows) := goodIn_app (goodIn_of _ (by decide +kernel)) ggX8_goes_X8_belows
theorem dX8_goes_0 : decode cX8_goes 0 = .ok (.aload_n 0, 1) := by decide +kernel
theorem dX8_goes_1 : decode cX8_goes 1 = .ok (.getfield 26, 3) := by decide +kernel
theorem dX8_goes_4 : decode cX8_goes 4 = .ok (.iload_n 1, 1) := by decide +kernel
theorem dX8_goes_5 : decode cX8_goes 5 = .ok (.iaload, 1) := by decide +kernel
theorem dX8_goes_6 : decode cX8_goes 6 = .ok (.istore_n 2, 1) := by decide +kernel
theorem dX8_goes_7 : decode cX8_goes 7 = .ok (.aload_n 0, 1) := by decide +kernel
theorem dX8_goes_8 : decode cX8_goes 8 = .ok (.getfield 23, 3) := by decide +kernel
theorem dX8_goes_11 : decode cX8_goes 11 = .ok (.iload_n 1, 1) := by decide +kernel
theorem dX8_goes_12 : decode cX8_goes 12 = .ok (.iaload, 1) := by decide +kernel
theorem dX8_goes_13 : decode cX8_goes 13 = .ok (.tableswitch 303 0 6 #[43, 63, 91, 143, 195, 201, 247], 43) := by decide +kernel
theorem dX8_goes_56 : decode cX8_goes 56 = .ok (.aload_n 0, 1) := by decide +kernel
theorem dX8_goes_57 : decode cX8_goes 57 = .ok (.iload_n 2, 1) := by decide +kernel
theorem dX8_goes_58 : decode cX8_goes 58 = .ok (.aload_n 0, 1) := by decide +kernel
theorem dX8_goes_59 : decode cX8_goes 59 = .ok (.getfield 32, 3) := by decide +kernel
theorem dX8_goes_62 : decode cX8_goes 62 = .ok (.iload_n 1, 1) := by decide +kernel
theorem dX8_goes_63 : decode cX8_goes 63 = .ok (.iaload, 1) := by decide +kernel
theorem dX8_goes_64 : decode cX8_goes 64 = .ok (.i2l, 1) := by decide +kernel
theorem dX8_goes_65 : decode cX8_goes 65 = .ok (.aload_n 0, 1) := by decide +kernel
theorem dX8_goes_66 : decode cX8_goes 66 = .ok (.getfield 32, 3) := by decide +kernel
theorem dX8_goes_69 : decode cX8_goes 69 = .ok (.iload_n 1, 1) := by decide +kernel
theorem dX8_goes_70 : decode cX8_goes 70 = .ok (.iaload, 1) := by decide +kernel
theorem dX8_goes_71 : decode cX8_goes 71 = .ok (.i2l, 1) := by decide +kernel
theorem dX8_goes_72 : decode cX8_goes 72 = .ok (.invokevirtual 167, 3) := by decide +kernel
theorem dX8_goes_75 : decode cX8_goes 75 = .ok (.ireturn, 1) := by decide +kernel
theorem dX8_goes_76 : decode cX8_goes 76 = .ok (.aload_n 0, 1) := by decide +kernel
theorem dX8_goes_77 : decode cX8_goes 77 = .ok (.iload_n 2, 1) := by decide +kernel
theorem dX8_goes_78 : decode cX8_goes 78 = .ok (.aload_n 0, 1) := by decide +kernel
theorem dX8_goes_79 : decode cX8_goes 79 = .ok (.getfield 60, 3) := by decide +kernel
theorem dX8_goes_82 : decode cX8_goes 82 = .ok (.aload_n 0, 1) := by decide +kernel
theorem dX8_goes_83 : decode cX8_goes 83 = .ok (.getfield 29, 3) := by decide +kernel
theorem dX8_goes_86 : decode cX8_goes 86 = .ok (.iload_n 1, 1) := by decide +kernel
theorem dX8_goes_87 : decode cX8_goes 87 = .ok (.iaload, 1) := by decide +kernel
theorem dX8_goes_88 : decode cX8_goes 88 = .ok (.laload, 1) := by decide +kernel
theorem dX8_goes_89 : decode cX8_goes 89 = .ok (.aload_n 0, 1) := by decide +kernel
theorem dX8_goes_90 : decode cX8_goes 90 = .ok (.getfield 63, 3) := by decide +kernel
theorem dX8_goes_93 : decode cX8_goes 93 = .ok (.aload_n 0, 1) := by decide +kernel
theorem dX8_goes_94 : decode cX8_goes 94 = .ok (.getfield 29, 3) := by decide +kernel
theorem dX8_goes_97 : decode cX8_goes 97 = .ok (.iload_n 1, 1) := by decide +kernel
theorem dX8_goes_98 : decode cX8_goes 98 = .ok (.iaload, 1) := by decide +kernel
theorem dX8_goes_99 : decode cX8_goes 99 = .ok (.laload, 1) := by decide +kernel
theorem dX8_goes_100 : decode cX8_goes 100 = .ok (.invokevirtual 167, 3) := by decide +kernel
theorem dX8_goes_103 : decode cX8_goes 103 = .ok (.ireturn, 1) := by decide +kernel
theorem dX8_goes_104 : decode cX8_goes 104 = .ok (.aload_n 0, 1) := by decide +kernel
theorem dX8_goes_105 : decode cX8_goes 105 = .ok (.iload_n 2, 1) := by decide +kernel
theorem dX8_goes_106 : decode cX8_goes 106 = .ok (.aload_n 0, 1) := by decide +kernel
theorem dX8_goes_107 : decode cX8_goes 107 = .ok (.getfield 60, 3) := by decide +kernel
theorem dX8_goes_110 : decode cX8_goes 110 = .ok (.aload_n 0, 1) := by decide +kernel
theorem dX8_goes_111 : decode cX8_goes 111 = .ok (.getfield 29, 3) := by decide +kernel
theorem dX8_goes_114 : decode cX8_goes 114 = .ok (.iload_n 1, 1) := by decide +kernel
theorem dX8_goes_115 : decode cX8_goes 115 = .ok (.iaload, 1) := by decide +kernel
theorem dX8_goes_116 : decode cX8_goes 116 = .ok (.laload, 1) := by decide +kernel
theorem dX8_goes_117 : decode cX8_goes 117 = .ok (.aload_n 0, 1) := by decide +kernel
theorem dX8_goes_118 : decode cX8_goes 118 = .ok (.getfield 60, 3) := by decide +kernel
theorem dX8_goes_121 : decode cX8_goes 121 = .ok (.aload_n 0, 1) := by decide +kernel
theorem dX8_goes_122 : decode cX8_goes 122 = .ok (.getfield 32, 3) := by decide +kernel
theorem dX8_goes_125 : decode cX8_goes 125 = .ok (.iload_n 1, 1) := by decide +kernel
theorem dX8_goes_126 : decode cX8_goes 126 = .ok (.iaload, 1) := by decide +kernel
theorem dX8_goes_127 : decode cX8_goes 127 = .ok (.laload, 1) := by decide +kernel
theorem dX8_goes_128 : decode cX8_goes 128 = .ok (.ladd, 1) := by decide +kernel
theorem dX8_goes_129 : decode cX8_goes 129 = .ok (.aload_n 0, 1) := by decide +kernel
theorem dX8_goes_130 : decode cX8_goes 130 = .ok (.getfield 63, 3) := by decide +kernel
theorem dX8_goes_133 : decode cX8_goes 133 = .ok (.aload_n 0, 1) := by decide +kernel
theorem dX8_goes_134 : decode cX8_goes 134 = .ok (.getfield 29, 3) := by decide +kernel
theorem dX8_goes_137 : decode cX8_goes 137 = .ok (.iload_n 1, 1) := by decide +kernel
theorem dX8_goes_138 : decode cX8_goes 138 = .ok (.iaload, 1) := by decide +kernel
theorem dX8_goes_139 : decode cX8_goes 139 = .ok (.laload, 1) := by decide +kernel
theorem dX8_goes_140 : decode cX8_goes 140 = .ok (.aload_n 0, 1) := by decide +kernel
theorem dX8_goes_141 : decode cX8_goes 141 = .ok (.getfield 63, 3) := by decide +kernel
theorem dX8_goes_144 : decode cX8_goes 144 = .ok (.aload_n 0, 1) := by decide +kernel
theorem dX8_goes_145 : decode cX8_goes 145 = .ok (.getfield 32, 3) := by decide +kernel
theorem dX8_goes_148 : decode cX8_goes 148 = .ok (.iload_n 1, 1) := by decide +kernel
theorem dX8_goes_149 : decode cX8_goes 149 = .ok (.iaload, 1) := by decide +kernel
theorem dX8_goes_150 : decode cX8_goes 150 = .ok (.laload, 1) := by decide +kernel
theorem dX8_goes_151 : decode cX8_goes 151 = .ok (.ladd, 1) := by decide +kernel
theorem dX8_goes_152 : decode cX8_goes 152 = .ok (.invokevirtual 167, 3) := by decide +kernel
theorem dX8_goes_155 : decode cX8_goes 155 = .ok (.ireturn, 1) := by decide +kernel
theorem dX8_goes_156 : decode cX8_goes 156 = .ok (.aload_n 0, 1) := by decide +kernel
theorem dX8_goes_157 : decode cX8_goes 157 = .ok (.iload_n 2, 1) := by decide +kernel
theorem dX8_goes_158 : decode cX8_goes 158 = .ok (.aload_n 0, 1) := by decide +kernel
theorem dX8_goes_159 : decode cX8_goes 159 = .ok (.getfield 60, 3) := by decide +kernel
theorem dX8_goes_162 : decode cX8_goes 162 = .ok (.aload_n 0, 1) := by decide +kernel
theorem dX8_goes_163 : decode cX8_goes 163 = .ok (.getfield 29, 3) := by decide +kernel
theorem dX8_goes_166 : decode cX8_goes 166 = .ok (.iload_n 1, 1) := by decide +kernel
theorem dX8_goes_167 : decode cX8_goes 167 = .ok (.iaload, 1) := by decide +kernel
theorem dX8_goes_168 : decode cX8_goes 168 = .ok (.laload, 1) := by decide +kernel
theorem dX8_goes_169 : decode cX8_goes 169 = .ok (.aload_n 0, 1) := by decide +kernel
theorem dX8_goes_170 : decode cX8_goes 170 = .ok (.getfield 63, 3) := by decide +kernel
theorem dX8_goes_173 : decode cX8_goes 173 = .ok (.aload_n 0, 1) := by decide +kernel
theorem dX8_goes_174 : decode cX8_goes 174 = .ok (.getfield 32, 3) := by decide +kernel
theorem dX8_goes_177 : decode cX8_goes 177 = .ok (.iload_n 1, 1) := by decide +kernel
theorem dX8_goes_178 : decode cX8_goes 178 = .ok (.iaload, 1) := by decide +kernel
theorem dX8_goes_179 : decode cX8_goes 179 = .ok (.laload, 1) := by decide +kernel
theorem dX8_goes_180 : decode cX8_goes 180 = .ok (.lsub, 1) := by decide +kernel
theorem dX8_goes_181 : decode cX8_goes 181 = .ok (.aload_n 0, 1) := by decide +kernel
theorem dX8_goes_182 : decode cX8_goes 182 = .ok (.getfield 63, 3) := by decide +kernel
theorem dX8_goes_185 : decode cX8_goes 185 = .ok (.aload_n 0, 1) := by decide +kernel
theorem dX8_goes_186 : decode cX8_goes 186 = .ok (.getfield 29, 3) := by decide +kernel
theorem dX8_goes_189 : decode cX8_goes 189 = .ok (.iload_n 1, 1) := by decide +kernel
theorem dX8_goes_190 : decode cX8_goes 190 = .ok (.iaload, 1) := by decide +kernel
theorem dX8_goes_191 : decode cX8_goes 191 = .ok (.laload, 1) := by decide +kernel
theorem dX8_goes_192 : decode cX8_goes 192 = .ok (.aload_n 0, 1) := by decide +kernel
theorem dX8_goes_193 : decode cX8_goes 193 = .ok (.getfield 60, 3) := by decide +kernel
theorem dX8_goes_196 : decode cX8_goes 196 = .ok (.aload_n 0, 1) := by decide +kernel
theorem dX8_goes_197 : decode cX8_goes 197 = .ok (.getfield 32, 3) := by decide +kernel
theorem dX8_goes_200 : decode cX8_goes 200 = .ok (.iload_n 1, 1) := by decide +kernel
theorem dX8_goes_201 : decode cX8_goes 201 = .ok (.iaload, 1) := by decide +kernel
theorem dX8_goes_202 : decode cX8_goes 202 = .ok (.laload, 1) := by decide +kernel
theorem dX8_goes_203 : decode cX8_goes 203 = .ok (.lsub, 1) := by decide +kernel
theorem dX8_goes_204 : decode cX8_goes 204 = .ok (.invokevirtual 167, 3) := by decide +kernel
theorem dX8_goes_207 : decode cX8_goes 207 = .ok (.ireturn, 1) := by decide +kernel
theorem dX8_goes_208 : decode cX8_goes 208 = .ok (.aload_n 0, 1) := by decide +kernel
theorem dX8_goes_209 : decode cX8_goes 209 = .ok (.iload_n 1, 1) := by decide +kernel
theorem dX8_goes_210 : decode cX8_goes 210 = .ok (.invokevirtual 171, 3) := by decide +kernel
theorem dX8_goes_213 : decode cX8_goes 213 = .ok (.ireturn, 1) := by decide +kernel
theorem dX8_goes_214 : decode cX8_goes 214 = .ok (.aload_n 0, 1) := by decide +kernel
theorem dX8_goes_215 : decode cX8_goes 215 = .ok (.iload_n 2, 1) := by decide +kernel
theorem dX8_goes_216 : decode cX8_goes 216 = .ok (.aload_n 0, 1) := by decide +kernel
theorem dX8_goes_217 : decode cX8_goes 217 = .ok (.getfield 60, 3) := by decide +kernel
theorem dX8_goes_220 : decode cX8_goes 220 = .ok (.aload_n 0, 1) := by decide +kernel
theorem dX8_goes_221 : decode cX8_goes 221 = .ok (.getfield 29, 3) := by decide +kernel
theorem dX8_goes_224 : decode cX8_goes 224 = .ok (.iload_n 1, 1) := by decide +kernel
theorem dX8_goes_225 : decode cX8_goes 225 = .ok (.iaload, 1) := by decide +kernel
theorem dX8_goes_226 : decode cX8_goes 226 = .ok (.laload, 1) := by decide +kernel
theorem dX8_goes_227 : decode cX8_goes 227 = .ok (.lconst 1, 1) := by decide +kernel
theorem dX8_goes_228 : decode cX8_goes 228 = .ok (.aload_n 0, 1) := by decide +kernel
theorem dX8_goes_229 : decode cX8_goes 229 = .ok (.getfield 32, 3) := by decide +kernel
theorem dX8_goes_232 : decode cX8_goes 232 = .ok (.iload_n 1, 1) := by decide +kernel
theorem dX8_goes_233 : decode cX8_goes 233 = .ok (.iaload, 1) := by decide +kernel
theorem dX8_goes_234 : decode cX8_goes 234 = .ok (.lshl, 1) := by decide +kernel
theorem dX8_goes_235 : decode cX8_goes 235 = .ok (.lmul, 1) := by decide +kernel
theorem dX8_goes_236 : decode cX8_goes 236 = .ok (.aload_n 0, 1) := by decide +kernel
theorem dX8_goes_237 : decode cX8_goes 237 = .ok (.getfield 63, 3) := by decide +kernel
theorem dX8_goes_240 : decode cX8_goes 240 = .ok (.aload_n 0, 1) := by decide +kernel
theorem dX8_goes_241 : decode cX8_goes 241 = .ok (.getfield 29, 3) := by decide +kernel
theorem dX8_goes_244 : decode cX8_goes 244 = .ok (.iload_n 1, 1) := by decide +kernel
theorem dX8_goes_245 : decode cX8_goes 245 = .ok (.iaload, 1) := by decide +kernel
theorem dX8_goes_246 : decode cX8_goes 246 = .ok (.laload, 1) := by decide +kernel
theorem dX8_goes_247 : decode cX8_goes 247 = .ok (.lconst 1, 1) := by decide +kernel
theorem dX8_goes_248 : decode cX8_goes 248 = .ok (.aload_n 0, 1) := by decide +kernel
theorem dX8_goes_249 : decode cX8_goes 249 = .ok (.getfield 32, 3) := by decide +kernel
theorem dX8_goes_252 : decode cX8_goes 252 = .ok (.iload_n 1, 1) := by decide +kernel
theorem dX8_goes_253 : decode cX8_goes 253 = .ok (.iaload, 1) := by decide +kernel
theorem dX8_goes_254 : decode cX8_goes 254 = .ok (.lshl, 1) := by decide +kernel
theorem dX8_goes_255 : decode cX8_goes 255 = .ok (.lmul, 1) := by decide +kernel
theorem dX8_goes_256 : decode cX8_goes 256 = .ok (.invokevirtual 167, 3) := by decide +kernel
theorem dX8_goes_259 : decode cX8_goes 259 = .ok (.ireturn, 1) := by decide +kernel
theorem dX8_goes_260 : decode cX8_goes 260 = .ok (.aload_n 0, 1) := by decide +kernel
theorem dX8_goes_261 : decode cX8_goes 261 = .ok (.iload_n 2, 1) := by decide +kernel
theorem dX8_goes_262 : decode cX8_goes 262 = .ok (.aload_n 0, 1) := by decide +kernel
theorem dX8_goes_263 : decode cX8_goes 263 = .ok (.getfield 60, 3) := by decide +kernel
theorem dX8_goes_266 : decode cX8_goes 266 = .ok (.aload_n 0, 1) := by decide +kernel
theorem dX8_goes_267 : decode cX8_goes 267 = .ok (.getfield 29, 3) := by decide +kernel
theorem dX8_goes_270 : decode cX8_goes 270 = .ok (.iload_n 1, 1) := by decide +kernel
theorem dX8_goes_271 : decode cX8_goes 271 = .ok (.iaload, 1) := by decide +kernel
theorem dX8_goes_272 : decode cX8_goes 272 = .ok (.laload, 1) := by decide +kernel
theorem dX8_goes_273 : decode cX8_goes 273 = .ok (.aload_n 0, 1) := by decide +kernel
theorem dX8_goes_274 : decode cX8_goes 274 = .ok (.getfield 60, 3) := by decide +kernel
theorem dX8_goes_277 : decode cX8_goes 277 = .ok (.aload_n 0, 1) := by decide +kernel
theorem dX8_goes_278 : decode cX8_goes 278 = .ok (.getfield 32, 3) := by decide +kernel
theorem dX8_goes_281 : decode cX8_goes 281 = .ok (.iload_n 1, 1) := by decide +kernel
theorem dX8_goes_282 : decode cX8_goes 282 = .ok (.iaload, 1) := by decide +kernel
theorem dX8_goes_283 : decode cX8_goes 283 = .ok (.laload, 1) := by decide +kernel
theorem dX8_goes_284 : decode cX8_goes 284 = .ok (.invokestatic 130, 3) := by decide +kernel
theorem dX8_goes_287 : decode cX8_goes 287 = .ok (.aload_n 0, 1) := by decide +kernel
theorem dX8_goes_288 : decode cX8_goes 288 = .ok (.getfield 63, 3) := by decide +kernel
theorem dX8_goes_291 : decode cX8_goes 291 = .ok (.aload_n 0, 1) := by decide +kernel
theorem dX8_goes_292 : decode cX8_goes 292 = .ok (.getfield 29, 3) := by decide +kernel
theorem dX8_goes_295 : decode cX8_goes 295 = .ok (.iload_n 1, 1) := by decide +kernel
theorem dX8_goes_296 : decode cX8_goes 296 = .ok (.iaload, 1) := by decide +kernel
theorem dX8_goes_297 : decode cX8_goes 297 = .ok (.laload, 1) := by decide +kernel
theorem dX8_goes_298 : decode cX8_goes 298 = .ok (.aload_n 0, 1) := by decide +kernel
theorem dX8_goes_299 : decode cX8_goes 299 = .ok (.getfield 63, 3) := by decide +kernel
theorem dX8_goes_302 : decode cX8_goes 302 = .ok (.aload_n 0, 1) := by decide +kernel
theorem dX8_goes_303 : decode cX8_goes 303 = .ok (.getfield 32, 3) := by decide +kernel
theorem dX8_goes_306 : decode cX8_goes 306 = .ok (.iload_n 1, 1) := by decide +kernel
theorem dX8_goes_307 : decode cX8_goes 307 = .ok (.iaload, 1) := by decide +kernel
theorem dX8_goes_308 : decode cX8_goes 308 = .ok (.laload, 1) := by decide +kernel
theorem dX8_goes_309 : decode cX8_goes 309 = .ok (.invokestatic 130, 3) := by decide +kernel
theorem dX8_goes_312 : decode cX8_goes 312 = .ok (.invokevirtual 167, 3) := by decide +kernel
theorem dX8_goes_315 : decode cX8_goes 315 = .ok (.ireturn, 1) := by decide +kernel
theorem dX8_goes_316 : decode cX8_goes 316 = .ok (.aload_n 0, 1) := by decide +kernel
theorem dX8_goes_317 : decode cX8_goes 317 = .ok (.iload_n 1, 1) := by decide +kernel
theorem dX8_goes_318 : decode cX8_goes 318 = .ok (.invokevirtual 174, 3) := by decide +kernel
theorem dX8_goes_321 : decode cX8_goes 321 = .ok (.ireturn, 1) := by decide +kernel
set_option maxRecDepth 20000 in
theorem ggX8_spans_X8_lays : GoodIn wsX8_spans wsX8_lays := goodIn_r _ [13, 7, 3, 14, 8, 15, 66, 67, 68, 69, 70, 71, 72, 73, 74, 75, 76, 77, 78, 79, 80, 81, 82, 83, 84, 85, 86, 87, 88, 89, 90, 91] (by decide +kernel) (by decide +kernel)
set_option maxRecDepth 20000 in
theorem gX8_spans_X8_lays : GoodIn wsX8_spans (wsV RX8 150 RX8 yX8_lays wsX8_lays) := goodIn_app (goodIn_of _ (by decide +kernel)) ggX8_spans_X8_lays
set_option maxRecDepth 20000 in
theorem ggX8_spans_X8_ends : GoodIn wsX8_spans wsX8_ends := goodIn_r _ [19, 1, 2, 20, 21, 22, 23, 12, 24, 25, 26, 27, 28, 29, 30, 31, 32, 33, 34, 35, 36, 37, 38, 39, 40, 41, 42, 43, 44, 66, 67, 68, 69, 70, 71, 72, 73, 74, 75, 76, 77, 78, 79, 80, 81, 82, 83, 84, 85, 86, 87, 88, 89, 90, 91] (by decide +kernel) (by decide +kernel)
set_option maxRecDepth 20000 in
theorem gX8_spans_X8_ends : GoodIn wsX8_spans (wsV RX8 167 RX8 yX8_ends wsX8_ends) := goodIn_app (goodIn_of _ (by decide +kernel)) ggX8_spans_X8_ends
set_option maxRecDepth 20000 in
theorem ggX8_spans_X8_goes : GoodIn wsX8_spans wsX8_goes := goodIn_r _ [48, 49, 14, 15, 1, 50, 2, 51, 52, 53, 54, 16, 17, 18, 12, 19, 20, 21, 22, 23, 24, 25, 26, 27, 28, 29, 30, 31, 32, 33, 34, 35, 36, 37, 38, 39, 40, 41, 42, 43, 44, 55, 56, 57, 58, 59, 60, 61, 62, 63, 64, 65, 66, 67, 68, 69, 70, 71, 72, 73, 74, 75, 76, 77, 78, 79, 80, 81, 82, 83, 84, 85, 86, 87, 88, 89, 90, 91] (by decide +kernel) (by decide +kernel)
set_option maxRecDepth 20000 in
theorem gX8_spans_X8_goes : GoodIn wsX8_spans (wsV RX8 177 RX8 yX8_goes wsX8_goes) := goodIn_app (goodIn_of _ (by decide +kernel)) ggX8_spans_X8_goes
theorem dX8_spans_0 : decode cX8_spans 0 = .ok (.aload_n 0, 1) := by decide +kernel
theorem dX8_spans_1 : decode cX8_spans 1 = .ok (.invokevirtual 150, 3) := by decide +kernel
theorem dX8_spans_4 : decode cX8_spans 4 = .ok (.iconst 0, 1) := by decide +kernel
theorem dX8_spans_5 : decode cX8_spans 5 = .ok (.istore_n 1, 1) := by decide +kernel
theorem dX8_spans_6 : decode cX8_spans 6 = .ok (.iload_n 1, 1) := by decide +kernel
theorem dX8_spans_7 : decode cX8_spans 7 = .ok (.bipush 6, 2) := by decide +kernel
theorem dX8_spans_9 : decode cX8_spans 9 = .ok (.if_icmp .ge 23, 3) := by decide +kernel
theorem dX8_spans_12 : decode cX8_spans 12 = .ok (.aload_n 0, 1) := by decide +kernel
theorem dX8_spans_13 : decode cX8_spans 13 = .ok (.getfield 60, 3) := by decide +kernel
theorem dX8_spans_16 : decode cX8_spans 16 = .ok (.iload_n 1, 1) := by decide +kernel
theorem dX8_spans_17 : decode cX8_spans 17 = .ok (.lconst 0, 1) := by decide +kernel
theorem dX8_spans_18 : decode cX8_spans 18 = .ok (.lastore, 1) := by decide +kernel
theorem dX8_spans_19 : decode cX8_spans 19 = .ok (.aload_n 0, 1) := by decide +kernel
theorem dX8_spans_20 : decode cX8_spans 20 = .ok (.getfield 63, 3) := by decide +kernel
theorem dX8_spans_23 : decode cX8_spans 23 = .ok (.iload_n 1, 1) := by decide +kernel
theorem dX8_spans_24 : decode cX8_spans 24 = .ok (.lconst 0, 1) := by decide +kernel
theorem dX8_spans_25 : decode cX8_spans 25 = .ok (.lastore, 1) := by decide +kernel
theorem dX8_spans_26 : decode cX8_spans 26 = .ok (.iinc 1 1, 3) := by decide +kernel
theorem dX8_spans_29 : decode cX8_spans 29 = .ok (.goto (-23), 3) := by decide +kernel
theorem dX8_spans_32 : decode cX8_spans 32 = .ok (.iconst 0, 1) := by decide +kernel
theorem dX8_spans_33 : decode cX8_spans 33 = .ok (.istore_n 1, 1) := by decide +kernel
theorem dX8_spans_34 : decode cX8_spans 34 = .ok (.iload_n 1, 1) := by decide +kernel
theorem dX8_spans_35 : decode cX8_spans 35 = .ok (.aload_n 0, 1) := by decide +kernel
theorem dX8_spans_36 : decode cX8_spans 36 = .ok (.getfield 75, 3) := by decide +kernel
theorem dX8_spans_39 : decode cX8_spans 39 = .ok (.if_icmp .ge 16, 3) := by decide +kernel
theorem dX8_spans_42 : decode cX8_spans 42 = .ok (.aload_n 0, 1) := by decide +kernel
theorem dX8_spans_43 : decode cX8_spans 43 = .ok (.getfield 66, 3) := by decide +kernel
theorem dX8_spans_46 : decode cX8_spans 46 = .ok (.iload_n 1, 1) := by decide +kernel
theorem dX8_spans_47 : decode cX8_spans 47 = .ok (.iconst 0, 1) := by decide +kernel
theorem dX8_spans_48 : decode cX8_spans 48 = .ok (.bastore, 1) := by decide +kernel
theorem dX8_spans_49 : decode cX8_spans 49 = .ok (.iinc 1 1, 3) := by decide +kernel
theorem dX8_spans_52 : decode cX8_spans 52 = .ok (.goto (-18), 3) := by decide +kernel
theorem dX8_spans_55 : decode cX8_spans 55 = .ok (.iconst 0, 1) := by decide +kernel
theorem dX8_spans_56 : decode cX8_spans 56 = .ok (.istore_n 1, 1) := by decide +kernel
theorem dX8_spans_57 : decode cX8_spans 57 = .ok (.iload_n 1, 1) := by decide +kernel
theorem dX8_spans_58 : decode cX8_spans 58 = .ok (.iconst 2, 1) := by decide +kernel
theorem dX8_spans_59 : decode cX8_spans 59 = .ok (.if_icmp .ge 29, 3) := by decide +kernel
theorem dX8_spans_62 : decode cX8_spans 62 = .ok (.aload_n 0, 1) := by decide +kernel
theorem dX8_spans_63 : decode cX8_spans 63 = .ok (.iload_n 1, 1) := by decide +kernel
theorem dX8_spans_64 : decode cX8_spans 64 = .ok (.aload_n 0, 1) := by decide +kernel
theorem dX8_spans_65 : decode cX8_spans 65 = .ok (.getfield 17, 3) := by decide +kernel
theorem dX8_spans_68 : decode cX8_spans 68 = .ok (.iload_n 1, 1) := by decide +kernel
theorem dX8_spans_69 : decode cX8_spans 69 = .ok (.iaload, 1) := by decide +kernel
theorem dX8_spans_70 : decode cX8_spans 70 = .ok (.i2l, 1) := by decide +kernel
theorem dX8_spans_71 : decode cX8_spans 71 = .ok (.aload_n 0, 1) := by decide +kernel
theorem dX8_spans_72 : decode cX8_spans 72 = .ok (.getfield 20, 3) := by decide +kernel
theorem dX8_spans_75 : decode cX8_spans 75 = .ok (.iload_n 1, 1) := by decide +kernel
theorem dX8_spans_76 : decode cX8_spans 76 = .ok (.iaload, 1) := by decide +kernel
theorem dX8_spans_77 : decode cX8_spans 77 = .ok (.i2l, 1) := by decide +kernel
theorem dX8_spans_78 : decode cX8_spans 78 = .ok (.invokevirtual 167, 3) := by decide +kernel
theorem dX8_spans_81 : decode cX8_spans 81 = .ok (.istore_n 2, 1) := by decide +kernel
theorem dX8_spans_82 : decode cX8_spans 82 = .ok (.iinc 1 1, 3) := by decide +kernel
theorem dX8_spans_85 : decode cX8_spans 85 = .ok (.goto (-28), 3) := by decide +kernel
theorem dX8_spans_88 : decode cX8_spans 88 = .ok (.iconst 0, 1) := by decide +kernel
theorem dX8_spans_89 : decode cX8_spans 89 = .ok (.istore_n 1, 1) := by decide +kernel
theorem dX8_spans_90 : decode cX8_spans 90 = .ok (.iload_n 1, 1) := by decide +kernel
theorem dX8_spans_91 : decode cX8_spans 91 = .ok (.aload_n 0, 1) := by decide +kernel
theorem dX8_spans_92 : decode cX8_spans 92 = .ok (.getfield 110, 3) := by decide +kernel
theorem dX8_spans_95 : decode cX8_spans 95 = .ok (.if_icmp .ge 52, 3) := by decide +kernel
theorem dX8_spans_98 : decode cX8_spans 98 = .ok (.aload_n 0, 1) := by decide +kernel
theorem dX8_spans_99 : decode cX8_spans 99 = .ok (.getfield 66, 3) := by decide +kernel
theorem dX8_spans_102 : decode cX8_spans 102 = .ok (.aload_n 0, 1) := by decide +kernel
theorem dX8_spans_103 : decode cX8_spans 103 = .ok (.getfield 38, 3) := by decide +kernel
theorem dX8_spans_106 : decode cX8_spans 106 = .ok (.iload_n 1, 1) := by decide +kernel
theorem dX8_spans_107 : decode cX8_spans 107 = .ok (.iaload, 1) := by decide +kernel
theorem dX8_spans_108 : decode cX8_spans 108 = .ok (.aload_n 0, 1) := by decide +kernel
theorem dX8_spans_109 : decode cX8_spans 109 = .ok (.aload_n 0, 1) := by decide +kernel
theorem dX8_spans_110 : decode cX8_spans 110 = .ok (.getfield 38, 3) := by decide +kernel
theorem dX8_spans_113 : decode cX8_spans 113 = .ok (.iload_n 1, 1) := by decide +kernel
theorem dX8_spans_114 : decode cX8_spans 114 = .ok (.iaload, 1) := by decide +kernel
theorem dX8_spans_115 : decode cX8_spans 115 = .ok (.invokevirtual 177, 3) := by decide +kernel
theorem dX8_spans_118 : decode cX8_spans 118 = .ok (.ifCond .ne 17, 3) := by decide +kernel
theorem dX8_spans_121 : decode cX8_spans 121 = .ok (.aload_n 0, 1) := by decide +kernel
theorem dX8_spans_122 : decode cX8_spans 122 = .ok (.getfield 66, 3) := by decide +kernel
theorem dX8_spans_125 : decode cX8_spans 125 = .ok (.aload_n 0, 1) := by decide +kernel
theorem dX8_spans_126 : decode cX8_spans 126 = .ok (.getfield 38, 3) := by decide +kernel
theorem dX8_spans_129 : decode cX8_spans 129 = .ok (.iload_n 1, 1) := by decide +kernel
theorem dX8_spans_130 : decode cX8_spans 130 = .ok (.iaload, 1) := by decide +kernel
theorem dX8_spans_131 : decode cX8_spans 131 = .ok (.baload, 1) := by decide +kernel
theorem dX8_spans_132 : decode cX8_spans 132 = .ok (.ifCond .eq 7, 3) := by decide +kernel
theorem dX8_spans_135 : decode cX8_spans 135 = .ok (.iconst 1, 1) := by decide +kernel
theorem dX8_spans_136 : decode cX8_spans 136 = .ok (.goto 4, 3) := by decide +kernel
theorem dX8_spans_139 : decode cX8_spans 139 = .ok (.iconst 0, 1) := by decide +kernel
theorem dX8_spans_140 : decode cX8_spans 140 = .ok (.bastore, 1) := by decide +kernel
theorem dX8_spans_141 : decode cX8_spans 141 = .ok (.iinc 1 1, 3) := by decide +kernel
theorem dX8_spans_144 : decode cX8_spans 144 = .ok (.goto (-54), 3) := by decide +kernel
theorem dX8_spans_147 : decode cX8_spans 147 = .ok (.return_, 1) := by decide +kernel
set_option maxRecDepth 20000 in
theorem ggX8_ends__X8_isName : GoodIn wsX8_ends_ wsX8_isName := goodIn_r _ [7, 8, 9, 10, 6, 11] (by decide +kernel) (by decide +kernel)
set_option maxRecDepth 20000 in
theorem gX8_ends__X8_isName : GoodIn wsX8_ends_ (va_wsS RX8 85 yX8_isName wsX8_isName) := goodIn_app (goodIn_of _ (by decide +kernel)) ggX8_ends__X8_isName
set_option maxRecDepth 20000 in
theorem ggX8_ends__X8_in : GoodIn wsX8_ends_ wsX8_in := goodIn_r _ [11] (by decide +kernel) (by decide +kernel)
set_option maxRecDepth 20000 in
theorem gX8_ends__X8_in : GoodIn wsX8_ends_ (va_wsS RX8 79 yX8_in wsX8_in) := goodIn_app (goodIn_of _ (by decide +kernel)) ggX8_ends__X8_in
set_option maxRecDepth 20000 in
theorem ggX8_ends__X8_spans : GoodIn wsX8_ends_ wsX8_spans := goodIn_r _ [15, 2, 3, 16, 17, 18, 19, 20, 21, 22, 23, 24, 6, 25, 26, 27, 28, 29, 30, 31, 32, 33, 34, 35, 36, 37, 38, 39, 40, 41, 42, 43, 44, 45, 46, 9, 10, 11, 47, 48, 49, 50, 51, 52, 53, 54, 55, 56, 57, 58, 59, 60, 61, 62, 63, 64, 65, 66, 67, 68, 69, 70, 71, 72, 73, 74, 75, 76, 77, 78, 79, 80, 81, 82, 83, 84, 85, 86, 87, 88, 89, 90, 91, 92, 93, 94, 95, 96, 97, 98, 99, 100] (by decide +kernel) (by decide +kernel)
set_option maxRecDepth 20000 in
theorem gX8_ends__X8_spans : GoodIn wsX8_ends_ (wsV RX8 180 RX8 yX8_spans wsX8_spans) := goodIn_app (goodIn_of _ (by decide +kernel)) ggX8_ends__X8_spans
theorem dX8_ends__0 : decode cX8_ends_ 0 = .ok (.iload_n 1, 1) := by decide +kernel
theorem dX8_ends__1 : decode cX8_ends_ 1 = .ok (.invokestatic 85, 3) := by decide +kernel
theorem dX8_ends__4 : decode cX8_ends_ 4 = .ok (.ifCond .eq 13, 3) := by decide +kernel
theorem dX8_ends__7 : decode cX8_ends_ 7 = .ok (.iload_n 2, 1) := by decide +kernel
theorem dX8_ends__8 : decode cX8_ends_ 8 = .ok (.i2l, 1) := by decide +kernel
theorem dX8_ends__9 : decode cX8_ends_ 9 = .ok (.lconst 0, 1) := by decide +kernel
theorem dX8_ends__10 : decode cX8_ends_ 10 = .ok (.lconst 1, 1) := by decide +kernel
theorem dX8_ends__11 : decode cX8_ends_ 11 = .ok (.invokestatic 79, 3) := by decide +kernel
theorem dX8_ends__14 : decode cX8_ends_ 14 = .ok (.ifCond .ne 6, 3) := by decide +kernel
theorem dX8_ends__17 : decode cX8_ends_ 17 = .ok (.ldc 164, 2) := by decide +kernel
theorem dX8_ends__19 : decode cX8_ends_ 19 = .ok (.ireturn, 1) := by decide +kernel
theorem dX8_ends__20 : decode cX8_ends_ 20 = .ok (.aload_n 0, 1) := by decide +kernel
theorem dX8_ends__21 : decode cX8_ends_ 21 = .ok (.invokevirtual 180, 3) := by decide +kernel
theorem dX8_ends__24 : decode cX8_ends_ 24 = .ok (.iload_n 2, 1) := by decide +kernel
theorem dX8_ends__25 : decode cX8_ends_ 25 = .ok (.ifCond .ne 12, 3) := by decide +kernel
theorem dX8_ends__28 : decode cX8_ends_ 28 = .ok (.aload_n 0, 1) := by decide +kernel
theorem dX8_ends__29 : decode cX8_ends_ 29 = .ok (.getfield 60, 3) := by decide +kernel
theorem dX8_ends__32 : decode cX8_ends_ 32 = .ok (.iload_n 1, 1) := by decide +kernel
theorem dX8_ends__33 : decode cX8_ends_ 33 = .ok (.laload, 1) := by decide +kernel
theorem dX8_ends__34 : decode cX8_ends_ 34 = .ok (.goto 9, 3) := by decide +kernel
theorem dX8_ends__37 : decode cX8_ends_ 37 = .ok (.aload_n 0, 1) := by decide +kernel
theorem dX8_ends__38 : decode cX8_ends_ 38 = .ok (.getfield 63, 3) := by decide +kernel
theorem dX8_ends__41 : decode cX8_ends_ 41 = .ok (.iload_n 1, 1) := by decide +kernel
theorem dX8_ends__42 : decode cX8_ends_ 42 = .ok (.laload, 1) := by decide +kernel
theorem dX8_ends__43 : decode cX8_ends_ 43 = .ok (.l2i, 1) := by decide +kernel
theorem dX8_ends__44 : decode cX8_ends_ 44 = .ok (.ireturn, 1) := by decide +kernel
set_option maxRecDepth 20000 in
theorem ggX8_judged_X8_many : GoodIn wsX8_judged wsX8_many := goodIn_r _ [7, 8, 9, 10, 11, 12, 13, 14, 15, 16, 17, 18, 19, 20, 21, 22, 23, 24, 25, 26, 27, 28, 29, 30, 31, 32, 33, 34, 35] (by decide +kernel) (by decide +kernel)
set_option maxRecDepth 20000 in
theorem gX8_judged_X8_many : GoodIn wsX8_judged (wsV RX8 183 RX8 yX8_many wsX8_many) := goodIn_app (goodIn_of _ (by decide +kernel)) ggX8_judged_X8_many
theorem dX8_judged_0 : decode cX8_judged 0 = .ok (.aload_n 0, 1) := by decide +kernel
theorem dX8_judged_1 : decode cX8_judged 1 = .ok (.getfield 66, 3) := by decide +kernel
theorem dX8_judged_4 : decode cX8_judged 4 = .ok (.iload_n 1, 1) := by decide +kernel
theorem dX8_judged_5 : decode cX8_judged 5 = .ok (.baload, 1) := by decide +kernel
theorem dX8_judged_6 : decode cX8_judged 6 = .ok (.ifCond .ne 5, 3) := by decide +kernel
theorem dX8_judged_9 : decode cX8_judged 9 = .ok (.iconst 0, 1) := by decide +kernel
theorem dX8_judged_10 : decode cX8_judged 10 = .ok (.ireturn, 1) := by decide +kernel
theorem dX8_judged_11 : decode cX8_judged 11 = .ok (.aload_n 0, 1) := by decide +kernel
theorem dX8_judged_12 : decode cX8_judged 12 = .ok (.getfield 51, 3) := by decide +kernel
theorem dX8_judged_15 : decode cX8_judged 15 = .ok (.iload_n 1, 1) := by decide +kernel
theorem dX8_judged_16 : decode cX8_judged 16 = .ok (.iaload, 1) := by decide +kernel
theorem dX8_judged_17 : decode cX8_judged 17 = .ok (.ifCond .ne 7, 3) := by decide +kernel
theorem dX8_judged_20 : decode cX8_judged 20 = .ok (.iconst 1, 1) := by decide +kernel
theorem dX8_judged_21 : decode cX8_judged 21 = .ok (.goto 21, 3) := by decide +kernel
theorem dX8_judged_24 : decode cX8_judged 24 = .ok (.aload_n 0, 1) := by decide +kernel
theorem dX8_judged_25 : decode cX8_judged 25 = .ok (.getfield 51, 3) := by decide +kernel
theorem dX8_judged_28 : decode cX8_judged 28 = .ok (.iload_n 1, 1) := by decide +kernel
theorem dX8_judged_29 : decode cX8_judged 29 = .ok (.iaload, 1) := by decide +kernel
theorem dX8_judged_30 : decode cX8_judged 30 = .ok (.aload_n 0, 1) := by decide +kernel
theorem dX8_judged_31 : decode cX8_judged 31 = .ok (.invokevirtual 183, 3) := by decide +kernel
theorem dX8_judged_34 : decode cX8_judged 34 = .ok (.if_icmp .ne 7, 3) := by decide +kernel
theorem dX8_judged_37 : decode cX8_judged 37 = .ok (.iconst 3, 1) := by decide +kernel
theorem dX8_judged_38 : decode cX8_judged 38 = .ok (.goto 4, 3) := by decide +kernel
theorem dX8_judged_41 : decode cX8_judged 41 = .ok (.iconst 2, 1) := by decide +kernel
theorem dX8_judged_42 : decode cX8_judged 42 = .ok (.ireturn, 1) := by decide +kernel
set_option maxRecDepth 20000 in
theorem ggX8_judge_X8_isStep : GoodIn wsX8_judge wsX8_isStep := goodIn_r _ [5, 6, 7, 8, 4, 9, 109, 110, 111, 112, 113, 114, 115, 116, 117, 118, 119, 120, 121, 122, 123, 124, 125, 126, 127, 128, 129, 130, 131, 132, 133, 134] (by decide +kernel) (by decide +kernel)
set_option maxRecDepth 20000 in
theorem gX8_judge_X8_isStep : GoodIn wsX8_judge (wsV RX8 187 RX8 yX8_isStep wsX8_isStep) := goodIn_app (goodIn_of _ (by decide +kernel)) ggX8_judge_X8_isStep
set_option maxRecDepth 20000 in
theorem ggX8_judge_X8_spans : GoodIn wsX8_judge wsX8_spans := goodIn_r _ [13, 14, 15, 6, 16, 17, 18, 19, 20, 21, 22, 23, 4, 24, 25, 26, 27, 28, 29, 30, 31, 32, 33, 34, 35, 36, 37, 38, 39, 40, 41, 42, 43, 44, 45, 7, 8, 9, 46, 47, 48, 49, 50, 51, 52, 53, 54, 55, 56, 57, 58, 59, 60, 61, 62, 63, 64, 65, 66, 67, 68, 69, 70, 71, 72, 73, 109, 110, 111, 112, 113, 114, 115, 116, 117, 118, 119, 120, 121, 122, 123, 124, 125, 126, 127, 128, 129, 130, 131, 132, 133, 134] (by decide +kernel) (by decide +kernel)
set_option maxRecDepth 20000 in
theorem gX8_judge_X8_spans : GoodIn wsX8_judge (wsV RX8 180 RX8 yX8_spans wsX8_spans) := goodIn_app (goodIn_of _ (by decide +kernel)) ggX8_judge_X8_spans
set_option maxRecDepth 20000 in
theorem ggX8_judge_X8_all : GoodIn wsX8_judge wsX8_all := goodIn_r _ [77, 78, 6, 79, 80, 81, 17, 18, 82, 83, 84, 21, 22, 23, 4, 24, 19, 25, 20, 26, 85, 86, 87, 88, 89, 58, 57, 46, 47, 48, 49, 31, 41, 36, 37, 38, 39, 40, 42, 43, 44, 45, 7, 8, 9, 50, 51, 52, 90, 91, 92, 93, 59, 60, 61, 62, 94, 95, 96, 97, 98, 99, 100, 32, 33, 34, 35, 109, 110, 111, 112, 113, 114, 115, 116, 117, 118, 119, 120, 121, 122, 123, 124, 125, 126, 127, 128, 129, 130, 131, 132, 133, 134] (by decide +kernel) (by decide +kernel)
set_option maxRecDepth 20000 in
theorem gX8_judge_X8_all : GoodIn wsX8_judge (wsV RX8 190 RX8 yX8_all wsX8_all) := goodIn_app (goodIn_of _ (by decide +kernel)) ggX8_judge_X8_all
set_option maxRecDepth 20000 in
theorem ggX8_judge_X8_judged : GoodIn wsX8_judge wsX8_judged := goodIn_r _ [104, 16, 79, 105, 106, 107, 4, 108, 18, 17, 109, 110, 111, 112, 113, 114, 115, 116, 117, 118, 119, 120, 121, 122, 123, 124, 125, 126, 127, 128, 129, 130, 131, 132, 133, 134] (by decide +kernel) (by decide +kernel)
set_option maxRecDepth 20000 in
theorem gX8_judge_X8_judged : GoodIn wsX8_judge (wsV RX8 193 RX8 yX8_judged wsX8_judged) := goodIn_app (goodIn_of _ (by decide +kernel)) ggX8_judge_X8_judged
theorem dX8_judge_0 : decode cX8_judge 0 = .ok (.aload_n 0, 1) := by decide +kernel
theorem dX8_judge_1 : decode cX8_judge 1 = .ok (.iload_n 1, 1) := by decide +kernel
theorem dX8_judge_2 : decode cX8_judge 2 = .ok (.invokevirtual 187, 3) := by decide +kernel
theorem dX8_judge_5 : decode cX8_judge 5 = .ok (.ifCond .ne 5, 3) := by decide +kernel
theorem dX8_judge_8 : decode cX8_judge 8 = .ok (.iconst (-1), 1) := by decide +kernel
theorem dX8_judge_9 : decode cX8_judge 9 = .ok (.ireturn, 1) := by decide +kernel
theorem dX8_judge_10 : decode cX8_judge 10 = .ok (.aload_n 0, 1) := by decide +kernel
theorem dX8_judge_11 : decode cX8_judge 11 = .ok (.invokevirtual 180, 3) := by decide +kernel
theorem dX8_judge_14 : decode cX8_judge 14 = .ok (.aload_n 0, 1) := by decide +kernel
theorem dX8_judge_15 : decode cX8_judge 15 = .ok (.invokevirtual 190, 3) := by decide +kernel
theorem dX8_judge_18 : decode cX8_judge 18 = .ok (.aload_n 0, 1) := by decide +kernel
theorem dX8_judge_19 : decode cX8_judge 19 = .ok (.iload_n 1, 1) := by decide +kernel
theorem dX8_judge_20 : decode cX8_judge 20 = .ok (.invokevirtual 193, 3) := by decide +kernel
theorem dX8_judge_23 : decode cX8_judge 23 = .ok (.ireturn, 1) := by decide +kernel
set_option maxRecDepth 20000 in
theorem ggX8_over_X8_isStep : GoodIn wsX8_over wsX8_isStep := goodIn_r _ [6, 7, 8, 9, 5, 10, 75, 76, 77, 78, 79, 80, 81, 82, 83, 84, 85, 86, 87, 88, 89, 90, 91, 92, 93, 94, 95, 96, 97, 98, 99, 100] (by decide +kernel) (by decide +kernel)
set_option maxRecDepth 20000 in
theorem gX8_over_X8_isStep : GoodIn wsX8_over (wsV RX8 187 RX8 yX8_isStep wsX8_isStep) := goodIn_app (goodIn_of _ (by decide +kernel)) ggX8_over_X8_isStep
set_option maxRecDepth 20000 in
theorem ggX8_over_X8_all : GoodIn wsX8_over wsX8_all := goodIn_r _ [14, 15, 7, 1, 16, 17, 18, 19, 20, 21, 22, 23, 24, 25, 5, 26, 27, 28, 29, 30, 31, 32, 33, 34, 35, 36, 37, 38, 39, 40, 41, 42, 43, 44, 45, 46, 47, 48, 49, 50, 51, 52, 8, 9, 10, 53, 54, 55, 56, 57, 58, 59, 60, 61, 62, 63, 64, 65, 66, 67, 68, 69, 70, 71, 72, 73, 74, 75, 76, 77, 78, 79, 80, 81, 82, 83, 84, 85, 86, 87, 88, 89, 90, 91, 92, 93, 94, 95, 96, 97, 98, 99, 100] (by decide +kernel) (by decide +kernel)
set_option maxRecDepth 20000 in
theorem gX8_over_X8_all : GoodIn wsX8_over (wsV RX8 190 RX8 yX8_all wsX8_all) := goodIn_app (goodIn_of _ (by decide +kernel)) ggX8_over_X8_all
theorem dX8_over_0 : decode cX8_over 0 = .ok (.aload_n 0, 1) := by decide +kernel
theorem dX8_over_1 : decode cX8_over 1 = .ok (.iload_n 1, 1) := by decide +kernel
theorem dX8_over_2 : decode cX8_over 2 = .ok (.invokevirtual 187, 3) := by decide +kernel
theorem dX8_over_5 : decode cX8_over 5 = .ok (.ifCond .ne 5, 3) := by decide +kernel
theorem dX8_over_8 : decode cX8_over 8 = .ok (.iconst (-1), 1) := by decide +kernel
theorem dX8_over_9 : decode cX8_over 9 = .ok (.ireturn, 1) := by decide +kernel
theorem dX8_over_10 : decode cX8_over 10 = .ok (.aload_n 0, 1) := by decide +kernel
theorem dX8_over_11 : decode cX8_over 11 = .ok (.invokevirtual 190, 3) := by decide +kernel
theorem dX8_over_14 : decode cX8_over 14 = .ok (.aload_n 0, 1) := by decide +kernel
theorem dX8_over_15 : decode cX8_over 15 = .ok (.getfield 51, 3) := by decide +kernel
theorem dX8_over_18 : decode cX8_over 18 = .ok (.iload_n 1, 1) := by decide +kernel
theorem dX8_over_19 : decode cX8_over 19 = .ok (.iaload, 1) := by decide +kernel
theorem dX8_over_20 : decode cX8_over 20 = .ok (.ireturn, 1) := by decide +kernel
set_option maxRecDepth 20000 in
theorem ggX8_shown_X8_isStep : GoodIn wsX8_shown wsX8_isStep := goodIn_r _ [6, 7, 8, 9, 5, 10, 75, 76, 77, 78, 79, 80, 81, 82, 83, 84, 85, 86, 87, 88, 89, 90, 91, 92, 93, 94, 95, 96, 97, 98, 99, 100] (by decide +kernel) (by decide +kernel)
set_option maxRecDepth 20000 in
theorem gX8_shown_X8_isStep : GoodIn wsX8_shown (wsV RX8 187 RX8 yX8_isStep wsX8_isStep) := goodIn_app (goodIn_of _ (by decide +kernel)) ggX8_shown_X8_isStep
set_option maxRecDepth 20000 in
theorem ggX8_shown_X8_all : GoodIn wsX8_shown wsX8_all := goodIn_r _ [14, 15, 7, 16, 17, 1, 18, 19, 20, 21, 22, 23, 24, 25, 5, 26, 27, 28, 29, 30, 31, 32, 33, 34, 35, 36, 37, 38, 39, 40, 41, 42, 43, 44, 45, 46, 47, 48, 49, 50, 51, 52, 8, 9, 10, 53, 54, 55, 56, 57, 58, 59, 60, 61, 62, 63, 64, 65, 66, 67, 68, 69, 70, 71, 72, 73, 74, 75, 76, 77, 78, 79, 80, 81, 82, 83, 84, 85, 86, 87, 88, 89, 90, 91, 92, 93, 94, 95, 96, 97, 98, 99, 100] (by decide +kernel) (by decide +kernel)
set_option maxRecDepth 20000 in
theorem gX8_shown_X8_all : GoodIn wsX8_shown (wsV RX8 190 RX8 yX8_all wsX8_all) := goodIn_app (goodIn_of _ (by decide +kernel)) ggX8_shown_X8_all
theorem dX8_shown_0 : decode cX8_shown 0 = .ok (.aload_n 0, 1) := by decide +kernel
theorem dX8_shown_1 : decode cX8_shown 1 = .ok (.iload_n 1, 1) := by decide +kernel
theorem dX8_shown_2 : decode cX8_shown 2 = .ok (.invokevirtual 187, 3) := by decide +kernel
theorem dX8_shown_5 : decode cX8_shown 5 = .ok (.ifCond .ne 5, 3) := by decide +kernel
theorem dX8_shown_8 : decode cX8_shown 8 = .ok (.iconst (-1), 1) := by decide +kernel
theorem dX8_shown_9 : decode cX8_shown 9 = .ok (.ireturn, 1) := by decide +kernel
theorem dX8_shown_10 : decode cX8_shown 10 = .ok (.aload_n 0, 1) := by decide +kernel
theorem dX8_shown_11 : decode cX8_shown 11 = .ok (.invokevirtual 190, 3) := by decide +kernel
theorem dX8_shown_14 : decode cX8_shown 14 = .ok (.aload_n 0, 1) := by decide +kernel
theorem dX8_shown_15 : decode cX8_shown 15 = .ok (.getfield 57, 3) := by decide +kernel
theorem dX8_shown_18 : decode cX8_shown 18 = .ok (.iload_n 1, 1) := by decide +kernel
theorem dX8_shown_19 : decode cX8_shown 19 = .ok (.iaload, 1) := by decide +kernel
theorem dX8_shown_20 : decode cX8_shown 20 = .ok (.ireturn, 1) := by decide +kernel
set_option maxRecDepth 20000 in
theorem ggX8_turned_X8_isStep : GoodIn wsX8_turned wsX8_isStep := goodIn_r _ [7, 8, 9, 10, 6, 11, 75, 76, 77, 78, 79, 80, 81, 82, 83, 84, 85, 86, 87, 88, 89, 90, 91, 92, 93, 94, 95, 96, 97, 98, 99, 100] (by decide +kernel) (by decide +kernel)
set_option maxRecDepth 20000 in
theorem gX8_turned_X8_isStep : GoodIn wsX8_turned (wsV RX8 187 RX8 yX8_isStep wsX8_isStep) := goodIn_app (goodIn_of _ (by decide +kernel)) ggX8_turned_X8_isStep
set_option maxRecDepth 20000 in
theorem ggX8_turned_X8_all : GoodIn wsX8_turned wsX8_all := goodIn_r _ [15, 16, 8, 17, 2, 18, 19, 20, 21, 22, 23, 24, 25, 26, 6, 27, 28, 1, 29, 30, 31, 32, 33, 34, 35, 36, 37, 38, 39, 40, 41, 42, 43, 44, 45, 46, 47, 48, 49, 50, 51, 52, 9, 10, 11, 53, 54, 55, 56, 57, 58, 59, 60, 61, 62, 63, 64, 65, 66, 67, 68, 69, 70, 71, 72, 73, 74, 75, 76, 77, 78, 79, 80, 81, 82, 83, 84, 85, 86, 87, 88, 89, 90, 91, 92, 93, 94, 95, 96, 97, 98, 99, 100] (by decide +kernel) (by decide +kernel)
set_option maxRecDepth 20000 in
theorem gX8_turned_X8_all : GoodIn wsX8_turned (wsV RX8 190 RX8 yX8_all wsX8_all) := goodIn_app (goodIn_of _ (by decide +kernel)) ggX8_turned_X8_all
theorem dX8_turned_0 : decode cX8_turned 0 = .ok (.aload_n 0, 1) := by decide +kernel
theorem dX8_turned_1 : decode cX8_turned 1 = .ok (.iload_n 1, 1) := by decide +kernel
theorem dX8_turned_2 : decode cX8_turned 2 = .ok (.invokevirtual 187, 3) := by decide +kernel
theorem dX8_turned_5 : decode cX8_turned 5 = .ok (.ifCond .eq 14, 3) := by decide +kernel
theorem dX8_turned_8 : decode cX8_turned 8 = .ok (.aload_n 0, 1) := by decide +kernel
theorem dX8_turned_9 : decode cX8_turned 9 = .ok (.getfield 23, 3) := by decide +kernel
theorem dX8_turned_12 : decode cX8_turned 12 = .ok (.iload_n 1, 1) := by decide +kernel
theorem dX8_turned_13 : decode cX8_turned 13 = .ok (.iaload, 1) := by decide +kernel
theorem dX8_turned_14 : decode cX8_turned 14 = .ok (.bipush 7, 2) := by decide +kernel
theorem dX8_turned_16 : decode cX8_turned 16 = .ok (.if_icmp .eq 5, 3) := by decide +kernel
theorem dX8_turned_19 : decode cX8_turned 19 = .ok (.iconst (-1), 1) := by decide +kernel
theorem dX8_turned_20 : decode cX8_turned 20 = .ok (.ireturn, 1) := by decide +kernel
theorem dX8_turned_21 : decode cX8_turned 21 = .ok (.aload_n 0, 1) := by decide +kernel
theorem dX8_turned_22 : decode cX8_turned 22 = .ok (.invokevirtual 190, 3) := by decide +kernel
theorem dX8_turned_25 : decode cX8_turned 25 = .ok (.aload_n 0, 1) := by decide +kernel
theorem dX8_turned_26 : decode cX8_turned 26 = .ok (.getfield 54, 3) := by decide +kernel
theorem dX8_turned_29 : decode cX8_turned 29 = .ok (.iload_n 1, 1) := by decide +kernel
theorem dX8_turned_30 : decode cX8_turned 30 = .ok (.iaload, 1) := by decide +kernel
theorem dX8_turned_31 : decode cX8_turned 31 = .ok (.ireturn, 1) := by decide +kernel
set_option maxRecDepth 20000 in
theorem ggX8_isFar_X8_in : GoodIn wsX8_isFar wsX8_in := goodIn_r _ [6] (by decide +kernel) (by decide +kernel)
set_option maxRecDepth 20000 in
theorem gX8_isFar_X8_in : GoodIn wsX8_isFar (va_wsS RX8 79 yX8_in wsX8_in) := goodIn_app (goodIn_of _ (by decide +kernel)) ggX8_isFar_X8_in
theorem dX8_isFar_0 : decode cX8_isFar 0 = .ok (.lload_n 0, 1) := by decide +kernel
theorem dX8_isFar_1 : decode cX8_isFar 1 = .ok (.ldc2_w 197, 3) := by decide +kernel
theorem dX8_isFar_4 : decode cX8_isFar 4 = .ok (.ldc2_w 199, 3) := by decide +kernel
theorem dX8_isFar_7 : decode cX8_isFar 7 = .ok (.invokestatic 79, 3) := by decide +kernel
theorem dX8_isFar_10 : decode cX8_isFar 10 = .ok (.ifCond .ne 7, 3) := by decide +kernel
theorem dX8_isFar_13 : decode cX8_isFar 13 = .ok (.iconst 1, 1) := by decide +kernel
theorem dX8_isFar_14 : decode cX8_isFar 14 = .ok (.goto 4, 3) := by decide +kernel
theorem dX8_isFar_17 : decode cX8_isFar 17 = .ok (.iconst 0, 1) := by decide +kernel
theorem dX8_isFar_18 : decode cX8_isFar 18 = .ok (.ireturn, 1) := by decide +kernel
theorem dX8_isFarProduct_0 : decode cX8_isFarProduct 0 = .ok (.lload_n 0, 1) := by decide +kernel
theorem dX8_isFarProduct_1 : decode cX8_isFarProduct 1 = .ok (.invokestatic 201, 3) := by decide +kernel
theorem dX8_isFarProduct_4 : decode cX8_isFarProduct 4 = .ok (.lstore 4, 2) := by decide +kernel
theorem dX8_isFarProduct_6 : decode cX8_isFarProduct 6 = .ok (.lload_n 2, 1) := by decide +kernel
theorem dX8_isFarProduct_7 : decode cX8_isFarProduct 7 = .ok (.invokestatic 201, 3) := by decide +kernel
theorem dX8_isFarProduct_10 : decode cX8_isFarProduct 10 = .ok (.lstore 6, 2) := by decide +kernel
theorem dX8_isFarProduct_12 : decode cX8_isFarProduct 12 = .ok (.lload 4, 2) := by decide +kernel
theorem dX8_isFarProduct_14 : decode cX8_isFarProduct 14 = .ok (.lconst 0, 1) := by decide +kernel
theorem dX8_isFarProduct_15 : decode cX8_isFarProduct 15 = .ok (.lcmp, 1) := by decide +kernel
theorem dX8_isFarProduct_16 : decode cX8_isFarProduct 16 = .ok (.ifCond .eq 19, 3) := by decide +kernel
theorem dX8_isFarProduct_19 : decode cX8_isFarProduct 19 = .ok (.lload 6, 2) := by decide +kernel
theorem dX8_isFarProduct_21 : decode cX8_isFarProduct 21 = .ok (.ldc2_w 199, 3) := by decide +kernel
theorem dX8_isFarProduct_24 : decode cX8_isFarProduct 24 = .ok (.lload 4, 2) := by decide +kernel
theorem dX8_isFarProduct_26 : decode cX8_isFarProduct 26 = .ok (.ldiv, 1) := by decide +kernel
theorem dX8_isFarProduct_27 : decode cX8_isFarProduct 27 = .ok (.lcmp, 1) := by decide +kernel
theorem dX8_isFarProduct_28 : decode cX8_isFarProduct 28 = .ok (.ifCond .le 7, 3) := by decide +kernel
theorem dX8_isFarProduct_31 : decode cX8_isFarProduct 31 = .ok (.iconst 1, 1) := by decide +kernel
theorem dX8_isFarProduct_32 : decode cX8_isFarProduct 32 = .ok (.goto 4, 3) := by decide +kernel
theorem dX8_isFarProduct_35 : decode cX8_isFarProduct 35 = .ok (.iconst 0, 1) := by decide +kernel
theorem dX8_isFarProduct_36 : decode cX8_isFarProduct 36 = .ok (.ireturn, 1) := by decide +kernel
set_option maxRecDepth 20000 in
theorem ggX8_given_X8_isFar : GoodIn wsX8_given wsX8_isFar := goodIn_r _ [14, 15, 16, 17, 18, 13, 19] (by decide +kernel) (by decide +kernel)
set_option maxRecDepth 20000 in
theorem gX8_given_X8_isFar : GoodIn wsX8_given (va_wsS RX8 205 yX8_isFar wsX8_isFar) := goodIn_app (goodIn_of _ (by decide +kernel)) ggX8_given_X8_isFar
theorem dX8_given_0 : decode cX8_given 0 = .ok (.aload_n 0, 1) := by decide +kernel
theorem dX8_given_1 : decode cX8_given 1 = .ok (.getfield 41, 3) := by decide +kernel
theorem dX8_given_4 : decode cX8_given 4 = .ok (.iload_n 1, 1) := by decide +kernel
theorem dX8_given_5 : decode cX8_given 5 = .ok (.lload_n 2, 1) := by decide +kernel
theorem dX8_given_6 : decode cX8_given 6 = .ok (.lastore, 1) := by decide +kernel
theorem dX8_given_7 : decode cX8_given 7 = .ok (.aload_n 0, 1) := by decide +kernel
theorem dX8_given_8 : decode cX8_given 8 = .ok (.getfield 69, 3) := by decide +kernel
theorem dX8_given_11 : decode cX8_given 11 = .ok (.iload_n 1, 1) := by decide +kernel
theorem dX8_given_12 : decode cX8_given 12 = .ok (.aload_n 0, 1) := by decide +kernel
theorem dX8_given_13 : decode cX8_given 13 = .ok (.getfield 69, 3) := by decide +kernel
theorem dX8_given_16 : decode cX8_given 16 = .ok (.iload_n 1, 1) := by decide +kernel
theorem dX8_given_17 : decode cX8_given 17 = .ok (.laload, 1) := by decide +kernel
theorem dX8_given_18 : decode cX8_given 18 = .ok (.lload_n 2, 1) := by decide +kernel
theorem dX8_given_19 : decode cX8_given 19 = .ok (.invokestatic 130, 3) := by decide +kernel
theorem dX8_given_22 : decode cX8_given 22 = .ok (.lastore, 1) := by decide +kernel
theorem dX8_given_23 : decode cX8_given 23 = .ok (.aload_n 0, 1) := by decide +kernel
theorem dX8_given_24 : decode cX8_given 24 = .ok (.getfield 72, 3) := by decide +kernel
theorem dX8_given_27 : decode cX8_given 27 = .ok (.iload_n 1, 1) := by decide +kernel
theorem dX8_given_28 : decode cX8_given 28 = .ok (.aload_n 0, 1) := by decide +kernel
theorem dX8_given_29 : decode cX8_given 29 = .ok (.getfield 72, 3) := by decide +kernel
theorem dX8_given_32 : decode cX8_given 32 = .ok (.iload_n 1, 1) := by decide +kernel
theorem dX8_given_33 : decode cX8_given 33 = .ok (.laload, 1) := by decide +kernel
theorem dX8_given_34 : decode cX8_given 34 = .ok (.lload_n 2, 1) := by decide +kernel
theorem dX8_given_35 : decode cX8_given 35 = .ok (.invokestatic 165, 3) := by decide +kernel
theorem dX8_given_38 : decode cX8_given 38 = .ok (.lastore, 1) := by decide +kernel
theorem dX8_given_39 : decode cX8_given 39 = .ok (.lload_n 2, 1) := by decide +kernel
theorem dX8_given_40 : decode cX8_given 40 = .ok (.invokestatic 205, 3) := by decide +kernel
theorem dX8_given_43 : decode cX8_given 43 = .ok (.ifCond .ne 7, 3) := by decide +kernel
theorem dX8_given_46 : decode cX8_given 46 = .ok (.iconst 1, 1) := by decide +kernel
theorem dX8_given_47 : decode cX8_given 47 = .ok (.goto 4, 3) := by decide +kernel
theorem dX8_given_50 : decode cX8_given 50 = .ok (.iconst 0, 1) := by decide +kernel
theorem dX8_given_51 : decode cX8_given 51 = .ok (.ireturn, 1) := by decide +kernel
set_option maxRecDepth 20000 in
theorem ggX8_isNear_X8_given : GoodIn wsX8_isNear wsX8_given := goodIn_r _ [12, 1, 13, 14, 15, 16, 17, 18, 19, 20, 21, 22, 23, 11, 24, 25, 26, 27, 28, 29, 52, 53, 54, 55, 56, 57, 58, 59, 60, 61, 62, 63, 64, 65, 66, 67, 68, 69, 70, 71, 72, 73, 74, 75, 76, 77] (by decide +kernel) (by decide +kernel)
set_option maxRecDepth 20000 in
theorem gX8_isNear_X8_given : GoodIn wsX8_isNear (wsV RX8 209 RX8 yX8_given wsX8_given) := goodIn_app (goodIn_of _ (by decide +kernel)) ggX8_isNear_X8_given
set_option maxRecDepth 20000 in
theorem ggX8_isNear_X8_isFarProduct : GoodIn wsX8_isNear wsX8_isFarProduct := goodIn_r _ [32, 33, 34, 16, 35, 26] (by decide +kernel) (by decide +kernel)
set_option maxRecDepth 20000 in
theorem gX8_isNear_X8_isFarProduct : GoodIn wsX8_isNear (va_wsS RX8 212 yX8_isFarProduct wsX8_isFarProduct) := goodIn_app (goodIn_of _ (by decide +kernel)) ggX8_isNear_X8_isFarProduct
set_option maxRecDepth 20000 in
theorem ggX8_isNear_X8_valueOf : GoodIn wsX8_isNear wsX8_valueOf := goodIn_r _ [39, 4, 6, 1, 5, 14, 15, 16, 17, 40, 41, 42, 11, 43, 44, 45, 46, 47, 48, 49, 50, 51, 52, 53, 54, 55, 56, 57, 58, 59, 60, 61, 62, 63, 64, 65, 66, 67, 68, 69, 70, 71, 72, 73, 74, 75, 76, 77] (by decide +kernel) (by decide +kernel)
set_option maxRecDepth 20000 in
theorem gX8_isNear_X8_valueOf : GoodIn wsX8_isNear (wsV RX8 143 RX8 yX8_valueOf wsX8_valueOf) := goodIn_app (goodIn_of _ (by decide +kernel)) ggX8_isNear_X8_valueOf
theorem dX8_isNear_0 : decode cX8_isNear 0 = .ok (.iconst 0, 1) := by decide +kernel
theorem dX8_isNear_1 : decode cX8_isNear 1 = .ok (.istore_n 3, 1) := by decide +kernel
theorem dX8_isNear_2 : decode cX8_isNear 2 = .ok (.iload_n 3, 1) := by decide +kernel
theorem dX8_isNear_3 : decode cX8_isNear 3 = .ok (.bipush 6, 2) := by decide +kernel
theorem dX8_isNear_5 : decode cX8_isNear 5 = .ok (.if_icmp .ge 16, 3) := by decide +kernel
theorem dX8_isNear_8 : decode cX8_isNear 8 = .ok (.aload_n 0, 1) := by decide +kernel
theorem dX8_isNear_9 : decode cX8_isNear 9 = .ok (.getfield 41, 3) := by decide +kernel
theorem dX8_isNear_12 : decode cX8_isNear 12 = .ok (.iload_n 3, 1) := by decide +kernel
theorem dX8_isNear_13 : decode cX8_isNear 13 = .ok (.lconst 0, 1) := by decide +kernel
theorem dX8_isNear_14 : decode cX8_isNear 14 = .ok (.lastore, 1) := by decide +kernel
theorem dX8_isNear_15 : decode cX8_isNear 15 = .ok (.iinc 3 1, 3) := by decide +kernel
theorem dX8_isNear_18 : decode cX8_isNear 18 = .ok (.goto (-16), 3) := by decide +kernel
theorem dX8_isNear_21 : decode cX8_isNear 21 = .ok (.aload_n 0, 1) := by decide +kernel
theorem dX8_isNear_22 : decode cX8_isNear 22 = .ok (.iconst 0, 1) := by decide +kernel
theorem dX8_isNear_23 : decode cX8_isNear 23 = .ok (.iload_n 1, 1) := by decide +kernel
theorem dX8_isNear_24 : decode cX8_isNear 24 = .ok (.i2l, 1) := by decide +kernel
theorem dX8_isNear_25 : decode cX8_isNear 25 = .ok (.invokevirtual 209, 3) := by decide +kernel
theorem dX8_isNear_28 : decode cX8_isNear 28 = .ok (.ifCond .eq 13, 3) := by decide +kernel
theorem dX8_isNear_31 : decode cX8_isNear 31 = .ok (.aload_n 0, 1) := by decide +kernel
theorem dX8_isNear_32 : decode cX8_isNear 32 = .ok (.iconst 1, 1) := by decide +kernel
theorem dX8_isNear_33 : decode cX8_isNear 33 = .ok (.iload_n 2, 1) := by decide +kernel
theorem dX8_isNear_34 : decode cX8_isNear 34 = .ok (.i2l, 1) := by decide +kernel
theorem dX8_isNear_35 : decode cX8_isNear 35 = .ok (.invokevirtual 209, 3) := by decide +kernel
theorem dX8_isNear_38 : decode cX8_isNear 38 = .ok (.ifCond .ne 5, 3) := by decide +kernel
theorem dX8_isNear_41 : decode cX8_isNear 41 = .ok (.iconst 0, 1) := by decide +kernel
theorem dX8_isNear_42 : decode cX8_isNear 42 = .ok (.ireturn, 1) := by decide +kernel
theorem dX8_isNear_43 : decode cX8_isNear 43 = .ok (.iconst 0, 1) := by decide +kernel
theorem dX8_isNear_44 : decode cX8_isNear 44 = .ok (.istore_n 3, 1) := by decide +kernel
theorem dX8_isNear_45 : decode cX8_isNear 45 = .ok (.iload_n 3, 1) := by decide +kernel
theorem dX8_isNear_46 : decode cX8_isNear 46 = .ok (.aload_n 0, 1) := by decide +kernel
theorem dX8_isNear_47 : decode cX8_isNear 47 = .ok (.getfield 110, 3) := by decide +kernel
theorem dX8_isNear_50 : decode cX8_isNear 50 = .ok (.if_icmp .ge 136, 3) := by decide +kernel
theorem dX8_isNear_53 : decode cX8_isNear 53 = .ok (.aload_n 0, 1) := by decide +kernel
theorem dX8_isNear_54 : decode cX8_isNear 54 = .ok (.getfield 38, 3) := by decide +kernel
theorem dX8_isNear_57 : decode cX8_isNear 57 = .ok (.iload_n 3, 1) := by decide +kernel
theorem dX8_isNear_58 : decode cX8_isNear 58 = .ok (.iaload, 1) := by decide +kernel
theorem dX8_isNear_59 : decode cX8_isNear 59 = .ok (.istore 4, 2) := by decide +kernel
theorem dX8_isNear_61 : decode cX8_isNear 61 = .ok (.aload_n 0, 1) := by decide +kernel
end
section
theorem dX8_isNear_62 : decode cX8_isNear 62 = .ok (.getfield 23, 3) := by decide +kernel
theorem dX8_isNear_65 : decode cX8_isNear 65 = .ok (.iload 4, 2) := by decide +kernel
theorem dX8_isNear_67 : decode cX8_isNear 67 = .ok (.iaload, 1) := by decide +kernel
theorem dX8_isNear_68 : decode cX8_isNear 68 = .ok (.iconst 4, 1) := by decide +kernel
theorem dX8_isNear_69 : decode cX8_isNear 69 = .ok (.if_icmp .ne 35, 3) := by decide +kernel
theorem dX8_isNear_72 : decode cX8_isNear 72 = .ok (.aload_n 0, 1) := by decide +kernel
theorem dX8_isNear_73 : decode cX8_isNear 73 = .ok (.getfield 41, 3) := by decide +kernel
theorem dX8_isNear_76 : decode cX8_isNear 76 = .ok (.aload_n 0, 1) := by decide +kernel
theorem dX8_isNear_77 : decode cX8_isNear 77 = .ok (.getfield 29, 3) := by decide +kernel
theorem dX8_isNear_80 : decode cX8_isNear 80 = .ok (.iload 4, 2) := by decide +kernel
theorem dX8_isNear_82 : decode cX8_isNear 82 = .ok (.iaload, 1) := by decide +kernel
theorem dX8_isNear_83 : decode cX8_isNear 83 = .ok (.laload, 1) := by decide +kernel
theorem dX8_isNear_84 : decode cX8_isNear 84 = .ok (.aload_n 0, 1) := by decide +kernel
theorem dX8_isNear_85 : decode cX8_isNear 85 = .ok (.getfield 41, 3) := by decide +kernel
theorem dX8_isNear_88 : decode cX8_isNear 88 = .ok (.aload_n 0, 1) := by decide +kernel
theorem dX8_isNear_89 : decode cX8_isNear 89 = .ok (.getfield 32, 3) := by decide +kernel
theorem dX8_isNear_92 : decode cX8_isNear 92 = .ok (.iload 4, 2) := by decide +kernel
theorem dX8_isNear_94 : decode cX8_isNear 94 = .ok (.iaload, 1) := by decide +kernel
theorem dX8_isNear_95 : decode cX8_isNear 95 = .ok (.laload, 1) := by decide +kernel
theorem dX8_isNear_96 : decode cX8_isNear 96 = .ok (.invokestatic 212, 3) := by decide +kernel
theorem dX8_isNear_99 : decode cX8_isNear 99 = .ok (.ifCond .eq 5, 3) := by decide +kernel
theorem dX8_isNear_102 : decode cX8_isNear 102 = .ok (.iconst 0, 1) := by decide +kernel
theorem dX8_isNear_103 : decode cX8_isNear 103 = .ok (.ireturn, 1) := by decide +kernel
theorem dX8_isNear_104 : decode cX8_isNear 104 = .ok (.aload_n 0, 1) := by decide +kernel
theorem dX8_isNear_105 : decode cX8_isNear 105 = .ok (.getfield 23, 3) := by decide +kernel
theorem dX8_isNear_108 : decode cX8_isNear 108 = .ok (.iload 4, 2) := by decide +kernel
theorem dX8_isNear_110 : decode cX8_isNear 110 = .ok (.iaload, 1) := by decide +kernel
theorem dX8_isNear_111 : decode cX8_isNear 111 = .ok (.bipush 7, 2) := by decide +kernel
theorem dX8_isNear_113 : decode cX8_isNear 113 = .ok (.if_icmp .ne 41, 3) := by decide +kernel
theorem dX8_isNear_116 : decode cX8_isNear 116 = .ok (.aload_n 0, 1) := by decide +kernel
theorem dX8_isNear_117 : decode cX8_isNear 117 = .ok (.getfield 41, 3) := by decide +kernel
theorem dX8_isNear_120 : decode cX8_isNear 120 = .ok (.aload_n 0, 1) := by decide +kernel
theorem dX8_isNear_121 : decode cX8_isNear 121 = .ok (.getfield 29, 3) := by decide +kernel
theorem dX8_isNear_124 : decode cX8_isNear 124 = .ok (.iload 4, 2) := by decide +kernel
theorem dX8_isNear_126 : decode cX8_isNear 126 = .ok (.iaload, 1) := by decide +kernel
theorem dX8_isNear_127 : decode cX8_isNear 127 = .ok (.laload, 1) := by decide +kernel
theorem dX8_isNear_128 : decode cX8_isNear 128 = .ok (.aload_n 0, 1) := by decide +kernel
theorem dX8_isNear_129 : decode cX8_isNear 129 = .ok (.getfield 41, 3) := by decide +kernel
theorem dX8_isNear_132 : decode cX8_isNear 132 = .ok (.aload_n 0, 1) := by decide +kernel
theorem dX8_isNear_133 : decode cX8_isNear 133 = .ok (.getfield 32, 3) := by decide +kernel
theorem dX8_isNear_136 : decode cX8_isNear 136 = .ok (.iload 4, 2) := by decide +kernel
theorem dX8_isNear_138 : decode cX8_isNear 138 = .ok (.iaload, 1) := by decide +kernel
theorem dX8_isNear_139 : decode cX8_isNear 139 = .ok (.laload, 1) := by decide +kernel
theorem dX8_isNear_140 : decode cX8_isNear 140 = .ok (.lcmp, 1) := by decide +kernel
theorem dX8_isNear_141 : decode cX8_isNear 141 = .ok (.ifCond .ge 7, 3) := by decide +kernel
theorem dX8_isNear_144 : decode cX8_isNear 144 = .ok (.lconst 1, 1) := by decide +kernel
theorem dX8_isNear_145 : decode cX8_isNear 145 = .ok (.goto 4, 3) := by decide +kernel
theorem dX8_isNear_148 : decode cX8_isNear 148 = .ok (.lconst 0, 1) := by decide +kernel
theorem dX8_isNear_149 : decode cX8_isNear 149 = .ok (.lstore 5, 2) := by decide +kernel
theorem dX8_isNear_151 : decode cX8_isNear 151 = .ok (.goto 11, 3) := by decide +kernel
theorem dX8_isNear_154 : decode cX8_isNear 154 = .ok (.aload_n 0, 1) := by decide +kernel
theorem dX8_isNear_155 : decode cX8_isNear 155 = .ok (.iload 4, 2) := by decide +kernel
theorem dX8_isNear_157 : decode cX8_isNear 157 = .ok (.invokevirtual 143, 3) := by decide +kernel
theorem dX8_isNear_160 : decode cX8_isNear 160 = .ok (.lstore 5, 2) := by decide +kernel
theorem dX8_isNear_162 : decode cX8_isNear 162 = .ok (.aload_n 0, 1) := by decide +kernel
theorem dX8_isNear_163 : decode cX8_isNear 163 = .ok (.aload_n 0, 1) := by decide +kernel
theorem dX8_isNear_164 : decode cX8_isNear 164 = .ok (.getfield 26, 3) := by decide +kernel
theorem dX8_isNear_167 : decode cX8_isNear 167 = .ok (.iload 4, 2) := by decide +kernel
theorem dX8_isNear_169 : decode cX8_isNear 169 = .ok (.iaload, 1) := by decide +kernel
theorem dX8_isNear_170 : decode cX8_isNear 170 = .ok (.lload 5, 2) := by decide +kernel
theorem dX8_isNear_172 : decode cX8_isNear 172 = .ok (.invokevirtual 209, 3) := by decide +kernel
theorem dX8_isNear_175 : decode cX8_isNear 175 = .ok (.ifCond .ne 5, 3) := by decide +kernel
theorem dX8_isNear_178 : decode cX8_isNear 178 = .ok (.iconst 0, 1) := by decide +kernel
theorem dX8_isNear_179 : decode cX8_isNear 179 = .ok (.ireturn, 1) := by decide +kernel
theorem dX8_isNear_180 : decode cX8_isNear 180 = .ok (.iinc 3 1, 3) := by decide +kernel
theorem dX8_isNear_183 : decode cX8_isNear 183 = .ok (.goto (-138), 3) := by decide +kernel
theorem dX8_isNear_186 : decode cX8_isNear 186 = .ok (.iconst 1, 1) := by decide +kernel
theorem dX8_isNear_187 : decode cX8_isNear 187 = .ok (.ireturn, 1) := by decide +kernel
set_option maxRecDepth 20000 in
theorem ggX8_needs_X8_lays : GoodIn wsX8_needs wsX8_lays := goodIn_r _ [9, 10, 11, 12, 13, 14, 63, 64, 65, 66, 67, 68, 69, 70, 71, 72, 73, 74, 75, 76, 77, 78, 79, 80, 81, 82, 83, 84, 85, 86, 87, 88] (by decide +kernel) (by decide +kernel)
set_option maxRecDepth 20000 in
theorem gX8_needs_X8_lays : GoodIn wsX8_needs (wsV RX8 150 RX8 yX8_lays wsX8_lays) := goodIn_app (goodIn_of _ (by decide +kernel)) ggX8_needs_X8_lays
set_option maxRecDepth 20000 in
theorem ggX8_needs_X8_isNear : GoodIn wsX8_needs wsX8_isNear := goodIn_r _ [18, 19, 10, 13, 12, 20, 14, 21, 22, 23, 24, 8, 25, 1, 26, 27, 28, 29, 2, 30, 31, 32, 33, 34, 35, 36, 37, 38, 39, 40, 41, 42, 43, 44, 45, 46, 47, 48, 49, 50, 51, 52, 53, 54, 55, 56, 57, 58, 59, 60, 61, 62, 63, 64, 65, 66, 67, 68, 69, 70, 71, 72, 73, 74, 75, 76, 77, 78, 79, 80, 81, 82, 83, 84, 85, 86, 87, 88] (by decide +kernel) (by decide +kernel)
set_option maxRecDepth 20000 in
theorem gX8_needs_X8_isNear : GoodIn wsX8_needs (wsV RX8 216 RX8 yX8_isNear wsX8_isNear) := goodIn_app (goodIn_of _ (by decide +kernel)) ggX8_needs_X8_isNear
theorem dX8_needs_0 : decode cX8_needs 0 = .ok (.aload_n 0, 1) := by decide +kernel
theorem dX8_needs_1 : decode cX8_needs 1 = .ok (.invokevirtual 150, 3) := by decide +kernel
theorem dX8_needs_4 : decode cX8_needs 4 = .ok (.iconst 0, 1) := by decide +kernel
theorem dX8_needs_5 : decode cX8_needs 5 = .ok (.istore_n 1, 1) := by decide +kernel
theorem dX8_needs_6 : decode cX8_needs 6 = .ok (.iload_n 1, 1) := by decide +kernel
theorem dX8_needs_7 : decode cX8_needs 7 = .ok (.bipush 6, 2) := by decide +kernel
theorem dX8_needs_9 : decode cX8_needs 9 = .ok (.if_icmp .ge 23, 3) := by decide +kernel
theorem dX8_needs_12 : decode cX8_needs 12 = .ok (.aload_n 0, 1) := by decide +kernel
theorem dX8_needs_13 : decode cX8_needs 13 = .ok (.getfield 69, 3) := by decide +kernel
theorem dX8_needs_16 : decode cX8_needs 16 = .ok (.iload_n 1, 1) := by decide +kernel
theorem dX8_needs_17 : decode cX8_needs 17 = .ok (.lconst 0, 1) := by decide +kernel
theorem dX8_needs_18 : decode cX8_needs 18 = .ok (.lastore, 1) := by decide +kernel
theorem dX8_needs_19 : decode cX8_needs 19 = .ok (.aload_n 0, 1) := by decide +kernel
theorem dX8_needs_20 : decode cX8_needs 20 = .ok (.getfield 72, 3) := by decide +kernel
theorem dX8_needs_23 : decode cX8_needs 23 = .ok (.iload_n 1, 1) := by decide +kernel
theorem dX8_needs_24 : decode cX8_needs 24 = .ok (.lconst 0, 1) := by decide +kernel
theorem dX8_needs_25 : decode cX8_needs 25 = .ok (.lastore, 1) := by decide +kernel
theorem dX8_needs_26 : decode cX8_needs 26 = .ok (.iinc 1 1, 3) := by decide +kernel
theorem dX8_needs_29 : decode cX8_needs 29 = .ok (.goto (-23), 3) := by decide +kernel
theorem dX8_needs_32 : decode cX8_needs 32 = .ok (.iconst 1, 1) := by decide +kernel
theorem dX8_needs_33 : decode cX8_needs 33 = .ok (.istore_n 1, 1) := by decide +kernel
theorem dX8_needs_34 : decode cX8_needs 34 = .ok (.aload_n 0, 1) := by decide +kernel
theorem dX8_needs_35 : decode cX8_needs 35 = .ok (.getfield 17, 3) := by decide +kernel
theorem dX8_needs_38 : decode cX8_needs 38 = .ok (.iconst 0, 1) := by decide +kernel
theorem dX8_needs_39 : decode cX8_needs 39 = .ok (.iaload, 1) := by decide +kernel
theorem dX8_needs_40 : decode cX8_needs 40 = .ok (.istore_n 2, 1) := by decide +kernel
theorem dX8_needs_41 : decode cX8_needs 41 = .ok (.iload_n 2, 1) := by decide +kernel
theorem dX8_needs_42 : decode cX8_needs 42 = .ok (.aload_n 0, 1) := by decide +kernel
theorem dX8_needs_43 : decode cX8_needs 43 = .ok (.getfield 20, 3) := by decide +kernel
theorem dX8_needs_46 : decode cX8_needs 46 = .ok (.iconst 0, 1) := by decide +kernel
theorem dX8_needs_47 : decode cX8_needs 47 = .ok (.iaload, 1) := by decide +kernel
theorem dX8_needs_48 : decode cX8_needs 48 = .ok (.if_icmp .gt 47, 3) := by decide +kernel
theorem dX8_needs_51 : decode cX8_needs 51 = .ok (.iload_n 1, 1) := by decide +kernel
theorem dX8_needs_52 : decode cX8_needs 52 = .ok (.ifCond .eq 43, 3) := by decide +kernel
theorem dX8_needs_55 : decode cX8_needs 55 = .ok (.aload_n 0, 1) := by decide +kernel
theorem dX8_needs_56 : decode cX8_needs 56 = .ok (.getfield 17, 3) := by decide +kernel
theorem dX8_needs_59 : decode cX8_needs 59 = .ok (.iconst 1, 1) := by decide +kernel
theorem dX8_needs_60 : decode cX8_needs 60 = .ok (.iaload, 1) := by decide +kernel
theorem dX8_needs_61 : decode cX8_needs 61 = .ok (.istore_n 3, 1) := by decide +kernel
theorem dX8_needs_62 : decode cX8_needs 62 = .ok (.iload_n 3, 1) := by decide +kernel
theorem dX8_needs_63 : decode cX8_needs 63 = .ok (.aload_n 0, 1) := by decide +kernel
theorem dX8_needs_64 : decode cX8_needs 64 = .ok (.getfield 20, 3) := by decide +kernel
theorem dX8_needs_67 : decode cX8_needs 67 = .ok (.iconst 1, 1) := by decide +kernel
theorem dX8_needs_68 : decode cX8_needs 68 = .ok (.iaload, 1) := by decide +kernel
theorem dX8_needs_69 : decode cX8_needs 69 = .ok (.if_icmp .gt 20, 3) := by decide +kernel
theorem dX8_needs_72 : decode cX8_needs 72 = .ok (.iload_n 1, 1) := by decide +kernel
theorem dX8_needs_73 : decode cX8_needs 73 = .ok (.ifCond .eq 16, 3) := by decide +kernel
theorem dX8_needs_76 : decode cX8_needs 76 = .ok (.aload_n 0, 1) := by decide +kernel
theorem dX8_needs_77 : decode cX8_needs 77 = .ok (.iload_n 2, 1) := by decide +kernel
theorem dX8_needs_78 : decode cX8_needs 78 = .ok (.iload_n 3, 1) := by decide +kernel
theorem dX8_needs_79 : decode cX8_needs 79 = .ok (.invokevirtual 216, 3) := by decide +kernel
theorem dX8_needs_82 : decode cX8_needs 82 = .ok (.istore_n 1, 1) := by decide +kernel
theorem dX8_needs_83 : decode cX8_needs 83 = .ok (.iinc 3 1, 3) := by decide +kernel
theorem dX8_needs_86 : decode cX8_needs 86 = .ok (.goto (-24), 3) := by decide +kernel
theorem dX8_needs_89 : decode cX8_needs 89 = .ok (.iinc 2 1, 3) := by decide +kernel
theorem dX8_needs_92 : decode cX8_needs 92 = .ok (.goto (-51), 3) := by decide +kernel
theorem dX8_needs_95 : decode cX8_needs 95 = .ok (.iload_n 1, 1) := by decide +kernel
theorem dX8_needs_96 : decode cX8_needs 96 = .ok (.ireturn, 1) := by decide +kernel
theorem dX8_needOf_0 : decode cX8_needOf 0 = .ok (.iconst 2, 1) := by decide +kernel
theorem dX8_needOf_1 : decode cX8_needOf 1 = .ok (.istore_n 2, 1) := by decide +kernel
theorem dX8_needOf_2 : decode cX8_needOf 2 = .ok (.iload_n 2, 1) := by decide +kernel
theorem dX8_needOf_3 : decode cX8_needOf 3 = .ok (.bipush 31, 2) := by decide +kernel
theorem dX8_needOf_5 : decode cX8_needOf 5 = .ok (.if_icmp .gt 76, 3) := by decide +kernel
theorem dX8_needOf_8 : decode cX8_needOf 8 = .ok (.aload_n 0, 1) := by decide +kernel
theorem dX8_needOf_9 : decode cX8_needOf 9 = .ok (.getfield 13, 3) := by decide +kernel
theorem dX8_needOf_12 : decode cX8_needOf 12 = .ok (.iload_n 1, 1) := by decide +kernel
theorem dX8_needOf_13 : decode cX8_needOf 13 = .ok (.baload, 1) := by decide +kernel
theorem dX8_needOf_14 : decode cX8_needOf 14 = .ok (.ifCond .eq 12, 3) := by decide +kernel
theorem dX8_needOf_17 : decode cX8_needOf 17 = .ok (.lconst 1, 1) := by decide +kernel
theorem dX8_needOf_18 : decode cX8_needOf 18 = .ok (.iload_n 2, 1) := by decide +kernel
theorem dX8_needOf_19 : decode cX8_needOf 19 = .ok (.iconst 1, 1) := by decide +kernel
theorem dX8_needOf_20 : decode cX8_needOf 20 = .ok (.isub, 1) := by decide +kernel
theorem dX8_needOf_21 : decode cX8_needOf 21 = .ok (.lshl, 1) := by decide +kernel
theorem dX8_needOf_22 : decode cX8_needOf 22 = .ok (.lneg, 1) := by decide +kernel
theorem dX8_needOf_23 : decode cX8_needOf 23 = .ok (.goto 4, 3) := by decide +kernel
theorem dX8_needOf_26 : decode cX8_needOf 26 = .ok (.lconst 0, 1) := by decide +kernel
theorem dX8_needOf_27 : decode cX8_needOf 27 = .ok (.lstore_n 3, 1) := by decide +kernel
theorem dX8_needOf_28 : decode cX8_needOf 28 = .ok (.lconst 1, 1) := by decide +kernel
theorem dX8_needOf_29 : decode cX8_needOf 29 = .ok (.aload_n 0, 1) := by decide +kernel
theorem dX8_needOf_30 : decode cX8_needOf 30 = .ok (.getfield 13, 3) := by decide +kernel
theorem dX8_needOf_33 : decode cX8_needOf 33 = .ok (.iload_n 1, 1) := by decide +kernel
theorem dX8_needOf_34 : decode cX8_needOf 34 = .ok (.baload, 1) := by decide +kernel
theorem dX8_needOf_35 : decode cX8_needOf 35 = .ok (.ifCond .eq 9, 3) := by decide +kernel
theorem dX8_needOf_38 : decode cX8_needOf 38 = .ok (.iload_n 2, 1) := by decide +kernel
theorem dX8_needOf_39 : decode cX8_needOf 39 = .ok (.iconst 1, 1) := by decide +kernel
theorem dX8_needOf_40 : decode cX8_needOf 40 = .ok (.isub, 1) := by decide +kernel
theorem dX8_needOf_41 : decode cX8_needOf 41 = .ok (.goto 4, 3) := by decide +kernel
theorem dX8_needOf_44 : decode cX8_needOf 44 = .ok (.iload_n 2, 1) := by decide +kernel
theorem dX8_needOf_45 : decode cX8_needOf 45 = .ok (.lshl, 1) := by decide +kernel
theorem dX8_needOf_46 : decode cX8_needOf 46 = .ok (.lconst 1, 1) := by decide +kernel
theorem dX8_needOf_47 : decode cX8_needOf 47 = .ok (.lsub, 1) := by decide +kernel
theorem dX8_needOf_48 : decode cX8_needOf 48 = .ok (.lstore 5, 2) := by decide +kernel
theorem dX8_needOf_50 : decode cX8_needOf 50 = .ok (.aload_n 0, 1) := by decide +kernel
theorem dX8_needOf_51 : decode cX8_needOf 51 = .ok (.getfield 69, 3) := by decide +kernel
theorem dX8_needOf_54 : decode cX8_needOf 54 = .ok (.iload_n 1, 1) := by decide +kernel
theorem dX8_needOf_55 : decode cX8_needOf 55 = .ok (.laload, 1) := by decide +kernel
theorem dX8_needOf_56 : decode cX8_needOf 56 = .ok (.lload_n 3, 1) := by decide +kernel
theorem dX8_needOf_57 : decode cX8_needOf 57 = .ok (.lcmp, 1) := by decide +kernel
theorem dX8_needOf_58 : decode cX8_needOf 58 = .ok (.ifCond .lt 17, 3) := by decide +kernel
theorem dX8_needOf_61 : decode cX8_needOf 61 = .ok (.aload_n 0, 1) := by decide +kernel
theorem dX8_needOf_62 : decode cX8_needOf 62 = .ok (.getfield 72, 3) := by decide +kernel
theorem dX8_needOf_65 : decode cX8_needOf 65 = .ok (.iload_n 1, 1) := by decide +kernel
theorem dX8_needOf_66 : decode cX8_needOf 66 = .ok (.laload, 1) := by decide +kernel
theorem dX8_needOf_67 : decode cX8_needOf 67 = .ok (.lload 5, 2) := by decide +kernel
theorem dX8_needOf_69 : decode cX8_needOf 69 = .ok (.lcmp, 1) := by decide +kernel
theorem dX8_needOf_70 : decode cX8_needOf 70 = .ok (.ifCond .gt 5, 3) := by decide +kernel
theorem dX8_needOf_73 : decode cX8_needOf 73 = .ok (.iload_n 2, 1) := by decide +kernel
theorem dX8_needOf_74 : decode cX8_needOf 74 = .ok (.ireturn, 1) := by decide +kernel
theorem dX8_needOf_75 : decode cX8_needOf 75 = .ok (.iinc 2 1, 3) := by decide +kernel
theorem dX8_needOf_78 : decode cX8_needOf 78 = .ok (.goto (-76), 3) := by decide +kernel
theorem dX8_needOf_81 : decode cX8_needOf 81 = .ok (.iconst (-1), 1) := by decide +kernel
theorem dX8_needOf_82 : decode cX8_needOf 82 = .ok (.ireturn, 1) := by decide +kernel
set_option maxRecDepth 20000 in
theorem ggX8_need_X8_isName : GoodIn wsX8_need wsX8_isName := goodIn_r _ [4, 5, 6, 7, 3, 8] (by decide +kernel) (by decide +kernel)
set_option maxRecDepth 20000 in
theorem gX8_need_X8_isName : GoodIn wsX8_need (va_wsS RX8 85 yX8_isName wsX8_isName) := goodIn_app (goodIn_of _ (by decide +kernel)) ggX8_need_X8_isName
set_option maxRecDepth 20000 in
theorem ggX8_need_X8_needs : GoodIn wsX8_need wsX8_needs := goodIn_r _ [12, 13, 14, 15, 16, 17, 18, 19, 3, 20, 21, 22, 23, 24, 25, 26, 27, 28, 29, 30, 31, 32, 33, 34, 35, 36, 37, 38, 39, 40, 41, 42, 43, 44, 45, 46, 47, 48, 6, 7, 8, 49, 50, 51, 52, 53, 54, 55, 56, 57, 58, 59, 60, 61, 62, 63, 64, 65, 66, 67, 68, 69, 70, 75, 76, 77, 78, 79, 80, 81, 82, 83, 84, 85, 86, 87, 88, 89, 90, 91, 92, 93, 94, 95, 96, 97, 98, 99, 100] (by decide +kernel) (by decide +kernel)
set_option maxRecDepth 20000 in
theorem gX8_need_X8_needs : GoodIn wsX8_need (wsV RX8 219 RX8 yX8_needs wsX8_needs) := goodIn_app (goodIn_of _ (by decide +kernel)) ggX8_need_X8_needs
set_option maxRecDepth 20000 in
theorem ggX8_need_X8_needOf : GoodIn wsX8_need wsX8_needOf := goodIn_r _ [74, 63, 13, 14, 75, 76, 77, 78, 79, 80, 81, 82, 83, 84, 85, 86, 87, 88, 89, 90, 91, 92, 93, 94, 95, 96, 97, 98, 99, 100] (by decide +kernel) (by decide +kernel)
set_option maxRecDepth 20000 in
theorem gX8_need_X8_needOf : GoodIn wsX8_need (wsV RX8 222 RX8 yX8_needOf wsX8_needOf) := goodIn_app (goodIn_of _ (by decide +kernel)) ggX8_need_X8_needOf
theorem dX8_need_0 : decode cX8_need 0 = .ok (.iload_n 1, 1) := by decide +kernel
theorem dX8_need_1 : decode cX8_need 1 = .ok (.invokestatic 85, 3) := by decide +kernel
theorem dX8_need_4 : decode cX8_need 4 = .ok (.ifCond .eq 18, 3) := by decide +kernel
theorem dX8_need_7 : decode cX8_need 7 = .ok (.aload_n 0, 1) := by decide +kernel
theorem dX8_need_8 : decode cX8_need 8 = .ok (.invokevirtual 219, 3) := by decide +kernel
theorem dX8_need_11 : decode cX8_need 11 = .ok (.ifCond .eq 11, 3) := by decide +kernel
theorem dX8_need_14 : decode cX8_need 14 = .ok (.aload_n 0, 1) := by decide +kernel
theorem dX8_need_15 : decode cX8_need 15 = .ok (.iload_n 1, 1) := by decide +kernel
theorem dX8_need_16 : decode cX8_need 16 = .ok (.invokevirtual 222, 3) := by decide +kernel
theorem dX8_need_19 : decode cX8_need 19 = .ok (.goto 4, 3) := by decide +kernel
theorem dX8_need_22 : decode cX8_need 22 = .ok (.iconst (-1), 1) := by decide +kernel
theorem dX8_need_23 : decode cX8_need 23 = .ok (.ireturn, 1) := by decide +kernel
set_option maxRecDepth 20000 in
theorem ggX8_price_X8_needs : GoodIn wsX8_price wsX8_needs := goodIn_r _ [10, 11, 12, 13, 14, 15, 16, 17, 9, 18, 19, 20, 21, 22, 23, 24, 25, 26, 27, 28, 29, 30, 31, 32, 33, 34, 35, 36, 4, 37, 38, 39, 40, 41, 42, 43, 44, 45, 46, 47, 48, 49, 50, 51, 52, 53, 54, 55, 56, 57, 58, 59, 60, 61, 62, 63, 1, 2, 3, 5, 64, 65, 66, 71, 72, 73, 74, 75, 76, 77, 78, 79, 80, 81, 82, 83, 84, 85, 86, 87, 88, 89, 90, 91, 92, 93, 94, 95, 96] (by decide +kernel) (by decide +kernel)
set_option maxRecDepth 20000 in
theorem gX8_price_X8_needs : GoodIn wsX8_price (wsV RX8 219 RX8 yX8_needs wsX8_needs) := goodIn_app (goodIn_of _ (by decide +kernel)) ggX8_price_X8_needs
set_option maxRecDepth 20000 in
theorem ggX8_price_X8_needOf : GoodIn wsX8_price wsX8_needOf := goodIn_r _ [70, 63, 11, 12, 71, 72, 73, 74, 75, 76, 77, 78, 79, 80, 81, 82, 83, 84, 85, 86, 87, 88, 89, 90, 91, 92, 93, 94, 95, 96] (by decide +kernel) (by decide +kernel)
set_option maxRecDepth 20000 in
theorem gX8_price_X8_needOf : GoodIn wsX8_price (wsV RX8 222 RX8 yX8_needOf wsX8_needOf) := goodIn_app (goodIn_of _ (by decide +kernel)) ggX8_price_X8_needOf
theorem dX8_price_0 : decode cX8_price 0 = .ok (.aload_n 0, 1) := by decide +kernel
theorem dX8_price_1 : decode cX8_price 1 = .ok (.invokevirtual 219, 3) := by decide +kernel
theorem dX8_price_4 : decode cX8_price 4 = .ok (.ifCond .ne 5, 3) := by decide +kernel
theorem dX8_price_7 : decode cX8_price 7 = .ok (.iconst (-1), 1) := by decide +kernel
theorem dX8_price_8 : decode cX8_price 8 = .ok (.ireturn, 1) := by decide +kernel
theorem dX8_price_9 : decode cX8_price 9 = .ok (.iconst 0, 1) := by decide +kernel
theorem dX8_price_10 : decode cX8_price 10 = .ok (.istore_n 1, 1) := by decide +kernel
theorem dX8_price_11 : decode cX8_price 11 = .ok (.iconst 0, 1) := by decide +kernel
theorem dX8_price_12 : decode cX8_price 12 = .ok (.istore_n 2, 1) := by decide +kernel
theorem dX8_price_13 : decode cX8_price 13 = .ok (.iload_n 2, 1) := by decide +kernel
theorem dX8_price_14 : decode cX8_price 14 = .ok (.bipush 6, 2) := by decide +kernel
theorem dX8_price_16 : decode cX8_price 16 = .ok (.if_icmp .ge 37, 3) := by decide +kernel
theorem dX8_price_19 : decode cX8_price 19 = .ok (.aload_n 0, 1) := by decide +kernel
theorem dX8_price_20 : decode cX8_price 20 = .ok (.iload_n 2, 1) := by decide +kernel
theorem dX8_price_21 : decode cX8_price 21 = .ok (.invokevirtual 222, 3) := by decide +kernel
theorem dX8_price_24 : decode cX8_price 24 = .ok (.istore_n 3, 1) := by decide +kernel
theorem dX8_price_25 : decode cX8_price 25 = .ok (.iload_n 3, 1) := by decide +kernel
theorem dX8_price_26 : decode cX8_price 26 = .ok (.iconst (-1), 1) := by decide +kernel
theorem dX8_price_27 : decode cX8_price 27 = .ok (.if_icmp .ne 5, 3) := by decide +kernel
theorem dX8_price_30 : decode cX8_price 30 = .ok (.iconst (-1), 1) := by decide +kernel
theorem dX8_price_31 : decode cX8_price 31 = .ok (.ireturn, 1) := by decide +kernel
theorem dX8_price_32 : decode cX8_price 32 = .ok (.iload_n 1, 1) := by decide +kernel
theorem dX8_price_33 : decode cX8_price 33 = .ok (.iconst 0, 1) := by decide +kernel
theorem dX8_price_34 : decode cX8_price 34 = .ok (.iload_n 3, 1) := by decide +kernel
theorem dX8_price_35 : decode cX8_price 35 = .ok (.aload_n 0, 1) := by decide +kernel
theorem dX8_price_36 : decode cX8_price 36 = .ok (.getfield 9, 3) := by decide +kernel
theorem dX8_price_39 : decode cX8_price 39 = .ok (.iload_n 2, 1) := by decide +kernel
theorem dX8_price_40 : decode cX8_price 40 = .ok (.iaload, 1) := by decide +kernel
theorem dX8_price_41 : decode cX8_price 41 = .ok (.isub, 1) := by decide +kernel
theorem dX8_price_42 : decode cX8_price 42 = .ok (.invokestatic 124, 3) := by decide +kernel
theorem dX8_price_45 : decode cX8_price 45 = .ok (.iadd, 1) := by decide +kernel
theorem dX8_price_46 : decode cX8_price 46 = .ok (.istore_n 1, 1) := by decide +kernel
theorem dX8_price_47 : decode cX8_price 47 = .ok (.iinc 2 1, 3) := by decide +kernel
theorem dX8_price_50 : decode cX8_price 50 = .ok (.goto (-37), 3) := by decide +kernel
theorem dX8_price_53 : decode cX8_price 53 = .ok (.iload_n 1, 1) := by decide +kernel
theorem dX8_price_54 : decode cX8_price 54 = .ok (.ireturn, 1) := by decide +kernel
set_option maxRecDepth 20000 in
theorem ggX8_mend_X8_price : GoodIn wsX8_mend wsX8_price := goodIn_r _ [6, 1, 7, 8, 9, 10, 11, 12, 13, 5, 14, 15, 16, 17, 18, 19, 20, 21, 22, 23, 24, 25, 26, 27, 28, 29, 30, 31, 32, 33, 34, 35, 36, 37, 38, 39, 40, 41, 42, 43, 44, 45, 46, 47, 48, 49, 50, 51, 52, 53, 54, 55, 56, 57, 58, 59, 60, 61, 62, 63, 64, 65, 66, 67, 68, 69, 70, 71, 72, 73, 74, 75, 76, 77, 78, 79, 80, 81, 82, 83, 84, 85, 86, 87, 88, 89, 90, 91, 92, 93, 94, 95, 96, 97, 98, 99, 100] (by decide +kernel) (by decide +kernel)
set_option maxRecDepth 20000 in
theorem gX8_mend_X8_price : GoodIn wsX8_mend (wsV RX8 225 RX8 yX8_price wsX8_price) := goodIn_app (goodIn_of _ (by decide +kernel)) ggX8_mend_X8_price
set_option maxRecDepth 20000 in
theorem ggX8_mend_X8_needOf : GoodIn wsX8_mend wsX8_needOf := goodIn_r _ [74, 67, 15, 16, 75, 76, 77, 78, 79, 80, 81, 82, 83, 84, 85, 86, 87, 88, 89, 90, 91, 92, 93, 94, 95, 96, 97, 98, 99, 100] (by decide +kernel) (by decide +kernel)
set_option maxRecDepth 20000 in
theorem gX8_mend_X8_needOf : GoodIn wsX8_mend (wsV RX8 222 RX8 yX8_needOf wsX8_needOf) := goodIn_app (goodIn_of _ (by decide +kernel)) ggX8_mend_X8_needOf
theorem dX8_mend_0 : decode cX8_mend 0 = .ok (.aload_n 0, 1) := by decide +kernel
theorem dX8_mend_1 : decode cX8_mend 1 = .ok (.invokevirtual 225, 3) := by decide +kernel
theorem dX8_mend_4 : decode cX8_mend 4 = .ok (.iconst (-1), 1) := by decide +kernel
theorem dX8_mend_5 : decode cX8_mend 5 = .ok (.if_icmp .ne 5, 3) := by decide +kernel
theorem dX8_mend_8 : decode cX8_mend 8 = .ok (.iconst (-1), 1) := by decide +kernel
theorem dX8_mend_9 : decode cX8_mend 9 = .ok (.ireturn, 1) := by decide +kernel
theorem dX8_mend_10 : decode cX8_mend 10 = .ok (.iconst 0, 1) := by decide +kernel
theorem dX8_mend_11 : decode cX8_mend 11 = .ok (.istore_n 1, 1) := by decide +kernel
theorem dX8_mend_12 : decode cX8_mend 12 = .ok (.iconst 0, 1) := by decide +kernel
theorem dX8_mend_13 : decode cX8_mend 13 = .ok (.istore_n 2, 1) := by decide +kernel
theorem dX8_mend_14 : decode cX8_mend 14 = .ok (.iload_n 2, 1) := by decide +kernel
theorem dX8_mend_15 : decode cX8_mend 15 = .ok (.bipush 6, 2) := by decide +kernel
theorem dX8_mend_17 : decode cX8_mend 17 = .ok (.if_icmp .ge 38, 3) := by decide +kernel
theorem dX8_mend_20 : decode cX8_mend 20 = .ok (.aload_n 0, 1) := by decide +kernel
theorem dX8_mend_21 : decode cX8_mend 21 = .ok (.iload_n 2, 1) := by decide +kernel
theorem dX8_mend_22 : decode cX8_mend 22 = .ok (.invokevirtual 222, 3) := by decide +kernel
theorem dX8_mend_25 : decode cX8_mend 25 = .ok (.istore_n 3, 1) := by decide +kernel
theorem dX8_mend_26 : decode cX8_mend 26 = .ok (.iload_n 3, 1) := by decide +kernel
theorem dX8_mend_27 : decode cX8_mend 27 = .ok (.aload_n 0, 1) := by decide +kernel
theorem dX8_mend_28 : decode cX8_mend 28 = .ok (.getfield 9, 3) := by decide +kernel
theorem dX8_mend_31 : decode cX8_mend 31 = .ok (.iload_n 2, 1) := by decide +kernel
theorem dX8_mend_32 : decode cX8_mend 32 = .ok (.iaload, 1) := by decide +kernel
theorem dX8_mend_33 : decode cX8_mend 33 = .ok (.if_icmp .gt 6, 3) := by decide +kernel
theorem dX8_mend_36 : decode cX8_mend 36 = .ok (.goto 13, 3) := by decide +kernel
theorem dX8_mend_39 : decode cX8_mend 39 = .ok (.aload_n 0, 1) := by decide +kernel
theorem dX8_mend_40 : decode cX8_mend 40 = .ok (.getfield 9, 3) := by decide +kernel
theorem dX8_mend_43 : decode cX8_mend 43 = .ok (.iload_n 2, 1) := by decide +kernel
theorem dX8_mend_44 : decode cX8_mend 44 = .ok (.iload_n 3, 1) := by decide +kernel
theorem dX8_mend_45 : decode cX8_mend 45 = .ok (.iastore, 1) := by decide +kernel
theorem dX8_mend_46 : decode cX8_mend 46 = .ok (.iinc 1 1, 3) := by decide +kernel
theorem dX8_mend_49 : decode cX8_mend 49 = .ok (.iinc 2 1, 3) := by decide +kernel
theorem dX8_mend_52 : decode cX8_mend 52 = .ok (.goto (-38), 3) := by decide +kernel
theorem dX8_mend_55 : decode cX8_mend 55 = .ok (.iload_n 1, 1) := by decide +kernel
theorem dX8_mend_56 : decode cX8_mend 56 = .ok (.ireturn, 1) := by decide +kernel
set_option maxRecDepth 20000 in
theorem ggX8_mean_X8_isStep : GoodIn wsX8_mean wsX8_isStep := goodIn_r _ [6, 7, 8, 9, 5, 10, 11, 12, 13, 14, 15, 16, 17, 18, 19, 20, 21, 22, 23, 24, 25, 26, 27, 28, 29, 30, 31, 32, 33, 34, 35, 36] (by decide +kernel) (by decide +kernel)
set_option maxRecDepth 20000 in
theorem gX8_mean_X8_isStep : GoodIn wsX8_mean (wsV RX8 187 RX8 yX8_isStep wsX8_isStep) := goodIn_app (goodIn_of _ (by decide +kernel)) ggX8_mean_X8_isStep
theorem dX8_mean_0 : decode cX8_mean 0 = .ok (.aload_n 0, 1) := by decide +kernel
theorem dX8_mean_1 : decode cX8_mean 1 = .ok (.iload_n 1, 1) := by decide +kernel
theorem dX8_mean_2 : decode cX8_mean 2 = .ok (.invokevirtual 187, 3) := by decide +kernel
theorem dX8_mean_5 : decode cX8_mean 5 = .ok (.ifCond .eq 13, 3) := by decide +kernel
theorem dX8_mean_8 : decode cX8_mean 8 = .ok (.aload_n 0, 1) := by decide +kernel
theorem dX8_mean_9 : decode cX8_mean 9 = .ok (.getfield 35, 3) := by decide +kernel
theorem dX8_mean_12 : decode cX8_mean 12 = .ok (.iload_n 1, 1) := by decide +kernel
theorem dX8_mean_13 : decode cX8_mean 13 = .ok (.baload, 1) := by decide +kernel
theorem dX8_mean_14 : decode cX8_mean 14 = .ok (.iload_n 2, 1) := by decide +kernel
theorem dX8_mean_15 : decode cX8_mean 15 = .ok (.if_icmp .ne 5, 3) := by decide +kernel
theorem dX8_mean_18 : decode cX8_mean 18 = .ok (.iconst 0, 1) := by decide +kernel
theorem dX8_mean_19 : decode cX8_mean 19 = .ok (.ireturn, 1) := by decide +kernel
theorem dX8_mean_20 : decode cX8_mean 20 = .ok (.aload_n 0, 1) := by decide +kernel
theorem dX8_mean_21 : decode cX8_mean 21 = .ok (.getfield 35, 3) := by decide +kernel
theorem dX8_mean_24 : decode cX8_mean 24 = .ok (.iload_n 1, 1) := by decide +kernel
theorem dX8_mean_25 : decode cX8_mean 25 = .ok (.iload_n 2, 1) := by decide +kernel
theorem dX8_mean_26 : decode cX8_mean 26 = .ok (.bastore, 1) := by decide +kernel
theorem dX8_mean_27 : decode cX8_mean 27 = .ok (.iconst 1, 1) := by decide +kernel
theorem dX8_mean_28 : decode cX8_mean 28 = .ok (.ireturn, 1) := by decide +kernel
set_option maxRecDepth 20000 in
theorem ggX8_listed_X8_spans : GoodIn wsX8_listed wsX8_spans := goodIn_r _ [8, 9, 10, 1, 11, 12, 13, 14, 15, 16, 17, 18, 7, 19, 20, 21, 22, 23, 24, 25, 26, 27, 28, 29, 30, 31, 32, 33, 34, 35, 36, 37, 38, 39, 40, 41, 42, 43, 44, 45, 46, 47, 48, 49, 50, 51, 52, 53, 54, 55, 56, 57, 58, 59, 60, 61, 62, 63, 64, 65, 66, 67, 68, 69, 70, 71, 106, 107, 108, 109, 110, 111, 112, 113, 114, 115, 116, 117, 118, 119, 120, 121, 122, 123, 124, 125, 126, 127, 128, 129, 130, 131] (by decide +kernel) (by decide +kernel)
set_option maxRecDepth 20000 in
theorem gX8_listed_X8_spans : GoodIn wsX8_listed (wsV RX8 180 RX8 yX8_spans wsX8_spans) := goodIn_app (goodIn_of _ (by decide +kernel)) ggX8_listed_X8_spans
set_option maxRecDepth 20000 in
theorem ggX8_listed_X8_all : GoodIn wsX8_listed wsX8_all := goodIn_r _ [75, 76, 1, 3, 77, 78, 12, 13, 79, 80, 81, 16, 17, 18, 7, 19, 14, 20, 15, 21, 82, 83, 84, 85, 86, 56, 55, 44, 45, 46, 47, 26, 36, 31, 32, 33, 34, 35, 37, 38, 39, 40, 41, 42, 43, 48, 49, 50, 87, 88, 89, 90, 57, 58, 59, 60, 91, 92, 93, 94, 95, 96, 97, 27, 28, 29, 30, 106, 107, 108, 109, 110, 111, 112, 113, 114, 115, 116, 117, 118, 119, 120, 121, 122, 123, 124, 125, 126, 127, 128, 129, 130, 131] (by decide +kernel) (by decide +kernel)
set_option maxRecDepth 20000 in
theorem gX8_listed_X8_all : GoodIn wsX8_listed (wsV RX8 190 RX8 yX8_all wsX8_all) := goodIn_app (goodIn_of _ (by decide +kernel)) ggX8_listed_X8_all
set_option maxRecDepth 20000 in
theorem ggX8_listed_X8_judged : GoodIn wsX8_listed wsX8_judged := goodIn_r _ [101, 11, 3, 102, 103, 104, 7, 105, 13, 12, 106, 107, 108, 109, 110, 111, 112, 113, 114, 115, 116, 117, 118, 119, 120, 121, 122, 123, 124, 125, 126, 127, 128, 129, 130, 131] (by decide +kernel) (by decide +kernel)
set_option maxRecDepth 20000 in
theorem gX8_listed_X8_judged : GoodIn wsX8_listed (wsV RX8 193 RX8 yX8_judged wsX8_judged) := goodIn_app (goodIn_of _ (by decide +kernel)) ggX8_listed_X8_judged
theorem dX8_listed_0 : decode cX8_listed 0 = .ok (.iload_n 1, 1) := by decide +kernel
theorem dX8_listed_1 : decode cX8_listed 1 = .ok (.ifCond .ge 5, 3) := by decide +kernel
theorem dX8_listed_4 : decode cX8_listed 4 = .ok (.iconst (-1), 1) := by decide +kernel
theorem dX8_listed_5 : decode cX8_listed 5 = .ok (.ireturn, 1) := by decide +kernel
theorem dX8_listed_6 : decode cX8_listed 6 = .ok (.aload_n 0, 1) := by decide +kernel
theorem dX8_listed_7 : decode cX8_listed 7 = .ok (.invokevirtual 180, 3) := by decide +kernel
theorem dX8_listed_10 : decode cX8_listed 10 = .ok (.aload_n 0, 1) := by decide +kernel
theorem dX8_listed_11 : decode cX8_listed 11 = .ok (.invokevirtual 190, 3) := by decide +kernel
theorem dX8_listed_14 : decode cX8_listed 14 = .ok (.iconst 0, 1) := by decide +kernel
theorem dX8_listed_15 : decode cX8_listed 15 = .ok (.istore_n 2, 1) := by decide +kernel
theorem dX8_listed_16 : decode cX8_listed 16 = .ok (.iload_n 2, 1) := by decide +kernel
theorem dX8_listed_17 : decode cX8_listed 17 = .ok (.aload_n 0, 1) := by decide +kernel
theorem dX8_listed_18 : decode cX8_listed 18 = .ok (.getfield 75, 3) := by decide +kernel
theorem dX8_listed_21 : decode cX8_listed 21 = .ok (.if_icmp .ge 124, 3) := by decide +kernel
theorem dX8_listed_24 : decode cX8_listed 24 = .ok (.aload_n 0, 1) := by decide +kernel
theorem dX8_listed_25 : decode cX8_listed 25 = .ok (.iload_n 2, 1) := by decide +kernel
theorem dX8_listed_26 : decode cX8_listed 26 = .ok (.invokevirtual 193, 3) := by decide +kernel
theorem dX8_listed_29 : decode cX8_listed 29 = .ok (.iconst 2, 1) := by decide +kernel
theorem dX8_listed_30 : decode cX8_listed 30 = .ok (.if_icmp .lt 109, 3) := by decide +kernel
theorem dX8_listed_33 : decode cX8_listed 33 = .ok (.aload_n 0, 1) := by decide +kernel
theorem dX8_listed_34 : decode cX8_listed 34 = .ok (.getfield 35, 3) := by decide +kernel
theorem dX8_listed_37 : decode cX8_listed 37 = .ok (.iload_n 2, 1) := by decide +kernel
theorem dX8_listed_38 : decode cX8_listed 38 = .ok (.baload, 1) := by decide +kernel
theorem dX8_listed_39 : decode cX8_listed 39 = .ok (.ifCond .eq 6, 3) := by decide +kernel
theorem dX8_listed_42 : decode cX8_listed 42 = .ok (.goto 97, 3) := by decide +kernel
theorem dX8_listed_45 : decode cX8_listed 45 = .ok (.iconst 0, 1) := by decide +kernel
theorem dX8_listed_46 : decode cX8_listed 46 = .ok (.istore_n 3, 1) := by decide +kernel
theorem dX8_listed_47 : decode cX8_listed 47 = .ok (.iconst 0, 1) := by decide +kernel
theorem dX8_listed_48 : decode cX8_listed 48 = .ok (.istore 4, 2) := by decide +kernel
theorem dX8_listed_50 : decode cX8_listed 50 = .ok (.iload 4, 2) := by decide +kernel
theorem dX8_listed_52 : decode cX8_listed 52 = .ok (.aload_n 0, 1) := by decide +kernel
theorem dX8_listed_53 : decode cX8_listed 53 = .ok (.getfield 75, 3) := by decide +kernel
theorem dX8_listed_56 : decode cX8_listed 56 = .ok (.if_icmp .ge 76, 3) := by decide +kernel
theorem dX8_listed_59 : decode cX8_listed 59 = .ok (.iload 4, 2) := by decide +kernel
theorem dX8_listed_61 : decode cX8_listed 61 = .ok (.iload_n 2, 1) := by decide +kernel
theorem dX8_listed_62 : decode cX8_listed 62 = .ok (.if_icmp .eq 64, 3) := by decide +kernel
theorem dX8_listed_65 : decode cX8_listed 65 = .ok (.aload_n 0, 1) := by decide +kernel
theorem dX8_listed_66 : decode cX8_listed 66 = .ok (.iload 4, 2) := by decide +kernel
theorem dX8_listed_68 : decode cX8_listed 68 = .ok (.invokevirtual 193, 3) := by decide +kernel
theorem dX8_listed_71 : decode cX8_listed 71 = .ok (.iconst 1, 1) := by decide +kernel
theorem dX8_listed_72 : decode cX8_listed 72 = .ok (.if_icmp .le 54, 3) := by decide +kernel
theorem dX8_listed_75 : decode cX8_listed 75 = .ok (.aload_n 0, 1) := by decide +kernel
theorem dX8_listed_76 : decode cX8_listed 76 = .ok (.getfield 35, 3) := by decide +kernel
theorem dX8_listed_79 : decode cX8_listed 79 = .ok (.iload 4, 2) := by decide +kernel
theorem dX8_listed_81 : decode cX8_listed 81 = .ok (.baload, 1) := by decide +kernel
theorem dX8_listed_82 : decode cX8_listed 82 = .ok (.ifCond .ne 44, 3) := by decide +kernel
theorem dX8_listed_85 : decode cX8_listed 85 = .ok (.aload_n 0, 1) := by decide +kernel
theorem dX8_listed_86 : decode cX8_listed 86 = .ok (.getfield 51, 3) := by decide +kernel
theorem dX8_listed_89 : decode cX8_listed 89 = .ok (.iload 4, 2) := by decide +kernel
theorem dX8_listed_91 : decode cX8_listed 91 = .ok (.iaload, 1) := by decide +kernel
theorem dX8_listed_92 : decode cX8_listed 92 = .ok (.aload_n 0, 1) := by decide +kernel
theorem dX8_listed_93 : decode cX8_listed 93 = .ok (.getfield 51, 3) := by decide +kernel
theorem dX8_listed_96 : decode cX8_listed 96 = .ok (.iload_n 2, 1) := by decide +kernel
theorem dX8_listed_97 : decode cX8_listed 97 = .ok (.iaload, 1) := by decide +kernel
theorem dX8_listed_98 : decode cX8_listed 98 = .ok (.if_icmp .gt 25, 3) := by decide +kernel
theorem dX8_listed_101 : decode cX8_listed 101 = .ok (.aload_n 0, 1) := by decide +kernel
theorem dX8_listed_102 : decode cX8_listed 102 = .ok (.getfield 51, 3) := by decide +kernel
theorem dX8_listed_105 : decode cX8_listed 105 = .ok (.iload 4, 2) := by decide +kernel
theorem dX8_listed_107 : decode cX8_listed 107 = .ok (.iaload, 1) := by decide +kernel
theorem dX8_listed_108 : decode cX8_listed 108 = .ok (.aload_n 0, 1) := by decide +kernel
theorem dX8_listed_109 : decode cX8_listed 109 = .ok (.getfield 51, 3) := by decide +kernel
theorem dX8_listed_112 : decode cX8_listed 112 = .ok (.iload_n 2, 1) := by decide +kernel
theorem dX8_listed_113 : decode cX8_listed 113 = .ok (.iaload, 1) := by decide +kernel
theorem dX8_listed_114 : decode cX8_listed 114 = .ok (.if_icmp .ne 12, 3) := by decide +kernel
theorem dX8_listed_117 : decode cX8_listed 117 = .ok (.iload 4, 2) := by decide +kernel
theorem dX8_listed_119 : decode cX8_listed 119 = .ok (.iload_n 2, 1) := by decide +kernel
theorem dX8_listed_120 : decode cX8_listed 120 = .ok (.if_icmp .ge 6, 3) := by decide +kernel
theorem dX8_listed_123 : decode cX8_listed 123 = .ok (.iinc 3 1, 3) := by decide +kernel
theorem dX8_listed_126 : decode cX8_listed 126 = .ok (.iinc 4 1, 3) := by decide +kernel
theorem dX8_listed_129 : decode cX8_listed 129 = .ok (.goto (-79), 3) := by decide +kernel
theorem dX8_listed_132 : decode cX8_listed 132 = .ok (.iload_n 3, 1) := by decide +kernel
theorem dX8_listed_133 : decode cX8_listed 133 = .ok (.iload_n 1, 1) := by decide +kernel
theorem dX8_listed_134 : decode cX8_listed 134 = .ok (.if_icmp .ne 5, 3) := by decide +kernel
theorem dX8_listed_137 : decode cX8_listed 137 = .ok (.iload_n 2, 1) := by decide +kernel
theorem dX8_listed_138 : decode cX8_listed 138 = .ok (.ireturn, 1) := by decide +kernel
theorem dX8_listed_139 : decode cX8_listed 139 = .ok (.iinc 2 1, 3) := by decide +kernel
theorem dX8_listed_142 : decode cX8_listed 142 = .ok (.goto (-126), 3) := by decide +kernel
theorem dX8_listed_145 : decode cX8_listed 145 = .ok (.iconst (-1), 1) := by decide +kernel
theorem dX8_listed_146 : decode cX8_listed 146 = .ok (.ireturn, 1) := by decide +kernel
set_option maxRecDepth 20000 in
theorem ggX8_count_X8_in : GoodIn wsX8_count wsX8_in := goodIn_r _ [14] (by decide +kernel) (by decide +kernel)
set_option maxRecDepth 20000 in
theorem gX8_count_X8_in : GoodIn wsX8_count (va_wsS RX8 79 yX8_in wsX8_in) := goodIn_app (goodIn_of _ (by decide +kernel)) ggX8_count_X8_in
set_option maxRecDepth 20000 in
theorem ggX8_count_X8_many : GoodIn wsX8_count wsX8_many := goodIn_r _ [18, 19, 20, 80, 81, 82, 83, 84, 85, 86, 87, 88, 89, 90, 91, 92, 93, 94, 95, 96, 97, 98, 99, 100, 101, 102, 103, 104, 105] (by decide +kernel) (by decide +kernel)
set_option maxRecDepth 20000 in
theorem gX8_count_X8_many : GoodIn wsX8_count (wsV RX8 183 RX8 yX8_many wsX8_many) := goodIn_app (goodIn_of _ (by decide +kernel)) ggX8_count_X8_many
set_option maxRecDepth 20000 in
theorem ggX8_count_X8_all : GoodIn wsX8_count wsX8_all := goodIn_r _ [24, 8, 7, 25, 26, 27, 20, 19, 28, 29, 30, 31, 32, 33, 13, 34, 35, 36, 37, 38, 39, 40, 41, 42, 43, 44, 45, 46, 47, 48, 49, 10, 3, 50, 51, 52, 53, 6, 54, 55, 56, 57, 11, 12, 14, 58, 59, 60, 61, 62, 63, 64, 65, 66, 67, 68, 69, 70, 71, 72, 73, 74, 75, 76, 77, 78, 79, 80, 81, 82, 83, 84, 85, 86, 87, 88, 89, 90, 91, 92, 93, 94, 95, 96, 97, 98, 99, 100, 101, 102, 103, 104, 105] (by decide +kernel) (by decide +kernel)
set_option maxRecDepth 20000 in
theorem gX8_count_X8_all : GoodIn wsX8_count (wsV RX8 190 RX8 yX8_all wsX8_all) := goodIn_app (goodIn_of _ (by decide +kernel)) ggX8_count_X8_all
theorem dX8_count_0 : decode cX8_count 0 = .ok (.iload_n 1, 1) := by decide +kernel
theorem dX8_count_1 : decode cX8_count 1 = .ok (.i2l, 1) := by decide +kernel
theorem dX8_count_2 : decode cX8_count 2 = .ok (.ldc2_w 228, 3) := by decide +kernel
theorem dX8_count_5 : decode cX8_count 5 = .ok (.ldc2_w 230, 3) := by decide +kernel
theorem dX8_count_8 : decode cX8_count 8 = .ok (.invokestatic 79, 3) := by decide +kernel
theorem dX8_count_11 : decode cX8_count 11 = .ok (.ifCond .eq 13, 3) := by decide +kernel
theorem dX8_count_14 : decode cX8_count 14 = .ok (.aload_n 0, 1) := by decide +kernel
theorem dX8_count_15 : decode cX8_count 15 = .ok (.getfield 9, 3) := by decide +kernel
theorem dX8_count_18 : decode cX8_count 18 = .ok (.iload_n 1, 1) := by decide +kernel
theorem dX8_count_19 : decode cX8_count 19 = .ok (.bipush 10, 2) := by decide +kernel
theorem dX8_count_21 : decode cX8_count 21 = .ok (.isub, 1) := by decide +kernel
theorem dX8_count_22 : decode cX8_count 22 = .ok (.iaload, 1) := by decide +kernel
theorem dX8_count_23 : decode cX8_count 23 = .ok (.ireturn, 1) := by decide +kernel
theorem dX8_count_24 : decode cX8_count 24 = .ok (.iload_n 1, 1) := by decide +kernel
theorem dX8_count_25 : decode cX8_count 25 = .ok (.i2l, 1) := by decide +kernel
theorem dX8_count_26 : decode cX8_count 26 = .ok (.ldc2_w 232, 3) := by decide +kernel
theorem dX8_count_29 : decode cX8_count 29 = .ok (.ldc2_w 234, 3) := by decide +kernel
theorem dX8_count_32 : decode cX8_count 32 = .ok (.invokestatic 79, 3) := by decide +kernel
theorem dX8_count_35 : decode cX8_count 35 = .ok (.ifCond .eq 21, 3) := by decide +kernel
theorem dX8_count_38 : decode cX8_count 38 = .ok (.aload_n 0, 1) := by decide +kernel
theorem dX8_count_39 : decode cX8_count 39 = .ok (.getfield 13, 3) := by decide +kernel
theorem dX8_count_42 : decode cX8_count 42 = .ok (.iload_n 1, 1) := by decide +kernel
theorem dX8_count_43 : decode cX8_count 43 = .ok (.bipush 20, 2) := by decide +kernel
theorem dX8_count_45 : decode cX8_count 45 = .ok (.isub, 1) := by decide +kernel
theorem dX8_count_46 : decode cX8_count 46 = .ok (.baload, 1) := by decide +kernel
theorem dX8_count_47 : decode cX8_count 47 = .ok (.ifCond .eq 7, 3) := by decide +kernel
theorem dX8_count_50 : decode cX8_count 50 = .ok (.iconst 1, 1) := by decide +kernel
theorem dX8_count_51 : decode cX8_count 51 = .ok (.goto 4, 3) := by decide +kernel
theorem dX8_count_54 : decode cX8_count 54 = .ok (.iconst 0, 1) := by decide +kernel
theorem dX8_count_55 : decode cX8_count 55 = .ok (.ireturn, 1) := by decide +kernel
theorem dX8_count_56 : decode cX8_count 56 = .ok (.iload_n 1, 1) := by decide +kernel
theorem dX8_count_57 : decode cX8_count 57 = .ok (.tableswitch 96 0 4 #[35, 40, 45, 54, 91], 35) := by decide +kernel
theorem dX8_count_92 : decode cX8_count 92 = .ok (.aload_n 0, 1) := by decide +kernel
theorem dX8_count_93 : decode cX8_count 93 = .ok (.getfield 75, 3) := by decide +kernel
theorem dX8_count_96 : decode cX8_count 96 = .ok (.ireturn, 1) := by decide +kernel
theorem dX8_count_97 : decode cX8_count 97 = .ok (.aload_n 0, 1) := by decide +kernel
theorem dX8_count_98 : decode cX8_count 98 = .ok (.invokevirtual 183, 3) := by decide +kernel
theorem dX8_count_101 : decode cX8_count 101 = .ok (.ireturn, 1) := by decide +kernel
theorem dX8_count_102 : decode cX8_count 102 = .ok (.aload_n 0, 1) := by decide +kernel
theorem dX8_count_103 : decode cX8_count 103 = .ok (.invokevirtual 190, 3) := by decide +kernel
theorem dX8_count_106 : decode cX8_count 106 = .ok (.aload_n 0, 1) := by decide +kernel
theorem dX8_count_107 : decode cX8_count 107 = .ok (.getfield 153, 3) := by decide +kernel
theorem dX8_count_110 : decode cX8_count 110 = .ok (.ireturn, 1) := by decide +kernel
theorem dX8_count_111 : decode cX8_count 111 = .ok (.iconst 0, 1) := by decide +kernel
theorem dX8_count_112 : decode cX8_count 112 = .ok (.istore_n 2, 1) := by decide +kernel
theorem dX8_count_113 : decode cX8_count 113 = .ok (.iconst 0, 1) := by decide +kernel
theorem dX8_count_114 : decode cX8_count 114 = .ok (.istore_n 3, 1) := by decide +kernel
theorem dX8_count_115 : decode cX8_count 115 = .ok (.iload_n 3, 1) := by decide +kernel
theorem dX8_count_116 : decode cX8_count 116 = .ok (.aload_n 0, 1) := by decide +kernel
theorem dX8_count_117 : decode cX8_count 117 = .ok (.getfield 75, 3) := by decide +kernel
theorem dX8_count_120 : decode cX8_count 120 = .ok (.if_icmp .ge 26, 3) := by decide +kernel
theorem dX8_count_123 : decode cX8_count 123 = .ok (.iload_n 2, 1) := by decide +kernel
theorem dX8_count_124 : decode cX8_count 124 = .ok (.aload_n 0, 1) := by decide +kernel
theorem dX8_count_125 : decode cX8_count 125 = .ok (.getfield 35, 3) := by decide +kernel
theorem dX8_count_128 : decode cX8_count 128 = .ok (.iload_n 3, 1) := by decide +kernel
theorem dX8_count_129 : decode cX8_count 129 = .ok (.baload, 1) := by decide +kernel
theorem dX8_count_130 : decode cX8_count 130 = .ok (.ifCond .eq 7, 3) := by decide +kernel
theorem dX8_count_133 : decode cX8_count 133 = .ok (.iconst 1, 1) := by decide +kernel
theorem dX8_count_134 : decode cX8_count 134 = .ok (.goto 4, 3) := by decide +kernel
theorem dX8_count_137 : decode cX8_count 137 = .ok (.iconst 0, 1) := by decide +kernel
theorem dX8_count_138 : decode cX8_count 138 = .ok (.iadd, 1) := by decide +kernel
theorem dX8_count_139 : decode cX8_count 139 = .ok (.istore_n 2, 1) := by decide +kernel
theorem dX8_count_140 : decode cX8_count 140 = .ok (.iinc 3 1, 3) := by decide +kernel
theorem dX8_count_143 : decode cX8_count 143 = .ok (.goto (-28), 3) := by decide +kernel
theorem dX8_count_146 : decode cX8_count 146 = .ok (.iload_n 2, 1) := by decide +kernel
theorem dX8_count_147 : decode cX8_count 147 = .ok (.ireturn, 1) := by decide +kernel
theorem dX8_count_148 : decode cX8_count 148 = .ok (.aload_n 0, 1) := by decide +kernel
theorem dX8_count_149 : decode cX8_count 149 = .ok (.getfield 107, 3) := by decide +kernel
theorem dX8_count_152 : decode cX8_count 152 = .ok (.ireturn, 1) := by decide +kernel
theorem dX8_count_153 : decode cX8_count 153 = .ok (.iconst (-1), 1) := by decide +kernel
theorem dX8_count_154 : decode cX8_count 154 = .ok (.ireturn, 1) := by decide +kernel
theorem dJ9_abs_067f4_0 : decode cJ9_abs_067f4 0 = .ok (.lload_n 0, 1) := by decide +kernel
theorem dJ9_abs_067f4_1 : decode cJ9_abs_067f4 1 = .ok (.lconst 0, 1) := by decide +kernel
theorem dJ9_abs_067f4_2 : decode cJ9_abs_067f4 2 = .ok (.lcmp, 1) := by decide +kernel
theorem dJ9_abs_067f4_3 : decode cJ9_abs_067f4 3 = .ok (.ifCond .ge 8, 3) := by decide +kernel
theorem dJ9_abs_067f4_6 : decode cJ9_abs_067f4 6 = .ok (.lload_n 0, 1) := by decide +kernel
theorem dJ9_abs_067f4_7 : decode cJ9_abs_067f4 7 = .ok (.lneg, 1) := by decide +kernel
theorem dJ9_abs_067f4_8 : decode cJ9_abs_067f4 8 = .ok (.goto 4, 3) := by decide +kernel
theorem dJ9_abs_067f4_11 : decode cJ9_abs_067f4 11 = .ok (.lload_n 0, 1) := by decide +kernel
theorem dJ9_abs_067f4_12 : decode cJ9_abs_067f4 12 = .ok (.lreturn, 1) := by decide +kernel
theorem dJ9_max_7cf53_0 : decode cJ9_max_7cf53 0 = .ok (.iload_n 0, 1) := by decide +kernel
theorem dJ9_max_7cf53_1 : decode cJ9_max_7cf53 1 = .ok (.iload_n 1, 1) := by decide +kernel
theorem dJ9_max_7cf53_2 : decode cJ9_max_7cf53 2 = .ok (.if_icmp .lt 7, 3) := by decide +kernel
theorem dJ9_max_7cf53_5 : decode cJ9_max_7cf53 5 = .ok (.iload_n 0, 1) := by decide +kernel
theorem dJ9_max_7cf53_6 : decode cJ9_max_7cf53 6 = .ok (.goto 4, 3) := by decide +kernel
theorem dJ9_max_7cf53_9 : decode cJ9_max_7cf53 9 = .ok (.iload_n 1, 1) := by decide +kernel
theorem dJ9_max_7cf53_10 : decode cJ9_max_7cf53 10 = .ok (.ireturn, 1) := by decide +kernel
theorem dJ9_max_f86c9_0 : decode cJ9_max_f86c9 0 = .ok (.lload_n 0, 1) := by decide +kernel
theorem dJ9_max_f86c9_1 : decode cJ9_max_f86c9 1 = .ok (.lload_n 2, 1) := by decide +kernel
theorem dJ9_max_f86c9_2 : decode cJ9_max_f86c9 2 = .ok (.lcmp, 1) := by decide +kernel
theorem dJ9_max_f86c9_3 : decode cJ9_max_f86c9 3 = .ok (.ifCond .lt 7, 3) := by decide +kernel
theorem dJ9_max_f86c9_6 : decode cJ9_max_f86c9 6 = .ok (.lload_n 0, 1) := by decide +kernel
theorem dJ9_max_f86c9_7 : decode cJ9_max_f86c9 7 = .ok (.goto 4, 3) := by decide +kernel
theorem dJ9_max_f86c9_10 : decode cJ9_max_f86c9 10 = .ok (.lload_n 2, 1) := by decide +kernel
theorem dJ9_max_f86c9_11 : decode cJ9_max_f86c9 11 = .ok (.lreturn, 1) := by decide +kernel
theorem dJ9_min_f86c9_0 : decode cJ9_min_f86c9 0 = .ok (.lload_n 0, 1) := by decide +kernel
theorem dJ9_min_f86c9_1 : decode cJ9_min_f86c9 1 = .ok (.lload_n 2, 1) := by decide +kernel
theorem dJ9_min_f86c9_2 : decode cJ9_min_f86c9 2 = .ok (.lcmp, 1) := by decide +kernel
theorem dJ9_min_f86c9_3 : decode cJ9_min_f86c9 3 = .ok (.ifCond .gt 7, 3) := by decide +kernel
theorem dJ9_min_f86c9_6 : decode cJ9_min_f86c9 6 = .ok (.lload_n 0, 1) := by decide +kernel
theorem dJ9_min_f86c9_7 : decode cJ9_min_f86c9 7 = .ok (.goto 4, 3) := by decide +kernel
theorem dJ9_min_f86c9_10 : decode cJ9_min_f86c9 10 = .ok (.lload_n 2, 1) := by decide +kernel
theorem dJ9_min_f86c9_11 : decode cJ9_min_f86c9 11 = .ok (.lreturn, 1) := by decide +kernel
theorem dJ7_fill_d0a16_0 : decode cJ7_fill_d0a16 0 = .ok (.iconst 0, 1) := by decide +kernel
theorem dJ7_fill_d0a16_1 : decode cJ7_fill_d0a16 1 = .ok (.istore_n 3, 1) := by decide +kernel
theorem dJ7_fill_d0a16_2 : decode cJ7_fill_d0a16 2 = .ok (.aload_n 0, 1) := by decide +kernel
theorem dJ7_fill_d0a16_3 : decode cJ7_fill_d0a16 3 = .ok (.arraylength, 1) := by decide +kernel
theorem dJ7_fill_d0a16_4 : decode cJ7_fill_d0a16 4 = .ok (.istore 4, 2) := by decide +kernel
theorem dJ7_fill_d0a16_6 : decode cJ7_fill_d0a16 6 = .ok (.iload_n 3, 1) := by decide +kernel
theorem dJ7_fill_d0a16_7 : decode cJ7_fill_d0a16 7 = .ok (.iload 4, 2) := by decide +kernel
theorem dJ7_fill_d0a16_9 : decode cJ7_fill_d0a16 9 = .ok (.if_icmp .ge 13, 3) := by decide +kernel
theorem dJ7_fill_d0a16_12 : decode cJ7_fill_d0a16 12 = .ok (.aload_n 0, 1) := by decide +kernel
theorem dJ7_fill_d0a16_13 : decode cJ7_fill_d0a16 13 = .ok (.iload_n 3, 1) := by decide +kernel
theorem dJ7_fill_d0a16_14 : decode cJ7_fill_d0a16 14 = .ok (.lload_n 1, 1) := by decide +kernel
theorem dJ7_fill_d0a16_15 : decode cJ7_fill_d0a16 15 = .ok (.lastore, 1) := by decide +kernel
theorem dJ7_fill_d0a16_16 : decode cJ7_fill_d0a16 16 = .ok (.iinc 3 1, 3) := by decide +kernel
theorem dJ7_fill_d0a16_19 : decode cJ7_fill_d0a16 19 = .ok (.goto (-13), 3) := by decide +kernel
theorem dJ7_fill_d0a16_22 : decode cJ7_fill_d0a16 22 = .ok (.return_, 1) := by decide +kernel
theorem dJ7_fill_53178_0 : decode cJ7_fill_53178 0 = .ok (.iconst 0, 1) := by decide +kernel
theorem dJ7_fill_53178_1 : decode cJ7_fill_53178 1 = .ok (.istore_n 2, 1) := by decide +kernel
theorem dJ7_fill_53178_2 : decode cJ7_fill_53178 2 = .ok (.aload_n 0, 1) := by decide +kernel
theorem dJ7_fill_53178_3 : decode cJ7_fill_53178 3 = .ok (.arraylength, 1) := by decide +kernel
theorem dJ7_fill_53178_4 : decode cJ7_fill_53178 4 = .ok (.istore_n 3, 1) := by decide +kernel
theorem dJ7_fill_53178_5 : decode cJ7_fill_53178 5 = .ok (.iload_n 2, 1) := by decide +kernel
theorem dJ7_fill_53178_6 : decode cJ7_fill_53178 6 = .ok (.iload_n 3, 1) := by decide +kernel
theorem dJ7_fill_53178_7 : decode cJ7_fill_53178 7 = .ok (.if_icmp .ge 13, 3) := by decide +kernel
theorem dJ7_fill_53178_10 : decode cJ7_fill_53178 10 = .ok (.aload_n 0, 1) := by decide +kernel
theorem dJ7_fill_53178_11 : decode cJ7_fill_53178 11 = .ok (.iload_n 2, 1) := by decide +kernel
theorem dJ7_fill_53178_12 : decode cJ7_fill_53178 12 = .ok (.iload_n 1, 1) := by decide +kernel
theorem dJ7_fill_53178_13 : decode cJ7_fill_53178 13 = .ok (.iastore, 1) := by decide +kernel
theorem dJ7_fill_53178_14 : decode cJ7_fill_53178 14 = .ok (.iinc 2 1, 3) := by decide +kernel
theorem dJ7_fill_53178_17 : decode cJ7_fill_53178 17 = .ok (.goto (-12), 3) := by decide +kernel
theorem dJ7_fill_53178_20 : decode cJ7_fill_53178 20 = .ok (.return_, 1) := by decide +kernel
set_option maxRecDepth 20000 in
theorem ggL_law_X7_init : GoodIn wsL_law wsX7_init := goodIn_r _ [8, 9, 10, 11, 12, 13, 14, 15, 16, 17, 18, 19, 20, 21, 22, 23, 24, 25, 26, 27, 28, 29, 30, 31, 32, 33, 34, 35, 36, 37, 38, 39, 40, 41, 42, 43, 44, 45, 46, 47, 48, 49, 50, 51, 52, 53, 54, 55, 2, 56, 57, 58, 59, 60, 61, 62, 63, 64, 65, 66, 67, 68, 69, 70, 71, 72, 73, 74, 75, 76, 77, 78, 79, 80, 81, 82, 83, 84, 85, 86, 87, 88, 89, 90, 91, 92, 93, 94, 95, 96, 97, 98, 99, 100, 101, 102, 103, 104, 105, 106, 107, 755, 756, 757, 758, 759, 722, 723, 724, 725, 726, 727, 728, 760, 761, 762, 763, 764, 765, 766, 767, 768, 769, 770, 771, 772, 773, 774, 775, 776, 777, 778, 779, 780, 781, 782, 783, 784, 785, 786, 787, 788, 789, 790, 791, 792, 793, 794, 795, 796, 797, 798, 799] (by decide +kernel) (by decide +kernel)
set_option maxRecDepth 20000 in
theorem gL_law_X7_init : GoodIn wsL_law (wsX7_init) := ggL_law_X7_init
set_option maxRecDepth 20000 in
theorem ggL_law_X8_init : GoodIn wsL_law wsX8_init := goodIn_r _ [110, 111, 10, 11, 44, 112, 46, 113, 114, 115, 116, 117, 118, 119, 120, 121, 48, 122, 123, 124, 125, 126, 127, 128, 129, 130, 131, 132, 729, 730, 731, 732, 733, 734, 735, 736, 737, 738, 739, 740, 741, 742, 743, 744, 745, 746, 747, 748, 749, 750, 751, 752, 753, 754] (by decide +kernel) (by decide +kernel)
set_option maxRecDepth 20000 in
theorem gL_law_X8_init : GoodIn wsL_law (wsX8_init) := ggL_law_X8_init
set_option maxRecDepth 20000 in
theorem ggL_law_X7_name : GoodIn wsL_law wsX7_name := goodIn_r _ [136, 15, 137, 138, 2, 139, 140, 52, 53, 14, 54, 45, 47, 49, 50, 55, 56, 57, 58, 141, 142, 143, 144, 31, 145, 35, 146, 39, 147, 722, 723, 724, 725, 726, 727, 728, 755, 756, 757, 758, 759, 777, 778, 779, 780, 781, 782, 783, 784, 785, 786, 787, 788, 789, 790, 791, 792, 793, 794, 795, 796, 797, 798, 799] (by decide +kernel) (by decide +kernel)
set_option maxRecDepth 20000 in
theorem gL_law_X7_name : GoodIn wsL_law (wsV RL 13 RX7 yX7_name wsX7_name) := goodIn_app (goodIn_of _ (by decide +kernel)) ggL_law_X7_name
set_option maxRecDepth 20000 in
theorem ggL_law_X8_name : GoodIn wsL_law wsX8_name := goodIn_r _ [151, 152, 153, 112, 113, 154, 155, 5, 156, 157, 158, 159, 160, 729, 730, 731, 732, 733, 734, 735, 736, 737, 738, 739, 740, 741, 742, 743, 744, 745, 746, 747, 748, 749, 750, 751, 752, 753, 754] (by decide +kernel) (by decide +kernel)
set_option maxRecDepth 20000 in
theorem gL_law_X8_name : GoodIn wsL_law (wsV RL 17 RX8 yX8_name wsX8_name) := goodIn_app (goodIn_of _ (by decide +kernel)) ggL_law_X8_name
set_option maxRecDepth 20000 in
theorem ggL_law_X7_span : GoodIn wsL_law wsX7_span := goodIn_r _ [164, 19, 165, 166, 167, 168, 2, 169, 170, 171, 141, 142, 143, 144, 31, 145, 35, 146, 39, 147, 722, 723, 724, 725, 726, 727, 728, 760, 761, 777, 778, 779, 780, 781, 782, 783, 784, 785, 786, 787, 788, 789, 790, 791, 792, 793, 794, 795, 796, 797, 798, 799] (by decide +kernel) (by decide +kernel)
set_option maxRecDepth 20000 in
theorem gL_law_X7_span : GoodIn wsL_law (wsV RL 18 RX7 yX7_span wsX7_span) := goodIn_app (goodIn_of _ (by decide +kernel)) ggL_law_X7_span
set_option maxRecDepth 20000 in
theorem ggL_law_X8_span : GoodIn wsL_law wsX8_span := goodIn_r _ [175, 176, 177, 114, 115, 158, 159, 5, 160, 729, 730, 731, 732, 733, 734, 735, 736, 737, 738, 739, 740, 741, 742, 743, 744, 745, 746, 747, 748, 749, 750, 751, 752, 753, 754] (by decide +kernel) (by decide +kernel)
set_option maxRecDepth 20000 in
theorem gL_law_X8_span : GoodIn wsL_law (wsV RL 22 RX8 yX8_span wsX8_span) := goodIn_app (goodIn_of _ (by decide +kernel)) ggL_law_X8_span
set_option maxRecDepth 20000 in
theorem ggL_law_X7_step : GoodIn wsL_law wsX7_step := goodIn_r _ [181, 23, 182, 183, 184, 185, 2, 186, 187, 188, 189, 22, 190, 191, 67, 192, 193, 194, 195, 196, 197, 137, 138, 139, 198, 199, 200, 201, 202, 203, 204, 205, 206, 167, 168, 169, 170, 171, 207, 208, 209, 210, 68, 69, 70, 71, 211, 212, 213, 214, 215, 216, 217, 218, 219, 220, 221, 222, 223, 73, 141, 142, 143, 144, 31, 145, 35, 146, 39, 147, 722, 723, 724, 725, 726, 727, 728, 762, 763, 764, 765, 766, 767, 768, 769, 770, 777, 778, 779, 780, 781, 782, 783, 784, 785, 786, 787, 788, 789, 790, 791, 792, 793, 794, 795, 796, 797, 798, 799] (by decide +kernel) (by decide +kernel)
set_option maxRecDepth 20000 in
theorem gL_law_X7_step : GoodIn wsL_law (wsV RL 23 RX7 yX7_step wsX7_step) := goodIn_app (goodIn_of _ (by decide +kernel)) ggL_law_X7_step
set_option maxRecDepth 20000 in
theorem ggL_law_X8_step : GoodIn wsL_law wsX8_step := goodIn_r _ [227, 228, 116, 117, 118, 119, 120, 229, 230, 231, 5, 232, 176, 177, 233, 154, 155, 156, 157, 158, 159, 160, 234, 235, 236, 237, 729, 730, 731, 732, 733, 734, 735, 736, 737, 738, 739, 740, 741, 742, 743, 744, 745, 746, 747, 748, 749, 750, 751, 752, 753, 754] (by decide +kernel) (by decide +kernel)
set_option maxRecDepth 20000 in
theorem gL_law_X8_step : GoodIn wsL_law (wsV RL 27 RX8 yX8_step wsX8_step) := goodIn_app (goodIn_of _ (by decide +kernel)) ggL_law_X8_step
set_option maxRecDepth 20000 in
theorem ggL_law_X7_back : GoodIn wsL_law wsX7_back := goodIn_r _ [241, 23, 182, 242, 243, 244, 22, 245, 191, 72, 211, 212, 213, 214, 215, 67, 70, 216, 217, 218, 219, 220, 221, 222, 223, 73, 141, 142, 143, 2, 144, 31, 145, 35, 146, 39, 147, 722, 723, 724, 725, 726, 727, 728, 762, 763, 764, 765, 766, 767, 768, 769, 770, 777, 778, 779, 780, 781, 782, 783, 784, 785, 786, 787, 788, 789, 790, 791, 792, 793, 794, 795, 796, 797, 798, 799] (by decide +kernel) (by decide +kernel)
set_option maxRecDepth 20000 in
theorem gL_law_X7_back : GoodIn wsL_law (wsV RL 28 RX7 yX7_back wsX7_back) := goodIn_app (goodIn_of _ (by decide +kernel)) ggL_law_X7_back
set_option maxRecDepth 20000 in
theorem ggL_law_X8_back : GoodIn wsL_law wsX8_back := goodIn_r _ [249, 228, 729, 730, 731, 732, 733, 734, 735, 736, 737, 738, 739, 740, 741, 742, 743, 744, 745, 746, 747, 748, 749, 750, 751, 752, 753, 754] (by decide +kernel) (by decide +kernel)
set_option maxRecDepth 20000 in
theorem gL_law_X8_back : GoodIn wsL_law (wsV RL 32 RX8 yX8_back wsX8_back) := goodIn_app (goodIn_of _ (by decide +kernel)) ggL_law_X8_back
set_option maxRecDepth 20000 in
theorem ggL_law_X7_mode : GoodIn wsL_law wsX7_mode := goodIn_r _ [253, 15, 254, 141, 142, 143, 2, 144, 31, 145, 35, 146, 39, 147, 722, 723, 724, 725, 726, 727, 728, 755, 756, 757, 758, 759, 777, 778, 779, 780, 781, 782, 783, 784, 785, 786, 787, 788, 789, 790, 791, 792, 793, 794, 795, 796, 797, 798, 799] (by decide +kernel) (by decide +kernel)
set_option maxRecDepth 20000 in
theorem gL_law_X7_mode : GoodIn wsL_law (wsV RL 33 RX7 yX7_mode wsX7_mode) := goodIn_app (goodIn_of _ (by decide +kernel)) ggL_law_X7_mode
set_option maxRecDepth 20000 in
theorem ggL_law_X8_mode : GoodIn wsL_law wsX8_mode := goodIn_r _ [258, 259, 158, 159, 5, 160, 729, 730, 731, 732, 733, 734, 735, 736, 737, 738, 739, 740, 741, 742, 743, 744, 745, 746, 747, 748, 749, 750, 751, 752, 753, 754] (by decide +kernel) (by decide +kernel)
set_option maxRecDepth 20000 in
theorem gL_law_X8_mode : GoodIn wsL_law (wsV RL 37 RX8 yX8_mode wsX8_mode) := goodIn_app (goodIn_of _ (by decide +kernel)) ggL_law_X8_mode
set_option maxRecDepth 20000 in
theorem ggL_law_X7_run : GoodIn wsL_law wsX7_run := goodIn_r _ [263, 19, 264, 27, 265, 137, 138, 2, 139, 266, 267, 268, 18, 269, 62, 63, 270, 271, 272, 26, 273, 274, 275, 276, 78, 79, 80, 277, 278, 279, 280, 281, 282, 283, 284, 285, 14, 286, 287, 288, 289, 290, 291, 49, 50, 292, 293, 294, 295, 296, 297, 298, 299, 300, 301, 302, 45, 303, 304, 305, 306, 307, 308, 309, 310, 311, 312, 313, 314, 315, 316, 317, 318, 319, 320, 22, 321, 69, 322, 323, 324, 325, 71, 70, 326, 327, 328, 329, 330, 331, 332, 47, 333, 334, 335, 336, 337, 338, 339, 340, 341, 342, 343, 344, 345, 346, 347, 722, 723, 724, 725, 726, 727, 728, 771, 772, 773, 774, 775, 776, 760, 761, 762, 763, 764, 765, 766, 767, 768, 769, 770, 755, 756, 757, 758, 759] (by decide +kernel) (by decide +kernel)
set_option maxRecDepth 20000 in
theorem gL_law_X7_run : GoodIn wsL_law (wsV RL 38 RX7 yX7_run wsX7_run) := goodIn_app (goodIn_of _ (by decide +kernel)) ggL_law_X7_run
set_option maxRecDepth 20000 in
theorem ggL_law_X8_run : GoodIn wsL_law wsX8_run := goodIn_r _ [351, 352, 122, 353, 354, 355, 5, 356, 114, 115, 158, 159, 160, 154, 155, 156, 157, 357, 358, 359, 360, 361, 228, 116, 121, 119, 362, 363, 364, 365, 123, 124, 366, 118, 117, 367, 368, 369, 370, 259, 112, 371, 372, 373, 374, 113, 375, 376, 377, 378, 379, 380, 381, 382, 383, 384, 385, 386, 293, 294, 295, 387, 388, 389, 390, 391, 338, 339, 392, 393, 394, 395, 729, 730, 731, 732, 733, 734, 735, 736, 737, 738, 739, 740, 741, 742, 743, 744, 745, 746, 747, 748, 749, 750, 751, 752, 753, 754] (by decide +kernel) (by decide +kernel)
set_option maxRecDepth 20000 in
theorem gL_law_X8_run : GoodIn wsL_law (wsV RL 42 RX8 yX8_run wsX8_run) := goodIn_app (goodIn_of _ (by decide +kernel)) ggL_law_X8_run
set_option maxRecDepth 20000 in
theorem ggL_law_X7_first : GoodIn wsL_law wsX7_first := goodIn_r _ [399, 19, 27, 400, 266, 267, 268, 18, 269, 62, 63, 270, 271, 272, 26, 273, 274, 275, 276, 78, 79, 80, 277, 278, 279, 280, 281, 282, 283, 284, 285, 14, 286, 287, 288, 289, 290, 291, 49, 50, 292, 293, 294, 295, 296, 297, 298, 299, 300, 301, 302, 45, 303, 304, 305, 306, 307, 308, 309, 310, 311, 312, 313, 314, 315, 316, 317, 318, 319, 320, 22, 321, 69, 322, 323, 324, 325, 71, 70, 326, 2, 327, 328, 329, 330, 331, 332, 47, 333, 334, 335, 336, 337, 338, 339, 340, 341, 342, 343, 344, 345, 346, 347, 722, 723, 724, 725, 726, 727, 728, 771, 772, 773, 774, 775, 776, 760, 761, 762, 763, 764, 765, 766, 767, 768, 769, 770, 755, 756, 757, 758, 759] (by decide +kernel) (by decide +kernel)
set_option maxRecDepth 20000 in
theorem gL_law_X7_first : GoodIn wsL_law (wsV RL 43 RX7 yX7_first wsX7_first) := goodIn_app (goodIn_of _ (by decide +kernel)) ggL_law_X7_first
set_option maxRecDepth 20000 in
theorem ggL_law_X8_first : GoodIn wsL_law wsX8_first := goodIn_r _ [404, 366, 353, 354, 355, 5, 356, 114, 115, 158, 159, 160, 357, 358, 359, 360, 361, 228, 116, 121, 119, 362, 363, 364, 365, 122, 123, 124, 118, 117, 367, 368, 369, 370, 259, 112, 371, 372, 373, 374, 113, 375, 376, 377, 378, 379, 380, 381, 382, 383, 384, 385, 386, 293, 294, 295, 387, 388, 389, 390, 391, 338, 339, 392, 393, 394, 395, 729, 730, 731, 732, 733, 734, 735, 736, 737, 738, 739, 740, 741, 742, 743, 744, 745, 746, 747, 748, 749, 750, 751, 752, 753, 754] (by decide +kernel) (by decide +kernel)
set_option maxRecDepth 20000 in
theorem gL_law_X8_first : GoodIn wsL_law (wsV RL 47 RX8 yX8_first wsX8_first) := goodIn_app (goodIn_of _ (by decide +kernel)) ggL_law_X8_first
set_option maxRecDepth 20000 in
theorem ggL_law_X7_judge : GoodIn wsL_law wsX7_judge := goodIn_r _ [408, 35, 31, 409, 410, 411, 2, 412, 23, 182, 413, 414, 415, 34, 416, 417, 418, 94, 95, 98, 419, 420, 421, 422, 97, 423, 424, 425, 280, 281, 282, 426, 427, 428, 429, 96, 430, 431, 432, 433, 434, 435, 436, 437, 341, 342, 14, 343, 49, 50, 438, 289, 290, 291, 292, 293, 294, 295, 296, 297, 298, 439, 440, 441, 442, 443, 444, 445, 446, 447, 448, 449, 450, 451, 452, 453, 319, 320, 22, 321, 69, 454, 323, 324, 325, 71, 70, 455, 330, 331, 332, 47, 326, 327, 328, 456, 457, 458, 30, 459, 460, 85, 86, 87, 461, 89, 462, 463, 88, 464, 465, 466, 467, 271, 272, 26, 273, 274, 275, 276, 78, 79, 80, 277, 278, 279, 283, 284, 285, 286, 287, 288, 299, 300, 301, 302, 45, 303, 304, 305, 306, 307, 308, 309, 310, 311, 312, 313, 314, 315, 316, 317, 318, 322, 329, 333, 334, 335, 336, 337, 338, 339, 340, 344, 345, 346, 347, 468, 469, 470, 471, 472, 473, 474, 475, 476, 477, 478, 479, 480, 481, 482, 483, 484, 485, 486, 19, 487, 488, 489, 490, 491, 492, 493, 18, 494, 63, 62, 722, 723, 724, 725, 726, 727, 728, 762, 763, 764, 765, 766, 767, 768, 769, 770, 784, 785, 786, 787, 788, 789, 790, 791, 792, 760, 761, 755, 756, 757, 758, 759, 777, 778, 779, 780, 781, 782, 783, 771, 772, 773, 774, 775, 776] (by decide +kernel) (by decide +kernel)
set_option maxRecDepth 20000 in
theorem gL_law_X7_judge : GoodIn wsL_law (wsV RL 48 RX7 yX7_judge wsX7_judge) := goodIn_app (goodIn_of _ (by decide +kernel)) ggL_law_X7_judge
set_option maxRecDepth 20000 in
theorem ggL_law_X8_judge : GoodIn wsL_law wsX8_judge := goodIn_r _ [498, 499, 500, 501, 5, 502, 228, 158, 159, 160, 503, 504, 505, 506, 128, 129, 130, 114, 115, 361, 121, 357, 358, 359, 360, 116, 119, 507, 508, 509, 510, 259, 392, 393, 394, 395, 371, 372, 373, 374, 113, 112, 375, 376, 377, 378, 367, 368, 369, 370, 379, 380, 381, 511, 512, 513, 514, 117, 118, 386, 293, 294, 295, 515, 516, 517, 518, 519, 297, 298, 520, 521, 522, 523, 524, 525, 526, 527, 528, 125, 126, 127, 366, 124, 123, 362, 363, 364, 365, 122, 382, 383, 384, 385, 387, 388, 389, 390, 391, 338, 339, 529, 530, 531, 532, 533, 534, 535, 536, 729, 730, 731, 732, 733, 734, 735, 736, 737, 738, 739, 740, 741, 742, 743, 744, 745, 746, 747, 748, 749, 750, 751, 752, 753, 754] (by decide +kernel) (by decide +kernel)
set_option maxRecDepth 20000 in
theorem gL_law_X8_judge : GoodIn wsL_law (wsV RL 52 RX8 yX8_judge wsX8_judge) := goodIn_app (goodIn_of _ (by decide +kernel)) ggL_law_X8_judge
set_option maxRecDepth 20000 in
theorem ggL_law_X7_over : GoodIn wsL_law wsX7_over := goodIn_r _ [540, 31, 486, 409, 410, 411, 2, 412, 23, 182, 456, 457, 458, 30, 459, 460, 85, 86, 87, 461, 89, 462, 463, 88, 464, 465, 281, 466, 467, 271, 272, 26, 273, 274, 275, 276, 78, 79, 80, 277, 278, 279, 280, 282, 283, 284, 285, 14, 286, 287, 288, 289, 290, 291, 49, 50, 292, 293, 294, 295, 296, 297, 298, 299, 300, 301, 302, 45, 303, 304, 305, 306, 307, 308, 309, 310, 311, 312, 313, 314, 315, 316, 317, 318, 319, 320, 22, 321, 69, 322, 323, 324, 325, 71, 70, 326, 327, 328, 329, 330, 331, 332, 47, 333, 334, 335, 336, 337, 338, 339, 340, 341, 342, 343, 344, 345, 346, 347, 468, 469, 470, 471, 472, 473, 474, 475, 476, 477, 478, 479, 480, 481, 722, 723, 724, 725, 726, 727, 728, 777, 778, 779, 780, 781, 782, 783, 762, 763, 764, 765, 766, 767, 768, 769, 770, 760, 761, 771, 772, 773, 774, 775, 776, 755, 756, 757, 758, 759] (by decide +kernel) (by decide +kernel)
set_option maxRecDepth 20000 in
theorem gL_law_X7_over : GoodIn wsL_law (wsV RL 53 RX7 yX7_over wsX7_over) := goodIn_app (goodIn_of _ (by decide +kernel)) ggL_law_X7_over
set_option maxRecDepth 20000 in
theorem ggL_law_X8_over : GoodIn wsL_law wsX8_over := goodIn_r _ [544, 125, 499, 500, 501, 5, 502, 228, 158, 159, 160, 524, 525, 526, 527, 528, 126, 127, 114, 115, 366, 124, 123, 357, 358, 359, 360, 361, 116, 121, 119, 362, 363, 364, 365, 122, 118, 117, 367, 368, 369, 370, 259, 112, 371, 372, 373, 374, 113, 375, 376, 377, 378, 379, 380, 381, 382, 383, 384, 385, 386, 293, 294, 295, 387, 388, 389, 390, 391, 338, 339, 392, 393, 394, 395, 729, 730, 731, 732, 733, 734, 735, 736, 737, 738, 739, 740, 741, 742, 743, 744, 745, 746, 747, 748, 749, 750, 751, 752, 753, 754] (by decide +kernel) (by decide +kernel)
set_option maxRecDepth 20000 in
theorem gL_law_X8_over : GoodIn wsL_law (wsV RL 56 RX8 yX8_over wsX8_over) := goodIn_app (goodIn_of _ (by decide +kernel)) ggL_law_X8_over
set_option maxRecDepth 20000 in
theorem ggL_law_X7_shown : GoodIn wsL_law wsX7_shown := goodIn_r _ [548, 31, 549, 409, 410, 411, 2, 412, 23, 182, 456, 457, 458, 30, 459, 460, 85, 86, 87, 461, 89, 462, 463, 88, 464, 465, 281, 466, 467, 271, 272, 26, 273, 274, 275, 276, 78, 79, 80, 277, 278, 279, 280, 282, 283, 284, 285, 14, 286, 287, 288, 289, 290, 291, 49, 50, 292, 293, 294, 295, 296, 297, 298, 299, 300, 301, 302, 45, 303, 304, 305, 306, 307, 308, 309, 310, 311, 312, 313, 314, 315, 316, 317, 318, 319, 320, 22, 321, 69, 322, 323, 324, 325, 71, 70, 326, 327, 328, 329, 330, 331, 332, 47, 333, 334, 335, 336, 337, 338, 339, 340, 341, 342, 343, 344, 345, 346, 347, 468, 469, 470, 471, 472, 473, 474, 475, 476, 477, 478, 479, 480, 481, 722, 723, 724, 725, 726, 727, 728, 777, 778, 779, 780, 781, 782, 783, 762, 763, 764, 765, 766, 767, 768, 769, 770, 760, 761, 771, 772, 773, 774, 775, 776, 755, 756, 757, 758, 759] (by decide +kernel) (by decide +kernel)
set_option maxRecDepth 20000 in
theorem gL_law_X7_shown : GoodIn wsL_law (wsV RL 57 RX7 yX7_shown wsX7_shown) := goodIn_app (goodIn_of _ (by decide +kernel)) ggL_law_X7_shown
set_option maxRecDepth 20000 in
theorem ggL_law_X8_shown : GoodIn wsL_law wsX8_shown := goodIn_r _ [553, 127, 499, 500, 501, 5, 502, 228, 158, 159, 160, 524, 525, 526, 527, 528, 125, 126, 114, 115, 366, 124, 123, 357, 358, 359, 360, 361, 116, 121, 119, 362, 363, 364, 365, 122, 118, 117, 367, 368, 369, 370, 259, 112, 371, 372, 373, 374, 113, 375, 376, 377, 378, 379, 380, 381, 382, 383, 384, 385, 386, 293, 294, 295, 387, 388, 389, 390, 391, 338, 339, 392, 393, 394, 395, 729, 730, 731, 732, 733, 734, 735, 736, 737, 738, 739, 740, 741, 742, 743, 744, 745, 746, 747, 748, 749, 750, 751, 752, 753, 754] (by decide +kernel) (by decide +kernel)
set_option maxRecDepth 20000 in
theorem gL_law_X8_shown : GoodIn wsL_law (wsV RL 60 RX8 yX8_shown wsX8_shown) := goodIn_app (goodIn_of _ (by decide +kernel)) ggL_law_X8_shown
set_option maxRecDepth 20000 in
theorem ggL_law_X7_turned : GoodIn wsL_law wsX7_turned := goodIn_r _ [557, 23, 558, 31, 559, 409, 410, 411, 2, 412, 182, 456, 457, 458, 30, 459, 460, 85, 86, 87, 461, 89, 462, 463, 88, 464, 465, 281, 466, 467, 271, 272, 26, 273, 274, 275, 276, 78, 79, 80, 277, 278, 279, 280, 282, 283, 284, 285, 14, 286, 287, 288, 289, 290, 291, 49, 50, 292, 293, 294, 295, 296, 297, 298, 299, 300, 301, 302, 45, 303, 304, 305, 306, 307, 308, 309, 310, 311, 312, 313, 314, 315, 316, 317, 318, 319, 320, 22, 321, 69, 322, 323, 324, 325, 71, 70, 326, 327, 328, 329, 330, 331, 332, 47, 333, 334, 335, 336, 337, 338, 339, 340, 341, 342, 343, 344, 345, 346, 347, 468, 469, 470, 471, 472, 473, 474, 475, 476, 477, 478, 479, 480, 481, 722, 723, 724, 725, 726, 727, 728, 762, 763, 764, 765, 766, 767, 768, 769, 770, 777, 778, 779, 780, 781, 782, 783, 760, 761, 771, 772, 773, 774, 775, 776, 755, 756, 757, 758, 759] (by decide +kernel) (by decide +kernel)
set_option maxRecDepth 20000 in
theorem gL_law_X7_turned : GoodIn wsL_law (wsV RL 61 RX7 yX7_turned wsX7_turned) := goodIn_app (goodIn_of _ (by decide +kernel)) ggL_law_X7_turned
set_option maxRecDepth 20000 in
theorem ggL_law_X8_turned : GoodIn wsL_law wsX8_turned := goodIn_r _ [563, 116, 126, 499, 500, 501, 5, 502, 228, 158, 159, 160, 524, 525, 526, 527, 528, 125, 127, 114, 115, 366, 124, 123, 357, 358, 359, 360, 361, 121, 119, 362, 363, 364, 365, 122, 118, 117, 367, 368, 369, 370, 259, 112, 371, 372, 373, 374, 113, 375, 376, 377, 378, 379, 380, 381, 382, 383, 384, 385, 386, 293, 294, 295, 387, 388, 389, 390, 391, 338, 339, 392, 393, 394, 395, 729, 730, 731, 732, 733, 734, 735, 736, 737, 738, 739, 740, 741, 742, 743, 744, 745, 746, 747, 748, 749, 750, 751, 752, 753, 754] (by decide +kernel) (by decide +kernel)
set_option maxRecDepth 20000 in
theorem gL_law_X8_turned : GoodIn wsL_law (wsV RL 64 RX8 yX8_turned wsX8_turned) := goodIn_app (goodIn_of _ (by decide +kernel)) ggL_law_X8_turned
set_option maxRecDepth 20000 in
theorem ggL_law_X7_ends : GoodIn wsL_law wsX7_ends := goodIn_r _ [567, 264, 35, 568, 569, 137, 138, 2, 139, 413, 414, 415, 34, 416, 417, 418, 94, 95, 98, 419, 420, 421, 422, 97, 423, 424, 425, 280, 281, 282, 426, 427, 428, 429, 96, 430, 431, 432, 433, 434, 435, 436, 437, 341, 342, 14, 343, 49, 50, 438, 289, 290, 291, 292, 293, 294, 295, 296, 297, 298, 439, 440, 441, 442, 443, 444, 445, 446, 447, 448, 449, 450, 451, 452, 453, 319, 320, 22, 321, 69, 454, 323, 324, 325, 71, 70, 455, 330, 331, 332, 47, 326, 327, 328, 722, 723, 724, 725, 726, 727, 728, 784, 785, 786, 787, 788, 789, 790, 791, 792, 760, 761, 762, 763, 764, 765, 766, 767, 768, 769, 770, 755, 756, 757, 758, 759] (by decide +kernel) (by decide +kernel)
set_option maxRecDepth 20000 in
theorem gL_law_X7_ends : GoodIn wsL_law (wsV RL 65 RX7 yX7_ends wsX7_ends) := goodIn_app (goodIn_of _ (by decide +kernel)) ggL_law_X7_ends
set_option maxRecDepth 20000 in
theorem ggL_law_X8_ends_ : GoodIn wsL_law wsX8_ends_ := goodIn_r _ [573, 352, 128, 129, 154, 155, 5, 156, 157, 158, 159, 160, 503, 504, 505, 506, 228, 130, 114, 115, 361, 121, 357, 358, 359, 360, 116, 119, 507, 508, 509, 510, 259, 392, 393, 394, 395, 371, 372, 373, 374, 113, 112, 375, 376, 377, 378, 367, 368, 369, 370, 379, 380, 381, 511, 512, 513, 514, 117, 118, 386, 293, 294, 295, 515, 516, 517, 518, 519, 297, 298, 520, 521, 522, 523, 729, 730, 731, 732, 733, 734, 735, 736, 737, 738, 739, 740, 741, 742, 743, 744, 745, 746, 747, 748, 749, 750, 751, 752, 753, 754] (by decide +kernel) (by decide +kernel)
set_option maxRecDepth 20000 in
theorem gL_law_X8_ends_ : GoodIn wsL_law (wsV RL 68 RX8 yX8_ends_ wsX8_ends_) := goodIn_app (goodIn_of _ (by decide +kernel)) ggL_law_X8_ends_
set_option maxRecDepth 20000 in
theorem ggL_law_X7_need : GoodIn wsL_law wsX7_need := goodIn_r _ [577, 39, 137, 138, 2, 139, 578, 579, 580, 38, 581, 582, 583, 103, 104, 107, 584, 585, 586, 280, 281, 282, 587, 588, 589, 590, 105, 106, 591, 592, 593, 594, 595, 596, 597, 293, 294, 295, 598, 297, 298, 599, 600, 601, 602, 603, 604, 605, 606, 607, 608, 609, 319, 320, 22, 321, 69, 610, 323, 324, 325, 71, 70, 611, 612, 613, 326, 327, 328, 614, 615, 616, 617, 618, 15, 619, 620, 621, 622, 55, 56, 623, 57, 58, 722, 723, 724, 725, 726, 727, 728, 793, 794, 795, 796, 797, 798, 799, 760, 761, 762, 763, 764, 765, 766, 767, 768, 769, 770, 755, 756, 757, 758, 759] (by decide +kernel) (by decide +kernel)
set_option maxRecDepth 20000 in
theorem gL_law_X7_need : GoodIn wsL_law (wsV RL 69 RX7 yX7_need wsX7_need) := goodIn_app (goodIn_of _ (by decide +kernel)) ggL_law_X7_need
set_option maxRecDepth 20000 in
theorem ggL_law_X8_need : GoodIn wsL_law wsX8_need := goodIn_r _ [627, 154, 155, 5, 156, 157, 158, 159, 160, 628, 629, 630, 631, 131, 132, 114, 115, 357, 358, 359, 360, 361, 228, 116, 121, 119, 632, 633, 634, 635, 122, 118, 117, 636, 637, 638, 639, 386, 293, 294, 295, 519, 297, 298, 640, 641, 642, 643, 644, 645, 646, 647, 648, 600, 601, 382, 383, 384, 385, 387, 388, 389, 390, 113, 112, 391, 338, 339, 379, 380, 381, 649, 650, 651, 652, 729, 730, 731, 732, 733, 734, 735, 736, 737, 738, 739, 740, 741, 742, 743, 744, 745, 746, 747, 748, 749, 750, 751, 752, 753, 754] (by decide +kernel) (by decide +kernel)
set_option maxRecDepth 20000 in
theorem gL_law_X8_need : GoodIn wsL_law (wsV RL 72 RX8 yX8_need wsX8_need) := goodIn_app (goodIn_of _ (by decide +kernel)) ggL_law_X8_need
set_option maxRecDepth 20000 in
theorem ggL_law_X7_price : GoodIn wsL_law wsX7_price := goodIn_r _ [656, 39, 15, 657, 658, 338, 294, 339, 578, 579, 580, 38, 581, 582, 583, 103, 104, 107, 584, 585, 586, 280, 281, 282, 587, 588, 589, 590, 105, 106, 591, 592, 593, 594, 595, 596, 597, 293, 295, 598, 297, 298, 599, 600, 601, 602, 603, 604, 605, 606, 607, 608, 609, 319, 320, 22, 321, 69, 610, 323, 324, 325, 71, 70, 611, 612, 613, 326, 2, 327, 328, 659, 660, 661, 662, 614, 615, 616, 617, 618, 619, 620, 621, 622, 55, 56, 623, 57, 58, 722, 723, 724, 725, 726, 727, 728, 755, 756, 757, 758, 759, 793, 794, 795, 796, 797, 798, 799, 760, 761, 762, 763, 764, 765, 766, 767, 768, 769, 770] (by decide +kernel) (by decide +kernel)
set_option maxRecDepth 20000 in
theorem gL_law_X7_price : GoodIn wsL_law (wsV RL 73 RX7 yX7_price wsX7_price) := goodIn_app (goodIn_of _ (by decide +kernel)) ggL_law_X7_price
set_option maxRecDepth 20000 in
theorem ggL_law_X8_price : GoodIn wsL_law wsX8_price := goodIn_r _ [666, 112, 391, 338, 294, 339, 628, 629, 630, 5, 631, 131, 132, 114, 115, 357, 358, 359, 360, 361, 228, 116, 121, 119, 632, 633, 634, 635, 122, 118, 117, 636, 637, 638, 639, 386, 293, 295, 519, 297, 298, 640, 641, 642, 643, 644, 158, 159, 160, 645, 646, 647, 648, 600, 601, 382, 383, 384, 385, 387, 388, 389, 390, 113, 379, 380, 381, 649, 650, 651, 652, 729, 730, 731, 732, 733, 734, 735, 736, 737, 738, 739, 740, 741, 742, 743, 744, 745, 746, 747, 748, 749, 750, 751, 752, 753, 754] (by decide +kernel) (by decide +kernel)
set_option maxRecDepth 20000 in
theorem gL_law_X8_price : GoodIn wsL_law (wsV RL 77 RX8 yX8_price wsX8_price) := goodIn_app (goodIn_of _ (by decide +kernel)) ggL_law_X8_price
set_option maxRecDepth 20000 in
theorem ggL_law_X7_mend : GoodIn wsL_law wsX7_mend := goodIn_r _ [670, 39, 15, 657, 619, 578, 579, 580, 38, 581, 582, 583, 103, 104, 107, 584, 585, 586, 280, 281, 282, 587, 588, 589, 590, 105, 106, 591, 592, 593, 594, 595, 596, 597, 293, 294, 295, 598, 297, 298, 599, 600, 601, 602, 603, 604, 605, 606, 607, 608, 609, 319, 320, 22, 321, 69, 610, 323, 324, 325, 71, 70, 611, 612, 613, 326, 2, 327, 328, 659, 660, 661, 662, 614, 615, 616, 617, 618, 620, 621, 622, 55, 56, 623, 57, 58, 140, 52, 53, 14, 54, 45, 47, 49, 50, 141, 142, 143, 144, 31, 145, 35, 146, 147, 722, 723, 724, 725, 726, 727, 728, 755, 756, 757, 758, 759, 793, 794, 795, 796, 797, 798, 799, 760, 761, 762, 763, 764, 765, 766, 767, 768, 769, 770, 777, 778, 779, 780, 781, 782, 783, 784, 785, 786, 787, 788, 789, 790, 791, 792] (by decide +kernel) (by decide +kernel)
set_option maxRecDepth 20000 in
theorem gL_law_X7_mend : GoodIn wsL_law (wsV RL 78 RX7 yX7_mend wsX7_mend) := goodIn_app (goodIn_of _ (by decide +kernel)) ggL_law_X7_mend
set_option maxRecDepth 20000 in
theorem ggL_law_X8_mend : GoodIn wsL_law wsX8_mend := goodIn_r _ [674, 112, 675, 664, 665, 5, 666, 391, 338, 294, 339, 628, 629, 630, 631, 131, 132, 114, 115, 357, 358, 359, 360, 361, 228, 116, 121, 119, 632, 633, 634, 635, 122, 118, 117, 636, 637, 638, 639, 386, 293, 295, 519, 297, 298, 640, 641, 642, 643, 644, 158, 159, 160, 645, 646, 647, 648, 600, 601, 382, 383, 384, 385, 387, 388, 389, 390, 113, 379, 380, 381, 649, 650, 651, 652, 729, 730, 731, 732, 733, 734, 735, 736, 737, 738, 739, 740, 741, 742, 743, 744, 745, 746, 747, 748, 749, 750, 751, 752, 753, 754] (by decide +kernel) (by decide +kernel)
set_option maxRecDepth 20000 in
theorem gL_law_X8_mend : GoodIn wsL_law (wsV RL 81 RX8 yX8_mend wsX8_mend) := goodIn_app (goodIn_of _ (by decide +kernel)) ggL_law_X8_mend
set_option maxRecDepth 20000 in
theorem ggL_law_X7_mean : GoodIn wsL_law wsX7_mean := goodIn_r _ [679, 23, 680, 409, 410, 411, 2, 412, 182, 722, 723, 724, 725, 726, 727, 728, 762, 763, 764, 765, 766, 767, 768, 769, 770] (by decide +kernel) (by decide +kernel)
set_option maxRecDepth 20000 in
theorem gL_law_X7_mean : GoodIn wsL_law (wsV RL 82 RX7 yX7_mean wsX7_mean) := goodIn_app (goodIn_of _ (by decide +kernel)) ggL_law_X7_mean
set_option maxRecDepth 20000 in
theorem ggL_law_X8_mean : GoodIn wsL_law wsX8_mean := goodIn_r _ [684, 120, 499, 500, 501, 5, 502, 228, 158, 159, 160, 729, 730, 731, 732, 733, 734, 735, 736, 737, 738, 739, 740, 741, 742, 743, 744, 745, 746, 747, 748, 749, 750, 751, 752, 753, 754] (by decide +kernel) (by decide +kernel)
set_option maxRecDepth 20000 in
theorem gL_law_X8_mean : GoodIn wsL_law (wsV RL 86 RX8 yX8_mean wsX8_mean) := goodIn_app (goodIn_of _ (by decide +kernel)) ggL_law_X8_mean
set_option maxRecDepth 20000 in
theorem ggL_law_X7_listed : GoodIn wsL_law wsX7_listed := goodIn_r _ [688, 35, 31, 23, 182, 413, 414, 415, 34, 416, 417, 418, 94, 95, 98, 419, 420, 421, 422, 97, 423, 424, 425, 280, 281, 282, 426, 427, 428, 429, 96, 430, 431, 432, 433, 434, 435, 436, 437, 341, 342, 14, 343, 49, 50, 438, 289, 290, 291, 292, 293, 294, 295, 296, 297, 298, 439, 440, 441, 442, 443, 444, 445, 446, 447, 448, 449, 450, 451, 452, 453, 319, 320, 22, 321, 69, 454, 323, 324, 325, 71, 70, 455, 330, 331, 332, 47, 326, 2, 327, 328, 456, 457, 458, 30, 459, 460, 85, 86, 87, 461, 89, 462, 463, 88, 464, 465, 466, 467, 271, 272, 26, 273, 274, 275, 276, 78, 79, 80, 277, 278, 279, 283, 284, 285, 286, 287, 288, 299, 300, 301, 302, 45, 303, 304, 305, 306, 307, 308, 309, 310, 311, 312, 313, 314, 315, 316, 317, 318, 322, 329, 333, 334, 335, 336, 337, 338, 339, 340, 344, 345, 346, 347, 468, 469, 470, 471, 472, 473, 474, 475, 476, 477, 478, 479, 480, 481, 689, 690, 691, 692, 680, 482, 483, 484, 485, 486, 19, 487, 488, 489, 490, 491, 492, 493, 18, 494, 63, 62, 693, 694, 695, 696, 697, 698, 699, 700, 722, 723, 724, 725, 726, 727, 728, 762, 763, 764, 765, 766, 767, 768, 769, 770, 784, 785, 786, 787, 788, 789, 790, 791, 792, 760, 761, 755, 756, 757, 758, 759, 777, 778, 779, 780, 781, 782, 783, 771, 772, 773, 774, 775, 776] (by decide +kernel) (by decide +kernel)
set_option maxRecDepth 20000 in
theorem gL_law_X7_listed : GoodIn wsL_law (wsV RL 87 RX7 yX7_listed wsX7_listed) := goodIn_app (goodIn_of _ (by decide +kernel)) ggL_law_X7_listed
set_option maxRecDepth 20000 in
theorem ggL_law_X8_listed : GoodIn wsL_law wsX8_listed := goodIn_r _ [704, 228, 120, 125, 503, 504, 505, 5, 506, 128, 129, 130, 114, 115, 361, 121, 357, 358, 359, 360, 116, 119, 507, 508, 509, 510, 259, 392, 393, 394, 395, 371, 372, 373, 374, 113, 112, 375, 376, 377, 378, 158, 159, 160, 367, 368, 369, 370, 379, 380, 381, 511, 512, 513, 514, 117, 118, 386, 293, 294, 295, 515, 516, 517, 518, 519, 297, 298, 520, 521, 522, 523, 524, 525, 526, 527, 528, 126, 127, 366, 124, 123, 362, 363, 364, 365, 122, 382, 383, 384, 385, 387, 388, 389, 390, 391, 338, 339, 529, 530, 531, 532, 533, 534, 535, 536, 729, 730, 731, 732, 733, 734, 735, 736, 737, 738, 739, 740, 741, 742, 743, 744, 745, 746, 747, 748, 749, 750, 751, 752, 753, 754] (by decide +kernel) (by decide +kernel)
set_option maxRecDepth 20000 in
theorem gL_law_X8_listed : GoodIn wsL_law (wsV RL 90 RX8 yX8_listed wsX8_listed) := goodIn_app (goodIn_of _ (by decide +kernel)) ggL_law_X8_listed
set_option maxRecDepth 20000 in
theorem ggL_law_X7_count : GoodIn wsL_law wsX7_count := goodIn_r _ [708, 15, 657, 619, 23, 182, 19, 31, 709, 254, 491, 492, 493, 18, 494, 63, 62, 456, 457, 458, 30, 459, 460, 85, 86, 87, 461, 89, 462, 463, 88, 464, 465, 281, 466, 467, 271, 272, 26, 273, 274, 275, 276, 78, 79, 80, 277, 278, 279, 280, 282, 283, 284, 285, 14, 286, 287, 288, 289, 290, 291, 49, 50, 292, 293, 294, 295, 296, 297, 298, 299, 300, 301, 302, 45, 303, 304, 305, 306, 307, 308, 309, 310, 311, 312, 313, 314, 315, 316, 317, 318, 319, 320, 22, 321, 69, 322, 323, 324, 325, 71, 70, 326, 2, 327, 328, 329, 330, 331, 332, 47, 333, 334, 335, 336, 337, 338, 339, 340, 341, 342, 343, 344, 345, 346, 347, 468, 469, 470, 471, 472, 473, 474, 475, 476, 477, 478, 479, 480, 481, 710, 711, 712, 713, 191, 72, 722, 723, 724, 725, 726, 727, 728, 755, 756, 757, 758, 759, 762, 763, 764, 765, 766, 767, 768, 769, 770, 777, 778, 779, 780, 781, 782, 783, 760, 761, 771, 772, 773, 774, 775, 776] (by decide +kernel) (by decide +kernel)
set_option maxRecDepth 20000 in
theorem gL_law_X7_count : GoodIn wsL_law (wsV RL 91 RX7 yX7_count wsX7_count) := goodIn_app (goodIn_of _ (by decide +kernel)) ggL_law_X7_count
set_option maxRecDepth 20000 in
theorem ggL_law_X8_count : GoodIn wsL_law wsX8_count := goodIn_r _ [717, 718, 719, 112, 720, 721, 113, 228, 528, 120, 259, 158, 159, 5, 160, 533, 534, 535, 536, 115, 114, 524, 525, 526, 527, 125, 126, 127, 366, 124, 123, 357, 358, 359, 360, 361, 116, 121, 119, 362, 363, 364, 365, 122, 118, 117, 367, 368, 369, 370, 371, 372, 373, 374, 375, 376, 377, 378, 379, 380, 381, 382, 383, 384, 385, 386, 293, 294, 295, 387, 388, 389, 390, 391, 338, 339, 392, 393, 394, 395, 729, 730, 731, 732, 733, 734, 735, 736, 737, 738, 739, 740, 741, 742, 743, 744, 745, 746, 747, 748, 749, 750, 751, 752, 753, 754] (by decide +kernel) (by decide +kernel)
set_option maxRecDepth 20000 in
theorem gL_law_X8_count : GoodIn wsL_law (wsV RL 94 RX8 yX8_count wsX8_count) := goodIn_app (goodIn_of _ (by decide +kernel)) ggL_law_X8_count
theorem dL_law_0 : decode cL_law 0 = .ok (.new 7, 3) := by decide +kernel
theorem dL_law_3 : decode cL_law 3 = .ok (.dup, 1) := by decide +kernel
theorem dL_law_4 : decode cL_law 4 = .ok (.invokespecial 9, 3) := by decide +kernel
theorem dL_law_7 : decode cL_law 7 = .ok (.astore_n 1, 1) := by decide +kernel
theorem dL_law_8 : decode cL_law 8 = .ok (.new 10, 3) := by decide +kernel
theorem dL_law_11 : decode cL_law 11 = .ok (.dup, 1) := by decide +kernel
theorem dL_law_12 : decode cL_law 12 = .ok (.invokespecial 12, 3) := by decide +kernel
theorem dL_law_15 : decode cL_law 15 = .ok (.astore_n 2, 1) := by decide +kernel
theorem dL_law_16 : decode cL_law 16 = .ok (.iconst 0, 1) := by decide +kernel
theorem dL_law_17 : decode cL_law 17 = .ok (.istore_n 3, 1) := by decide +kernel
theorem dL_law_18 : decode cL_law 18 = .ok (.iload_n 3, 1) := by decide +kernel
theorem dL_law_19 : decode cL_law 19 = .ok (.aload_n 0, 1) := by decide +kernel
theorem dL_law_20 : decode cL_law 20 = .ok (.arraylength, 1) := by decide +kernel
theorem dL_law_21 : decode cL_law 21 = .ok (.iconst 5, 1) := by decide +kernel
theorem dL_law_22 : decode cL_law 22 = .ok (.isub, 1) := by decide +kernel
theorem dL_law_23 : decode cL_law 23 = .ok (.if_icmp .gt 639, 3) := by decide +kernel
theorem dL_law_26 : decode cL_law 26 = .ok (.aload_n 0, 1) := by decide +kernel
theorem dL_law_27 : decode cL_law 27 = .ok (.iload_n 3, 1) := by decide +kernel
theorem dL_law_28 : decode cL_law 28 = .ok (.iaload, 1) := by decide +kernel
theorem dL_law_29 : decode cL_law 29 = .ok (.bipush 31, 2) := by decide +kernel
theorem dL_law_31 : decode cL_law 31 = .ok (.iand, 1) := by decide +kernel
theorem dL_law_32 : decode cL_law 32 = .ok (.tableswitch 624 0 17 #[88, 147, 190, 243, 256, 279, 322, 355, 378, 401, 424, 447, 480, 503, 516, 529, 578, 601], 88) := by decide +kernel
theorem dL_law_120 : decode cL_law 120 = .ok (.aload_n 1, 1) := by decide +kernel
theorem dL_law_121 : decode cL_law 121 = .ok (.aload_n 0, 1) := by decide +kernel
theorem dL_law_122 : decode cL_law 122 = .ok (.iload_n 3, 1) := by decide +kernel
theorem dL_law_123 : decode cL_law 123 = .ok (.iconst 1, 1) := by decide +kernel
theorem dL_law_124 : decode cL_law 124 = .ok (.iadd, 1) := by decide +kernel
theorem dL_law_125 : decode cL_law 125 = .ok (.iaload, 1) := by decide +kernel
theorem dL_law_126 : decode cL_law 126 = .ok (.aload_n 0, 1) := by decide +kernel
theorem dL_law_127 : decode cL_law 127 = .ok (.iload_n 3, 1) := by decide +kernel
theorem dL_law_128 : decode cL_law 128 = .ok (.iconst 2, 1) := by decide +kernel
theorem dL_law_129 : decode cL_law 129 = .ok (.iadd, 1) := by decide +kernel
theorem dL_law_130 : decode cL_law 130 = .ok (.iaload, 1) := by decide +kernel
theorem dL_law_131 : decode cL_law 131 = .ok (.aload_n 0, 1) := by decide +kernel
theorem dL_law_132 : decode cL_law 132 = .ok (.iload_n 3, 1) := by decide +kernel
theorem dL_law_133 : decode cL_law 133 = .ok (.iconst 3, 1) := by decide +kernel
theorem dL_law_134 : decode cL_law 134 = .ok (.iadd, 1) := by decide +kernel
theorem dL_law_135 : decode cL_law 135 = .ok (.iaload, 1) := by decide +kernel
theorem dL_law_136 : decode cL_law 136 = .ok (.ifCond .eq 7, 3) := by decide +kernel
theorem dL_law_139 : decode cL_law 139 = .ok (.iconst 1, 1) := by decide +kernel
theorem dL_law_140 : decode cL_law 140 = .ok (.goto 4, 3) := by decide +kernel
theorem dL_law_143 : decode cL_law 143 = .ok (.iconst 0, 1) := by decide +kernel
theorem dL_law_144 : decode cL_law 144 = .ok (.invokevirtual 13, 3) := by decide +kernel
theorem dL_law_147 : decode cL_law 147 = .ok (.aload_n 2, 1) := by decide +kernel
theorem dL_law_148 : decode cL_law 148 = .ok (.aload_n 0, 1) := by decide +kernel
theorem dL_law_149 : decode cL_law 149 = .ok (.iload_n 3, 1) := by decide +kernel
theorem dL_law_150 : decode cL_law 150 = .ok (.iconst 1, 1) := by decide +kernel
theorem dL_law_151 : decode cL_law 151 = .ok (.iadd, 1) := by decide +kernel
theorem dL_law_152 : decode cL_law 152 = .ok (.iaload, 1) := by decide +kernel
theorem dL_law_153 : decode cL_law 153 = .ok (.aload_n 0, 1) := by decide +kernel
theorem dL_law_154 : decode cL_law 154 = .ok (.iload_n 3, 1) := by decide +kernel
theorem dL_law_155 : decode cL_law 155 = .ok (.iconst 2, 1) := by decide +kernel
theorem dL_law_156 : decode cL_law 156 = .ok (.iadd, 1) := by decide +kernel
theorem dL_law_157 : decode cL_law 157 = .ok (.iaload, 1) := by decide +kernel
theorem dL_law_158 : decode cL_law 158 = .ok (.aload_n 0, 1) := by decide +kernel
theorem dL_law_159 : decode cL_law 159 = .ok (.iload_n 3, 1) := by decide +kernel
theorem dL_law_160 : decode cL_law 160 = .ok (.iconst 3, 1) := by decide +kernel
theorem dL_law_161 : decode cL_law 161 = .ok (.iadd, 1) := by decide +kernel
theorem dL_law_162 : decode cL_law 162 = .ok (.iaload, 1) := by decide +kernel
theorem dL_law_163 : decode cL_law 163 = .ok (.ifCond .eq 7, 3) := by decide +kernel
theorem dL_law_166 : decode cL_law 166 = .ok (.iconst 1, 1) := by decide +kernel
theorem dL_law_167 : decode cL_law 167 = .ok (.goto 4, 3) := by decide +kernel
theorem dL_law_170 : decode cL_law 170 = .ok (.iconst 0, 1) := by decide +kernel
theorem dL_law_171 : decode cL_law 171 = .ok (.invokevirtual 17, 3) := by decide +kernel
theorem dL_law_174 : decode cL_law 174 = .ok (.if_icmp .eq 482, 3) := by decide +kernel
theorem dL_law_177 : decode cL_law 177 = .ok (.iconst 0, 1) := by decide +kernel
theorem dL_law_178 : decode cL_law 178 = .ok (.ireturn, 1) := by decide +kernel
theorem dL_law_179 : decode cL_law 179 = .ok (.aload_n 1, 1) := by decide +kernel
theorem dL_law_180 : decode cL_law 180 = .ok (.aload_n 0, 1) := by decide +kernel
theorem dL_law_181 : decode cL_law 181 = .ok (.iload_n 3, 1) := by decide +kernel
theorem dL_law_182 : decode cL_law 182 = .ok (.iconst 1, 1) := by decide +kernel
theorem dL_law_183 : decode cL_law 183 = .ok (.iadd, 1) := by decide +kernel
theorem dL_law_184 : decode cL_law 184 = .ok (.iaload, 1) := by decide +kernel
theorem dL_law_185 : decode cL_law 185 = .ok (.aload_n 0, 1) := by decide +kernel
theorem dL_law_186 : decode cL_law 186 = .ok (.iload_n 3, 1) := by decide +kernel
theorem dL_law_187 : decode cL_law 187 = .ok (.iconst 2, 1) := by decide +kernel
theorem dL_law_188 : decode cL_law 188 = .ok (.iadd, 1) := by decide +kernel
theorem dL_law_189 : decode cL_law 189 = .ok (.iaload, 1) := by decide +kernel
theorem dL_law_190 : decode cL_law 190 = .ok (.aload_n 0, 1) := by decide +kernel
theorem dL_law_191 : decode cL_law 191 = .ok (.iload_n 3, 1) := by decide +kernel
theorem dL_law_192 : decode cL_law 192 = .ok (.iconst 3, 1) := by decide +kernel
theorem dL_law_193 : decode cL_law 193 = .ok (.iadd, 1) := by decide +kernel
theorem dL_law_194 : decode cL_law 194 = .ok (.iaload, 1) := by decide +kernel
theorem dL_law_195 : decode cL_law 195 = .ok (.invokevirtual 18, 3) := by decide +kernel
theorem dL_law_198 : decode cL_law 198 = .ok (.aload_n 2, 1) := by decide +kernel
theorem dL_law_199 : decode cL_law 199 = .ok (.aload_n 0, 1) := by decide +kernel
theorem dL_law_200 : decode cL_law 200 = .ok (.iload_n 3, 1) := by decide +kernel
theorem dL_law_201 : decode cL_law 201 = .ok (.iconst 1, 1) := by decide +kernel
theorem dL_law_202 : decode cL_law 202 = .ok (.iadd, 1) := by decide +kernel
theorem dL_law_203 : decode cL_law 203 = .ok (.iaload, 1) := by decide +kernel
theorem dL_law_204 : decode cL_law 204 = .ok (.aload_n 0, 1) := by decide +kernel
theorem dL_law_205 : decode cL_law 205 = .ok (.iload_n 3, 1) := by decide +kernel
theorem dL_law_206 : decode cL_law 206 = .ok (.iconst 2, 1) := by decide +kernel
theorem dL_law_207 : decode cL_law 207 = .ok (.iadd, 1) := by decide +kernel
theorem dL_law_208 : decode cL_law 208 = .ok (.iaload, 1) := by decide +kernel
theorem dL_law_209 : decode cL_law 209 = .ok (.aload_n 0, 1) := by decide +kernel
theorem dL_law_210 : decode cL_law 210 = .ok (.iload_n 3, 1) := by decide +kernel
theorem dL_law_211 : decode cL_law 211 = .ok (.iconst 3, 1) := by decide +kernel
theorem dL_law_212 : decode cL_law 212 = .ok (.iadd, 1) := by decide +kernel
theorem dL_law_213 : decode cL_law 213 = .ok (.iaload, 1) := by decide +kernel
theorem dL_law_214 : decode cL_law 214 = .ok (.invokevirtual 22, 3) := by decide +kernel
theorem dL_law_217 : decode cL_law 217 = .ok (.if_icmp .eq 439, 3) := by decide +kernel
theorem dL_law_220 : decode cL_law 220 = .ok (.iconst 0, 1) := by decide +kernel
theorem dL_law_221 : decode cL_law 221 = .ok (.ireturn, 1) := by decide +kernel
theorem dL_law_222 : decode cL_law 222 = .ok (.aload_n 1, 1) := by decide +kernel
theorem dL_law_223 : decode cL_law 223 = .ok (.aload_n 0, 1) := by decide +kernel
theorem dL_law_224 : decode cL_law 224 = .ok (.iload_n 3, 1) := by decide +kernel
theorem dL_law_225 : decode cL_law 225 = .ok (.iconst 1, 1) := by decide +kernel
theorem dL_law_226 : decode cL_law 226 = .ok (.iadd, 1) := by decide +kernel
theorem dL_law_227 : decode cL_law 227 = .ok (.iaload, 1) := by decide +kernel
theorem dL_law_228 : decode cL_law 228 = .ok (.aload_n 0, 1) := by decide +kernel
theorem dL_law_229 : decode cL_law 229 = .ok (.iload_n 3, 1) := by decide +kernel
theorem dL_law_230 : decode cL_law 230 = .ok (.iconst 2, 1) := by decide +kernel
theorem dL_law_231 : decode cL_law 231 = .ok (.iadd, 1) := by decide +kernel
theorem dL_law_232 : decode cL_law 232 = .ok (.iaload, 1) := by decide +kernel
theorem dL_law_233 : decode cL_law 233 = .ok (.aload_n 0, 1) := by decide +kernel
theorem dL_law_234 : decode cL_law 234 = .ok (.iload_n 3, 1) := by decide +kernel
theorem dL_law_235 : decode cL_law 235 = .ok (.iconst 3, 1) := by decide +kernel
theorem dL_law_236 : decode cL_law 236 = .ok (.iadd, 1) := by decide +kernel
theorem dL_law_237 : decode cL_law 237 = .ok (.iaload, 1) := by decide +kernel
theorem dL_law_238 : decode cL_law 238 = .ok (.aload_n 0, 1) := by decide +kernel
theorem dL_law_239 : decode cL_law 239 = .ok (.iload_n 3, 1) := by decide +kernel
theorem dL_law_240 : decode cL_law 240 = .ok (.iconst 4, 1) := by decide +kernel
theorem dL_law_241 : decode cL_law 241 = .ok (.iadd, 1) := by decide +kernel
theorem dL_law_242 : decode cL_law 242 = .ok (.iaload, 1) := by decide +kernel
theorem dL_law_243 : decode cL_law 243 = .ok (.invokevirtual 23, 3) := by decide +kernel
theorem dL_law_246 : decode cL_law 246 = .ok (.aload_n 2, 1) := by decide +kernel
theorem dL_law_247 : decode cL_law 247 = .ok (.aload_n 0, 1) := by decide +kernel
theorem dL_law_248 : decode cL_law 248 = .ok (.iload_n 3, 1) := by decide +kernel
theorem dL_law_249 : decode cL_law 249 = .ok (.iconst 1, 1) := by decide +kernel
theorem dL_law_250 : decode cL_law 250 = .ok (.iadd, 1) := by decide +kernel
theorem dL_law_251 : decode cL_law 251 = .ok (.iaload, 1) := by decide +kernel
theorem dL_law_252 : decode cL_law 252 = .ok (.aload_n 0, 1) := by decide +kernel
theorem dL_law_253 : decode cL_law 253 = .ok (.iload_n 3, 1) := by decide +kernel
theorem dL_law_254 : decode cL_law 254 = .ok (.iconst 2, 1) := by decide +kernel
theorem dL_law_255 : decode cL_law 255 = .ok (.iadd, 1) := by decide +kernel
theorem dL_law_256 : decode cL_law 256 = .ok (.iaload, 1) := by decide +kernel
theorem dL_law_257 : decode cL_law 257 = .ok (.aload_n 0, 1) := by decide +kernel
theorem dL_law_258 : decode cL_law 258 = .ok (.iload_n 3, 1) := by decide +kernel
theorem dL_law_259 : decode cL_law 259 = .ok (.iconst 3, 1) := by decide +kernel
theorem dL_law_260 : decode cL_law 260 = .ok (.iadd, 1) := by decide +kernel
theorem dL_law_261 : decode cL_law 261 = .ok (.iaload, 1) := by decide +kernel
theorem dL_law_262 : decode cL_law 262 = .ok (.aload_n 0, 1) := by decide +kernel
theorem dL_law_263 : decode cL_law 263 = .ok (.iload_n 3, 1) := by decide +kernel
theorem dL_law_264 : decode cL_law 264 = .ok (.iconst 4, 1) := by decide +kernel
theorem dL_law_265 : decode cL_law 265 = .ok (.iadd, 1) := by decide +kernel
theorem dL_law_266 : decode cL_law 266 = .ok (.iaload, 1) := by decide +kernel
theorem dL_law_267 : decode cL_law 267 = .ok (.invokevirtual 27, 3) := by decide +kernel
theorem dL_law_270 : decode cL_law 270 = .ok (.if_icmp .eq 386, 3) := by decide +kernel
theorem dL_law_273 : decode cL_law 273 = .ok (.iconst 0, 1) := by decide +kernel
theorem dL_law_274 : decode cL_law 274 = .ok (.ireturn, 1) := by decide +kernel
theorem dL_law_275 : decode cL_law 275 = .ok (.aload_n 1, 1) := by decide +kernel
theorem dL_law_276 : decode cL_law 276 = .ok (.invokevirtual 28, 3) := by decide +kernel
theorem dL_law_279 : decode cL_law 279 = .ok (.aload_n 2, 1) := by decide +kernel
theorem dL_law_280 : decode cL_law 280 = .ok (.invokevirtual 32, 3) := by decide +kernel
theorem dL_law_283 : decode cL_law 283 = .ok (.if_icmp .eq 373, 3) := by decide +kernel
theorem dL_law_286 : decode cL_law 286 = .ok (.iconst 0, 1) := by decide +kernel
theorem dL_law_287 : decode cL_law 287 = .ok (.ireturn, 1) := by decide +kernel
theorem dL_law_288 : decode cL_law 288 = .ok (.aload_n 1, 1) := by decide +kernel
theorem dL_law_289 : decode cL_law 289 = .ok (.aload_n 0, 1) := by decide +kernel
theorem dL_law_290 : decode cL_law 290 = .ok (.iload_n 3, 1) := by decide +kernel
theorem dL_law_291 : decode cL_law 291 = .ok (.iconst 1, 1) := by decide +kernel
theorem dL_law_292 : decode cL_law 292 = .ok (.iadd, 1) := by decide +kernel
theorem dL_law_293 : decode cL_law 293 = .ok (.iaload, 1) := by decide +kernel
theorem dL_law_294 : decode cL_law 294 = .ok (.invokevirtual 33, 3) := by decide +kernel
theorem dL_law_297 : decode cL_law 297 = .ok (.aload_n 2, 1) := by decide +kernel
theorem dL_law_298 : decode cL_law 298 = .ok (.aload_n 0, 1) := by decide +kernel
theorem dL_law_299 : decode cL_law 299 = .ok (.iload_n 3, 1) := by decide +kernel
theorem dL_law_300 : decode cL_law 300 = .ok (.iconst 1, 1) := by decide +kernel
theorem dL_law_301 : decode cL_law 301 = .ok (.iadd, 1) := by decide +kernel
theorem dL_law_302 : decode cL_law 302 = .ok (.iaload, 1) := by decide +kernel
theorem dL_law_303 : decode cL_law 303 = .ok (.invokevirtual 37, 3) := by decide +kernel
theorem dL_law_306 : decode cL_law 306 = .ok (.if_icmp .eq 350, 3) := by decide +kernel
theorem dL_law_309 : decode cL_law 309 = .ok (.iconst 0, 1) := by decide +kernel
theorem dL_law_310 : decode cL_law 310 = .ok (.ireturn, 1) := by decide +kernel
theorem dL_law_311 : decode cL_law 311 = .ok (.aload_n 1, 1) := by decide +kernel
theorem dL_law_312 : decode cL_law 312 = .ok (.aload_n 0, 1) := by decide +kernel
theorem dL_law_313 : decode cL_law 313 = .ok (.iload_n 3, 1) := by decide +kernel
theorem dL_law_314 : decode cL_law 314 = .ok (.iconst 1, 1) := by decide +kernel
theorem dL_law_315 : decode cL_law 315 = .ok (.iadd, 1) := by decide +kernel
theorem dL_law_316 : decode cL_law 316 = .ok (.iaload, 1) := by decide +kernel
theorem dL_law_317 : decode cL_law 317 = .ok (.aload_n 0, 1) := by decide +kernel
theorem dL_law_318 : decode cL_law 318 = .ok (.iload_n 3, 1) := by decide +kernel
theorem dL_law_319 : decode cL_law 319 = .ok (.iconst 2, 1) := by decide +kernel
theorem dL_law_320 : decode cL_law 320 = .ok (.iadd, 1) := by decide +kernel
theorem dL_law_321 : decode cL_law 321 = .ok (.iaload, 1) := by decide +kernel
theorem dL_law_322 : decode cL_law 322 = .ok (.aload_n 0, 1) := by decide +kernel
theorem dL_law_323 : decode cL_law 323 = .ok (.iload_n 3, 1) := by decide +kernel
theorem dL_law_324 : decode cL_law 324 = .ok (.iconst 3, 1) := by decide +kernel
theorem dL_law_325 : decode cL_law 325 = .ok (.iadd, 1) := by decide +kernel
theorem dL_law_326 : decode cL_law 326 = .ok (.iaload, 1) := by decide +kernel
theorem dL_law_327 : decode cL_law 327 = .ok (.invokevirtual 38, 3) := by decide +kernel
theorem dL_law_330 : decode cL_law 330 = .ok (.aload_n 2, 1) := by decide +kernel
theorem dL_law_331 : decode cL_law 331 = .ok (.aload_n 0, 1) := by decide +kernel
theorem dL_law_332 : decode cL_law 332 = .ok (.iload_n 3, 1) := by decide +kernel
theorem dL_law_333 : decode cL_law 333 = .ok (.iconst 1, 1) := by decide +kernel
theorem dL_law_334 : decode cL_law 334 = .ok (.iadd, 1) := by decide +kernel
theorem dL_law_335 : decode cL_law 335 = .ok (.iaload, 1) := by decide +kernel
theorem dL_law_336 : decode cL_law 336 = .ok (.aload_n 0, 1) := by decide +kernel
theorem dL_law_337 : decode cL_law 337 = .ok (.iload_n 3, 1) := by decide +kernel
theorem dL_law_338 : decode cL_law 338 = .ok (.iconst 2, 1) := by decide +kernel
theorem dL_law_339 : decode cL_law 339 = .ok (.iadd, 1) := by decide +kernel
theorem dL_law_340 : decode cL_law 340 = .ok (.iaload, 1) := by decide +kernel
theorem dL_law_341 : decode cL_law 341 = .ok (.aload_n 0, 1) := by decide +kernel
theorem dL_law_342 : decode cL_law 342 = .ok (.iload_n 3, 1) := by decide +kernel
theorem dL_law_343 : decode cL_law 343 = .ok (.iconst 3, 1) := by decide +kernel
theorem dL_law_344 : decode cL_law 344 = .ok (.iadd, 1) := by decide +kernel
theorem dL_law_345 : decode cL_law 345 = .ok (.iaload, 1) := by decide +kernel
theorem dL_law_346 : decode cL_law 346 = .ok (.invokevirtual 42, 3) := by decide +kernel
theorem dL_law_349 : decode cL_law 349 = .ok (.if_icmp .eq 307, 3) := by decide +kernel
theorem dL_law_352 : decode cL_law 352 = .ok (.iconst 0, 1) := by decide +kernel
theorem dL_law_353 : decode cL_law 353 = .ok (.ireturn, 1) := by decide +kernel
theorem dL_law_354 : decode cL_law 354 = .ok (.aload_n 1, 1) := by decide +kernel
theorem dL_law_355 : decode cL_law 355 = .ok (.aload_n 0, 1) := by decide +kernel
theorem dL_law_356 : decode cL_law 356 = .ok (.iload_n 3, 1) := by decide +kernel
theorem dL_law_357 : decode cL_law 357 = .ok (.iconst 1, 1) := by decide +kernel
theorem dL_law_358 : decode cL_law 358 = .ok (.iadd, 1) := by decide +kernel
theorem dL_law_359 : decode cL_law 359 = .ok (.iaload, 1) := by decide +kernel
theorem dL_law_360 : decode cL_law 360 = .ok (.aload_n 0, 1) := by decide +kernel
theorem dL_law_361 : decode cL_law 361 = .ok (.iload_n 3, 1) := by decide +kernel
theorem dL_law_362 : decode cL_law 362 = .ok (.iconst 2, 1) := by decide +kernel
theorem dL_law_363 : decode cL_law 363 = .ok (.iadd, 1) := by decide +kernel
theorem dL_law_364 : decode cL_law 364 = .ok (.iaload, 1) := by decide +kernel
theorem dL_law_365 : decode cL_law 365 = .ok (.invokevirtual 43, 3) := by decide +kernel
theorem dL_law_368 : decode cL_law 368 = .ok (.aload_n 2, 1) := by decide +kernel
theorem dL_law_369 : decode cL_law 369 = .ok (.aload_n 0, 1) := by decide +kernel
theorem dL_law_370 : decode cL_law 370 = .ok (.iload_n 3, 1) := by decide +kernel
theorem dL_law_371 : decode cL_law 371 = .ok (.iconst 1, 1) := by decide +kernel
theorem dL_law_372 : decode cL_law 372 = .ok (.iadd, 1) := by decide +kernel
theorem dL_law_373 : decode cL_law 373 = .ok (.iaload, 1) := by decide +kernel
theorem dL_law_374 : decode cL_law 374 = .ok (.aload_n 0, 1) := by decide +kernel
theorem dL_law_375 : decode cL_law 375 = .ok (.iload_n 3, 1) := by decide +kernel
theorem dL_law_376 : decode cL_law 376 = .ok (.iconst 2, 1) := by decide +kernel
theorem dL_law_377 : decode cL_law 377 = .ok (.iadd, 1) := by decide +kernel
theorem dL_law_378 : decode cL_law 378 = .ok (.iaload, 1) := by decide +kernel
theorem dL_law_379 : decode cL_law 379 = .ok (.invokevirtual 47, 3) := by decide +kernel
theorem dL_law_382 : decode cL_law 382 = .ok (.if_icmp .eq 274, 3) := by decide +kernel
theorem dL_law_385 : decode cL_law 385 = .ok (.iconst 0, 1) := by decide +kernel
theorem dL_law_386 : decode cL_law 386 = .ok (.ireturn, 1) := by decide +kernel
theorem dL_law_387 : decode cL_law 387 = .ok (.aload_n 1, 1) := by decide +kernel
theorem dL_law_388 : decode cL_law 388 = .ok (.aload_n 0, 1) := by decide +kernel
theorem dL_law_389 : decode cL_law 389 = .ok (.iload_n 3, 1) := by decide +kernel
theorem dL_law_390 : decode cL_law 390 = .ok (.iconst 1, 1) := by decide +kernel
theorem dL_law_391 : decode cL_law 391 = .ok (.iadd, 1) := by decide +kernel
theorem dL_law_392 : decode cL_law 392 = .ok (.iaload, 1) := by decide +kernel
theorem dL_law_393 : decode cL_law 393 = .ok (.invokevirtual 48, 3) := by decide +kernel
theorem dL_law_396 : decode cL_law 396 = .ok (.aload_n 2, 1) := by decide +kernel
theorem dL_law_397 : decode cL_law 397 = .ok (.aload_n 0, 1) := by decide +kernel
theorem dL_law_398 : decode cL_law 398 = .ok (.iload_n 3, 1) := by decide +kernel
theorem dL_law_399 : decode cL_law 399 = .ok (.iconst 1, 1) := by decide +kernel
theorem dL_law_400 : decode cL_law 400 = .ok (.iadd, 1) := by decide +kernel
theorem dL_law_401 : decode cL_law 401 = .ok (.iaload, 1) := by decide +kernel
theorem dL_law_402 : decode cL_law 402 = .ok (.invokevirtual 52, 3) := by decide +kernel
theorem dL_law_405 : decode cL_law 405 = .ok (.if_icmp .eq 251, 3) := by decide +kernel
theorem dL_law_408 : decode cL_law 408 = .ok (.iconst 0, 1) := by decide +kernel
theorem dL_law_409 : decode cL_law 409 = .ok (.ireturn, 1) := by decide +kernel
theorem dL_law_410 : decode cL_law 410 = .ok (.aload_n 1, 1) := by decide +kernel
theorem dL_law_411 : decode cL_law 411 = .ok (.aload_n 0, 1) := by decide +kernel
theorem dL_law_412 : decode cL_law 412 = .ok (.iload_n 3, 1) := by decide +kernel
theorem dL_law_413 : decode cL_law 413 = .ok (.iconst 1, 1) := by decide +kernel
theorem dL_law_414 : decode cL_law 414 = .ok (.iadd, 1) := by decide +kernel
theorem dL_law_415 : decode cL_law 415 = .ok (.iaload, 1) := by decide +kernel
theorem dL_law_416 : decode cL_law 416 = .ok (.invokevirtual 53, 3) := by decide +kernel
theorem dL_law_419 : decode cL_law 419 = .ok (.aload_n 2, 1) := by decide +kernel
theorem dL_law_420 : decode cL_law 420 = .ok (.aload_n 0, 1) := by decide +kernel
theorem dL_law_421 : decode cL_law 421 = .ok (.iload_n 3, 1) := by decide +kernel
theorem dL_law_422 : decode cL_law 422 = .ok (.iconst 1, 1) := by decide +kernel
theorem dL_law_423 : decode cL_law 423 = .ok (.iadd, 1) := by decide +kernel
theorem dL_law_424 : decode cL_law 424 = .ok (.iaload, 1) := by decide +kernel
theorem dL_law_425 : decode cL_law 425 = .ok (.invokevirtual 56, 3) := by decide +kernel
theorem dL_law_428 : decode cL_law 428 = .ok (.if_icmp .eq 228, 3) := by decide +kernel
theorem dL_law_431 : decode cL_law 431 = .ok (.iconst 0, 1) := by decide +kernel
theorem dL_law_432 : decode cL_law 432 = .ok (.ireturn, 1) := by decide +kernel
theorem dL_law_433 : decode cL_law 433 = .ok (.aload_n 1, 1) := by decide +kernel
theorem dL_law_434 : decode cL_law 434 = .ok (.aload_n 0, 1) := by decide +kernel
theorem dL_law_435 : decode cL_law 435 = .ok (.iload_n 3, 1) := by decide +kernel
theorem dL_law_436 : decode cL_law 436 = .ok (.iconst 1, 1) := by decide +kernel
theorem dL_law_437 : decode cL_law 437 = .ok (.iadd, 1) := by decide +kernel
theorem dL_law_438 : decode cL_law 438 = .ok (.iaload, 1) := by decide +kernel
theorem dL_law_439 : decode cL_law 439 = .ok (.invokevirtual 57, 3) := by decide +kernel
theorem dL_law_442 : decode cL_law 442 = .ok (.aload_n 2, 1) := by decide +kernel
theorem dL_law_443 : decode cL_law 443 = .ok (.aload_n 0, 1) := by decide +kernel
theorem dL_law_444 : decode cL_law 444 = .ok (.iload_n 3, 1) := by decide +kernel
theorem dL_law_445 : decode cL_law 445 = .ok (.iconst 1, 1) := by decide +kernel
theorem dL_law_446 : decode cL_law 446 = .ok (.iadd, 1) := by decide +kernel
theorem dL_law_447 : decode cL_law 447 = .ok (.iaload, 1) := by decide +kernel
theorem dL_law_448 : decode cL_law 448 = .ok (.invokevirtual 60, 3) := by decide +kernel
theorem dL_law_451 : decode cL_law 451 = .ok (.if_icmp .eq 205, 3) := by decide +kernel
theorem dL_law_454 : decode cL_law 454 = .ok (.iconst 0, 1) := by decide +kernel
theorem dL_law_455 : decode cL_law 455 = .ok (.ireturn, 1) := by decide +kernel
theorem dL_law_456 : decode cL_law 456 = .ok (.aload_n 1, 1) := by decide +kernel
theorem dL_law_457 : decode cL_law 457 = .ok (.aload_n 0, 1) := by decide +kernel
theorem dL_law_458 : decode cL_law 458 = .ok (.iload_n 3, 1) := by decide +kernel
theorem dL_law_459 : decode cL_law 459 = .ok (.iconst 1, 1) := by decide +kernel
theorem dL_law_460 : decode cL_law 460 = .ok (.iadd, 1) := by decide +kernel
theorem dL_law_461 : decode cL_law 461 = .ok (.iaload, 1) := by decide +kernel
theorem dL_law_462 : decode cL_law 462 = .ok (.invokevirtual 61, 3) := by decide +kernel
theorem dL_law_465 : decode cL_law 465 = .ok (.aload_n 2, 1) := by decide +kernel
theorem dL_law_466 : decode cL_law 466 = .ok (.aload_n 0, 1) := by decide +kernel
theorem dL_law_467 : decode cL_law 467 = .ok (.iload_n 3, 1) := by decide +kernel
theorem dL_law_468 : decode cL_law 468 = .ok (.iconst 1, 1) := by decide +kernel
theorem dL_law_469 : decode cL_law 469 = .ok (.iadd, 1) := by decide +kernel
theorem dL_law_470 : decode cL_law 470 = .ok (.iaload, 1) := by decide +kernel
theorem dL_law_471 : decode cL_law 471 = .ok (.invokevirtual 64, 3) := by decide +kernel
theorem dL_law_474 : decode cL_law 474 = .ok (.if_icmp .eq 182, 3) := by decide +kernel
theorem dL_law_477 : decode cL_law 477 = .ok (.iconst 0, 1) := by decide +kernel
theorem dL_law_478 : decode cL_law 478 = .ok (.ireturn, 1) := by decide +kernel
theorem dL_law_479 : decode cL_law 479 = .ok (.aload_n 1, 1) := by decide +kernel
theorem dL_law_480 : decode cL_law 480 = .ok (.aload_n 0, 1) := by decide +kernel
theorem dL_law_481 : decode cL_law 481 = .ok (.iload_n 3, 1) := by decide +kernel
theorem dL_law_482 : decode cL_law 482 = .ok (.iconst 1, 1) := by decide +kernel
theorem dL_law_483 : decode cL_law 483 = .ok (.iadd, 1) := by decide +kernel
theorem dL_law_484 : decode cL_law 484 = .ok (.iaload, 1) := by decide +kernel
theorem dL_law_485 : decode cL_law 485 = .ok (.aload_n 0, 1) := by decide +kernel
theorem dL_law_486 : decode cL_law 486 = .ok (.iload_n 3, 1) := by decide +kernel
theorem dL_law_487 : decode cL_law 487 = .ok (.iconst 2, 1) := by decide +kernel
theorem dL_law_488 : decode cL_law 488 = .ok (.iadd, 1) := by decide +kernel
theorem dL_law_489 : decode cL_law 489 = .ok (.iaload, 1) := by decide +kernel
theorem dL_law_490 : decode cL_law 490 = .ok (.invokevirtual 65, 3) := by decide +kernel
theorem dL_law_493 : decode cL_law 493 = .ok (.aload_n 2, 1) := by decide +kernel
theorem dL_law_494 : decode cL_law 494 = .ok (.aload_n 0, 1) := by decide +kernel
theorem dL_law_495 : decode cL_law 495 = .ok (.iload_n 3, 1) := by decide +kernel
theorem dL_law_496 : decode cL_law 496 = .ok (.iconst 1, 1) := by decide +kernel
theorem dL_law_497 : decode cL_law 497 = .ok (.iadd, 1) := by decide +kernel
theorem dL_law_498 : decode cL_law 498 = .ok (.iaload, 1) := by decide +kernel
theorem dL_law_499 : decode cL_law 499 = .ok (.aload_n 0, 1) := by decide +kernel
theorem dL_law_500 : decode cL_law 500 = .ok (.iload_n 3, 1) := by decide +kernel
theorem dL_law_501 : decode cL_law 501 = .ok (.iconst 2, 1) := by decide +kernel
theorem dL_law_502 : decode cL_law 502 = .ok (.iadd, 1) := by decide +kernel
theorem dL_law_503 : decode cL_law 503 = .ok (.iaload, 1) := by decide +kernel
theorem dL_law_504 : decode cL_law 504 = .ok (.invokevirtual 68, 3) := by decide +kernel
theorem dL_law_507 : decode cL_law 507 = .ok (.if_icmp .eq 149, 3) := by decide +kernel
theorem dL_law_510 : decode cL_law 510 = .ok (.iconst 0, 1) := by decide +kernel
theorem dL_law_511 : decode cL_law 511 = .ok (.ireturn, 1) := by decide +kernel
theorem dL_law_512 : decode cL_law 512 = .ok (.aload_n 1, 1) := by decide +kernel
theorem dL_law_513 : decode cL_law 513 = .ok (.aload_n 0, 1) := by decide +kernel
theorem dL_law_514 : decode cL_law 514 = .ok (.iload_n 3, 1) := by decide +kernel
theorem dL_law_515 : decode cL_law 515 = .ok (.iconst 1, 1) := by decide +kernel
theorem dL_law_516 : decode cL_law 516 = .ok (.iadd, 1) := by decide +kernel
theorem dL_law_517 : decode cL_law 517 = .ok (.iaload, 1) := by decide +kernel
theorem dL_law_518 : decode cL_law 518 = .ok (.invokevirtual 69, 3) := by decide +kernel
theorem dL_law_521 : decode cL_law 521 = .ok (.aload_n 2, 1) := by decide +kernel
theorem dL_law_522 : decode cL_law 522 = .ok (.aload_n 0, 1) := by decide +kernel
theorem dL_law_523 : decode cL_law 523 = .ok (.iload_n 3, 1) := by decide +kernel
theorem dL_law_524 : decode cL_law 524 = .ok (.iconst 1, 1) := by decide +kernel
theorem dL_law_525 : decode cL_law 525 = .ok (.iadd, 1) := by decide +kernel
theorem dL_law_526 : decode cL_law 526 = .ok (.iaload, 1) := by decide +kernel
theorem dL_law_527 : decode cL_law 527 = .ok (.invokevirtual 72, 3) := by decide +kernel
theorem dL_law_530 : decode cL_law 530 = .ok (.if_icmp .eq 126, 3) := by decide +kernel
theorem dL_law_533 : decode cL_law 533 = .ok (.iconst 0, 1) := by decide +kernel
theorem dL_law_534 : decode cL_law 534 = .ok (.ireturn, 1) := by decide +kernel
theorem dL_law_535 : decode cL_law 535 = .ok (.aload_n 1, 1) := by decide +kernel
theorem dL_law_536 : decode cL_law 536 = .ok (.invokevirtual 73, 3) := by decide +kernel
theorem dL_law_539 : decode cL_law 539 = .ok (.aload_n 2, 1) := by decide +kernel
theorem dL_law_540 : decode cL_law 540 = .ok (.invokevirtual 77, 3) := by decide +kernel
theorem dL_law_543 : decode cL_law 543 = .ok (.if_icmp .eq 113, 3) := by decide +kernel
theorem dL_law_546 : decode cL_law 546 = .ok (.iconst 0, 1) := by decide +kernel
theorem dL_law_547 : decode cL_law 547 = .ok (.ireturn, 1) := by decide +kernel
theorem dL_law_548 : decode cL_law 548 = .ok (.aload_n 1, 1) := by decide +kernel
theorem dL_law_549 : decode cL_law 549 = .ok (.invokevirtual 78, 3) := by decide +kernel
theorem dL_law_552 : decode cL_law 552 = .ok (.aload_n 2, 1) := by decide +kernel
theorem dL_law_553 : decode cL_law 553 = .ok (.invokevirtual 81, 3) := by decide +kernel
theorem dL_law_556 : decode cL_law 556 = .ok (.if_icmp .eq 100, 3) := by decide +kernel
theorem dL_law_559 : decode cL_law 559 = .ok (.iconst 0, 1) := by decide +kernel
theorem dL_law_560 : decode cL_law 560 = .ok (.ireturn, 1) := by decide +kernel
theorem dL_law_561 : decode cL_law 561 = .ok (.aload_n 1, 1) := by decide +kernel
theorem dL_law_562 : decode cL_law 562 = .ok (.aload_n 0, 1) := by decide +kernel
theorem dL_law_563 : decode cL_law 563 = .ok (.iload_n 3, 1) := by decide +kernel
theorem dL_law_564 : decode cL_law 564 = .ok (.iconst 1, 1) := by decide +kernel
theorem dL_law_565 : decode cL_law 565 = .ok (.iadd, 1) := by decide +kernel
theorem dL_law_566 : decode cL_law 566 = .ok (.iaload, 1) := by decide +kernel
theorem dL_law_567 : decode cL_law 567 = .ok (.aload_n 0, 1) := by decide +kernel
theorem dL_law_568 : decode cL_law 568 = .ok (.iload_n 3, 1) := by decide +kernel
theorem dL_law_569 : decode cL_law 569 = .ok (.iconst 2, 1) := by decide +kernel
theorem dL_law_570 : decode cL_law 570 = .ok (.iadd, 1) := by decide +kernel
theorem dL_law_571 : decode cL_law 571 = .ok (.iaload, 1) := by decide +kernel
theorem dL_law_572 : decode cL_law 572 = .ok (.ifCond .eq 7, 3) := by decide +kernel
theorem dL_law_575 : decode cL_law 575 = .ok (.iconst 1, 1) := by decide +kernel
theorem dL_law_576 : decode cL_law 576 = .ok (.goto 4, 3) := by decide +kernel
theorem dL_law_579 : decode cL_law 579 = .ok (.iconst 0, 1) := by decide +kernel
theorem dL_law_580 : decode cL_law 580 = .ok (.invokevirtual 82, 3) := by decide +kernel
theorem dL_law_583 : decode cL_law 583 = .ok (.aload_n 2, 1) := by decide +kernel
theorem dL_law_584 : decode cL_law 584 = .ok (.aload_n 0, 1) := by decide +kernel
theorem dL_law_585 : decode cL_law 585 = .ok (.iload_n 3, 1) := by decide +kernel
theorem dL_law_586 : decode cL_law 586 = .ok (.iconst 1, 1) := by decide +kernel
theorem dL_law_587 : decode cL_law 587 = .ok (.iadd, 1) := by decide +kernel
theorem dL_law_588 : decode cL_law 588 = .ok (.iaload, 1) := by decide +kernel
theorem dL_law_589 : decode cL_law 589 = .ok (.aload_n 0, 1) := by decide +kernel
theorem dL_law_590 : decode cL_law 590 = .ok (.iload_n 3, 1) := by decide +kernel
theorem dL_law_591 : decode cL_law 591 = .ok (.iconst 2, 1) := by decide +kernel
theorem dL_law_592 : decode cL_law 592 = .ok (.iadd, 1) := by decide +kernel
theorem dL_law_593 : decode cL_law 593 = .ok (.iaload, 1) := by decide +kernel
theorem dL_law_594 : decode cL_law 594 = .ok (.ifCond .eq 7, 3) := by decide +kernel
theorem dL_law_597 : decode cL_law 597 = .ok (.iconst 1, 1) := by decide +kernel
theorem dL_law_598 : decode cL_law 598 = .ok (.goto 4, 3) := by decide +kernel
theorem dL_law_601 : decode cL_law 601 = .ok (.iconst 0, 1) := by decide +kernel
theorem dL_law_602 : decode cL_law 602 = .ok (.invokevirtual 86, 3) := by decide +kernel
theorem dL_law_605 : decode cL_law 605 = .ok (.if_icmp .eq 51, 3) := by decide +kernel
theorem dL_law_608 : decode cL_law 608 = .ok (.iconst 0, 1) := by decide +kernel
theorem dL_law_609 : decode cL_law 609 = .ok (.ireturn, 1) := by decide +kernel
theorem dL_law_610 : decode cL_law 610 = .ok (.aload_n 1, 1) := by decide +kernel
theorem dL_law_611 : decode cL_law 611 = .ok (.aload_n 0, 1) := by decide +kernel
theorem dL_law_612 : decode cL_law 612 = .ok (.iload_n 3, 1) := by decide +kernel
theorem dL_law_613 : decode cL_law 613 = .ok (.iconst 1, 1) := by decide +kernel
theorem dL_law_614 : decode cL_law 614 = .ok (.iadd, 1) := by decide +kernel
theorem dL_law_615 : decode cL_law 615 = .ok (.iaload, 1) := by decide +kernel
theorem dL_law_616 : decode cL_law 616 = .ok (.invokevirtual 87, 3) := by decide +kernel
theorem dL_law_619 : decode cL_law 619 = .ok (.aload_n 2, 1) := by decide +kernel
theorem dL_law_620 : decode cL_law 620 = .ok (.aload_n 0, 1) := by decide +kernel
theorem dL_law_621 : decode cL_law 621 = .ok (.iload_n 3, 1) := by decide +kernel
theorem dL_law_622 : decode cL_law 622 = .ok (.iconst 1, 1) := by decide +kernel
theorem dL_law_623 : decode cL_law 623 = .ok (.iadd, 1) := by decide +kernel
theorem dL_law_624 : decode cL_law 624 = .ok (.iaload, 1) := by decide +kernel
theorem dL_law_625 : decode cL_law 625 = .ok (.invokevirtual 90, 3) := by decide +kernel
theorem dL_law_628 : decode cL_law 628 = .ok (.if_icmp .eq 28, 3) := by decide +kernel
theorem dL_law_631 : decode cL_law 631 = .ok (.iconst 0, 1) := by decide +kernel
theorem dL_law_632 : decode cL_law 632 = .ok (.ireturn, 1) := by decide +kernel
theorem dL_law_633 : decode cL_law 633 = .ok (.aload_n 1, 1) := by decide +kernel
theorem dL_law_634 : decode cL_law 634 = .ok (.aload_n 0, 1) := by decide +kernel
theorem dL_law_635 : decode cL_law 635 = .ok (.iload_n 3, 1) := by decide +kernel
theorem dL_law_636 : decode cL_law 636 = .ok (.iconst 1, 1) := by decide +kernel
theorem dL_law_637 : decode cL_law 637 = .ok (.iadd, 1) := by decide +kernel
theorem dL_law_638 : decode cL_law 638 = .ok (.iaload, 1) := by decide +kernel
theorem dL_law_639 : decode cL_law 639 = .ok (.invokevirtual 91, 3) := by decide +kernel
theorem dL_law_642 : decode cL_law 642 = .ok (.aload_n 2, 1) := by decide +kernel
theorem dL_law_643 : decode cL_law 643 = .ok (.aload_n 0, 1) := by decide +kernel
theorem dL_law_644 : decode cL_law 644 = .ok (.iload_n 3, 1) := by decide +kernel
theorem dL_law_645 : decode cL_law 645 = .ok (.iconst 1, 1) := by decide +kernel
theorem dL_law_646 : decode cL_law 646 = .ok (.iadd, 1) := by decide +kernel
theorem dL_law_647 : decode cL_law 647 = .ok (.iaload, 1) := by decide +kernel
theorem dL_law_648 : decode cL_law 648 = .ok (.invokevirtual 94, 3) := by decide +kernel
theorem dL_law_651 : decode cL_law 651 = .ok (.if_icmp .eq 5, 3) := by decide +kernel
theorem dL_law_654 : decode cL_law 654 = .ok (.iconst 0, 1) := by decide +kernel
theorem dL_law_655 : decode cL_law 655 = .ok (.ireturn, 1) := by decide +kernel
theorem dL_law_656 : decode cL_law 656 = .ok (.iinc 3 5, 3) := by decide +kernel
theorem dL_law_659 : decode cL_law 659 = .ok (.goto (-641), 3) := by decide +kernel
theorem dL_law_662 : decode cL_law 662 = .ok (.iconst 1, 1) := by decide +kernel
theorem dL_law_663 : decode cL_law 663 = .ok (.ireturn, 1) := by decide +kernel
abbrev vwCl : List vw_C := [(RX0, TX0, 2), (RX1, TX1, 5), (RX2, TX2, 9), (RX3, TX3, 6), (RX4, TX4, 9), (RX5, TX5, 7), (RX6, TX6, 7), (RX7, TX7, 7), (RX8, TX8, 26)]
end
section
/-! MY BASE: whole-world contracts. A contract says: from a world W0 (a list of cells) with these arguments the method answers r in the world W1. -/
def nwL : List Cond := [.methodLinkNest RX1 30 yX7_leastOf RX7, .methodLinkNest RX1 34 yX7_greatestOf RX7, .methodLinkNest RX2 129 yX7_made RX7, .methodLinkNest RX3 82 yX7_made RX7, .methodLinkNest RX4 38 yX7_hasTarget RX7, .methodLinkNest RX4 42 yX7_readsA RX7, .methodLinkNest RX4 45 yX7_readsB RX7, .methodLinkNest RX6 89 yX7_made RX7, .methodLinkNest RX7 18 yX0_init RX7, .methodLinkNest RX7 25 yX4_init RX7]
/-- the nest words hold -/
def NW (U : State) : Prop := ∀ w ∈ nwL, va_Nw w U
theorem nwL_tab : ∀ w ∈ nwL, w.onTables = true := by decide +kernel
theorem nwL_form : ∀ w ∈ nwL, ∃ a i x h, w = .methodLinkNest a i x h := by
  intro w hw
  simp only [nwL, List.mem_cons, List.not_mem_nil, or_false] at hw
  rcases hw with h | h | h | h | h | h | h | h | h | h <;> exact ⟨_, _, _, _, h⟩
theorem NW.warm {s U : State} (hW : s.WarmedH U.vm) (h : NW s) : NW U := by
  intro w hw
  have h1 := h w hw
  obtain ⟨a, i, x, ho, rfl⟩ := nwL_form w hw
  exact va_Nw.warmM hW h1
theorem NW.same {s U : State} (hv : s.vm = U.vm) (h : NW s) : NW U := fun w hw => va_Nw.same (nwL_tab w hw) hv (h w hw)
abbrev ty3 (cI cJ cZ : ClassId) : List (ClassId × FieldType) := [(cI, .int), (cJ, .long), (cZ, .boolean)]
abbrev TyL : Type := List (ClassId × FieldType)
def PcW (D : va_G) (T : TyL) (W0 : va_W) (av : List Value) (sz : Nat) : Array Value → State → Prop := va_Pc av (fun U => U.heap.size = sz ∧ va_P D vwCl W0 U.heap ∧ va_K D vwCl T U ∧ va_D (fun _ => True) W0 ∧ NW U)
def Bw (D : va_G) (T : TyL) (A : Nat → Prop) (W1 : va_W) : Unit → State → Prop := fun _ t => va_P D vwCl W1 t.heap ∧ va_K D vwCl T t ∧ va_D A W1
theorem PcW.blind {D : va_G} {T : TyL} {W0 : va_W} {av : List Value} {sz : Nat} : FrameBlind (PcW D T W0 av sz) := by
  intro a U g mk q
  obtain ⟨q0, q1, qP, qK, qD, qN⟩ := q
  exact ⟨q0, q1, qP, va_K.moved (u := U) (U := U.calling g mk a) (Vm.Alike.refl U.vm) qK, qD, NW.same (s := U) (U := U.calling g mk a) rfl qN⟩
def CtI (l : Launch) (y : MethodName) (ws : List Cond) (rm : Room) (D : va_G) (T : TyL) (W0 : va_W) (av : List Value) (r : Int32) (W1 : va_W) : Prop := ∀ sz : Nat, Met l y ws rm (PcW D T W0 av sz) (va_Qi (fun r' (_ : Unit) => r' = r) (Bw D T (va_A W0 sz) W1) (va_A W0 sz)) 0 0 (va_A W0 sz)
def CtL (l : Launch) (y : MethodName) (ws : List Cond) (rm : Room) (D : va_G) (T : TyL) (W0 : va_W) (av : List Value) (r : Int64) (W1 : va_W) : Prop := ∀ sz : Nat, Met l y ws rm (PcW D T W0 av sz) (va_Ql (fun r' (_ : Unit) => r' = r) (Bw D T (va_A W0 sz) W1) (va_A W0 sz)) 0 0 (va_A W0 sz)
def CtV (l : Launch) (y : MethodName) (ws : List Cond) (rm : Room) (D : va_G) (T : TyL) (W0 : va_W) (av : List Value) (W1 : va_W) : Prop := ∀ sz : Nat, Met l y ws rm (PcW D T W0 av sz) (va_Qv (fun (_ : Unit) => True) (Bw D T (va_A W0 sz) W1) (va_A W0 sz)) 0 0 (va_A W0 sz)
/-- what holds all through a method's body -/
def Cx (p : Program) (s : State) (m : MethodId) (args : Array Value) (meth : Method) (c : Code) (cc : ByteArray) (nL : Nat) (ret : Option FieldType) (own : String) (Ts : List Cond) (A : Nat → Prop) (D : va_G) (T : TyL) : Prop :=
  p.tables.exec = Jvm.exec ∧ c.code = cc ∧ meth.sig.returnType = ret ∧ c.maxLocals = nL ∧ s.vm.findClass own = some m.cls ∧ (∀ w ∈ Ts, w.before args s = true) ∧ meth.locks = false ∧ NW s ∧ va_K D vwCl T s ∧ (∀ q, s.heap.size ≤ q → A q)
def QI (below : List Frame) (args : Array Value) (s : State) (A : Nat → Prop) (D : va_G) (T : TyL) (r : Int32) (W1 : va_W) : State → Prop := MQ below (va_Qi (fun r' (_ : Unit) => r' = r) (Bw D T A W1) A) args s 0 0 A
def QL (below : List Frame) (args : Array Value) (s : State) (A : Nat → Prop) (D : va_G) (T : TyL) (r : Int64) (W1 : va_W) : State → Prop := MQ below (va_Ql (fun r' (_ : Unit) => r' = r) (Bw D T A W1) A) args s 0 0 A
def QV (below : List Frame) (args : Array Value) (s : State) (A : Nat → Prop) (D : va_G) (T : TyL) (W1 : va_W) : State → Prop := MQ below (va_Qv (fun (_ : Unit) => True) (Bw D T A W1) A) args s 0 0 A
theorem va_freeAll {A0 : Nat → Prop} {ws : va_W} {H0 H : Heap} {locs : List Loc} (hD : va_D A0 ws) (hS : va_S A0 H0 H locs) (hA : ∀ q, H0.size ≤ q → A0 q) : ∀ q, va_A ws H.size q → A0 q := by
  intro q h
  rcases h with ⟨k, e, h⟩ | h
  · exact hD.2 k _ h
  · exact hA q (Nat.le_trans hS.1 h)
set_option maxHeartbeats 4000000 in
theorem ct_entry {l : Launch} {y : MethodName} {ws ws' : List Cond} {rm : Room} {D : va_G} {T : TyL} {W0 : va_W} {av : List Value} {cc : ByteArray} {maxL : Nat} {ret : Option FieldType} {own : String} {Qc : Array Value → State → Outcome → State → Prop} {sz : Nat} (hy : plainName y.cls = true) (ho : y.cls = own) (hw : ws = Cond.code y cc maxL ret :: ws') (hlen : (lg_sl av).length ≤ maxL) {ll : List (Nat × Value)} (hll : lv_args 0 av = ll)
    (body : ∀ (p : Program) (e : Env) (s : State) (m : MethodId) (args : Array Value) (below : List Frame) (meth : Method) (c : Code), s.heap.size = sz → Cx p s m args meth c cc maxL ret own ws (va_A W0 sz) D T → (meth.name = y.name) → va_P D vwCl W0 s.heap → va_D (va_A W0 sz) W0 → ∀ ls : Array Slot, lv_has ls maxL ll → W p l e rm s m args below meth c s.heap [] 0 0 (MQ below Qc args s 0 0 (va_A W0 sz)) (F0 m 0 ls [])) : Met l y ws rm (PcW D T W0 av sz) Qc 0 0 (va_A W0 sz) := by
  refine Met.ofW (cc := cc) (maxL := maxL) (ret := ret) hy hw ?_
  intro p e s m args below meth c s₁ B hml hv
  obtain ⟨rfl, hsz, hP, hK, hD0, hN⟩ := hv
  subst hsz
  have hts := atoms_spec (ws := ws) B.pre
  have hown : s.vm.findClass y.cls = some m.cls := findClass_of_methodNamed B.named
  rw [ho] at hown
  rw [lg_entry_eq]
  exact body p e s m _ below meth c rfl ⟨B.exec, B.bytes, B.returns, hml, hown, hts, B.notSynchronized, hN, hK, fun q h => Or.inr h⟩ (name_of_methodNamed B.named B.method).1 hP (hD0.self (sz := s.heap.size)) _ (hll ▸ lv_entry av hlen)
section RETS
variable {p : Program} {l : Launch} {e : Env} {R : Room} {s : State} {m : MethodId} {args : Array Value} {below : List Frame} {meth : Method} {c : Code} {H : Heap} {locs : List Loc} {cc : ByteArray} {nL : Nat} {ret : Option FieldType} {own : String} {Ts : List Cond} {A : Nat → Prop} {D : va_G} {T : TyL} {W1 : va_W} {pc : Nat} {ls : Array Slot}
theorem ret_I {r : Int32} {ty : FieldType} (C0 : Cx p s m args meth c cc nL (some ty) own Ts A D T) (hn : narrow ty (.int r) = .int r) (hP : va_P D vwCl W1 H) (hD : va_D A W1) (hS : va_S A s.heap H locs) (hdg : decode cc pc = .ok (.ireturn, 1)) : W p l e R s m args below meth c H locs 0 0 (QI below args s A D T r W1) (F0 m pc ls [.int r]) := by
  obtain ⟨hx, hb, hr, hml, hown, hts, hlocks, hN, hK, hA⟩ := C0
  exact W.zret (v := r) hx hb hr hn (fun t ht hW => ⟨⟨r, (), rfl, rfl, by rw [ht]; exact hP, va_K.moved hW.alike hK, hD⟩, hS.F ht⟩) hS.2.2 hdg
theorem ret_L {r : Int64} (C0 : Cx p s m args meth c cc nL (some .long) own Ts A D T) (hP : va_P D vwCl W1 H) (hD : va_D A W1) (hS : va_S A s.heap H locs) (hdg : decode cc pc = .ok (.lreturn, 1)) : W p l e R s m args below meth c H locs 0 0 (QL below args s A D T r W1) (F0 m pc ls [.long r]) := by
  obtain ⟨hx, hb, hr, hml, hown, hts, hlocks, hN, hK, hA⟩ := C0
  exact W.lret (v := r) hx hb hr (fun t ht hW => ⟨⟨r, (), rfl, rfl, by rw [ht]; exact hP, va_K.moved hW.alike hK, hD⟩, hS.F ht⟩) hS.2.2 hdg
theorem ret_V (C0 : Cx p s m args meth c cc nL none own Ts A D T) (hP : va_P D vwCl W1 H) (hD : va_D A W1) (hS : va_S A s.heap H locs) (hdg : decode cc pc = .ok (.return_, 1)) : W p l e R s m args below meth c H locs 0 0 (QV below args s A D T W1) (F0 m pc ls []) := by
  obtain ⟨hx, hb, hr, hml, hown, hts, hlocks, hN, hK, hA⟩ := C0
  exact W.vret hx hb hr (fun t ht hW => ⟨⟨(), rfl, trivial, by rw [ht]; exact hP, va_K.moved hW.alike hK, hD⟩, hS.F ht⟩) hS.2.2 hdg
end RETS
section CALLS
variable {p : Program} {l : Launch} {e : Env} {R : Room} {s : State} {m : MethodId} {args : Array Value} {below : List Frame} {meth : Method} {c : Code} {H : Heap} {locs : List Loc} {cc : ByteArray} {nL : Nat} {ret : Option FieldType} {own : String} {Ts : List Cond} {A : Nat → Prop} {D : va_G} {T : TyL} {W0 W1 : va_W} {pc : Nat} {ls : Array Slot} {Q : State → Prop} {rest st0 : List Value} {y : MethodName} {bytes : ByteArray} {maxL n index : Nat} {rt : Option FieldType} {ws : List Cond} {rmc : Room} {As : List Value} {b : Nat} {C host : String}
theorem pre_S (C0 : Cx p s m args meth c cc nL ret own Ts A D T) (hP : va_P D vwCl W0 H) (hD : va_D A W0) {av : List Value} : PreS s H (PcW D T W0 av H.size) av := by
  obtain ⟨hx, hb, hr, hml, hown, hts, hlocks, hN, hK, hA⟩ := C0
  exact ⟨PcW.blind, fun U hU hW => ⟨rfl, by rw [hU], by rw [hU]; exact hP, va_K.moved hW.alike hK, hD.weaken (fun _ _ _ _ => trivial), NW.warm hW hN⟩⟩
theorem run_V {Qc : Array Value → State → Outcome → State → Prop} {free : Addr → Prop} (C0 : Cx p s m args meth c cc nL ret own Ts A D T) (hM : Met l y ws rmc (PcW D T W0 (.ref b :: As) H.size) Qc 0 0 free) (cw : CallW R s args own C index y bytes maxL rt ws rmc 0 0 n) (hP : va_P D vwCl W0 H) (hD : va_D A W0) {ci q0 : Nat} {tq : u_T} {nq : Nat} {fs : List Value} (hc : vwCl[ci]? = some (C, tq, nq)) (he : W0[q0]? = some (b, .inr (ci, fs)))
    (hn : As.length = n) (hl : ls.size = nL) (hst : st0 = As.reverse ++ .ref b :: rest) (hW : (rest.map fun v => v.category).sum ≤ 8) (hdg : decode cc pc = .ok (.invokevirtual index, 3)) :
    va_Run p l e R s m args below meth c H locs 0 0 0 0 (F0 m pc ls st0) rest (Qc (Value.ref b :: As).toArray) free := by
  have C1 := C0
  obtain ⟨hx, hb, hr, hml, hown, hts, hlocks, hN, hK, hA⟩ := C0
  have h1 := pre_S C1 hP hD (av := .ref b :: As)
  exact va_runV (As := As) (rest := rest) ⟨hx, hb, hml, hown, hts⟩ hM cw ⟨h1.1, va_recv hK hP hc he, h1.2⟩ rfl hn hl hst (lv_room hW) hdg ⟨Nat.zero_le _, Nat.zero_le _⟩
theorem run_S {Qc : Array Value → State → Outcome → State → Prop} {free : Addr → Prop} (C0 : Cx p s m args meth c cc nL ret own Ts A D T) (hM : Met l y ws rmc (PcW D T W0 As H.size) Qc 0 0 free) (cw : CallB R s args own index y bytes maxL rt ws rmc 0 0 n ∧ (Cond.static y).before args s = true) (hP : va_P D vwCl W0 H) (hD : va_D A W0)
    (hn : As.length = n) (hl : ls.size = nL) (hst : st0 = As.reverse ++ rest) (hW : (rest.map fun v => v.category).sum ≤ 8) (hdg : decode cc pc = .ok (.invokestatic index, 3)) :
    va_Run p l e R s m args below meth c H locs 0 0 0 0 (F0 m pc ls st0) rest (Qc As.toArray) free := by
  have C1 := C0
  obtain ⟨hx, hb, hr, hml, hown, hts, hlocks, hN, hK, hA⟩ := C0
  exact va_runS (As := As) (rest := rest) ⟨hx, hb, hml, hown, hts⟩ hM cw (pre_S C1 hP hD) rfl hn hl hst (lv_room hW) hdg ⟨Nat.zero_le _, Nat.zero_le _⟩
theorem run_SN {Qc : Array Value → State → Outcome → State → Prop} {free : Addr → Prop} (C0 : Cx p s m args meth c cc nL ret own Ts A D T) (hM : Met l y ws rmc (PcW D T W0 As H.size) Qc 0 0 free) (cw : va_CN R s args own index y host bytes maxL rt ws rmc 0 0 n ∧ (Cond.static y).before args s = true ∧ True) (hP : va_P D vwCl W0 H) (hD : va_D A W0)
    (hn : As.length = n) (hl : ls.size = nL) (hst : st0 = As.reverse ++ rest) (hW : (rest.map fun v => v.category).sum ≤ 8) (hdg : decode cc pc = .ok (.invokestatic index, 3)) :
    va_Run p l e R s m args below meth c H locs 0 0 0 0 (F0 m pc ls st0) rest (Qc As.toArray) free := by
  have C1 := C0
  obtain ⟨hx, hb, hr, hml, hown, hts, hlocks, hN, hK, hA⟩ := C0
  exact va_runSN (As := As) (rest := rest) ⟨hx, hb, hml, hown, hts⟩ hM cw (pre_S C1 hP hD) rfl hn hl hst (lv_room hW) hdg ⟨Nat.zero_le _, Nat.zero_le _⟩
theorem call_I {a : Array Value} {r : Int32} (C0 : Cx p s m args meth c cc nL ret own Ts A D T) (hr : va_Run p l e R s m args below meth c H locs 0 0 0 0 (F0 m pc ls st0) rest (va_Qi (fun r' (_ : Unit) => r' = r) (Bw D T (va_A W0 H.size) W1) (va_A W0 H.size) a) (va_A W0 H.size)) (hD : va_D A W0) (hS : va_S A s.heap H locs)
    (kk : ∀ (H1 : Heap) (locs1 : List Loc), va_P D vwCl W1 H1 → va_D A W1 → va_S A s.heap H1 locs1 → W p l e R s m args below meth c H1 locs1 0 0 Q (F0 m (pc + 3) ls (.int r :: rest))) : W p l e R s m args below meth c H locs 0 0 Q (F0 m pc ls st0) := by
  obtain ⟨hx, hb, hrr, hml, hown, hts, hlocks, hN, hK, hA⟩ := C0
  have hF := va_freeAll hD hS hA
  refine va_calli hr hS (fun q _ h => hF q h) hF (fun r1 u t H1 locs1 ht hvm hw hB hz1 hk1 hS1 => ?_)
  obtain ⟨hP1, hK1, hD1⟩ := hB
  subst hw
  rw [ht] at hP1
  exact kk H1 locs1 hP1 (hD1.weaken (fun k q _ h => hF q.1 h)) hS1
theorem call_L {a : Array Value} {r : Int64} (C0 : Cx p s m args meth c cc nL ret own Ts A D T) (hr : va_Run p l e R s m args below meth c H locs 0 0 0 0 (F0 m pc ls st0) rest (va_Ql (fun r' (_ : Unit) => r' = r) (Bw D T (va_A W0 H.size) W1) (va_A W0 H.size) a) (va_A W0 H.size)) (hD : va_D A W0) (hS : va_S A s.heap H locs)
    (kk : ∀ (H1 : Heap) (locs1 : List Loc), va_P D vwCl W1 H1 → va_D A W1 → va_S A s.heap H1 locs1 → W p l e R s m args below meth c H1 locs1 0 0 Q (F0 m (pc + 3) ls (.long r :: rest))) : W p l e R s m args below meth c H locs 0 0 Q (F0 m pc ls st0) := by
  obtain ⟨hx, hb, hrr, hml, hown, hts, hlocks, hN, hK, hA⟩ := C0
  have hF := va_freeAll hD hS hA
  refine va_calll hr hS (fun q _ h => hF q h) hF (fun r1 u t H1 locs1 ht hvm hw hB hz1 hk1 hS1 => ?_)
  obtain ⟨hP1, hK1, hD1⟩ := hB
  subst hw
  rw [ht] at hP1
  exact kk H1 locs1 hP1 (hD1.weaken (fun k q _ h => hF q.1 h)) hS1
theorem call_V {a : Array Value} (C0 : Cx p s m args meth c cc nL ret own Ts A D T) (hr : va_Run p l e R s m args below meth c H locs 0 0 0 0 (F0 m pc ls st0) rest (va_Qv (fun (_ : Unit) => True) (Bw D T (va_A W0 H.size) W1) (va_A W0 H.size) a) (va_A W0 H.size)) (hD : va_D A W0) (hS : va_S A s.heap H locs)
    (kk : ∀ (H1 : Heap) (locs1 : List Loc), va_P D vwCl W1 H1 → va_D A W1 → va_S A s.heap H1 locs1 → W p l e R s m args below meth c H1 locs1 0 0 Q (F0 m (pc + 3) ls rest)) : W p l e R s m args below meth c H locs 0 0 Q (F0 m pc ls st0) := by
  obtain ⟨hx, hb, hrr, hml, hown, hts, hlocks, hN, hK, hA⟩ := C0
  have hF := va_freeAll hD hS hA
  refine va_callv hr hS (fun q _ h => hF q h) hF (fun u t H1 locs1 ht hvm hw hB hz1 hk1 hS1 => ?_)
  obtain ⟨hP1, hK1, hD1⟩ := hB
  rw [ht] at hP1
  exact kk H1 locs1 hP1 (hD1.weaken (fun k q _ h => hF q.1 h)) hS1
end CALLS
/-! what a mirror says, read step by step -/
theorem mi_p {α : Type} {c : Prop} [Decidable c] {a b : Option α} {r : α} (hc : c) (h : (if c then a else b) = some r) : a = some r := by rw [if_pos hc] at h; exact h
theorem mi_n {α : Type} {c : Prop} [Decidable c] {a b : Option α} {r : α} (hc : ¬ c) (h : (if c then a else b) = some r) : b = some r := by rw [if_neg hc] at h; exact h
theorem mi_g {α : Type} {c : Prop} [Decidable c] {b : Option α} {r : α} (h : (if c then none else b) = some r) : ¬ c ∧ b = some r := by
  by_cases hc : c
  · rw [if_pos hc] at h; cases h
  · rw [if_neg hc] at h; exact ⟨hc, h⟩
theorem mi_b {α β : Type} {x : Option α} {f : α → Option β} {r : β} (h : x.bind f = some r) : ∃ u, x = some u ∧ f u = some r := by
  cases x with
  | none => cases h
  | some u => exact ⟨u, rfl, h⟩
theorem mi_0 {α : Type} {P : Prop} {r : α} (h : (none : Option α) = some r) : P := by cases h
/-- where a tableswitch goes -/
def swt (dflt lo hi : Int) (offs : Array Int) (v : Int) : Int := if v < lo ∨ hi < v then dflt else (offs[(v - lo).toNat]?).getD dflt
theorem sw_tab {p : Program} {l : Launch} {e : Env} {R : Room} {s : State} {m : MethodId} {args : Array Value} {below : List Frame} {meth : Method} {c : Code} {H : Heap} {locs : List Loc} {cells slots : Nat} {Q : State → Prop} {cc : ByteArray} {pc : Nat} {ls : Array Slot} {rest : List Value} (hexec : p.tables.exec = Jvm.exec) (hb : c.code = cc) {dflt lo hi : Int} {offs : Array Int} {len : Nat} {x : Int32} {tgt : Nat} (hdg : decode cc pc = .ok (.tableswitch dflt lo hi offs, len)) (hsz : (offs.size : Int) = hi - lo + 1) (ht : (pc : Int) + swt dflt lo hi offs x.toInt = (tgt : Int))
    (k : W p l e R s m args below meth c H locs cells slots Q (F0 m tgt ls rest)) : W p l e R s m args below meth c H locs cells slots Q (F0 m pc ls (.int x :: rest)) := by
  by_cases h : x.toInt < lo ∨ hi < x.toInt
  · refine lv_tableOut hexec hb hdg h ?_ k
    unfold swt at ht
    rw [if_pos h] at ht
    exact ht
  · have h1 : ¬ x.toInt < lo := fun q => h (Or.inl q)
    have h2 : ¬ hi < x.toInt := fun q => h (Or.inr q)
    unfold swt at ht
    rw [if_neg h] at ht
    have hlt : (x.toInt - lo).toNat < offs.size := by omega
    refine lv_tableIn (off := offs[(x.toInt - lo).toNat]) hexec hb hdg h1 h2 (Array.getElem?_eq_getElem hlt) ?_ k
    rw [Array.getElem?_eq_getElem hlt] at ht
    exact ht
theorem narrow_z {v : Int32} (h : v = 0 ∨ v = 1) : narrow .boolean (.int v) = .int v := by rcases h with rfl | rfl <;> rfl
theorem fits_z {v : Int32} (h : v = 0 ∨ v = 1) : fits .boolean (.int v) = true := by rcases h with rfl | rfl <;> rfl
def FU : Nat := 1000
end
section
theorem zz_last : True := trivial
end
