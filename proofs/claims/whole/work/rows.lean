section
-- ===== PART A: goes FIRST, ahead of the names: the tables' words, and 'selects' of the private methods out of them =====
/-- a private method of a class that the tables say can be made, by its rows of tables_1 -/
def lw_okq (q : MethodName × Nat) : Prop := (q.1.cls ≠ "java/lang/invoke/MethodHandle" ∧ q.1.cls ≠ "java/lang/invoke/VarHandle") ∧ Cond.instantiable q.1.cls q.2 ∈ tables_1 ∧ Cond.privateMethod q.1 ∈ tables_1 ∧ Cond.instanceMethod q.1 ∈ tables_1
theorem lw_p0 : lw_okq (⟨"EelPermits$Lake", "eelsOfLake", "()I"⟩, 11) := ⟨⟨by decide +kernel, by decide +kernel⟩, List.mem_of_getElem? (i := 26) (by decide +kernel), List.mem_of_getElem? (i := 204) (by decide +kernel), List.mem_of_getElem? (i := 205) (by decide +kernel)⟩
theorem lw_p1 : lw_okq (⟨"EelPermits$Lake", "openHoles", "()I"⟩, 11) := ⟨⟨by decide +kernel, by decide +kernel⟩, List.mem_of_getElem? (i := 26) (by decide +kernel), List.mem_of_getElem? (i := 208) (by decide +kernel), List.mem_of_getElem? (i := 209) (by decide +kernel)⟩
theorem lw_p2 : lw_okq (⟨"EelPermits$Lake", "eelsOfSpearers", "()I"⟩, 11) := ⟨⟨by decide +kernel, by decide +kernel⟩, List.mem_of_getElem? (i := 26) (by decide +kernel), List.mem_of_getElem? (i := 212) (by decide +kernel), List.mem_of_getElem? (i := 213) (by decide +kernel)⟩
theorem lw_p3 : lw_okq (⟨"EelPermits$Lake", "finesOfSpearers", "()I"⟩, 11) := ⟨⟨by decide +kernel, by decide +kernel⟩, List.mem_of_getElem? (i := 26) (by decide +kernel), List.mem_of_getElem? (i := 216) (by decide +kernel), List.mem_of_getElem? (i := 217) (by decide +kernel)⟩
theorem lw_p4 : lw_okq (⟨"EelPermits", "digestOfCells", "(J)J"⟩, 2) := ⟨⟨by decide +kernel, by decide +kernel⟩, List.mem_of_getElem? (i := 18) (by decide +kernel), List.mem_of_getElem? (i := 224) (by decide +kernel), List.mem_of_getElem? (i := 225) (by decide +kernel)⟩
theorem lw_p5 : lw_okq (⟨"EelPermits$Lake", "spearersAt", "(I)I"⟩, 11) := ⟨⟨by decide +kernel, by decide +kernel⟩, List.mem_of_getElem? (i := 26) (by decide +kernel), List.mem_of_getElem? (i := 249) (by decide +kernel), List.mem_of_getElem? (i := 250) (by decide +kernel)⟩
theorem lw_p6 : lw_okq (⟨"EelPermits$Lake", "nearestWardenTo", "(LEelPermits$Hole;)I"⟩, 11) := ⟨⟨by decide +kernel, by decide +kernel⟩, List.mem_of_getElem? (i := 26) (by decide +kernel), List.mem_of_getElem? (i := 253) (by decide +kernel), List.mem_of_getElem? (i := 254) (by decide +kernel)⟩
theorem lw_p7 : lw_okq (⟨"EelPermits", "digestOfPeople", "(J)J"⟩, 2) := ⟨⟨by decide +kernel, by decide +kernel⟩, List.mem_of_getElem? (i := 18) (by decide +kernel), List.mem_of_getElem? (i := 263) (by decide +kernel), List.mem_of_getElem? (i := 264) (by decide +kernel)⟩
theorem lw_p8 : lw_okq (⟨"java/lang/Throwable", "fillInStackTrace", "(I)Ljava/lang/Throwable;"⟩, 6) := ⟨⟨by decide +kernel, by decide +kernel⟩, List.mem_of_getElem? (i := 328) (by decide +kernel), List.mem_of_getElem? (i := 326) (by decide +kernel), List.mem_of_getElem? (i := 327) (by decide +kernel)⟩
theorem lw_p9 : lw_okq (⟨"EelPermits$Lake", "lightLamps", "()V"⟩, 11) := ⟨⟨by decide +kernel, by decide +kernel⟩, List.mem_of_getElem? (i := 26) (by decide +kernel), List.mem_of_getElem? (i := 516) (by decide +kernel), List.mem_of_getElem? (i := 517) (by decide +kernel)⟩
theorem lw_p10 : lw_okq (⟨"EelPermits$Lake", "lure", "(LEelPermits$Hole;I)V"⟩, 11) := ⟨⟨by decide +kernel, by decide +kernel⟩, List.mem_of_getElem? (i := 26) (by decide +kernel), List.mem_of_getElem? (i := 521) (by decide +kernel), List.mem_of_getElem? (i := 522) (by decide +kernel)⟩
theorem lw_p11 : lw_okq (⟨"EelPermits$Lake", "moveEels", "(II)V"⟩, 11) := ⟨⟨by decide +kernel, by decide +kernel⟩, List.mem_of_getElem? (i := 26) (by decide +kernel), List.mem_of_getElem? (i := 525) (by decide +kernel), List.mem_of_getElem? (i := 526) (by decide +kernel)⟩
theorem lw_p12 : lw_okq (⟨"EelPermits$Lake", "spearEels", "()V"⟩, 11) := ⟨⟨by decide +kernel, by decide +kernel⟩, List.mem_of_getElem? (i := 26) (by decide +kernel), List.mem_of_getElem? (i := 529) (by decide +kernel), List.mem_of_getElem? (i := 530) (by decide +kernel)⟩
theorem lw_p13 : lw_okq (⟨"EelPermits$Lake", "sendWardens", "()V"⟩, 11) := ⟨⟨by decide +kernel, by decide +kernel⟩, List.mem_of_getElem? (i := 26) (by decide +kernel), List.mem_of_getElem? (i := 533) (by decide +kernel), List.mem_of_getElem? (i := 534) (by decide +kernel)⟩
theorem lw_p14 : lw_okq (⟨"EelPermits$Lake", "nearestOffence", "(LEelPermits$Warden;)I"⟩, 11) := ⟨⟨by decide +kernel, by decide +kernel⟩, List.mem_of_getElem? (i := 26) (by decide +kernel), List.mem_of_getElem? (i := 537) (by decide +kernel), List.mem_of_getElem? (i := 538) (by decide +kernel)⟩
theorem lw_p15 : lw_okq (⟨"EelPermits$Lake", "hasOffender", "(I)Z"⟩, 11) := ⟨⟨by decide +kernel, by decide +kernel⟩, List.mem_of_getElem? (i := 26) (by decide +kernel), List.mem_of_getElem? (i := 541) (by decide +kernel), List.mem_of_getElem? (i := 542) (by decide +kernel)⟩
def lw_privs_1 : List (MethodName × Nat) := [(⟨"EelPermits$Lake", "eelsOfLake", "()I"⟩, 11), (⟨"EelPermits$Lake", "openHoles", "()I"⟩, 11), (⟨"EelPermits$Lake", "eelsOfSpearers", "()I"⟩, 11), (⟨"EelPermits$Lake", "finesOfSpearers", "()I"⟩, 11), (⟨"EelPermits", "digestOfCells", "(J)J"⟩, 2), (⟨"EelPermits$Lake", "spearersAt", "(I)I"⟩, 11), (⟨"EelPermits$Lake", "nearestWardenTo", "(LEelPermits$Hole;)I"⟩, 11), (⟨"EelPermits", "digestOfPeople", "(J)J"⟩, 2), (⟨"java/lang/Throwable", "fillInStackTrace", "(I)Ljava/lang/Throwable;"⟩, 6), (⟨"EelPermits$Lake", "lightLamps", "()V"⟩, 11), (⟨"EelPermits$Lake", "lure", "(LEelPermits$Hole;I)V"⟩, 11), (⟨"EelPermits$Lake", "moveEels", "(II)V"⟩, 11), (⟨"EelPermits$Lake", "spearEels", "()V"⟩, 11), (⟨"EelPermits$Lake", "sendWardens", "()V"⟩, 11), (⟨"EelPermits$Lake", "nearestOffence", "(LEelPermits$Warden;)I"⟩, 11), (⟨"EelPermits$Lake", "hasOffender", "(I)Z"⟩, 11)]
theorem lw_r1 : ∀ q ∈ lw_privs_1, lw_okq q := List.forall_mem_cons.mpr ⟨lw_p0, List.forall_mem_cons.mpr ⟨lw_p1, List.forall_mem_cons.mpr ⟨lw_p2, List.forall_mem_cons.mpr ⟨lw_p3, List.forall_mem_cons.mpr ⟨lw_p4, List.forall_mem_cons.mpr ⟨lw_p5, List.forall_mem_cons.mpr ⟨lw_p6, List.forall_mem_cons.mpr ⟨lw_p7, List.forall_mem_cons.mpr ⟨lw_p8, List.forall_mem_cons.mpr ⟨lw_p9, List.forall_mem_cons.mpr ⟨lw_p10, List.forall_mem_cons.mpr ⟨lw_p11, List.forall_mem_cons.mpr ⟨lw_p12, List.forall_mem_cons.mpr ⟨lw_p13, List.forall_mem_cons.mpr ⟨lw_p14, List.forall_mem_cons.mpr ⟨lw_p15, fun _ h => absurd h List.not_mem_nil⟩⟩⟩⟩⟩⟩⟩⟩⟩⟩⟩⟩⟩⟩⟩⟩
theorem lw_p16 : lw_okq (⟨"EelPermits$Lake", "fineAllAt", "(ILEelPermits$Warden;)V"⟩, 11) := ⟨⟨by decide +kernel, by decide +kernel⟩, List.mem_of_getElem? (i := 26) (by decide +kernel), List.mem_of_getElem? (i := 556) (by decide +kernel), List.mem_of_getElem? (i := 557) (by decide +kernel)⟩
theorem lw_p17 : lw_okq (⟨"EelPermits$Lake", "keepCatches", "()I"⟩, 11) := ⟨⟨by decide +kernel, by decide +kernel⟩, List.mem_of_getElem? (i := 26) (by decide +kernel), List.mem_of_getElem? (i := 560) (by decide +kernel), List.mem_of_getElem? (i := 561) (by decide +kernel)⟩
theorem lw_p18 : lw_okq (⟨"EelPermits$Lake", "breedEels", "()V"⟩, 11) := ⟨⟨by decide +kernel, by decide +kernel⟩, List.mem_of_getElem? (i := 26) (by decide +kernel), List.mem_of_getElem? (i := 564) (by decide +kernel), List.mem_of_getElem? (i := 565) (by decide +kernel)⟩
theorem lw_p19 : lw_okq (⟨"EelPermits$Lake", "freeze", "()V"⟩, 11) := ⟨⟨by decide +kernel, by decide +kernel⟩, List.mem_of_getElem? (i := 26) (by decide +kernel), List.mem_of_getElem? (i := 568) (by decide +kernel), List.mem_of_getElem? (i := 569) (by decide +kernel)⟩
theorem lw_p20 : lw_okq (⟨"EelPermits$Lake", "closeAllHoles", "()V"⟩, 11) := ⟨⟨by decide +kernel, by decide +kernel⟩, List.mem_of_getElem? (i := 26) (by decide +kernel), List.mem_of_getElem? (i := 574) (by decide +kernel), List.mem_of_getElem? (i := 575) (by decide +kernel)⟩
theorem lw_p21 : lw_okq (⟨"EelPermits$Lake", "closeEmptyHoles", "()V"⟩, 11) := ⟨⟨by decide +kernel, by decide +kernel⟩, List.mem_of_getElem? (i := 26) (by decide +kernel), List.mem_of_getElem? (i := 578) (by decide +kernel), List.mem_of_getElem? (i := 579) (by decide +kernel)⟩
theorem lw_p22 : lw_okq (⟨"EelPermits", "eelsIfAt", "(II)I"⟩, 2) := ⟨⟨by decide +kernel, by decide +kernel⟩, List.mem_of_getElem? (i := 18) (by decide +kernel), List.mem_of_getElem? (i := 616) (by decide +kernel), List.mem_of_getElem? (i := 617) (by decide +kernel)⟩
theorem lw_p23 : lw_okq (⟨"EelPermitsModel", "no", "(I)I"⟩, 13) := ⟨⟨by decide +kernel, by decide +kernel⟩, List.mem_of_getElem? (i := 620) (by decide +kernel), List.mem_of_getElem? (i := 744) (by decide +kernel), List.mem_of_getElem? (i := 745) (by decide +kernel)⟩
theorem lw_p24 : lw_okq (⟨"EelPermitsModel", "holeIn", "(I)I"⟩, 13) := ⟨⟨by decide +kernel, by decide +kernel⟩, List.mem_of_getElem? (i := 620) (by decide +kernel), List.mem_of_getElem? (i := 756) (by decide +kernel), List.mem_of_getElem? (i := 757) (by decide +kernel)⟩
theorem lw_p25 : lw_okq (⟨"EelPermitsModel", "cellOf", "(I)I"⟩, 13) := ⟨⟨by decide +kernel, by decide +kernel⟩, List.mem_of_getElem? (i := 620) (by decide +kernel), List.mem_of_getElem? (i := 760) (by decide +kernel), List.mem_of_getElem? (i := 761) (by decide +kernel)⟩
theorem lw_p26 : lw_okq (⟨"EelPermitsModel", "isSpearer", "(I)Z"⟩, 13) := ⟨⟨by decide +kernel, by decide +kernel⟩, List.mem_of_getElem? (i := 620) (by decide +kernel), List.mem_of_getElem? (i := 772) (by decide +kernel), List.mem_of_getElem? (i := 773) (by decide +kernel)⟩
theorem lw_p27 : lw_okq (⟨"EelPermitsModel", "isHole", "(I)Z"⟩, 13) := ⟨⟨by decide +kernel, by decide +kernel⟩, List.mem_of_getElem? (i := 620) (by decide +kernel), List.mem_of_getElem? (i := 776) (by decide +kernel), List.mem_of_getElem? (i := 777) (by decide +kernel)⟩
theorem lw_p28 : lw_okq (⟨"EelPermitsModel", "cellTold", "(II)I"⟩, 13) := ⟨⟨by decide +kernel, by decide +kernel⟩, List.mem_of_getElem? (i := 620) (by decide +kernel), List.mem_of_getElem? (i := 788) (by decide +kernel), List.mem_of_getElem? (i := 789) (by decide +kernel)⟩
theorem lw_p29 : lw_okq (⟨"EelPermitsModel", "holeTold", "(II)I"⟩, 13) := ⟨⟨by decide +kernel, by decide +kernel⟩, List.mem_of_getElem? (i := 620) (by decide +kernel), List.mem_of_getElem? (i := 802) (by decide +kernel), List.mem_of_getElem? (i := 803) (by decide +kernel)⟩
theorem lw_p30 : lw_okq (⟨"EelPermitsModel", "nearest", "(I)I"⟩, 13) := ⟨⟨by decide +kernel, by decide +kernel⟩, List.mem_of_getElem? (i := 620) (by decide +kernel), List.mem_of_getElem? (i := 810) (by decide +kernel), List.mem_of_getElem? (i := 811) (by decide +kernel)⟩
theorem lw_p31 : lw_okq (⟨"EelPermitsModel", "spearerTold", "(II)I"⟩, 13) := ⟨⟨by decide +kernel, by decide +kernel⟩, List.mem_of_getElem? (i := 620) (by decide +kernel), List.mem_of_getElem? (i := 827) (by decide +kernel), List.mem_of_getElem? (i := 828) (by decide +kernel)⟩
def lw_privs_2 : List (MethodName × Nat) := [(⟨"EelPermits$Lake", "fineAllAt", "(ILEelPermits$Warden;)V"⟩, 11), (⟨"EelPermits$Lake", "keepCatches", "()I"⟩, 11), (⟨"EelPermits$Lake", "breedEels", "()V"⟩, 11), (⟨"EelPermits$Lake", "freeze", "()V"⟩, 11), (⟨"EelPermits$Lake", "closeAllHoles", "()V"⟩, 11), (⟨"EelPermits$Lake", "closeEmptyHoles", "()V"⟩, 11), (⟨"EelPermits", "eelsIfAt", "(II)I"⟩, 2), (⟨"EelPermitsModel", "no", "(I)I"⟩, 13), (⟨"EelPermitsModel", "holeIn", "(I)I"⟩, 13), (⟨"EelPermitsModel", "cellOf", "(I)I"⟩, 13), (⟨"EelPermitsModel", "isSpearer", "(I)Z"⟩, 13), (⟨"EelPermitsModel", "isHole", "(I)Z"⟩, 13), (⟨"EelPermitsModel", "cellTold", "(II)I"⟩, 13), (⟨"EelPermitsModel", "holeTold", "(II)I"⟩, 13), (⟨"EelPermitsModel", "nearest", "(I)I"⟩, 13), (⟨"EelPermitsModel", "spearerTold", "(II)I"⟩, 13)]
theorem lw_r2 : ∀ q ∈ lw_privs_2, lw_okq q := List.forall_mem_cons.mpr ⟨lw_p16, List.forall_mem_cons.mpr ⟨lw_p17, List.forall_mem_cons.mpr ⟨lw_p18, List.forall_mem_cons.mpr ⟨lw_p19, List.forall_mem_cons.mpr ⟨lw_p20, List.forall_mem_cons.mpr ⟨lw_p21, List.forall_mem_cons.mpr ⟨lw_p22, List.forall_mem_cons.mpr ⟨lw_p23, List.forall_mem_cons.mpr ⟨lw_p24, List.forall_mem_cons.mpr ⟨lw_p25, List.forall_mem_cons.mpr ⟨lw_p26, List.forall_mem_cons.mpr ⟨lw_p27, List.forall_mem_cons.mpr ⟨lw_p28, List.forall_mem_cons.mpr ⟨lw_p29, List.forall_mem_cons.mpr ⟨lw_p30, List.forall_mem_cons.mpr ⟨lw_p31, fun _ h => absurd h List.not_mem_nil⟩⟩⟩⟩⟩⟩⟩⟩⟩⟩⟩⟩⟩⟩⟩⟩
theorem lw_p32 : lw_okq (⟨"EelPermitsModel", "wardenTold", "(II)I"⟩, 13) := ⟨⟨by decide +kernel, by decide +kernel⟩, List.mem_of_getElem? (i := 620) (by decide +kernel), List.mem_of_getElem? (i := 835) (by decide +kernel), List.mem_of_getElem? (i := 836) (by decide +kernel)⟩
theorem lw_p33 : lw_okq (⟨"EelPermitsModel$State", "sum", "([II)I"⟩, 12) := ⟨⟨by decide +kernel, by decide +kernel⟩, List.mem_of_getElem? (i := 626) (by decide +kernel), List.mem_of_getElem? (i := 847) (by decide +kernel), List.mem_of_getElem? (i := 848) (by decide +kernel)⟩
theorem lw_p34 : lw_okq (⟨"EelPermitsModel$State", "lure", "(I)V"⟩, 12) := ⟨⟨by decide +kernel, by decide +kernel⟩, List.mem_of_getElem? (i := 626) (by decide +kernel), List.mem_of_getElem? (i := 863) (by decide +kernel), List.mem_of_getElem? (i := 864) (by decide +kernel)⟩
theorem lw_p35 : lw_okq (⟨"EelPermitsModel$State", "spear", "(I)V"⟩, 12) := ⟨⟨by decide +kernel, by decide +kernel⟩, List.mem_of_getElem? (i := 626) (by decide +kernel), List.mem_of_getElem? (i := 867) (by decide +kernel), List.mem_of_getElem? (i := 868) (by decide +kernel)⟩
theorem lw_p36 : lw_okq (⟨"EelPermitsModel$State", "guard", "(I)V"⟩, 12) := ⟨⟨by decide +kernel, by decide +kernel⟩, List.mem_of_getElem? (i := 626) (by decide +kernel), List.mem_of_getElem? (i := 873) (by decide +kernel), List.mem_of_getElem? (i := 874) (by decide +kernel)⟩
theorem lw_p37 : lw_okq (⟨"EelPermitsModel$State", "goal", "(I)I"⟩, 12) := ⟨⟨by decide +kernel, by decide +kernel⟩, List.mem_of_getElem? (i := 626) (by decide +kernel), List.mem_of_getElem? (i := 877) (by decide +kernel), List.mem_of_getElem? (i := 878) (by decide +kernel)⟩
theorem lw_p38 : lw_okq (⟨"EelPermitsModel$State", "isOver", "(II)Z"⟩, 12) := ⟨⟨by decide +kernel, by decide +kernel⟩, List.mem_of_getElem? (i := 626) (by decide +kernel), List.mem_of_getElem? (i := 881) (by decide +kernel), List.mem_of_getElem? (i := 882) (by decide +kernel)⟩
theorem lw_p39 : lw_okq (⟨"EelPermitsModel$State", "freeze", "()V"⟩, 12) := ⟨⟨by decide +kernel, by decide +kernel⟩, List.mem_of_getElem? (i := 626) (by decide +kernel), List.mem_of_getElem? (i := 890) (by decide +kernel), List.mem_of_getElem? (i := 891) (by decide +kernel)⟩
theorem lw_p40 : lw_okq (⟨"EelPermitsModel$State", "copy", "([I[I)V"⟩, 12) := ⟨⟨by decide +kernel, by decide +kernel⟩, List.mem_of_getElem? (i := 626) (by decide +kernel), List.mem_of_getElem? (i := 908) (by decide +kernel), List.mem_of_getElem? (i := 909) (by decide +kernel)⟩
def lw_privs_3 : List (MethodName × Nat) := [(⟨"EelPermitsModel", "wardenTold", "(II)I"⟩, 13), (⟨"EelPermitsModel$State", "sum", "([II)I"⟩, 12), (⟨"EelPermitsModel$State", "lure", "(I)V"⟩, 12), (⟨"EelPermitsModel$State", "spear", "(I)V"⟩, 12), (⟨"EelPermitsModel$State", "guard", "(I)V"⟩, 12), (⟨"EelPermitsModel$State", "goal", "(I)I"⟩, 12), (⟨"EelPermitsModel$State", "isOver", "(II)Z"⟩, 12), (⟨"EelPermitsModel$State", "freeze", "()V"⟩, 12), (⟨"EelPermitsModel$State", "copy", "([I[I)V"⟩, 12)]
theorem lw_r3 : ∀ q ∈ lw_privs_3, lw_okq q := List.forall_mem_cons.mpr ⟨lw_p32, List.forall_mem_cons.mpr ⟨lw_p33, List.forall_mem_cons.mpr ⟨lw_p34, List.forall_mem_cons.mpr ⟨lw_p35, List.forall_mem_cons.mpr ⟨lw_p36, List.forall_mem_cons.mpr ⟨lw_p37, List.forall_mem_cons.mpr ⟨lw_p38, List.forall_mem_cons.mpr ⟨lw_p39, List.forall_mem_cons.mpr ⟨lw_p40, fun _ h => absurd h List.not_mem_nil⟩⟩⟩⟩⟩⟩⟩⟩⟩
def lw_privs : List (MethodName × Nat) := lw_privs_1 ++ (lw_privs_2 ++ (lw_privs_3))
def lw_tbl : List Cond := k2_sels lw_privs ++ tables_1
theorem lw_privs_ok : ∀ q ∈ lw_privs, lw_okq q := by
  show ∀ q ∈ lw_privs_1 ++ (lw_privs_2 ++ (lw_privs_3)), lw_okq q
  exact List.forall_mem_append.mpr ⟨lw_r1, List.forall_mem_append.mpr ⟨lw_r2, lw_r3⟩⟩
/-- the streams that the claim lets the run draw from -/
abbrev lw_cs : List Choice := [Jvm.Choice.named "NaN.bits"]
theorem lw_bits : nanBits ∈ lw_cs := by first | decide | exact List.mem_cons_self | simp [lw_cs, nanBits]
/-- the tables' words that pass to any callee -/
def LG : List Cond := lw_tbl.filter goodWord
theorem LG_in {w : Cond} (i : Nat) (h : lw_tbl[i]? = some w) (g : goodWord w = true) : w ∈ LG := List.mem_filter.mpr ⟨List.mem_of_getElem? h, g⟩
theorem LG_self : GoodIn LG LG := fun w h => ⟨h, good_of_word (List.mem_filter.mp h).2⟩
theorem LG_of {args : Array Value} {s : State} (hts : ∀ w ∈ lw_tbl, w.before args s = true) : ∀ w ∈ LG, w.before args s = true := fun w h => hts w (List.mem_filter.mp h).1
def wy (y : MethodName) (b : ByteArray) (n : Nat) (ret : Option FieldType) : List Cond := .code y b n ret :: LG
theorem LG_y {y : MethodName} {b : ByteArray} {n : Nat} {ret : Option FieldType} (h : Cond.code y b n ret ∈ LG) : GoodIn LG (wy y b n ret) := fun w hw => (List.mem_cons.mp hw).elim (fun e => by rw [e]; exact LG_self _ h) (LG_self w)
theorem LG_V {own C : String} {idx : Nat} {y : MethodName} {b : ByteArray} {n : Nat} {ret : Option FieldType} (h1 : Cond.methodLink own idx y ∈ LG) (h2 : Cond.instanceMethod y ∈ LG) (h3 : Cond.selects C y y ∈ LG) (h4 : Cond.initialized C ∈ LG) (h5 : Cond.code y b n ret ∈ LG) : GoodIn LG (wsV own idx C y (wy y b n ret)) := by
  intro w hw
  unfold wsV at hw
  rcases List.mem_append.mp hw with hw | hw
  · simp only [List.mem_cons, List.not_mem_nil, or_false] at hw
    rcases hw with rfl | rfl | rfl | rfl
    · exact LG_self _ h1
    · exact LG_self _ h2
    · exact LG_self _ h3
    · exact LG_self _ h4
  · exact LG_y h5 w hw
theorem LG_S {own : String} {idx : Nat} {y : MethodName} {b : ByteArray} {n : Nat} {ret : Option FieldType} (h1 : Cond.methodLink own idx y ∈ LG) (h2 : Cond.static y ∈ LG) (h4 : Cond.initialized y.cls ∈ LG) (h5 : Cond.code y b n ret ∈ LG) : GoodIn LG (va_wsS own idx y (wy y b n ret)) := by
  intro w hw
  unfold va_wsS at hw
  rcases List.mem_append.mp hw with hw | hw
  · simp only [List.mem_cons, List.not_mem_nil, or_false] at hw
    rcases hw with rfl | rfl | rfl
    · exact LG_self _ h1
    · exact LG_self _ h2
    · exact LG_self _ h4
  · exact LG_y h5 w hw
end
section
-- printed by the TURN of the program itself (claim/NAMES.whole.lean.txt): names, fields, codes
def RX0 : String := "EelPermits$Hole"
def TX0 : u_T := fun k => match k with
  | 0 => ("EelPermits$Hole", "x", "I", false)
  | 1 => ("EelPermits$Hole", "y", "I", false)
  | _ => ("EelPermits$Hole", "open", "Z", false)
def tyX0 : Nat → FieldType := fun k => match k with
  | 0 => .int
  | 1 => .int
  | _ => .boolean
abbrev wsX00 : List Cond := u_ws RX0 TX0 3
theorem nmX0 : ∀ a, a < 3 → ∀ b, b < 3 → a ≠ b → (TX0 a).2.1 ≠ (TX0 b).2.1 := by decide +kernel
theorem tyX0_ok : ∀ k, k < 3 → parseFieldDescriptor (TX0 k).2.2.1 = some (tyX0 k) := by decide +kernel
abbrev cX0_init : ByteArray := prog_2_method_1_code
def yX0_init : MethodName := ⟨RX0, "<init>", "()V"⟩
abbrev cX0_become : ByteArray := prog_2_method_2_code
def yX0_become : MethodName := ⟨RX0, "become", "(LEelPermits$Hole;)V"⟩
def RX1 : String := "EelPermits$Lake"
def TX1 : u_T := fun k => match k with
  | 0 => ("EelPermits$Lake", "eels", "[I", true)
  | 1 => ("EelPermits$Lake", "mud", "[I", true)
  | 2 => ("EelPermits$Lake", "frost", "[I", true)
  | 3 => ("EelPermits$Lake", "holes", "[LEelPermits$Hole;", true)
  | 4 => ("EelPermits$Lake", "spearers", "[LEelPermits$Spearer;", true)
  | 5 => ("EelPermits$Lake", "wardens", "[LEelPermits$Warden;", true)
  | 6 => ("EelPermits$Lake", "holeCount", "I", false)
  | 7 => ("EelPermits$Lake", "spearerCount", "I", false)
  | 8 => ("EelPermits$Lake", "wardenCount", "I", false)
  | 9 => ("EelPermits$Lake", "ice", "I", false)
  | _ => ("EelPermits$Lake", "night", "I", false)
def tyX1 : Nat → FieldType := fun k => match k with
  | 0 => .array .int
  | 1 => .array .int
  | 2 => .array .int
  | 3 => .array (.object "EelPermits$Hole")
  | 4 => .array (.object "EelPermits$Spearer")
  | 5 => .array (.object "EelPermits$Warden")
  | 6 => .int
  | 7 => .int
  | 8 => .int
  | 9 => .int
  | _ => .int
abbrev wsX10 : List Cond := u_ws RX1 TX1 11
theorem nmX1 : ∀ a, a < 11 → ∀ b, b < 11 → a ≠ b → (TX1 a).2.1 ≠ (TX1 b).2.1 := by decide +kernel
theorem tyX1_ok : ∀ k, k < 11 → parseFieldDescriptor (TX1 k).2.2.1 = some (tyX1 k) := by decide +kernel
abbrev cX1_init : ByteArray := prog_3_method_1_code
def yX1_init : MethodName := ⟨RX1, "<init>", "()V"⟩
abbrev cX1_become : ByteArray := prog_3_method_2_code
def yX1_become : MethodName := ⟨RX1, "become", "(LEelPermits$Lake;)V"⟩
abbrev cX1_hasHole : ByteArray := prog_3_method_3_code
def yX1_hasHole : MethodName := ⟨RX1, "hasHole", "(I)Z"⟩
abbrev cX1_hasSpearer : ByteArray := prog_3_method_4_code
def yX1_hasSpearer : MethodName := ⟨RX1, "hasSpearer", "(I)Z"⟩
abbrev cX1_hasWarden : ByteArray := prog_3_method_5_code
def yX1_hasWarden : MethodName := ⟨RX1, "hasWarden", "(I)Z"⟩
abbrev cX1_addHole : ByteArray := prog_3_method_6_code
def yX1_addHole : MethodName := ⟨RX1, "addHole", "(II)I"⟩
abbrev cX1_addSpearer : ByteArray := prog_3_method_7_code
def yX1_addSpearer : MethodName := ⟨RX1, "addSpearer", "(II)I"⟩
abbrev cX1_addWarden : ByteArray := prog_3_method_8_code
def yX1_addWarden : MethodName := ⟨RX1, "addWarden", "(III)I"⟩
abbrev cX1_openHoleIn : ByteArray := prog_3_method_9_code
def yX1_openHoleIn : MethodName := ⟨RX1, "openHoleIn", "(II)I"⟩
abbrev cX1_frostOf : ByteArray := prog_3_method_10_code
def yX1_frostOf : MethodName := ⟨RX1, "frostOf", "(I)I"⟩
abbrev cX1_catchIn : ByteArray := prog_3_method_11_code
def yX1_catchIn : MethodName := ⟨RX1, "catchIn", "(I)I"⟩
abbrev cX1_cellFact : ByteArray := prog_3_method_12_code
def yX1_cellFact : MethodName := ⟨RX1, "cellFact", "(III)I"⟩
abbrev cX1_holeFact : ByteArray := prog_3_method_13_code
def yX1_holeFact : MethodName := ⟨RX1, "holeFact", "(II)I"⟩
abbrev cX1_fact : ByteArray := prog_3_method_14_code
def yX1_fact : MethodName := ⟨RX1, "fact", "(I)I"⟩
abbrev cX1_spearersAt : ByteArray := prog_3_method_15_code
def yX1_spearersAt : MethodName := ⟨RX1, "spearersAt", "(I)I"⟩
abbrev cX1_nearestWardenTo : ByteArray := prog_3_method_16_code
def yX1_nearestWardenTo : MethodName := ⟨RX1, "nearestWardenTo", "(LEelPermits$Hole;)I"⟩
abbrev cX1_eelsOfLake : ByteArray := prog_3_method_17_code
def yX1_eelsOfLake : MethodName := ⟨RX1, "eelsOfLake", "()I"⟩
abbrev cX1_openHoles : ByteArray := prog_3_method_18_code
def yX1_openHoles : MethodName := ⟨RX1, "openHoles", "()I"⟩
abbrev cX1_eelsOfSpearers : ByteArray := prog_3_method_19_code
def yX1_eelsOfSpearers : MethodName := ⟨RX1, "eelsOfSpearers", "()I"⟩
abbrev cX1_finesOfSpearers : ByteArray := prog_3_method_20_code
def yX1_finesOfSpearers : MethodName := ⟨RX1, "finesOfSpearers", "()I"⟩
abbrev cX1_letNightsGo : ByteArray := prog_3_method_21_code
def yX1_letNightsGo : MethodName := ⟨RX1, "letNightsGo", "(I)I"⟩
abbrev cX1_lightLamps : ByteArray := prog_3_method_22_code
def yX1_lightLamps : MethodName := ⟨RX1, "lightLamps", "()V"⟩
abbrev cX1_lure : ByteArray := prog_3_method_23_code
def yX1_lure : MethodName := ⟨RX1, "lure", "(LEelPermits$Hole;I)V"⟩
abbrev cX1_moveEels : ByteArray := prog_3_method_24_code
def yX1_moveEels : MethodName := ⟨RX1, "moveEels", "(II)V"⟩
abbrev cX1_spearEels : ByteArray := prog_3_method_25_code
def yX1_spearEels : MethodName := ⟨RX1, "spearEels", "()V"⟩
abbrev cX1_sendWardens : ByteArray := prog_3_method_26_code
def yX1_sendWardens : MethodName := ⟨RX1, "sendWardens", "()V"⟩
abbrev cX1_nearestOffence : ByteArray := prog_3_method_27_code
def yX1_nearestOffence : MethodName := ⟨RX1, "nearestOffence", "(LEelPermits$Warden;)I"⟩
abbrev cX1_hasOffender : ByteArray := prog_3_method_28_code
def yX1_hasOffender : MethodName := ⟨RX1, "hasOffender", "(I)Z"⟩
abbrev cX1_fineAllAt : ByteArray := prog_3_method_29_code
def yX1_fineAllAt : MethodName := ⟨RX1, "fineAllAt", "(ILEelPermits$Warden;)V"⟩
abbrev cX1_keepCatches : ByteArray := prog_3_method_30_code
def yX1_keepCatches : MethodName := ⟨RX1, "keepCatches", "()I"⟩
abbrev cX1_breedEels : ByteArray := prog_3_method_31_code
def yX1_breedEels : MethodName := ⟨RX1, "breedEels", "()V"⟩
abbrev cX1_freeze : ByteArray := prog_3_method_32_code
def yX1_freeze : MethodName := ⟨RX1, "freeze", "()V"⟩
abbrev cX1_closeAllHoles : ByteArray := prog_3_method_33_code
def yX1_closeAllHoles : MethodName := ⟨RX1, "closeAllHoles", "()V"⟩
abbrev cX1_closeEmptyHoles : ByteArray := prog_3_method_34_code
def yX1_closeEmptyHoles : MethodName := ⟨RX1, "closeEmptyHoles", "()V"⟩
def RX2 : String := "EelPermits$Spearer"
def TX2 : u_T := fun k => match k with
  | 0 => ("EelPermits$Spearer", "permit", "I", false)
  | 1 => ("EelPermits$Spearer", "light", "I", false)
  | 2 => ("EelPermits$Spearer", "hole", "I", false)
  | 3 => ("EelPermits$Spearer", "caught", "I", false)
  | 4 => ("EelPermits$Spearer", "eels", "I", false)
  | _ => ("EelPermits$Spearer", "fines", "I", false)
def tyX2 : Nat → FieldType := fun k => match k with
  | 0 => .int
  | 1 => .int
  | 2 => .int
  | 3 => .int
  | 4 => .int
  | _ => .int
abbrev wsX20 : List Cond := u_ws RX2 TX2 6
theorem nmX2 : ∀ a, a < 6 → ∀ b, b < 6 → a ≠ b → (TX2 a).2.1 ≠ (TX2 b).2.1 := by decide +kernel
theorem tyX2_ok : ∀ k, k < 6 → parseFieldDescriptor (TX2 k).2.2.1 = some (tyX2 k) := by decide +kernel
abbrev cX2_init : ByteArray := prog_4_method_1_code
def yX2_init : MethodName := ⟨RX2, "<init>", "()V"⟩
abbrev cX2_become : ByteArray := prog_4_method_2_code
def yX2_become : MethodName := ⟨RX2, "become", "(LEelPermits$Spearer;)V"⟩
abbrev cX2_tookTooMuch : ByteArray := prog_4_method_3_code
def yX2_tookTooMuch : MethodName := ⟨RX2, "tookTooMuch", "()Z"⟩
abbrev cX2_tell : ByteArray := prog_4_method_4_code
def yX2_tell : MethodName := ⟨RX2, "tell", "(I)I"⟩
def RX3 : String := "EelPermits$Warden"
def TX3 : u_T := fun k => match k with
  | 0 => ("EelPermits$Warden", "x", "I", false)
  | 1 => ("EelPermits$Warden", "y", "I", false)
  | 2 => ("EelPermits$Warden", "pace", "I", false)
  | _ => ("EelPermits$Warden", "fines", "I", false)
def tyX3 : Nat → FieldType := fun k => match k with
  | 0 => .int
  | 1 => .int
  | 2 => .int
  | _ => .int
abbrev wsX30 : List Cond := u_ws RX3 TX3 4
theorem nmX3 : ∀ a, a < 4 → ∀ b, b < 4 → a ≠ b → (TX3 a).2.1 ≠ (TX3 b).2.1 := by decide +kernel
theorem tyX3_ok : ∀ k, k < 4 → parseFieldDescriptor (TX3 k).2.2.1 = some (tyX3 k) := by decide +kernel
abbrev cX3_init : ByteArray := prog_5_method_1_code
def yX3_init : MethodName := ⟨RX3, "<init>", "()V"⟩
abbrev cX3_become : ByteArray := prog_5_method_2_code
def yX3_become : MethodName := ⟨RX3, "become", "(LEelPermits$Warden;)V"⟩
abbrev cX3_goTowards : ByteArray := prog_5_method_3_code
def yX3_goTowards : MethodName := ⟨RX3, "goTowards", "(LEelPermits$Hole;)V"⟩
abbrev cX3_tell : ByteArray := prog_5_method_4_code
def yX3_tell : MethodName := ⟨RX3, "tell", "(I)I"⟩
def RX4 : String := "EelPermits"
def TX4 : u_T := fun k => match k with
  | 0 => ("EelPermits", "lake", "LEelPermits$Lake;", true)
  | _ => ("EelPermits", "draft", "LEelPermits$Lake;", true)
def tyX4 : Nat → FieldType := fun k => match k with
  | 0 => .object "EelPermits$Lake"
  | _ => .object "EelPermits$Lake"
abbrev wsX40 : List Cond := u_ws RX4 TX4 2
theorem nmX4 : ∀ a, a < 2 → ∀ b, b < 2 → a ≠ b → (TX4 a).2.1 ≠ (TX4 b).2.1 := by decide +kernel
theorem tyX4_ok : ∀ k, k < 2 → parseFieldDescriptor (TX4 k).2.2.1 = some (tyX4 k) := by decide +kernel
abbrev cX4_init : ByteArray := prog_1_method_1_code
def yX4_init : MethodName := ⟨RX4, "<init>", "()V"⟩
abbrev cX4_set : ByteArray := prog_1_method_2_code
def yX4_set : MethodName := ⟨RX4, "set", "(IIII)I"⟩
abbrev cX4_setFrost : ByteArray := prog_1_method_3_code
def yX4_setFrost : MethodName := ⟨RX4, "setFrost", "(II)I"⟩
abbrev cX4_cut : ByteArray := prog_1_method_4_code
def yX4_cut : MethodName := ⟨RX4, "cut", "(II)I"⟩
abbrev cX4_license : ByteArray := prog_1_method_5_code
def yX4_license : MethodName := ⟨RX4, "license", "(II)I"⟩
abbrev cX4_go : ByteArray := prog_1_method_6_code
def yX4_go : MethodName := ⟨RX4, "go", "(II)I"⟩
abbrev cX4_warden : ByteArray := prog_1_method_7_code
def yX4_warden : MethodName := ⟨RX4, "warden", "(III)I"⟩
abbrev cX4_cell : ByteArray := prog_1_method_8_code
def yX4_cell : MethodName := ⟨RX4, "cell", "(III)I"⟩
abbrev cX4_hole : ByteArray := prog_1_method_9_code
def yX4_hole : MethodName := ⟨RX4, "hole", "(II)I"⟩
abbrev cX4_spearer : ByteArray := prog_1_method_10_code
def yX4_spearer : MethodName := ⟨RX4, "spearer", "(II)I"⟩
abbrev cX4_about : ByteArray := prog_1_method_11_code
def yX4_about : MethodName := ⟨RX4, "about", "(II)I"⟩
abbrev cX4_count : ByteArray := prog_1_method_12_code
def yX4_count : MethodName := ⟨RX4, "count", "(I)I"⟩
abbrev cX4_pass : ByteArray := prog_1_method_13_code
def yX4_pass : MethodName := ⟨RX4, "pass", "(I)I"⟩
abbrev cX4_bears : ByteArray := prog_1_method_14_code
def yX4_bears : MethodName := ⟨RX4, "bears", "()I"⟩
abbrev cX4_foresee : ByteArray := prog_1_method_15_code
def yX4_foresee : MethodName := ⟨RX4, "foresee", "(II)I"⟩
abbrev cX4_advise : ByteArray := prog_1_method_16_code
def yX4_advise : MethodName := ⟨RX4, "advise", "(I)I"⟩
abbrev cX4_mean : ByteArray := prog_1_method_17_code
def yX4_mean : MethodName := ⟨RX4, "mean", "()D"⟩
abbrev cX4_digest : ByteArray := prog_1_method_18_code
def yX4_digest : MethodName := ⟨RX4, "digest", "()J"⟩
abbrev cX4_digestOfCells : ByteArray := prog_1_method_19_code
def yX4_digestOfCells : MethodName := ⟨RX4, "digestOfCells", "(J)J"⟩
abbrev cX4_digestOfPeople : ByteArray := prog_1_method_20_code
def yX4_digestOfPeople : MethodName := ⟨RX4, "digestOfPeople", "(J)J"⟩
abbrev cX4_eelsIfAt : ByteArray := prog_1_method_21_code
def yX4_eelsIfAt : MethodName := ⟨RX4, "eelsIfAt", "(II)I"⟩
abbrev cX4_mixed : ByteArray := prog_1_method_22_code
def yX4_mixed : MethodName := ⟨RX4, "mixed", "(JI)J"⟩
abbrev cX4_isForeseen : ByteArray := prog_1_method_23_code
def yX4_isForeseen : MethodName := ⟨RX4, "isForeseen", "(I)Z"⟩
abbrev cX4_isWithin : ByteArray := prog_1_method_24_code
def yX4_isWithin : MethodName := ⟨RX4, "isWithin", "(III)Z"⟩
abbrev cX4_isCell : ByteArray := prog_1_method_25_code
def yX4_isCell : MethodName := ⟨RX4, "isCell", "(II)Z"⟩
abbrev cX4_cellAt : ByteArray := prog_1_method_26_code
def yX4_cellAt : MethodName := ⟨RX4, "cellAt", "(II)I"⟩
abbrev cX4_distance : ByteArray := prog_1_method_27_code
def yX4_distance : MethodName := ⟨RX4, "distance", "(IIII)I"⟩
abbrev cX4_iceBears : ByteArray := prog_1_method_28_code
def yX4_iceBears : MethodName := ⟨RX4, "iceBears", "(I)Z"⟩
abbrev cX4_iceBehind : ByteArray := prog_1_method_29_code
def yX4_iceBehind : MethodName := ⟨RX4, "iceBehind", "(II)I"⟩
def RX5 : String := "EelPermitsModel$State"
def TX5 : u_T := fun k => match k with
  | 0 => ("EelPermitsModel$State", "night", "I", false)
  | 1 => ("EelPermitsModel$State", "ice", "I", false)
  | 2 => ("EelPermitsModel$State", "eels", "[I", true)
  | 3 => ("EelPermitsModel$State", "open", "[I", true)
  | 4 => ("EelPermitsModel$State", "at", "[I", true)
  | 5 => ("EelPermitsModel$State", "caught", "[I", true)
  | 6 => ("EelPermitsModel$State", "all", "[I", true)
  | 7 => ("EelPermitsModel$State", "fines", "[I", true)
  | 8 => ("EelPermitsModel$State", "wardenX", "[I", true)
  | 9 => ("EelPermitsModel$State", "wardenY", "[I", true)
  | 10 => ("EelPermitsModel$State", "given", "[I", true)
  | _ => ("EelPermitsModel$State", "this$0", "LEelPermitsModel;", true)
def tyX5 : Nat → FieldType := fun k => match k with
  | 0 => .int
  | 1 => .int
  | 2 => .array .int
  | 3 => .array .int
  | 4 => .array .int
  | 5 => .array .int
  | 6 => .array .int
  | 7 => .array .int
  | 8 => .array .int
  | 9 => .array .int
  | 10 => .array .int
  | _ => .object "EelPermitsModel"
abbrev wsX50 : List Cond := u_ws RX5 TX5 12
theorem nmX5 : ∀ a, a < 12 → ∀ b, b < 12 → a ≠ b → (TX5 a).2.1 ≠ (TX5 b).2.1 := by decide +kernel
theorem tyX5_ok : ∀ k, k < 12 → parseFieldDescriptor (TX5 k).2.2.1 = some (tyX5 k) := by decide +kernel
abbrev cX5_init : ByteArray := prog_8_method_1_code
def yX5_init : MethodName := ⟨RX5, "<init>", "(LEelPermitsModel;)V"⟩
abbrev cX5_copy : ByteArray := prog_8_method_2_code
def yX5_copy : MethodName := ⟨RX5, "copy", "([I[I)V"⟩
abbrev cX5_become : ByteArray := prog_8_method_3_code
def yX5_become : MethodName := ⟨RX5, "become", "(LEelPermitsModel$State;)V"⟩
abbrev cX5_lure : ByteArray := prog_8_method_4_code
def yX5_lure : MethodName := ⟨RX5, "lure", "(I)V"⟩
abbrev cX5_would : ByteArray := prog_8_method_5_code
def yX5_would : MethodName := ⟨RX5, "would", "(I)I"⟩
abbrev cX5_spear : ByteArray := prog_8_method_6_code
def yX5_spear : MethodName := ⟨RX5, "spear", "(I)V"⟩
abbrev cX5_isOver : ByteArray := prog_8_method_7_code
def yX5_isOver : MethodName := ⟨RX5, "isOver", "(II)Z"⟩
abbrev cX5_goal : ByteArray := prog_8_method_8_code
def yX5_goal : MethodName := ⟨RX5, "goal", "(I)I"⟩
abbrev cX5_farFrom : ByteArray := prog_8_method_9_code
def yX5_farFrom : MethodName := ⟨RX5, "farFrom", "(II)I"⟩
abbrev cX5_guard : ByteArray := prog_8_method_10_code
def yX5_guard : MethodName := ⟨RX5, "guard", "(I)V"⟩
abbrev cX5_spearersAt : ByteArray := prog_8_method_11_code
def yX5_spearersAt : MethodName := ⟨RX5, "spearersAt", "(I)I"⟩
abbrev cX5_freeze : ByteArray := prog_8_method_12_code
def yX5_freeze : MethodName := ⟨RX5, "freeze", "()V"⟩
abbrev cX5_pass : ByteArray := prog_8_method_13_code
def yX5_pass : MethodName := ⟨RX5, "pass", "()I"⟩
abbrev cX5_pass_ : ByteArray := prog_8_method_14_code
def yX5_pass_ : MethodName := ⟨RX5, "pass", "(I)I"⟩
abbrev cX5_sum : ByteArray := prog_8_method_15_code
def yX5_sum : MethodName := ⟨RX5, "sum", "([II)I"⟩
abbrev cX5_count : ByteArray := prog_8_method_16_code
def yX5_count : MethodName := ⟨RX5, "count", "(I)I"⟩
def RX6 : String := "EelPermitsModel"
def TX6 : u_T := fun k => match k with
  | 0 => ("EelPermitsModel", "thrown", "I", false)
  | 1 => ("EelPermitsModel", "mud", "[I", true)
  | 2 => ("EelPermitsModel", "frost", "[I", true)
  | 3 => ("EelPermitsModel", "holes", "I", false)
  | 4 => ("EelPermitsModel", "holeX", "[I", true)
  | 5 => ("EelPermitsModel", "holeY", "[I", true)
  | 6 => ("EelPermitsModel", "spearers", "I", false)
  | 7 => ("EelPermitsModel", "permit", "[I", true)
  | 8 => ("EelPermitsModel", "light", "[I", true)
  | 9 => ("EelPermitsModel", "wardens", "I", false)
  | 10 => ("EelPermitsModel", "pace", "[I", true)
  | 11 => ("EelPermitsModel", "s", "LEelPermitsModel$State;", true)
  | _ => ("EelPermitsModel", "ahead", "LEelPermitsModel$State;", true)
def tyX6 : Nat → FieldType := fun k => match k with
  | 0 => .int
  | 1 => .array .int
  | 2 => .array .int
  | 3 => .int
  | 4 => .array .int
  | 5 => .array .int
  | 6 => .int
  | 7 => .array .int
  | 8 => .array .int
  | 9 => .int
  | 10 => .array .int
  | 11 => .object "EelPermitsModel$State"
  | _ => .object "EelPermitsModel$State"
abbrev wsX60 : List Cond := u_ws RX6 TX6 13
theorem nmX6 : ∀ a, a < 13 → ∀ b, b < 13 → a ≠ b → (TX6 a).2.1 ≠ (TX6 b).2.1 := by decide +kernel
theorem tyX6_ok : ∀ k, k < 13 → parseFieldDescriptor (TX6 k).2.2.1 = some (tyX6 k) := by decide +kernel
abbrev cX6_init : ByteArray := prog_7_method_1_code
def yX6_init : MethodName := ⟨RX6, "<init>", "()V"⟩
abbrev cX6_thrown : ByteArray := prog_7_method_2_code
def yX6_thrown : MethodName := ⟨RX6, "thrown", "()I"⟩
abbrev cX6_no : ByteArray := prog_7_method_3_code
def yX6_no : MethodName := ⟨RX6, "no", "(I)I"⟩
abbrev cX6_isIn : ByteArray := prog_7_method_4_code
def yX6_isIn : MethodName := ⟨RX6, "isIn", "(III)Z"⟩
abbrev cX6_isCell : ByteArray := prog_7_method_5_code
def yX6_isCell : MethodName := ⟨RX6, "isCell", "(II)Z"⟩
abbrev cX6_far : ByteArray := prog_7_method_6_code
def yX6_far : MethodName := ⟨RX6, "far", "(IIII)I"⟩
abbrev cX6_cellOf : ByteArray := prog_7_method_7_code
def yX6_cellOf : MethodName := ⟨RX6, "cellOf", "(I)I"⟩
abbrev cX6_isHole : ByteArray := prog_7_method_8_code
def yX6_isHole : MethodName := ⟨RX6, "isHole", "(I)Z"⟩
abbrev cX6_isSpearer : ByteArray := prog_7_method_9_code
def yX6_isSpearer : MethodName := ⟨RX6, "isSpearer", "(I)Z"⟩
abbrev cX6_holeIn : ByteArray := prog_7_method_10_code
def yX6_holeIn : MethodName := ⟨RX6, "holeIn", "(I)I"⟩
abbrev cX6_set : ByteArray := prog_7_method_11_code
def yX6_set : MethodName := ⟨RX6, "set", "(IIII)I"⟩
abbrev cX6_setFrost : ByteArray := prog_7_method_12_code
def yX6_setFrost : MethodName := ⟨RX6, "setFrost", "(II)I"⟩
abbrev cX6_cut : ByteArray := prog_7_method_13_code
def yX6_cut : MethodName := ⟨RX6, "cut", "(II)I"⟩
abbrev cX6_license : ByteArray := prog_7_method_14_code
def yX6_license : MethodName := ⟨RX6, "license", "(II)I"⟩
abbrev cX6_go : ByteArray := prog_7_method_15_code
def yX6_go : MethodName := ⟨RX6, "go", "(II)I"⟩
abbrev cX6_warden : ByteArray := prog_7_method_16_code
def yX6_warden : MethodName := ⟨RX6, "warden", "(III)I"⟩
abbrev cX6_cellTold : ByteArray := prog_7_method_17_code
def yX6_cellTold : MethodName := ⟨RX6, "cellTold", "(II)I"⟩
abbrev cX6_cell : ByteArray := prog_7_method_18_code
def yX6_cell : MethodName := ⟨RX6, "cell", "(III)I"⟩
abbrev cX6_nearest : ByteArray := prog_7_method_19_code
def yX6_nearest : MethodName := ⟨RX6, "nearest", "(I)I"⟩
abbrev cX6_holeTold : ByteArray := prog_7_method_20_code
def yX6_holeTold : MethodName := ⟨RX6, "holeTold", "(II)I"⟩
abbrev cX6_hole : ByteArray := prog_7_method_21_code
def yX6_hole : MethodName := ⟨RX6, "hole", "(II)I"⟩
abbrev cX6_spearerTold : ByteArray := prog_7_method_22_code
def yX6_spearerTold : MethodName := ⟨RX6, "spearerTold", "(II)I"⟩
abbrev cX6_spearer : ByteArray := prog_7_method_23_code
def yX6_spearer : MethodName := ⟨RX6, "spearer", "(II)I"⟩
abbrev cX6_wardenTold : ByteArray := prog_7_method_24_code
def yX6_wardenTold : MethodName := ⟨RX6, "wardenTold", "(II)I"⟩
abbrev cX6_about : ByteArray := prog_7_method_25_code
def yX6_about : MethodName := ⟨RX6, "about", "(II)I"⟩
abbrev cX6_count : ByteArray := prog_7_method_26_code
def yX6_count : MethodName := ⟨RX6, "count", "(I)I"⟩
abbrev cX6_pass : ByteArray := prog_7_method_27_code
def yX6_pass : MethodName := ⟨RX6, "pass", "(I)I"⟩
abbrev cX6_bears : ByteArray := prog_7_method_28_code
def yX6_bears : MethodName := ⟨RX6, "bears", "()I"⟩
abbrev cX6_foresee : ByteArray := prog_7_method_29_code
def yX6_foresee : MethodName := ⟨RX6, "foresee", "(II)I"⟩
abbrev cX6_advise : ByteArray := prog_7_method_30_code
def yX6_advise : MethodName := ⟨RX6, "advise", "(I)I"⟩
abbrev cX6_mean : ByteArray := prog_7_method_31_code
def yX6_mean : MethodName := ⟨RX6, "mean", "()D"⟩
abbrev cX6_digest : ByteArray := prog_7_method_32_code
def yX6_digest : MethodName := ⟨RX6, "digest", "()J"⟩
def RJ6 : String := "java/lang/Integer"
def TJ6 : u_T := fun k => match k with
  | _ => ("", "", "", false)
def tyJ6 : Nat → FieldType := fun k => match k with
  | _ => .int
abbrev wsJ60 : List Cond := u_ws RJ6 TJ6 0
theorem nmJ6 : ∀ a, a < 0 → ∀ b, b < 0 → a ≠ b → (TJ6 a).2.1 ≠ (TJ6 b).2.1 := by decide +kernel
theorem tyJ6_ok : ∀ k, k < 0 → parseFieldDescriptor (TJ6 k).2.2.1 = some (tyJ6 k) := by decide +kernel
abbrev cJ6_compare_7cf53 : ByteArray := prog_13_method_40_code
def yJ6_compare_7cf53 : MethodName := ⟨RJ6, "compare", "(II)I"⟩
abbrev cJ6_signum_0f7a4 : ByteArray := prog_13_method_56_code
def yJ6_signum_0f7a4 : MethodName := ⟨RJ6, "signum", "(I)I"⟩
def RJ9 : String := "java/lang/Math"
def TJ9 : u_T := fun k => match k with
  | _ => ("", "", "", false)
def tyJ9 : Nat → FieldType := fun k => match k with
  | _ => .int
abbrev wsJ90 : List Cond := u_ws RJ9 TJ9 0
theorem nmJ9 : ∀ a, a < 0 → ∀ b, b < 0 → a ≠ b → (TJ9 a).2.1 ≠ (TJ9 b).2.1 := by decide +kernel
theorem tyJ9_ok : ∀ k, k < 0 → parseFieldDescriptor (TJ9 k).2.2.1 = some (tyJ9 k) := by decide +kernel
abbrev cJ9_floorMod_7cf53 : ByteArray := prog_14_method_50_code
def yJ9_floorMod_7cf53 : MethodName := ⟨RJ9, "floorMod", "(II)I"⟩
abbrev cJ9_abs_0f7a4 : ByteArray := prog_14_method_59_code
def yJ9_abs_0f7a4 : MethodName := ⟨RJ9, "abs", "(I)I"⟩
abbrev cJ9_max_7cf53 : ByteArray := prog_14_method_65_code
def yJ9_max_7cf53 : MethodName := ⟨RJ9, "max", "(II)I"⟩
abbrev cJ9_min_7cf53 : ByteArray := prog_14_method_69_code
def yJ9_min_7cf53 : MethodName := ⟨RJ9, "min", "(II)I"⟩
def RJ0 : String := "java/lang/String"
def TJ0 : u_T := fun k => match k with
  | _ => ("", "", "", false)
def tyJ0 : Nat → FieldType := fun k => match k with
  | _ => .int
abbrev wsJ00 : List Cond := u_ws RJ0 TJ0 0
theorem nmJ0 : ∀ a, a < 0 → ∀ b, b < 0 → a ≠ b → (TJ0 a).2.1 ≠ (TJ0 b).2.1 := by decide +kernel
theorem tyJ0_ok : ∀ k, k < 0 → parseFieldDescriptor (TJ0 k).2.2.1 = some (tyJ0 k) := by decide +kernel
def RJ10 : String := "java/lang/System"
def TJ10 : u_T := fun k => match k with
  | _ => ("", "", "", false)
def tyJ10 : Nat → FieldType := fun k => match k with
  | _ => .int
abbrev wsJ100 : List Cond := u_ws RJ10 TJ10 0
theorem nmJ10 : ∀ a, a < 0 → ∀ b, b < 0 → a ≠ b → (TJ10 a).2.1 ≠ (TJ10 b).2.1 := by decide +kernel
theorem tyJ10_ok : ∀ k, k < 0 → parseFieldDescriptor (TJ10 k).2.2.1 = some (tyJ10 k) := by decide +kernel
def RL : String := "EelPermitsLaw"
abbrev cL_set : ByteArray := method_3_code
def yL_set : MethodName := ⟨RL, "set", "(LEelPermits;IIII[J)I"⟩
abbrev cL_setFrost : ByteArray := method_4_code
def yL_setFrost : MethodName := ⟨RL, "setFrost", "(LEelPermits;II[J)I"⟩
abbrev cL_cut : ByteArray := method_5_code
def yL_cut : MethodName := ⟨RL, "cut", "(LEelPermits;II[J)I"⟩
abbrev cL_license : ByteArray := method_6_code
def yL_license : MethodName := ⟨RL, "license", "(LEelPermits;II[J)I"⟩
abbrev cL_go : ByteArray := method_7_code
def yL_go : MethodName := ⟨RL, "go", "(LEelPermits;II[J)I"⟩
abbrev cL_warden : ByteArray := method_8_code
def yL_warden : MethodName := ⟨RL, "warden", "(LEelPermits;III[J)I"⟩
abbrev cL_cell : ByteArray := method_9_code
def yL_cell : MethodName := ⟨RL, "cell", "(LEelPermits;III[J)I"⟩
abbrev cL_hole : ByteArray := method_10_code
def yL_hole : MethodName := ⟨RL, "hole", "(LEelPermits;II[J)I"⟩
abbrev cL_spearer : ByteArray := method_11_code
def yL_spearer : MethodName := ⟨RL, "spearer", "(LEelPermits;II[J)I"⟩
abbrev cL_about : ByteArray := method_12_code
def yL_about : MethodName := ⟨RL, "about", "(LEelPermits;II[J)I"⟩
abbrev cL_count : ByteArray := method_13_code
def yL_count : MethodName := ⟨RL, "count", "(LEelPermits;I[J)I"⟩
abbrev cL_pass : ByteArray := method_14_code
def yL_pass : MethodName := ⟨RL, "pass", "(LEelPermits;I[J)I"⟩
abbrev cL_foresee : ByteArray := method_15_code
def yL_foresee : MethodName := ⟨RL, "foresee", "(LEelPermits;II[J)I"⟩
abbrev cL_advise : ByteArray := method_16_code
def yL_advise : MethodName := ⟨RL, "advise", "(LEelPermits;I[J)I"⟩
abbrev cL_law : ByteArray := code
def yL_law : MethodName := ⟨RL, "law", "([I)Z"⟩
end
section
-- membership of the tables' words among LG, by place
set_option maxRecDepth 20000
theorem w_0 : Cond.initialized RL ∈ LG := LG_in 41 (by decide +kernel) rfl
theorem w_1 : Cond.initialized RX4 ∈ LG := LG_in 42 (by decide +kernel) rfl
theorem w_2 : Cond.initialized RX1 ∈ LG := LG_in 43 (by decide +kernel) rfl
theorem w_3 : Cond.initialized RX0 ∈ LG := LG_in 44 (by decide +kernel) rfl
theorem w_4 : Cond.initialized RX2 ∈ LG := LG_in 45 (by decide +kernel) rfl
theorem w_5 : Cond.initialized RX3 ∈ LG := LG_in 46 (by decide +kernel) rfl
theorem w_6 : Cond.initialized RX6 ∈ LG := LG_in 47 (by decide +kernel) rfl
theorem w_7 : Cond.initialized RX5 ∈ LG := LG_in 48 (by decide +kernel) rfl
theorem w_8 : Cond.initialized "java/lang/Throwable" ∈ LG := LG_in 49 (by decide +kernel) rfl
theorem w_9 : Cond.initialized "java/lang/Exception" ∈ LG := LG_in 50 (by decide +kernel) rfl
theorem w_10 : Cond.initialized "java/lang/RuntimeException" ∈ LG := LG_in 51 (by decide +kernel) rfl
theorem w_11 : Cond.initialized "java/lang/IndexOutOfBoundsException" ∈ LG := LG_in 52 (by decide +kernel) rfl
theorem w_12 : Cond.initialized "java/lang/IllegalArgumentException" ∈ LG := LG_in 53 (by decide +kernel) rfl
theorem w_13 : Cond.initialized "java/lang/IllegalStateException" ∈ LG := LG_in 54 (by decide +kernel) rfl
theorem w_14 : Cond.initialized "java/lang/Math" ∈ LG := LG_in 55 (by decide +kernel) rfl
theorem w_15 : Cond.initialized "java/lang/Integer" ∈ LG := LG_in 56 (by decide +kernel) rfl
theorem w_16 : Cond.initialized "java/lang/System" ∈ LG := LG_in 57 (by decide +kernel) rfl
theorem w_17 : Cond.classLink RL 8 RX4 ∈ LG := LG_in 58 (by decide +kernel) rfl
theorem w_18 : Cond.instantiable RX4 2 ∈ LG := LG_in 59 (by decide +kernel) rfl
theorem w_19 : Cond.methodLink RL 61 yX4_init ∈ LG := LG_in 60 (by decide +kernel) rfl
theorem w_20 : Cond.instanceMethod yX4_init ∈ LG := LG_in 61 (by decide +kernel) rfl
theorem w_21 : Cond.code yX4_init cX4_init 1 none ∈ LG := LG_in 62 (by decide +kernel) rfl
theorem w_22 : Cond.methodLink RX4 1 Lib.objectInit ∈ LG := LG_in 63 (by decide +kernel) rfl
theorem w_23 : Cond.instanceMethod Lib.objectInit ∈ LG := LG_in 64 (by decide +kernel) rfl
theorem w_24 : Cond.code Lib.objectInit ⟨#[0xb1]⟩ 1 none ∈ LG := LG_in 65 (by decide +kernel) rfl
theorem w_25 : Cond.classLink RX4 7 RX1 ∈ LG := LG_in 66 (by decide +kernel) rfl
theorem w_26 : Cond.instantiable RX1 11 ∈ LG := LG_in 67 (by decide +kernel) rfl
theorem w_27 : Cond.methodLink RX4 9 yX1_init ∈ LG := LG_in 68 (by decide +kernel) rfl
theorem w_28 : Cond.instanceMethod yX1_init ∈ LG := LG_in 69 (by decide +kernel) rfl
theorem w_29 : Cond.code yX1_init cX1_init 2 none ∈ LG := LG_in 70 (by decide +kernel) rfl
theorem w_30 : Cond.methodLink RX1 3 Lib.objectInit ∈ LG := LG_in 71 (by decide +kernel) rfl
theorem w_31 : Cond.classLink RX1 21 RX0 ∈ LG := LG_in 72 (by decide +kernel) rfl
theorem w_33 : Cond.instantiable RX0 3 ∈ LG := LG_in 74 (by decide +kernel) rfl
theorem w_34 : Cond.methodLink RX1 27 yX0_init ∈ LG := LG_in 75 (by decide +kernel) rfl
theorem w_35 : Cond.instanceMethod yX0_init ∈ LG := LG_in 76 (by decide +kernel) rfl
theorem w_36 : Cond.code yX0_init cX0_init 1 none ∈ LG := LG_in 77 (by decide +kernel) rfl
theorem w_37 : Cond.methodLink RX0 1 Lib.objectInit ∈ LG := LG_in 78 (by decide +kernel) rfl
theorem w_38 : Cond.fieldLink RX0 7 "EelPermits$Hole" "x" "I" ∈ LG := LG_in 79 (by decide +kernel) rfl
theorem w_39 : Cond.fieldLink RX3 22 "EelPermits$Hole" "x" "I" ∈ LG := LG_in 80 (by decide +kernel) rfl
theorem w_40 : Cond.fieldLink RX1 72 "EelPermits$Hole" "x" "I" ∈ LG := LG_in 81 (by decide +kernel) rfl
theorem w_41 : Cond.fieldLink RX0 13 "EelPermits$Hole" "y" "I" ∈ LG := LG_in 82 (by decide +kernel) rfl
theorem w_42 : Cond.fieldLink RX3 31 "EelPermits$Hole" "y" "I" ∈ LG := LG_in 83 (by decide +kernel) rfl
theorem w_43 : Cond.fieldLink RX1 75 "EelPermits$Hole" "y" "I" ∈ LG := LG_in 84 (by decide +kernel) rfl
theorem w_44 : Cond.fieldLink RX0 16 "EelPermits$Hole" "open" "Z" ∈ LG := LG_in 85 (by decide +kernel) rfl
theorem w_45 : Cond.fieldLink RX1 78 "EelPermits$Hole" "open" "Z" ∈ LG := LG_in 86 (by decide +kernel) rfl
theorem w_46 : Cond.fieldLink RX4 107 "EelPermits$Hole" "open" "Z" ∈ LG := LG_in 87 (by decide +kernel) rfl
theorem w_47 : Cond.lays RX0 RX0 "x" "I" ∈ LG := LG_in 88 (by decide +kernel) rfl
theorem w_49 : Cond.lays RX0 RX0 "y" "I" ∈ LG := LG_in 90 (by decide +kernel) rfl
theorem w_51 : Cond.lays RX0 RX0 "open" "Z" ∈ LG := LG_in 92 (by decide +kernel) rfl
theorem w_54 : Cond.arrayClass Jvm.ClassFile.FieldType.int ∈ LG := LG_in 95 (by decide +kernel) rfl
theorem w_55 : Cond.classLink RX1 28 RX2 ∈ LG := LG_in 96 (by decide +kernel) rfl
theorem w_57 : Cond.instantiable RX2 6 ∈ LG := LG_in 98 (by decide +kernel) rfl
theorem w_58 : Cond.methodLink RX1 34 yX2_init ∈ LG := LG_in 99 (by decide +kernel) rfl
theorem w_59 : Cond.instanceMethod yX2_init ∈ LG := LG_in 100 (by decide +kernel) rfl
theorem w_60 : Cond.code yX2_init cX2_init 1 none ∈ LG := LG_in 101 (by decide +kernel) rfl
theorem w_61 : Cond.methodLink RX2 3 Lib.objectInit ∈ LG := LG_in 102 (by decide +kernel) rfl
theorem w_62 : Cond.fieldLink RX2 15 "EelPermits$Spearer" "permit" "I" ∈ LG := LG_in 103 (by decide +kernel) rfl
theorem w_63 : Cond.fieldLink RX1 82 "EelPermits$Spearer" "permit" "I" ∈ LG := LG_in 104 (by decide +kernel) rfl
theorem w_64 : Cond.fieldLink RX2 18 "EelPermits$Spearer" "light" "I" ∈ LG := LG_in 105 (by decide +kernel) rfl
theorem w_65 : Cond.fieldLink RX1 85 "EelPermits$Spearer" "light" "I" ∈ LG := LG_in 106 (by decide +kernel) rfl
theorem w_66 : Cond.fieldLink RX2 9 "EelPermits$Spearer" "hole" "I" ∈ LG := LG_in 107 (by decide +kernel) rfl
theorem w_67 : Cond.fieldLink RX4 119 "EelPermits$Spearer" "hole" "I" ∈ LG := LG_in 108 (by decide +kernel) rfl
theorem w_68 : Cond.fieldLink RX1 139 "EelPermits$Spearer" "hole" "I" ∈ LG := LG_in 109 (by decide +kernel) rfl
theorem w_69 : Cond.fieldLink RX2 21 "EelPermits$Spearer" "caught" "I" ∈ LG := LG_in 110 (by decide +kernel) rfl
theorem w_70 : Cond.fieldLink RX4 194 "EelPermits$Spearer" "caught" "I" ∈ LG := LG_in 111 (by decide +kernel) rfl
theorem w_71 : Cond.fieldLink RX1 180 "EelPermits$Spearer" "caught" "I" ∈ LG := LG_in 112 (by decide +kernel) rfl
theorem w_72 : Cond.fieldLink RX2 24 "EelPermits$Spearer" "eels" "I" ∈ LG := LG_in 113 (by decide +kernel) rfl
theorem w_73 : Cond.fieldLink RX1 146 "EelPermits$Spearer" "eels" "I" ∈ LG := LG_in 114 (by decide +kernel) rfl
theorem w_74 : Cond.fieldLink RX4 210 "EelPermits$Spearer" "eels" "I" ∈ LG := LG_in 115 (by decide +kernel) rfl
theorem w_75 : Cond.fieldLink RX2 27 "EelPermits$Spearer" "fines" "I" ∈ LG := LG_in 116 (by decide +kernel) rfl
theorem w_76 : Cond.fieldLink RX1 148 "EelPermits$Spearer" "fines" "I" ∈ LG := LG_in 117 (by decide +kernel) rfl
theorem w_77 : Cond.lays RX2 RX2 "permit" "I" ∈ LG := LG_in 118 (by decide +kernel) rfl
theorem w_79 : Cond.lays RX2 RX2 "light" "I" ∈ LG := LG_in 120 (by decide +kernel) rfl
theorem w_81 : Cond.lays RX2 RX2 "hole" "I" ∈ LG := LG_in 122 (by decide +kernel) rfl
theorem w_83 : Cond.lays RX2 RX2 "caught" "I" ∈ LG := LG_in 124 (by decide +kernel) rfl
theorem w_85 : Cond.lays RX2 RX2 "eels" "I" ∈ LG := LG_in 126 (by decide +kernel) rfl
theorem w_87 : Cond.lays RX2 RX2 "fines" "I" ∈ LG := LG_in 128 (by decide +kernel) rfl
theorem w_90 : Cond.classLink RX1 35 RX3 ∈ LG := LG_in 131 (by decide +kernel) rfl
theorem w_92 : Cond.instantiable RX3 4 ∈ LG := LG_in 133 (by decide +kernel) rfl
theorem w_93 : Cond.methodLink RX1 41 yX3_init ∈ LG := LG_in 134 (by decide +kernel) rfl
theorem w_94 : Cond.instanceMethod yX3_init ∈ LG := LG_in 135 (by decide +kernel) rfl
theorem w_95 : Cond.code yX3_init cX3_init 1 none ∈ LG := LG_in 136 (by decide +kernel) rfl
theorem w_96 : Cond.methodLink RX3 1 Lib.objectInit ∈ LG := LG_in 137 (by decide +kernel) rfl
theorem w_97 : Cond.fieldLink RX3 7 "EelPermits$Warden" "x" "I" ∈ LG := LG_in 138 (by decide +kernel) rfl
theorem w_98 : Cond.fieldLink RX1 88 "EelPermits$Warden" "x" "I" ∈ LG := LG_in 139 (by decide +kernel) rfl
theorem w_99 : Cond.fieldLink RX3 13 "EelPermits$Warden" "y" "I" ∈ LG := LG_in 140 (by decide +kernel) rfl
theorem w_100 : Cond.fieldLink RX1 89 "EelPermits$Warden" "y" "I" ∈ LG := LG_in 141 (by decide +kernel) rfl
theorem w_101 : Cond.fieldLink RX3 16 "EelPermits$Warden" "pace" "I" ∈ LG := LG_in 142 (by decide +kernel) rfl
theorem w_102 : Cond.fieldLink RX1 90 "EelPermits$Warden" "pace" "I" ∈ LG := LG_in 143 (by decide +kernel) rfl
theorem w_103 : Cond.fieldLink RX3 19 "EelPermits$Warden" "fines" "I" ∈ LG := LG_in 144 (by decide +kernel) rfl
theorem w_104 : Cond.fieldLink RX1 201 "EelPermits$Warden" "fines" "I" ∈ LG := LG_in 145 (by decide +kernel) rfl
theorem w_105 : Cond.lays RX3 RX3 "x" "I" ∈ LG := LG_in 146 (by decide +kernel) rfl
theorem w_107 : Cond.lays RX3 RX3 "y" "I" ∈ LG := LG_in 148 (by decide +kernel) rfl
theorem w_109 : Cond.lays RX3 RX3 "pace" "I" ∈ LG := LG_in 150 (by decide +kernel) rfl
theorem w_111 : Cond.lays RX3 RX3 "fines" "I" ∈ LG := LG_in 152 (by decide +kernel) rfl
theorem w_114 : Cond.fieldLink RX1 9 "EelPermits$Lake" "eels" "[I" ∈ LG := LG_in 155 (by decide +kernel) rfl
theorem w_115 : Cond.fieldLink RX4 43 "EelPermits$Lake" "eels" "[I" ∈ LG := LG_in 156 (by decide +kernel) rfl
theorem w_116 : Cond.fieldLink RX1 15 "EelPermits$Lake" "mud" "[I" ∈ LG := LG_in 157 (by decide +kernel) rfl
theorem w_117 : Cond.fieldLink RX4 47 "EelPermits$Lake" "mud" "[I" ∈ LG := LG_in 158 (by decide +kernel) rfl
theorem w_118 : Cond.fieldLink RX1 18 "EelPermits$Lake" "frost" "[I" ∈ LG := LG_in 159 (by decide +kernel) rfl
theorem w_119 : Cond.fieldLink RX4 54 "EelPermits$Lake" "frost" "[I" ∈ LG := LG_in 160 (by decide +kernel) rfl
theorem w_120 : Cond.fieldLink RX1 23 "EelPermits$Lake" "holes" "[LEelPermits$Hole;" ∈ LG := LG_in 161 (by decide +kernel) rfl
theorem w_121 : Cond.fieldLink RX4 103 "EelPermits$Lake" "holes" "[LEelPermits$Hole;" ∈ LG := LG_in 162 (by decide +kernel) rfl
theorem w_122 : Cond.fieldLink RX1 30 "EelPermits$Lake" "spearers" "[LEelPermits$Spearer;" ∈ LG := LG_in 163 (by decide +kernel) rfl
theorem w_123 : Cond.fieldLink RX4 115 "EelPermits$Lake" "spearers" "[LEelPermits$Spearer;" ∈ LG := LG_in 164 (by decide +kernel) rfl
theorem w_124 : Cond.fieldLink RX1 37 "EelPermits$Lake" "wardens" "[LEelPermits$Warden;" ∈ LG := LG_in 165 (by decide +kernel) rfl
theorem w_125 : Cond.fieldLink RX4 156 "EelPermits$Lake" "wardens" "[LEelPermits$Warden;" ∈ LG := LG_in 166 (by decide +kernel) rfl
theorem w_126 : Cond.fieldLink RX1 46 "EelPermits$Lake" "holeCount" "I" ∈ LG := LG_in 167 (by decide +kernel) rfl
theorem w_127 : Cond.fieldLink RX4 75 "EelPermits$Lake" "holeCount" "I" ∈ LG := LG_in 168 (by decide +kernel) rfl
theorem w_128 : Cond.fieldLink RX1 53 "EelPermits$Lake" "spearerCount" "I" ∈ LG := LG_in 169 (by decide +kernel) rfl
theorem w_129 : Cond.fieldLink RX4 85 "EelPermits$Lake" "spearerCount" "I" ∈ LG := LG_in 170 (by decide +kernel) rfl
theorem w_130 : Cond.fieldLink RX1 59 "EelPermits$Lake" "wardenCount" "I" ∈ LG := LG_in 171 (by decide +kernel) rfl
theorem w_131 : Cond.fieldLink RX4 126 "EelPermits$Lake" "wardenCount" "I" ∈ LG := LG_in 172 (by decide +kernel) rfl
theorem w_132 : Cond.fieldLink RX1 42 "EelPermits$Lake" "ice" "I" ∈ LG := LG_in 173 (by decide +kernel) rfl
theorem w_133 : Cond.fieldLink RX4 57 "EelPermits$Lake" "ice" "I" ∈ LG := LG_in 174 (by decide +kernel) rfl
theorem w_134 : Cond.fieldLink RX1 65 "EelPermits$Lake" "night" "I" ∈ LG := LG_in 175 (by decide +kernel) rfl
theorem w_135 : Cond.fieldLink RX4 173 "EelPermits$Lake" "night" "I" ∈ LG := LG_in 176 (by decide +kernel) rfl
theorem w_136 : Cond.laysFinal RX1 RX1 "eels" "[I" ∈ LG := LG_in 177 (by decide +kernel) rfl
theorem w_138 : Cond.laysFinal RX1 RX1 "mud" "[I" ∈ LG := LG_in 179 (by decide +kernel) rfl
theorem w_140 : Cond.laysFinal RX1 RX1 "frost" "[I" ∈ LG := LG_in 181 (by decide +kernel) rfl
theorem w_142 : Cond.laysFinal RX1 RX1 "holes" "[LEelPermits$Hole;" ∈ LG := LG_in 183 (by decide +kernel) rfl
theorem w_144 : Cond.laysFinal RX1 RX1 "spearers" "[LEelPermits$Spearer;" ∈ LG := LG_in 185 (by decide +kernel) rfl
theorem w_146 : Cond.laysFinal RX1 RX1 "wardens" "[LEelPermits$Warden;" ∈ LG := LG_in 187 (by decide +kernel) rfl
theorem w_148 : Cond.lays RX1 RX1 "holeCount" "I" ∈ LG := LG_in 189 (by decide +kernel) rfl
theorem w_150 : Cond.lays RX1 RX1 "spearerCount" "I" ∈ LG := LG_in 191 (by decide +kernel) rfl
theorem w_152 : Cond.lays RX1 RX1 "wardenCount" "I" ∈ LG := LG_in 193 (by decide +kernel) rfl
theorem w_154 : Cond.lays RX1 RX1 "ice" "I" ∈ LG := LG_in 195 (by decide +kernel) rfl
theorem w_156 : Cond.lays RX1 RX1 "night" "I" ∈ LG := LG_in 197 (by decide +kernel) rfl
theorem w_159 : Cond.fieldLink RX4 10 "EelPermits" "lake" "LEelPermits$Lake;" ∈ LG := LG_in 200 (by decide +kernel) rfl
theorem w_160 : Cond.fieldLink RX4 16 "EelPermits" "draft" "LEelPermits$Lake;" ∈ LG := LG_in 201 (by decide +kernel) rfl
theorem w_161 : Cond.laysFinal RX4 RX4 "lake" "LEelPermits$Lake;" ∈ LG := LG_in 202 (by decide +kernel) rfl
theorem w_163 : Cond.laysFinal RX4 RX4 "draft" "LEelPermits$Lake;" ∈ LG := LG_in 204 (by decide +kernel) rfl
theorem w_166 : Cond.methodLink RL 111 yX4_bears ∈ LG := LG_in 207 (by decide +kernel) rfl
theorem w_167 : Cond.instanceMethod yX4_bears ∈ LG := LG_in 208 (by decide +kernel) rfl
theorem w_168 : Cond.selects RX4 yX4_bears yX4_bears ∈ LG := LG_in 209 (by decide +kernel) rfl
theorem w_169 : Cond.code yX4_bears cX4_bears 3 (some .int) ∈ LG := LG_in 210 (by decide +kernel) rfl
theorem w_170 : Cond.methodLink RX4 61 yX4_iceBears ∈ LG := LG_in 211 (by decide +kernel) rfl
theorem w_171 : Cond.static yX4_iceBears ∈ LG := LG_in 212 (by decide +kernel) rfl
theorem w_172 : Cond.code yX4_iceBears cX4_iceBears 1 (some .boolean) ∈ LG := LG_in 213 (by decide +kernel) rfl
theorem w_173 : Cond.methodLink RX4 176 yX1_frostOf ∈ LG := LG_in 214 (by decide +kernel) rfl
theorem w_174 : Cond.instanceMethod yX1_frostOf ∈ LG := LG_in 215 (by decide +kernel) rfl
theorem w_175 : Cond.selects RX1 yX1_frostOf yX1_frostOf ∈ LG := LG_in 216 (by decide +kernel) rfl
theorem w_176 : Cond.code yX1_frostOf cX1_frostOf 2 (some .int) ∈ LG := LG_in 217 (by decide +kernel) rfl
theorem w_177 : Cond.methodLink RX1 93 yJ9_floorMod_7cf53 ∈ LG := LG_in 218 (by decide +kernel) rfl
theorem w_178 : Cond.static yJ9_floorMod_7cf53 ∈ LG := LG_in 219 (by decide +kernel) rfl
theorem w_179 : Cond.code yJ9_floorMod_7cf53 cJ9_floorMod_7cf53 3 (some .int) ∈ LG := LG_in 220 (by decide +kernel) rfl
theorem w_180 : Cond.methodLink RX4 179 yX4_iceBehind ∈ LG := LG_in 221 (by decide +kernel) rfl
theorem w_181 : Cond.static yX4_iceBehind ∈ LG := LG_in 222 (by decide +kernel) rfl
theorem w_182 : Cond.code yX4_iceBehind cX4_iceBehind 2 (some .int) ∈ LG := LG_in 223 (by decide +kernel) rfl
theorem w_183 : Cond.methodLink RX4 222 Lib.Math.min.name ∈ LG := LG_in 224 (by decide +kernel) rfl
theorem w_184 : Cond.static Lib.Math.min.name ∈ LG := LG_in 225 (by decide +kernel) rfl
theorem w_185 : Cond.code Lib.Math.min.name cJ9_min_7cf53 2 (some .int) ∈ LG := LG_in 226 (by decide +kernel) rfl
theorem w_186 : Cond.methodLink RX4 219 Lib.Math.max.name ∈ LG := LG_in 227 (by decide +kernel) rfl
theorem w_187 : Cond.static Lib.Math.max.name ∈ LG := LG_in 228 (by decide +kernel) rfl
theorem w_188 : Cond.code Lib.Math.max.name cJ9_max_7cf53 2 (some .int) ∈ LG := LG_in 229 (by decide +kernel) rfl
theorem w_189 : Cond.methodLink RL 121 yX4_mean ∈ LG := LG_in 230 (by decide +kernel) rfl
theorem w_190 : Cond.instanceMethod yX4_mean ∈ LG := LG_in 231 (by decide +kernel) rfl
theorem w_191 : Cond.selects RX4 yX4_mean yX4_mean ∈ LG := LG_in 232 (by decide +kernel) rfl
theorem w_192 : Cond.code yX4_mean cX4_mean 3 (some .double) ∈ LG := LG_in 233 (by decide +kernel) rfl
theorem w_193 : Cond.methodLink RL 126 yX4_digest ∈ LG := LG_in 234 (by decide +kernel) rfl
theorem w_194 : Cond.instanceMethod yX4_digest ∈ LG := LG_in 235 (by decide +kernel) rfl
theorem w_195 : Cond.selects RX4 yX4_digest yX4_digest ∈ LG := LG_in 236 (by decide +kernel) rfl
theorem w_196 : Cond.code yX4_digest cX4_digest 5 (some .long) ∈ LG := LG_in 237 (by decide +kernel) rfl
theorem w_197 : Cond.constantLong RX4 197 (1187 : Int64) ∈ LG := LG_in 238 (by decide +kernel) rfl
theorem w_198 : Cond.methodLink RX4 165 yX1_fact ∈ LG := LG_in 239 (by decide +kernel) rfl
theorem w_199 : Cond.instanceMethod yX1_fact ∈ LG := LG_in 240 (by decide +kernel) rfl
theorem w_200 : Cond.selects RX1 yX1_fact yX1_fact ∈ LG := LG_in 241 (by decide +kernel) rfl
theorem w_201 : Cond.code yX1_fact cX1_fact 2 (some .int) ∈ LG := LG_in 242 (by decide +kernel) rfl
theorem w_203 : Cond.methodLink RX1 126 yX1_eelsOfLake ∈ LG := LG_in 244 (by decide +kernel) rfl
theorem w_205 : Cond.instanceMethod yX1_eelsOfLake ∈ LG := LG_in 246 (by decide +kernel) rfl
theorem w_206 : Cond.code yX1_eelsOfLake cX1_eelsOfLake 3 (some .int) ∈ LG := LG_in 247 (by decide +kernel) rfl
theorem w_207 : Cond.methodLink RX1 130 yX1_openHoles ∈ LG := LG_in 248 (by decide +kernel) rfl
theorem w_209 : Cond.instanceMethod yX1_openHoles ∈ LG := LG_in 250 (by decide +kernel) rfl
theorem w_210 : Cond.code yX1_openHoles cX1_openHoles 3 (some .int) ∈ LG := LG_in 251 (by decide +kernel) rfl
theorem w_211 : Cond.methodLink RX1 133 yX1_eelsOfSpearers ∈ LG := LG_in 252 (by decide +kernel) rfl
theorem w_213 : Cond.instanceMethod yX1_eelsOfSpearers ∈ LG := LG_in 254 (by decide +kernel) rfl
theorem w_214 : Cond.code yX1_eelsOfSpearers cX1_eelsOfSpearers 3 (some .int) ∈ LG := LG_in 255 (by decide +kernel) rfl
theorem w_215 : Cond.methodLink RX1 136 yX1_finesOfSpearers ∈ LG := LG_in 256 (by decide +kernel) rfl
theorem w_217 : Cond.instanceMethod yX1_finesOfSpearers ∈ LG := LG_in 258 (by decide +kernel) rfl
theorem w_218 : Cond.code yX1_finesOfSpearers cX1_finesOfSpearers 3 (some .int) ∈ LG := LG_in 259 (by decide +kernel) rfl
theorem w_219 : Cond.methodLink RX4 199 yX4_mixed ∈ LG := LG_in 260 (by decide +kernel) rfl
theorem w_220 : Cond.static yX4_mixed ∈ LG := LG_in 261 (by decide +kernel) rfl
theorem w_221 : Cond.code yX4_mixed cX4_mixed 3 (some .long) ∈ LG := LG_in 262 (by decide +kernel) rfl
theorem w_222 : Cond.constantLong RX4 212 (31 : Int64) ∈ LG := LG_in 263 (by decide +kernel) rfl
theorem w_223 : Cond.methodLink RX4 203 yX4_digestOfCells ∈ LG := LG_in 264 (by decide +kernel) rfl
theorem w_225 : Cond.instanceMethod yX4_digestOfCells ∈ LG := LG_in 266 (by decide +kernel) rfl
theorem w_226 : Cond.code yX4_digestOfCells cX4_digestOfCells 8 (some .long) ∈ LG := LG_in 267 (by decide +kernel) rfl
theorem w_227 : Cond.methodLink RX4 137 yX1_cellFact ∈ LG := LG_in 268 (by decide +kernel) rfl
theorem w_228 : Cond.instanceMethod yX1_cellFact ∈ LG := LG_in 269 (by decide +kernel) rfl
theorem w_229 : Cond.selects RX1 yX1_cellFact yX1_cellFact ∈ LG := LG_in 270 (by decide +kernel) rfl
theorem w_230 : Cond.code yX1_cellFact cX1_cellFact 5 (some .int) ∈ LG := LG_in 271 (by decide +kernel) rfl
theorem w_232 : Cond.static yX4_cellAt ∈ LG := LG_in 273 (by decide +kernel) rfl
theorem w_233 : Cond.code yX4_cellAt cX4_cellAt 2 (some .int) ∈ LG := LG_in 274 (by decide +kernel) rfl
theorem w_234 : Cond.methodLink RX1 108 yX1_openHoleIn ∈ LG := LG_in 275 (by decide +kernel) rfl
theorem w_235 : Cond.instanceMethod yX1_openHoleIn ∈ LG := LG_in 276 (by decide +kernel) rfl
theorem w_236 : Cond.selects RX1 yX1_openHoleIn yX1_openHoleIn ∈ LG := LG_in 277 (by decide +kernel) rfl
theorem w_237 : Cond.code yX1_openHoleIn cX1_openHoleIn 5 (some .int) ∈ LG := LG_in 278 (by decide +kernel) rfl
theorem w_238 : Cond.methodLink RX1 111 yX1_catchIn ∈ LG := LG_in 279 (by decide +kernel) rfl
theorem w_239 : Cond.instanceMethod yX1_catchIn ∈ LG := LG_in 280 (by decide +kernel) rfl
theorem w_240 : Cond.selects RX1 yX1_catchIn yX1_catchIn ∈ LG := LG_in 281 (by decide +kernel) rfl
theorem w_241 : Cond.code yX1_catchIn cX1_catchIn 3 (some .int) ∈ LG := LG_in 282 (by decide +kernel) rfl
theorem w_242 : Cond.methodLink RX1 99 Lib.Math.max.name ∈ LG := LG_in 283 (by decide +kernel) rfl
theorem w_243 : Cond.methodLink RX1 102 Lib.Math.min.name ∈ LG := LG_in 284 (by decide +kernel) rfl
theorem w_244 : Cond.methodLink RX4 142 yX1_holeFact ∈ LG := LG_in 285 (by decide +kernel) rfl
theorem w_245 : Cond.instanceMethod yX1_holeFact ∈ LG := LG_in 286 (by decide +kernel) rfl
theorem w_246 : Cond.selects RX1 yX1_holeFact yX1_holeFact ∈ LG := LG_in 287 (by decide +kernel) rfl
theorem w_247 : Cond.code yX1_holeFact cX1_holeFact 3 (some .int) ∈ LG := LG_in 288 (by decide +kernel) rfl
theorem w_248 : Cond.methodLink RX1 115 yX1_spearersAt ∈ LG := LG_in 289 (by decide +kernel) rfl
theorem w_250 : Cond.instanceMethod yX1_spearersAt ∈ LG := LG_in 291 (by decide +kernel) rfl
theorem w_251 : Cond.code yX1_spearersAt cX1_spearersAt 4 (some .int) ∈ LG := LG_in 292 (by decide +kernel) rfl
theorem w_252 : Cond.methodLink RX1 118 yX1_nearestWardenTo ∈ LG := LG_in 293 (by decide +kernel) rfl
theorem w_254 : Cond.instanceMethod yX1_nearestWardenTo ∈ LG := LG_in 295 (by decide +kernel) rfl
theorem w_255 : Cond.code yX1_nearestWardenTo cX1_nearestWardenTo 5 (some .int) ∈ LG := LG_in 296 (by decide +kernel) rfl
theorem w_257 : Cond.static yX4_distance ∈ LG := LG_in 298 (by decide +kernel) rfl
theorem w_258 : Cond.code yX4_distance cX4_distance 4 (some .int) ∈ LG := LG_in 299 (by decide +kernel) rfl
theorem w_259 : Cond.methodLink RX4 214 Lib.Math.abs.name ∈ LG := LG_in 300 (by decide +kernel) rfl
theorem w_260 : Cond.static Lib.Math.abs.name ∈ LG := LG_in 301 (by decide +kernel) rfl
theorem w_261 : Cond.code Lib.Math.abs.name cJ9_abs_0f7a4 1 (some .int) ∈ LG := LG_in 302 (by decide +kernel) rfl
theorem w_262 : Cond.methodLink RX4 207 yX4_digestOfPeople ∈ LG := LG_in 303 (by decide +kernel) rfl
theorem w_264 : Cond.instanceMethod yX4_digestOfPeople ∈ LG := LG_in 305 (by decide +kernel) rfl
theorem w_265 : Cond.code yX4_digestOfPeople cX4_digestOfPeople 7 (some .long) ∈ LG := LG_in 306 (by decide +kernel) rfl
theorem w_266 : Cond.methodLink RX4 147 yX2_tell ∈ LG := LG_in 307 (by decide +kernel) rfl
theorem w_267 : Cond.instanceMethod yX2_tell ∈ LG := LG_in 308 (by decide +kernel) rfl
theorem w_268 : Cond.selects RX2 yX2_tell yX2_tell ∈ LG := LG_in 309 (by decide +kernel) rfl
theorem w_269 : Cond.code yX2_tell cX2_tell 2 (some .int) ∈ LG := LG_in 310 (by decide +kernel) rfl
theorem w_270 : Cond.methodLink RX4 160 yX3_tell ∈ LG := LG_in 311 (by decide +kernel) rfl
theorem w_271 : Cond.instanceMethod yX3_tell ∈ LG := LG_in 312 (by decide +kernel) rfl
theorem w_272 : Cond.selects RX3 yX3_tell yX3_tell ∈ LG := LG_in 313 (by decide +kernel) rfl
theorem w_273 : Cond.code yX3_tell cX3_tell 2 (some .int) ∈ LG := LG_in 314 (by decide +kernel) rfl
theorem w_274 : Cond.methodLink RL 65 yL_set ∈ LG := LG_in 315 (by decide +kernel) rfl
theorem w_275 : Cond.static yL_set ∈ LG := LG_in 316 (by decide +kernel) rfl
theorem w_276 : Cond.codeWith yL_set cL_set 7 (some .int) [((0 : Nat), (14 : Nat), (17 : Nat), (13 : Nat)), ((0 : Nat), (14 : Nat), (21 : Nat), (15 : Nat))] ∈ LG := LG_in 317 (by decide +kernel) rfl
theorem w_277 : Cond.classLink RL 13 "java/lang/IndexOutOfBoundsException" ∈ LG := LG_in 318 (by decide +kernel) rfl
theorem w_278 : Cond.classLink RL 15 "java/lang/IllegalArgumentException" ∈ LG := LG_in 319 (by decide +kernel) rfl
theorem w_279 : Cond.methodLink RL 7 yX4_set ∈ LG := LG_in 320 (by decide +kernel) rfl
theorem w_280 : Cond.instanceMethod yX4_set ∈ LG := LG_in 321 (by decide +kernel) rfl
theorem w_281 : Cond.selects RX4 yX4_set yX4_set ∈ LG := LG_in 322 (by decide +kernel) rfl
theorem w_282 : Cond.code yX4_set cX4_set 7 (some .int) ∈ LG := LG_in 323 (by decide +kernel) rfl
theorem w_283 : Cond.methodLink RX4 19 yX4_isCell ∈ LG := LG_in 324 (by decide +kernel) rfl
theorem w_284 : Cond.static yX4_isCell ∈ LG := LG_in 325 (by decide +kernel) rfl
theorem w_285 : Cond.code yX4_isCell cX4_isCell 2 (some .boolean) ∈ LG := LG_in 326 (by decide +kernel) rfl
theorem w_286 : Cond.methodLink RX4 30 yX4_isWithin ∈ LG := LG_in 327 (by decide +kernel) rfl
theorem w_287 : Cond.static yX4_isWithin ∈ LG := LG_in 328 (by decide +kernel) rfl
theorem w_288 : Cond.code yX4_isWithin cX4_isWithin 3 (some .boolean) ∈ LG := LG_in 329 (by decide +kernel) rfl
theorem w_289 : Cond.classLink RX4 23 "java/lang/IndexOutOfBoundsException" ∈ LG := LG_in 330 (by decide +kernel) rfl
theorem w_290 : Cond.instantiable "java/lang/IndexOutOfBoundsException" 6 ∈ LG := LG_in 331 (by decide +kernel) rfl
theorem w_300 : Cond.lays "java/lang/IndexOutOfBoundsException" "java/lang/Throwable" "cause" "Ljava/lang/Throwable;" ∈ LG := LG_in 341 (by decide +kernel) rfl
theorem w_301 : Cond.lays "java/lang/Throwable" "java/lang/Throwable" "cause" "Ljava/lang/Throwable;" ∈ LG := LG_in 342 (by decide +kernel) rfl
theorem w_302 : Cond.lays "java/lang/IndexOutOfBoundsException" "java/lang/Throwable" "stackTrace" "[Ljava/lang/StackTraceElement;" ∈ LG := LG_in 343 (by decide +kernel) rfl
theorem w_303 : Cond.lays "java/lang/Throwable" "java/lang/Throwable" "stackTrace" "[Ljava/lang/StackTraceElement;" ∈ LG := LG_in 344 (by decide +kernel) rfl
theorem w_304 : Cond.lays "java/lang/IndexOutOfBoundsException" "java/lang/Throwable" "suppressedExceptions" "Ljava/util/List;" ∈ LG := LG_in 345 (by decide +kernel) rfl
theorem w_305 : Cond.lays "java/lang/Throwable" "java/lang/Throwable" "suppressedExceptions" "Ljava/util/List;" ∈ LG := LG_in 346 (by decide +kernel) rfl
theorem w_306 : Cond.lays "java/lang/IndexOutOfBoundsException" "java/lang/Throwable" "detailMessage" "Ljava/lang/String;" ∈ LG := LG_in 347 (by decide +kernel) rfl
theorem w_307 : Cond.lays "java/lang/Throwable" "java/lang/Throwable" "detailMessage" "Ljava/lang/String;" ∈ LG := LG_in 348 (by decide +kernel) rfl
theorem w_308 : Cond.lays "java/lang/IndexOutOfBoundsException" "java/lang/Throwable" "backtrace" "Ljava/lang/Object;" ∈ LG := LG_in 349 (by decide +kernel) rfl
theorem w_309 : Cond.lays "java/lang/Throwable" "java/lang/Throwable" "backtrace" "Ljava/lang/Object;" ∈ LG := LG_in 350 (by decide +kernel) rfl
theorem w_310 : Cond.fieldLink "java/lang/Throwable" 198 "java/lang/Throwable" "backtrace" "Ljava/lang/Object;" ∈ LG := LG_in 351 (by decide +kernel) rfl
theorem w_314 : Cond.methodLink "java/lang/Throwable" 1 Lib.objectInit ∈ LG := LG_in 355 (by decide +kernel) rfl
theorem w_315 : Cond.fieldLink "java/lang/Throwable" 13 "java/lang/Throwable" "UNASSIGNED_STACK" "[Ljava/lang/StackTraceElement;" ∈ LG := LG_in 356 (by decide +kernel) rfl
theorem w_317 : Cond.fieldLink "java/lang/Throwable" 20 "java/lang/Throwable" "SUPPRESSED_SENTINEL" "Ljava/util/List;" ∈ LG := LG_in 358 (by decide +kernel) rfl
theorem w_328 : Cond.instantiable "java/lang/Throwable" 6 ∈ LG := LG_in 369 (by decide +kernel) rfl
theorem w_343 : Cond.fieldLink "java/lang/Throwable" 198 "java/lang/Throwable" "backtrace" "Ljava/lang/Object;" ∈ LG := LG_in 384 (by decide +kernel) rfl
theorem w_344 : Cond.fieldLink "java/lang/Throwable" 31 "java/lang/Throwable" "detailMessage" "Ljava/lang/String;" ∈ LG := LG_in 385 (by decide +kernel) rfl
theorem w_345 : Cond.fieldLink "java/lang/Throwable" 7 "java/lang/Throwable" "cause" "Ljava/lang/Throwable;" ∈ LG := LG_in 386 (by decide +kernel) rfl
theorem w_346 : Cond.fieldLink "java/lang/Throwable" 17 "java/lang/Throwable" "stackTrace" "[Ljava/lang/StackTraceElement;" ∈ LG := LG_in 387 (by decide +kernel) rfl
theorem w_347 : Cond.fieldLink "java/lang/Throwable" 24 "java/lang/Throwable" "suppressedExceptions" "Ljava/util/List;" ∈ LG := LG_in 388 (by decide +kernel) rfl
theorem w_352 : Cond.lays "java/lang/IndexOutOfBoundsException" "java/lang/Throwable" "depth" "I" ∈ LG := LG_in 393 (by decide +kernel) rfl
theorem w_356 : Cond.arrayClass Jvm.ClassFile.FieldType.byte ∈ LG := LG_in 397 (by decide +kernel) rfl
theorem w_357 : Cond.classLink RX4 34 "java/lang/IllegalArgumentException" ∈ LG := LG_in 398 (by decide +kernel) rfl
theorem w_358 : Cond.instantiable "java/lang/IllegalArgumentException" 6 ∈ LG := LG_in 399 (by decide +kernel) rfl
theorem w_361 : Cond.lays "java/lang/IllegalArgumentException" "java/lang/Throwable" "cause" "Ljava/lang/Throwable;" ∈ LG := LG_in 402 (by decide +kernel) rfl
theorem w_362 : Cond.lays "java/lang/IllegalArgumentException" "java/lang/Throwable" "stackTrace" "[Ljava/lang/StackTraceElement;" ∈ LG := LG_in 403 (by decide +kernel) rfl
theorem w_363 : Cond.lays "java/lang/IllegalArgumentException" "java/lang/Throwable" "suppressedExceptions" "Ljava/util/List;" ∈ LG := LG_in 404 (by decide +kernel) rfl
theorem w_364 : Cond.lays "java/lang/IllegalArgumentException" "java/lang/Throwable" "detailMessage" "Ljava/lang/String;" ∈ LG := LG_in 405 (by decide +kernel) rfl
theorem w_365 : Cond.lays "java/lang/IllegalArgumentException" "java/lang/Throwable" "backtrace" "Ljava/lang/Object;" ∈ LG := LG_in 406 (by decide +kernel) rfl
theorem w_371 : Cond.lays "java/lang/IllegalArgumentException" "java/lang/Throwable" "depth" "I" ∈ LG := LG_in 412 (by decide +kernel) rfl
theorem w_373 : Cond.methodLink RX4 39 yX4_cellAt ∈ LG := LG_in 414 (by decide +kernel) rfl
theorem w_374 : Cond.methodLink RL 75 yL_setFrost ∈ LG := LG_in 415 (by decide +kernel) rfl
theorem w_375 : Cond.static yL_setFrost ∈ LG := LG_in 416 (by decide +kernel) rfl
theorem w_376 : Cond.codeWith yL_setFrost cL_setFrost 5 (some .int) [((0 : Nat), (10 : Nat), (13 : Nat), (13 : Nat)), ((0 : Nat), (10 : Nat), (17 : Nat), (15 : Nat))] ∈ LG := LG_in 417 (by decide +kernel) rfl
theorem w_377 : Cond.methodLink RL 17 yX4_setFrost ∈ LG := LG_in 418 (by decide +kernel) rfl
theorem w_378 : Cond.instanceMethod yX4_setFrost ∈ LG := LG_in 419 (by decide +kernel) rfl
theorem w_379 : Cond.selects RX4 yX4_setFrost yX4_setFrost ∈ LG := LG_in 420 (by decide +kernel) rfl
theorem w_380 : Cond.code yX4_setFrost cX4_setFrost 4 (some .int) ∈ LG := LG_in 421 (by decide +kernel) rfl
theorem w_383 : Cond.methodLink RL 79 yL_cut ∈ LG := LG_in 424 (by decide +kernel) rfl
theorem w_384 : Cond.static yL_cut ∈ LG := LG_in 425 (by decide +kernel) rfl
theorem w_385 : Cond.codeWith yL_cut cL_cut 5 (some .int) [((0 : Nat), (10 : Nat), (13 : Nat), (13 : Nat)), ((0 : Nat), (10 : Nat), (17 : Nat), (24 : Nat))] ∈ LG := LG_in 426 (by decide +kernel) rfl
theorem w_386 : Cond.classLink RL 24 "java/lang/IllegalStateException" ∈ LG := LG_in 427 (by decide +kernel) rfl
theorem w_387 : Cond.methodLink RL 21 yX4_cut ∈ LG := LG_in 428 (by decide +kernel) rfl
theorem w_388 : Cond.instanceMethod yX4_cut ∈ LG := LG_in 429 (by decide +kernel) rfl
theorem w_389 : Cond.selects RX4 yX4_cut yX4_cut ∈ LG := LG_in 430 (by decide +kernel) rfl
theorem w_390 : Cond.code yX4_cut cX4_cut 3 (some .int) ∈ LG := LG_in 431 (by decide +kernel) rfl
theorem w_391 : Cond.classLink RX4 65 "java/lang/IllegalStateException" ∈ LG := LG_in 432 (by decide +kernel) rfl
theorem w_392 : Cond.instantiable "java/lang/IllegalStateException" 6 ∈ LG := LG_in 433 (by decide +kernel) rfl
theorem w_395 : Cond.lays "java/lang/IllegalStateException" "java/lang/Throwable" "cause" "Ljava/lang/Throwable;" ∈ LG := LG_in 436 (by decide +kernel) rfl
theorem w_396 : Cond.lays "java/lang/IllegalStateException" "java/lang/Throwable" "stackTrace" "[Ljava/lang/StackTraceElement;" ∈ LG := LG_in 437 (by decide +kernel) rfl
theorem w_397 : Cond.lays "java/lang/IllegalStateException" "java/lang/Throwable" "suppressedExceptions" "Ljava/util/List;" ∈ LG := LG_in 438 (by decide +kernel) rfl
theorem w_398 : Cond.lays "java/lang/IllegalStateException" "java/lang/Throwable" "detailMessage" "Ljava/lang/String;" ∈ LG := LG_in 439 (by decide +kernel) rfl
theorem w_399 : Cond.lays "java/lang/IllegalStateException" "java/lang/Throwable" "backtrace" "Ljava/lang/Object;" ∈ LG := LG_in 440 (by decide +kernel) rfl
theorem w_405 : Cond.lays "java/lang/IllegalStateException" "java/lang/Throwable" "depth" "I" ∈ LG := LG_in 446 (by decide +kernel) rfl
theorem w_407 : Cond.methodLink RX4 70 yX1_openHoleIn ∈ LG := LG_in 448 (by decide +kernel) rfl
theorem w_410 : Cond.methodLink RX4 80 yX1_addHole ∈ LG := LG_in 451 (by decide +kernel) rfl
theorem w_411 : Cond.instanceMethod yX1_addHole ∈ LG := LG_in 452 (by decide +kernel) rfl
theorem w_412 : Cond.selects RX1 yX1_addHole yX1_addHole ∈ LG := LG_in 453 (by decide +kernel) rfl
theorem w_413 : Cond.code yX1_addHole cX1_addHole 4 (some .int) ∈ LG := LG_in 454 (by decide +kernel) rfl
theorem w_414 : Cond.methodLink RL 82 yL_license ∈ LG := LG_in 455 (by decide +kernel) rfl
theorem w_415 : Cond.static yL_license ∈ LG := LG_in 456 (by decide +kernel) rfl
theorem w_416 : Cond.codeWith yL_license cL_license 5 (some .int) [((0 : Nat), (10 : Nat), (13 : Nat), (15 : Nat)), ((0 : Nat), (10 : Nat), (17 : Nat), (24 : Nat))] ∈ LG := LG_in 457 (by decide +kernel) rfl
theorem w_417 : Cond.methodLink RL 26 yX4_license ∈ LG := LG_in 458 (by decide +kernel) rfl
theorem w_418 : Cond.instanceMethod yX4_license ∈ LG := LG_in 459 (by decide +kernel) rfl
theorem w_419 : Cond.selects RX4 yX4_license yX4_license ∈ LG := LG_in 460 (by decide +kernel) rfl
theorem w_420 : Cond.code yX4_license cX4_license 3 (some .int) ∈ LG := LG_in 461 (by decide +kernel) rfl
theorem w_423 : Cond.methodLink RX4 90 yX1_addSpearer ∈ LG := LG_in 464 (by decide +kernel) rfl
theorem w_424 : Cond.instanceMethod yX1_addSpearer ∈ LG := LG_in 465 (by decide +kernel) rfl
theorem w_425 : Cond.selects RX1 yX1_addSpearer yX1_addSpearer ∈ LG := LG_in 466 (by decide +kernel) rfl
theorem w_426 : Cond.code yX1_addSpearer cX1_addSpearer 4 (some .int) ∈ LG := LG_in 467 (by decide +kernel) rfl
theorem w_427 : Cond.methodLink RL 85 yL_go ∈ LG := LG_in 468 (by decide +kernel) rfl
theorem w_428 : Cond.static yL_go ∈ LG := LG_in 469 (by decide +kernel) rfl
theorem w_429 : Cond.codeWith yL_go cL_go 5 (some .int) [((0 : Nat), (10 : Nat), (13 : Nat), (13 : Nat)), ((0 : Nat), (10 : Nat), (17 : Nat), (24 : Nat))] ∈ LG := LG_in 470 (by decide +kernel) rfl
theorem w_430 : Cond.methodLink RL 29 yX4_go ∈ LG := LG_in 471 (by decide +kernel) rfl
theorem w_431 : Cond.instanceMethod yX4_go ∈ LG := LG_in 472 (by decide +kernel) rfl
theorem w_432 : Cond.selects RX4 yX4_go yX4_go ∈ LG := LG_in 473 (by decide +kernel) rfl
theorem w_433 : Cond.code yX4_go cX4_go 5 (some .int) ∈ LG := LG_in 474 (by decide +kernel) rfl
theorem w_434 : Cond.methodLink RX4 93 yX1_hasSpearer ∈ LG := LG_in 475 (by decide +kernel) rfl
theorem w_435 : Cond.instanceMethod yX1_hasSpearer ∈ LG := LG_in 476 (by decide +kernel) rfl
theorem w_436 : Cond.selects RX1 yX1_hasSpearer yX1_hasSpearer ∈ LG := LG_in 477 (by decide +kernel) rfl
theorem w_437 : Cond.code yX1_hasSpearer cX1_hasSpearer 2 (some .boolean) ∈ LG := LG_in 478 (by decide +kernel) rfl
theorem w_440 : Cond.methodLink RX4 98 yX1_hasHole ∈ LG := LG_in 481 (by decide +kernel) rfl
theorem w_441 : Cond.instanceMethod yX1_hasHole ∈ LG := LG_in 482 (by decide +kernel) rfl
theorem w_442 : Cond.selects RX1 yX1_hasHole yX1_hasHole ∈ LG := LG_in 483 (by decide +kernel) rfl
theorem w_443 : Cond.code yX1_hasHole cX1_hasHole 2 (some .boolean) ∈ LG := LG_in 484 (by decide +kernel) rfl
theorem w_446 : Cond.methodLink RL 88 yL_warden ∈ LG := LG_in 487 (by decide +kernel) rfl
theorem w_447 : Cond.static yL_warden ∈ LG := LG_in 488 (by decide +kernel) rfl
theorem w_448 : Cond.codeWith yL_warden cL_warden 6 (some .int) [((0 : Nat), (12 : Nat), (15 : Nat), (13 : Nat)), ((0 : Nat), (12 : Nat), (19 : Nat), (15 : Nat)), ((0 : Nat), (12 : Nat), (23 : Nat), (24 : Nat))] ∈ LG := LG_in 489 (by decide +kernel) rfl
theorem w_449 : Cond.methodLink RL 32 yX4_warden ∈ LG := LG_in 490 (by decide +kernel) rfl
theorem w_450 : Cond.instanceMethod yX4_warden ∈ LG := LG_in 491 (by decide +kernel) rfl
theorem w_451 : Cond.selects RX4 yX4_warden yX4_warden ∈ LG := LG_in 492 (by decide +kernel) rfl
theorem w_452 : Cond.code yX4_warden cX4_warden 4 (some .int) ∈ LG := LG_in 493 (by decide +kernel) rfl
theorem w_455 : Cond.methodLink RX4 131 yX1_addWarden ∈ LG := LG_in 496 (by decide +kernel) rfl
theorem w_456 : Cond.instanceMethod yX1_addWarden ∈ LG := LG_in 497 (by decide +kernel) rfl
theorem w_457 : Cond.selects RX1 yX1_addWarden yX1_addWarden ∈ LG := LG_in 498 (by decide +kernel) rfl
theorem w_458 : Cond.code yX1_addWarden cX1_addWarden 5 (some .int) ∈ LG := LG_in 499 (by decide +kernel) rfl
theorem w_459 : Cond.methodLink RL 92 yL_cell ∈ LG := LG_in 500 (by decide +kernel) rfl
theorem w_460 : Cond.static yL_cell ∈ LG := LG_in 501 (by decide +kernel) rfl
theorem w_461 : Cond.codeWith yL_cell cL_cell 6 (some .int) [((0 : Nat), (12 : Nat), (15 : Nat), (13 : Nat))] ∈ LG := LG_in 502 (by decide +kernel) rfl
theorem w_462 : Cond.methodLink RL 36 yX4_cell ∈ LG := LG_in 503 (by decide +kernel) rfl
theorem w_463 : Cond.instanceMethod yX4_cell ∈ LG := LG_in 504 (by decide +kernel) rfl
theorem w_464 : Cond.selects RX4 yX4_cell yX4_cell ∈ LG := LG_in 505 (by decide +kernel) rfl
theorem w_465 : Cond.code yX4_cell cX4_cell 4 (some .int) ∈ LG := LG_in 506 (by decide +kernel) rfl
theorem w_467 : Cond.methodLink RL 95 yL_hole ∈ LG := LG_in 508 (by decide +kernel) rfl
theorem w_468 : Cond.static yL_hole ∈ LG := LG_in 509 (by decide +kernel) rfl
theorem w_469 : Cond.codeWith yL_hole cL_hole 5 (some .int) [((0 : Nat), (10 : Nat), (13 : Nat), (13 : Nat))] ∈ LG := LG_in 510 (by decide +kernel) rfl
theorem w_470 : Cond.methodLink RL 39 yX4_hole ∈ LG := LG_in 511 (by decide +kernel) rfl
theorem w_471 : Cond.instanceMethod yX4_hole ∈ LG := LG_in 512 (by decide +kernel) rfl
theorem w_472 : Cond.selects RX4 yX4_hole yX4_hole ∈ LG := LG_in 513 (by decide +kernel) rfl
theorem w_473 : Cond.code yX4_hole cX4_hole 3 (some .int) ∈ LG := LG_in 514 (by decide +kernel) rfl
theorem w_475 : Cond.methodLink RL 98 yL_spearer ∈ LG := LG_in 516 (by decide +kernel) rfl
theorem w_476 : Cond.static yL_spearer ∈ LG := LG_in 517 (by decide +kernel) rfl
theorem w_477 : Cond.codeWith yL_spearer cL_spearer 5 (some .int) [((0 : Nat), (10 : Nat), (13 : Nat), (13 : Nat))] ∈ LG := LG_in 518 (by decide +kernel) rfl
theorem w_478 : Cond.methodLink RL 42 yX4_spearer ∈ LG := LG_in 519 (by decide +kernel) rfl
theorem w_479 : Cond.instanceMethod yX4_spearer ∈ LG := LG_in 520 (by decide +kernel) rfl
theorem w_480 : Cond.selects RX4 yX4_spearer yX4_spearer ∈ LG := LG_in 521 (by decide +kernel) rfl
theorem w_481 : Cond.code yX4_spearer cX4_spearer 3 (some .int) ∈ LG := LG_in 522 (by decide +kernel) rfl
theorem w_483 : Cond.methodLink RL 101 yL_about ∈ LG := LG_in 524 (by decide +kernel) rfl
theorem w_484 : Cond.static yL_about ∈ LG := LG_in 525 (by decide +kernel) rfl
theorem w_485 : Cond.codeWith yL_about cL_about 5 (some .int) [((0 : Nat), (10 : Nat), (13 : Nat), (13 : Nat))] ∈ LG := LG_in 526 (by decide +kernel) rfl
theorem w_486 : Cond.methodLink RL 45 yX4_about ∈ LG := LG_in 527 (by decide +kernel) rfl
theorem w_487 : Cond.instanceMethod yX4_about ∈ LG := LG_in 528 (by decide +kernel) rfl
theorem w_488 : Cond.selects RX4 yX4_about yX4_about ∈ LG := LG_in 529 (by decide +kernel) rfl
theorem w_489 : Cond.code yX4_about cX4_about 3 (some .int) ∈ LG := LG_in 530 (by decide +kernel) rfl
theorem w_490 : Cond.methodLink RX4 151 yX1_hasWarden ∈ LG := LG_in 531 (by decide +kernel) rfl
theorem w_491 : Cond.instanceMethod yX1_hasWarden ∈ LG := LG_in 532 (by decide +kernel) rfl
theorem w_492 : Cond.selects RX1 yX1_hasWarden yX1_hasWarden ∈ LG := LG_in 533 (by decide +kernel) rfl
theorem w_493 : Cond.code yX1_hasWarden cX1_hasWarden 2 (some .boolean) ∈ LG := LG_in 534 (by decide +kernel) rfl
theorem w_495 : Cond.methodLink RL 104 yL_count ∈ LG := LG_in 536 (by decide +kernel) rfl
theorem w_496 : Cond.static yL_count ∈ LG := LG_in 537 (by decide +kernel) rfl
theorem w_497 : Cond.codeWith yL_count cL_count 4 (some .int) [((0 : Nat), (9 : Nat), (12 : Nat), (13 : Nat))] ∈ LG := LG_in 538 (by decide +kernel) rfl
theorem w_498 : Cond.methodLink RL 48 yX4_count ∈ LG := LG_in 539 (by decide +kernel) rfl
theorem w_499 : Cond.instanceMethod yX4_count ∈ LG := LG_in 540 (by decide +kernel) rfl
theorem w_500 : Cond.selects RX4 yX4_count yX4_count ∈ LG := LG_in 541 (by decide +kernel) rfl
theorem w_501 : Cond.code yX4_count cX4_count 2 (some .int) ∈ LG := LG_in 542 (by decide +kernel) rfl
theorem w_503 : Cond.methodLink RL 108 yL_pass ∈ LG := LG_in 544 (by decide +kernel) rfl
theorem w_504 : Cond.static yL_pass ∈ LG := LG_in 545 (by decide +kernel) rfl
theorem w_505 : Cond.codeWith yL_pass cL_pass 4 (some .int) [((0 : Nat), (9 : Nat), (12 : Nat), (15 : Nat))] ∈ LG := LG_in 546 (by decide +kernel) rfl
theorem w_506 : Cond.methodLink RL 52 yX4_pass ∈ LG := LG_in 547 (by decide +kernel) rfl
theorem w_507 : Cond.instanceMethod yX4_pass ∈ LG := LG_in 548 (by decide +kernel) rfl
theorem w_508 : Cond.selects RX4 yX4_pass yX4_pass ∈ LG := LG_in 549 (by decide +kernel) rfl
theorem w_509 : Cond.code yX4_pass cX4_pass 2 (some .int) ∈ LG := LG_in 550 (by decide +kernel) rfl
theorem w_511 : Cond.methodLink RX4 170 yX1_letNightsGo ∈ LG := LG_in 552 (by decide +kernel) rfl
theorem w_512 : Cond.instanceMethod yX1_letNightsGo ∈ LG := LG_in 553 (by decide +kernel) rfl
theorem w_513 : Cond.selects RX1 yX1_letNightsGo yX1_letNightsGo ∈ LG := LG_in 554 (by decide +kernel) rfl
theorem w_514 : Cond.code yX1_letNightsGo cX1_letNightsGo 4 (some .int) ∈ LG := LG_in 555 (by decide +kernel) rfl
theorem w_515 : Cond.methodLink RX1 151 yX1_lightLamps ∈ LG := LG_in 556 (by decide +kernel) rfl
theorem w_517 : Cond.instanceMethod yX1_lightLamps ∈ LG := LG_in 558 (by decide +kernel) rfl
theorem w_518 : Cond.code yX1_lightLamps cX1_lightLamps 3 none ∈ LG := LG_in 559 (by decide +kernel) rfl
theorem w_519 : Cond.methodLink RX1 169 yX1_hasHole ∈ LG := LG_in 560 (by decide +kernel) rfl
theorem w_520 : Cond.methodLink RX1 172 yX1_lure ∈ LG := LG_in 561 (by decide +kernel) rfl
theorem w_522 : Cond.instanceMethod yX1_lure ∈ LG := LG_in 563 (by decide +kernel) rfl
theorem w_523 : Cond.code yX1_lure cX1_lure 10 none ∈ LG := LG_in 564 (by decide +kernel) rfl
theorem w_524 : Cond.methodLink RX1 176 yX1_moveEels ∈ LG := LG_in 565 (by decide +kernel) rfl
theorem w_526 : Cond.instanceMethod yX1_moveEels ∈ LG := LG_in 567 (by decide +kernel) rfl
theorem w_527 : Cond.code yX1_moveEels cX1_moveEels 5 none ∈ LG := LG_in 568 (by decide +kernel) rfl
theorem w_528 : Cond.methodLink RX1 154 yX1_spearEels ∈ LG := LG_in 569 (by decide +kernel) rfl
theorem w_530 : Cond.instanceMethod yX1_spearEels ∈ LG := LG_in 571 (by decide +kernel) rfl
theorem w_531 : Cond.code yX1_spearEels cX1_spearEels 5 none ∈ LG := LG_in 572 (by decide +kernel) rfl
theorem w_532 : Cond.methodLink RX1 157 yX1_sendWardens ∈ LG := LG_in 573 (by decide +kernel) rfl
theorem w_534 : Cond.instanceMethod yX1_sendWardens ∈ LG := LG_in 575 (by decide +kernel) rfl
theorem w_535 : Cond.code yX1_sendWardens cX1_sendWardens 5 none ∈ LG := LG_in 576 (by decide +kernel) rfl
theorem w_536 : Cond.methodLink RX1 183 yX1_nearestOffence ∈ LG := LG_in 577 (by decide +kernel) rfl
theorem w_538 : Cond.instanceMethod yX1_nearestOffence ∈ LG := LG_in 579 (by decide +kernel) rfl
theorem w_539 : Cond.code yX1_nearestOffence cX1_nearestOffence 6 (some .int) ∈ LG := LG_in 580 (by decide +kernel) rfl
theorem w_540 : Cond.methodLink RX1 194 yX1_hasOffender ∈ LG := LG_in 581 (by decide +kernel) rfl
theorem w_542 : Cond.instanceMethod yX1_hasOffender ∈ LG := LG_in 583 (by decide +kernel) rfl
theorem w_543 : Cond.code yX1_hasOffender cX1_hasOffender 3 (some .boolean) ∈ LG := LG_in 584 (by decide +kernel) rfl
theorem w_544 : Cond.methodLink RX1 197 yX2_tookTooMuch ∈ LG := LG_in 585 (by decide +kernel) rfl
theorem w_545 : Cond.instanceMethod yX2_tookTooMuch ∈ LG := LG_in 586 (by decide +kernel) rfl
theorem w_546 : Cond.selects RX2 yX2_tookTooMuch yX2_tookTooMuch ∈ LG := LG_in 587 (by decide +kernel) rfl
theorem w_547 : Cond.code yX2_tookTooMuch cX2_tookTooMuch 1 (some .boolean) ∈ LG := LG_in 588 (by decide +kernel) rfl
theorem w_548 : Cond.methodLink RX1 187 yX3_goTowards ∈ LG := LG_in 589 (by decide +kernel) rfl
theorem w_549 : Cond.instanceMethod yX3_goTowards ∈ LG := LG_in 590 (by decide +kernel) rfl
theorem w_550 : Cond.selects RX3 yX3_goTowards yX3_goTowards ∈ LG := LG_in 591 (by decide +kernel) rfl
theorem w_551 : Cond.code yX3_goTowards cX3_goTowards 3 none ∈ LG := LG_in 592 (by decide +kernel) rfl
theorem w_552 : Cond.methodLink RX3 25 yJ6_compare_7cf53 ∈ LG := LG_in 593 (by decide +kernel) rfl
theorem w_553 : Cond.static yJ6_compare_7cf53 ∈ LG := LG_in 594 (by decide +kernel) rfl
theorem w_554 : Cond.code yJ6_compare_7cf53 cJ6_compare_7cf53 2 (some .int) ∈ LG := LG_in 595 (by decide +kernel) rfl
theorem w_555 : Cond.methodLink RX1 190 yX1_fineAllAt ∈ LG := LG_in 596 (by decide +kernel) rfl
theorem w_557 : Cond.instanceMethod yX1_fineAllAt ∈ LG := LG_in 598 (by decide +kernel) rfl
theorem w_558 : Cond.code yX1_fineAllAt cX1_fineAllAt 7 none ∈ LG := LG_in 599 (by decide +kernel) rfl
theorem w_559 : Cond.methodLink RX1 160 yX1_keepCatches ∈ LG := LG_in 600 (by decide +kernel) rfl
theorem w_561 : Cond.instanceMethod yX1_keepCatches ∈ LG := LG_in 602 (by decide +kernel) rfl
theorem w_562 : Cond.code yX1_keepCatches cX1_keepCatches 3 (some .int) ∈ LG := LG_in 603 (by decide +kernel) rfl
theorem w_563 : Cond.methodLink RX1 163 yX1_breedEels ∈ LG := LG_in 604 (by decide +kernel) rfl
theorem w_565 : Cond.instanceMethod yX1_breedEels ∈ LG := LG_in 606 (by decide +kernel) rfl
theorem w_566 : Cond.code yX1_breedEels cX1_breedEels 2 none ∈ LG := LG_in 607 (by decide +kernel) rfl
theorem w_567 : Cond.methodLink RX1 166 yX1_freeze ∈ LG := LG_in 608 (by decide +kernel) rfl
theorem w_569 : Cond.instanceMethod yX1_freeze ∈ LG := LG_in 610 (by decide +kernel) rfl
theorem w_570 : Cond.code yX1_freeze cX1_freeze 2 none ∈ LG := LG_in 611 (by decide +kernel) rfl
theorem w_571 : Cond.methodLink RX1 202 yX1_frostOf ∈ LG := LG_in 612 (by decide +kernel) rfl
theorem w_573 : Cond.methodLink RX1 208 yX1_closeAllHoles ∈ LG := LG_in 614 (by decide +kernel) rfl
theorem w_575 : Cond.instanceMethod yX1_closeAllHoles ∈ LG := LG_in 616 (by decide +kernel) rfl
theorem w_576 : Cond.code yX1_closeAllHoles cX1_closeAllHoles 2 none ∈ LG := LG_in 617 (by decide +kernel) rfl
theorem w_577 : Cond.methodLink RX1 211 yX1_closeEmptyHoles ∈ LG := LG_in 618 (by decide +kernel) rfl
theorem w_579 : Cond.instanceMethod yX1_closeEmptyHoles ∈ LG := LG_in 620 (by decide +kernel) rfl
theorem w_580 : Cond.code yX1_closeEmptyHoles cX1_closeEmptyHoles 2 none ∈ LG := LG_in 621 (by decide +kernel) rfl
theorem w_581 : Cond.methodLink RL 115 yL_foresee ∈ LG := LG_in 622 (by decide +kernel) rfl
theorem w_582 : Cond.static yL_foresee ∈ LG := LG_in 623 (by decide +kernel) rfl
theorem w_583 : Cond.codeWith yL_foresee cL_foresee 5 (some .int) [((0 : Nat), (10 : Nat), (13 : Nat), (15 : Nat)), ((0 : Nat), (10 : Nat), (17 : Nat), (13 : Nat))] ∈ LG := LG_in 624 (by decide +kernel) rfl
theorem w_584 : Cond.methodLink RL 55 yX4_foresee ∈ LG := LG_in 625 (by decide +kernel) rfl
theorem w_585 : Cond.instanceMethod yX4_foresee ∈ LG := LG_in 626 (by decide +kernel) rfl
theorem w_586 : Cond.selects RX4 yX4_foresee yX4_foresee ∈ LG := LG_in 627 (by decide +kernel) rfl
theorem w_587 : Cond.code yX4_foresee cX4_foresee 3 (some .int) ∈ LG := LG_in 628 (by decide +kernel) rfl
theorem w_588 : Cond.methodLink RX4 182 yX4_isForeseen ∈ LG := LG_in 629 (by decide +kernel) rfl
theorem w_589 : Cond.static yX4_isForeseen ∈ LG := LG_in 630 (by decide +kernel) rfl
theorem w_590 : Cond.code yX4_isForeseen cX4_isForeseen 1 (some .boolean) ∈ LG := LG_in 631 (by decide +kernel) rfl
theorem w_592 : Cond.methodLink RX4 187 yX1_become ∈ LG := LG_in 633 (by decide +kernel) rfl
theorem w_593 : Cond.instanceMethod yX1_become ∈ LG := LG_in 634 (by decide +kernel) rfl
theorem w_594 : Cond.selects RX1 yX1_become yX1_become ∈ LG := LG_in 635 (by decide +kernel) rfl
theorem w_595 : Cond.code yX1_become cX1_become 3 none ∈ LG := LG_in 636 (by decide +kernel) rfl
theorem w_596 : Cond.methodLink RX1 49 yX0_become ∈ LG := LG_in 637 (by decide +kernel) rfl
theorem w_597 : Cond.instanceMethod yX0_become ∈ LG := LG_in 638 (by decide +kernel) rfl
theorem w_598 : Cond.selects RX0 yX0_become yX0_become ∈ LG := LG_in 639 (by decide +kernel) rfl
theorem w_599 : Cond.code yX0_become cX0_become 2 none ∈ LG := LG_in 640 (by decide +kernel) rfl
theorem w_600 : Cond.methodLink RX1 56 yX2_become ∈ LG := LG_in 641 (by decide +kernel) rfl
theorem w_601 : Cond.instanceMethod yX2_become ∈ LG := LG_in 642 (by decide +kernel) rfl
theorem w_602 : Cond.selects RX2 yX2_become yX2_become ∈ LG := LG_in 643 (by decide +kernel) rfl
theorem w_603 : Cond.code yX2_become cX2_become 2 none ∈ LG := LG_in 644 (by decide +kernel) rfl
theorem w_604 : Cond.methodLink RX1 62 yX3_become ∈ LG := LG_in 645 (by decide +kernel) rfl
theorem w_605 : Cond.instanceMethod yX3_become ∈ LG := LG_in 646 (by decide +kernel) rfl
theorem w_606 : Cond.selects RX3 yX3_become yX3_become ∈ LG := LG_in 647 (by decide +kernel) rfl
theorem w_607 : Cond.code yX3_become cX3_become 2 none ∈ LG := LG_in 648 (by decide +kernel) rfl
theorem w_608 : Cond.methodLink RL 118 yL_advise ∈ LG := LG_in 649 (by decide +kernel) rfl
theorem w_609 : Cond.static yL_advise ∈ LG := LG_in 650 (by decide +kernel) rfl
theorem w_610 : Cond.codeWith yL_advise cL_advise 4 (some .int) [((0 : Nat), (9 : Nat), (12 : Nat), (13 : Nat))] ∈ LG := LG_in 651 (by decide +kernel) rfl
theorem w_611 : Cond.methodLink RL 58 yX4_advise ∈ LG := LG_in 652 (by decide +kernel) rfl
theorem w_612 : Cond.instanceMethod yX4_advise ∈ LG := LG_in 653 (by decide +kernel) rfl
theorem w_613 : Cond.selects RX4 yX4_advise yX4_advise ∈ LG := LG_in 654 (by decide +kernel) rfl
theorem w_614 : Cond.code yX4_advise cX4_advise 6 (some .int) ∈ LG := LG_in 655 (by decide +kernel) rfl
theorem w_615 : Cond.methodLink RX4 191 yX4_eelsIfAt ∈ LG := LG_in 656 (by decide +kernel) rfl
theorem w_617 : Cond.instanceMethod yX4_eelsIfAt ∈ LG := LG_in 658 (by decide +kernel) rfl
theorem w_618 : Cond.code yX4_eelsIfAt cX4_eelsIfAt 3 (some .int) ∈ LG := LG_in 659 (by decide +kernel) rfl
theorem w_619 : Cond.classLink RL 62 RX6 ∈ LG := LG_in 660 (by decide +kernel) rfl
theorem w_620 : Cond.instantiable RX6 13 ∈ LG := LG_in 661 (by decide +kernel) rfl
theorem w_621 : Cond.methodLink RL 64 yX6_init ∈ LG := LG_in 662 (by decide +kernel) rfl
theorem w_622 : Cond.instanceMethod yX6_init ∈ LG := LG_in 663 (by decide +kernel) rfl
theorem w_623 : Cond.code yX6_init cX6_init 2 none ∈ LG := LG_in 664 (by decide +kernel) rfl
theorem w_624 : Cond.methodLink RX6 1 Lib.objectInit ∈ LG := LG_in 665 (by decide +kernel) rfl
theorem w_625 : Cond.classLink RX6 31 RX5 ∈ LG := LG_in 666 (by decide +kernel) rfl
theorem w_626 : Cond.instantiable RX5 12 ∈ LG := LG_in 667 (by decide +kernel) rfl
theorem w_628 : Cond.instanceMethod yX5_init ∈ LG := LG_in 669 (by decide +kernel) rfl
theorem w_629 : Cond.code yX5_init cX5_init 2 none ∈ LG := LG_in 670 (by decide +kernel) rfl
theorem w_630 : Cond.methodLink RX5 9 Lib.objectInit ∈ LG := LG_in 671 (by decide +kernel) rfl
theorem w_631 : Cond.fieldLink RX5 53 "EelPermitsModel$State" "night" "I" ∈ LG := LG_in 672 (by decide +kernel) rfl
theorem w_633 : Cond.fieldLink RX5 15 "EelPermitsModel$State" "ice" "I" ∈ LG := LG_in 674 (by decide +kernel) rfl
theorem w_635 : Cond.fieldLink RX5 19 "EelPermitsModel$State" "eels" "[I" ∈ LG := LG_in 676 (by decide +kernel) rfl
theorem w_637 : Cond.fieldLink RX5 23 "EelPermitsModel$State" "open" "[I" ∈ LG := LG_in 678 (by decide +kernel) rfl
theorem w_639 : Cond.fieldLink RX5 26 "EelPermitsModel$State" "at" "[I" ∈ LG := LG_in 680 (by decide +kernel) rfl
theorem w_641 : Cond.fieldLink RX5 29 "EelPermitsModel$State" "caught" "[I" ∈ LG := LG_in 682 (by decide +kernel) rfl
theorem w_643 : Cond.fieldLink RX5 32 "EelPermitsModel$State" "all" "[I" ∈ LG := LG_in 684 (by decide +kernel) rfl
theorem w_645 : Cond.fieldLink RX5 35 "EelPermitsModel$State" "fines" "[I" ∈ LG := LG_in 686 (by decide +kernel) rfl
theorem w_647 : Cond.fieldLink RX5 38 "EelPermitsModel$State" "wardenX" "[I" ∈ LG := LG_in 688 (by decide +kernel) rfl
theorem w_649 : Cond.fieldLink RX5 41 "EelPermitsModel$State" "wardenY" "[I" ∈ LG := LG_in 690 (by decide +kernel) rfl
theorem w_651 : Cond.fieldLink RX5 44 "EelPermitsModel$State" "given" "[I" ∈ LG := LG_in 692 (by decide +kernel) rfl
theorem w_653 : Cond.fieldLink RX5 3 "EelPermitsModel$State" "this$0" "LEelPermitsModel;" ∈ LG := LG_in 694 (by decide +kernel) rfl
theorem w_654 : Cond.lays RX5 RX5 "night" "I" ∈ LG := LG_in 695 (by decide +kernel) rfl
theorem w_656 : Cond.lays RX5 RX5 "ice" "I" ∈ LG := LG_in 697 (by decide +kernel) rfl
theorem w_658 : Cond.laysFinal RX5 RX5 "eels" "[I" ∈ LG := LG_in 699 (by decide +kernel) rfl
theorem w_660 : Cond.laysFinal RX5 RX5 "open" "[I" ∈ LG := LG_in 701 (by decide +kernel) rfl
theorem w_662 : Cond.laysFinal RX5 RX5 "at" "[I" ∈ LG := LG_in 703 (by decide +kernel) rfl
theorem w_664 : Cond.laysFinal RX5 RX5 "caught" "[I" ∈ LG := LG_in 705 (by decide +kernel) rfl
theorem w_666 : Cond.laysFinal RX5 RX5 "all" "[I" ∈ LG := LG_in 707 (by decide +kernel) rfl
theorem w_668 : Cond.laysFinal RX5 RX5 "fines" "[I" ∈ LG := LG_in 709 (by decide +kernel) rfl
theorem w_670 : Cond.laysFinal RX5 RX5 "wardenX" "[I" ∈ LG := LG_in 711 (by decide +kernel) rfl
theorem w_672 : Cond.laysFinal RX5 RX5 "wardenY" "[I" ∈ LG := LG_in 713 (by decide +kernel) rfl
theorem w_674 : Cond.laysFinal RX5 RX5 "given" "[I" ∈ LG := LG_in 715 (by decide +kernel) rfl
theorem w_676 : Cond.laysFinal RX5 RX5 "this$0" "LEelPermitsModel;" ∈ LG := LG_in 717 (by decide +kernel) rfl
theorem w_679 : Cond.fieldLink RX6 43 "EelPermitsModel" "thrown" "I" ∈ LG := LG_in 720 (by decide +kernel) rfl
theorem w_680 : Cond.fieldLink RX6 9 "EelPermitsModel" "mud" "[I" ∈ LG := LG_in 721 (by decide +kernel) rfl
theorem w_682 : Cond.fieldLink RX6 13 "EelPermitsModel" "frost" "[I" ∈ LG := LG_in 723 (by decide +kernel) rfl
theorem w_684 : Cond.fieldLink RX6 61 "EelPermitsModel" "holes" "I" ∈ LG := LG_in 725 (by decide +kernel) rfl
theorem w_686 : Cond.fieldLink RX6 16 "EelPermitsModel" "holeX" "[I" ∈ LG := LG_in 727 (by decide +kernel) rfl
theorem w_688 : Cond.fieldLink RX6 19 "EelPermitsModel" "holeY" "[I" ∈ LG := LG_in 729 (by decide +kernel) rfl
theorem w_691 : Cond.fieldLink RX6 64 "EelPermitsModel" "spearers" "I" ∈ LG := LG_in 732 (by decide +kernel) rfl
theorem w_692 : Cond.fieldLink RX6 22 "EelPermitsModel" "permit" "[I" ∈ LG := LG_in 733 (by decide +kernel) rfl
theorem w_694 : Cond.fieldLink RX6 25 "EelPermitsModel" "light" "[I" ∈ LG := LG_in 735 (by decide +kernel) rfl
theorem w_697 : Cond.fieldLink RX6 99 "EelPermitsModel" "wardens" "I" ∈ LG := LG_in 738 (by decide +kernel) rfl
theorem w_698 : Cond.fieldLink RX6 28 "EelPermitsModel" "pace" "[I" ∈ LG := LG_in 739 (by decide +kernel) rfl
theorem w_700 : Cond.fieldLink RX6 36 "EelPermitsModel" "s" "LEelPermitsModel$State;" ∈ LG := LG_in 741 (by decide +kernel) rfl
theorem w_701 : Cond.fieldLink RX6 40 "EelPermitsModel" "ahead" "LEelPermitsModel$State;" ∈ LG := LG_in 742 (by decide +kernel) rfl
theorem w_702 : Cond.lays RX6 RX6 "thrown" "I" ∈ LG := LG_in 743 (by decide +kernel) rfl
theorem w_704 : Cond.laysFinal RX6 RX6 "mud" "[I" ∈ LG := LG_in 745 (by decide +kernel) rfl
theorem w_706 : Cond.laysFinal RX6 RX6 "frost" "[I" ∈ LG := LG_in 747 (by decide +kernel) rfl
theorem w_708 : Cond.lays RX6 RX6 "holes" "I" ∈ LG := LG_in 749 (by decide +kernel) rfl
theorem w_710 : Cond.laysFinal RX6 RX6 "holeX" "[I" ∈ LG := LG_in 751 (by decide +kernel) rfl
theorem w_712 : Cond.laysFinal RX6 RX6 "holeY" "[I" ∈ LG := LG_in 753 (by decide +kernel) rfl
theorem w_714 : Cond.lays RX6 RX6 "spearers" "I" ∈ LG := LG_in 755 (by decide +kernel) rfl
theorem w_716 : Cond.laysFinal RX6 RX6 "permit" "[I" ∈ LG := LG_in 757 (by decide +kernel) rfl
theorem w_718 : Cond.laysFinal RX6 RX6 "light" "[I" ∈ LG := LG_in 759 (by decide +kernel) rfl
theorem w_720 : Cond.lays RX6 RX6 "wardens" "I" ∈ LG := LG_in 761 (by decide +kernel) rfl
theorem w_722 : Cond.laysFinal RX6 RX6 "pace" "[I" ∈ LG := LG_in 763 (by decide +kernel) rfl
theorem w_724 : Cond.laysFinal RX6 RX6 "s" "LEelPermitsModel$State;" ∈ LG := LG_in 765 (by decide +kernel) rfl
theorem w_726 : Cond.laysFinal RX6 RX6 "ahead" "LEelPermitsModel$State;" ∈ LG := LG_in 767 (by decide +kernel) rfl
theorem w_729 : Cond.methodLink RL 71 yX6_thrown ∈ LG := LG_in 770 (by decide +kernel) rfl
theorem w_730 : Cond.instanceMethod yX6_thrown ∈ LG := LG_in 771 (by decide +kernel) rfl
theorem w_731 : Cond.selects RX6 yX6_thrown yX6_thrown ∈ LG := LG_in 772 (by decide +kernel) rfl
theorem w_732 : Cond.code yX6_thrown cX6_thrown 1 (some .int) ∈ LG := LG_in 773 (by decide +kernel) rfl
theorem w_733 : Cond.methodLink RL 70 yX6_set ∈ LG := LG_in 774 (by decide +kernel) rfl
theorem w_734 : Cond.instanceMethod yX6_set ∈ LG := LG_in 775 (by decide +kernel) rfl
theorem w_735 : Cond.selects RX6 yX6_set yX6_set ∈ LG := LG_in 776 (by decide +kernel) rfl
theorem w_736 : Cond.code yX6_set cX6_set 7 (some .int) ∈ LG := LG_in 777 (by decide +kernel) rfl
theorem w_737 : Cond.methodLink RX6 73 yX6_isCell ∈ LG := LG_in 778 (by decide +kernel) rfl
theorem w_738 : Cond.static yX6_isCell ∈ LG := LG_in 779 (by decide +kernel) rfl
theorem w_739 : Cond.code yX6_isCell cX6_isCell 2 (some .boolean) ∈ LG := LG_in 780 (by decide +kernel) rfl
theorem w_740 : Cond.methodLink RX6 47 yX6_isIn ∈ LG := LG_in 781 (by decide +kernel) rfl
theorem w_741 : Cond.static yX6_isIn ∈ LG := LG_in 782 (by decide +kernel) rfl
theorem w_742 : Cond.code yX6_isIn cX6_isIn 3 (some .boolean) ∈ LG := LG_in 783 (by decide +kernel) rfl
theorem w_743 : Cond.methodLink RX6 77 yX6_no ∈ LG := LG_in 784 (by decide +kernel) rfl
theorem w_745 : Cond.instanceMethod yX6_no ∈ LG := LG_in 786 (by decide +kernel) rfl
theorem w_746 : Cond.code yX6_no cX6_no 2 (some .int) ∈ LG := LG_in 787 (by decide +kernel) rfl
theorem w_747 : Cond.methodLink RL 78 yX6_setFrost ∈ LG := LG_in 788 (by decide +kernel) rfl
theorem w_748 : Cond.instanceMethod yX6_setFrost ∈ LG := LG_in 789 (by decide +kernel) rfl
theorem w_749 : Cond.selects RX6 yX6_setFrost yX6_setFrost ∈ LG := LG_in 790 (by decide +kernel) rfl
theorem w_750 : Cond.code yX6_setFrost cX6_setFrost 4 (some .int) ∈ LG := LG_in 791 (by decide +kernel) rfl
theorem w_751 : Cond.methodLink RL 81 yX6_cut ∈ LG := LG_in 792 (by decide +kernel) rfl
theorem w_752 : Cond.instanceMethod yX6_cut ∈ LG := LG_in 793 (by decide +kernel) rfl
theorem w_753 : Cond.selects RX6 yX6_cut yX6_cut ∈ LG := LG_in 794 (by decide +kernel) rfl
theorem w_754 : Cond.code yX6_cut cX6_cut 3 (some .int) ∈ LG := LG_in 795 (by decide +kernel) rfl
theorem w_755 : Cond.methodLink RX6 86 yX6_holeIn ∈ LG := LG_in 796 (by decide +kernel) rfl
theorem w_757 : Cond.instanceMethod yX6_holeIn ∈ LG := LG_in 798 (by decide +kernel) rfl
theorem w_758 : Cond.code yX6_holeIn cX6_holeIn 3 (some .int) ∈ LG := LG_in 799 (by decide +kernel) rfl
theorem w_759 : Cond.methodLink RX6 70 yX6_cellOf ∈ LG := LG_in 800 (by decide +kernel) rfl
theorem w_761 : Cond.instanceMethod yX6_cellOf ∈ LG := LG_in 802 (by decide +kernel) rfl
theorem w_762 : Cond.code yX6_cellOf cX6_cellOf 2 (some .int) ∈ LG := LG_in 803 (by decide +kernel) rfl
theorem w_763 : Cond.methodLink RL 84 yX6_license ∈ LG := LG_in 804 (by decide +kernel) rfl
theorem w_764 : Cond.instanceMethod yX6_license ∈ LG := LG_in 805 (by decide +kernel) rfl
theorem w_765 : Cond.selects RX6 yX6_license yX6_license ∈ LG := LG_in 806 (by decide +kernel) rfl
theorem w_766 : Cond.code yX6_license cX6_license 3 (some .int) ∈ LG := LG_in 807 (by decide +kernel) rfl
theorem w_767 : Cond.methodLink RL 87 yX6_go ∈ LG := LG_in 808 (by decide +kernel) rfl
theorem w_768 : Cond.instanceMethod yX6_go ∈ LG := LG_in 809 (by decide +kernel) rfl
theorem w_769 : Cond.selects RX6 yX6_go yX6_go ∈ LG := LG_in 810 (by decide +kernel) rfl
theorem w_770 : Cond.code yX6_go cX6_go 4 (some .int) ∈ LG := LG_in 811 (by decide +kernel) rfl
theorem w_771 : Cond.methodLink RX6 92 yX6_isSpearer ∈ LG := LG_in 812 (by decide +kernel) rfl
theorem w_773 : Cond.instanceMethod yX6_isSpearer ∈ LG := LG_in 814 (by decide +kernel) rfl
theorem w_774 : Cond.code yX6_isSpearer cX6_isSpearer 2 (some .boolean) ∈ LG := LG_in 815 (by decide +kernel) rfl
theorem w_775 : Cond.methodLink RX6 96 yX6_isHole ∈ LG := LG_in 816 (by decide +kernel) rfl
theorem w_777 : Cond.instanceMethod yX6_isHole ∈ LG := LG_in 818 (by decide +kernel) rfl
theorem w_778 : Cond.code yX6_isHole cX6_isHole 2 (some .boolean) ∈ LG := LG_in 819 (by decide +kernel) rfl
theorem w_779 : Cond.methodLink RL 91 yX6_warden ∈ LG := LG_in 820 (by decide +kernel) rfl
theorem w_780 : Cond.instanceMethod yX6_warden ∈ LG := LG_in 821 (by decide +kernel) rfl
theorem w_781 : Cond.selects RX6 yX6_warden yX6_warden ∈ LG := LG_in 822 (by decide +kernel) rfl
theorem w_782 : Cond.code yX6_warden cX6_warden 4 (some .int) ∈ LG := LG_in 823 (by decide +kernel) rfl
theorem w_783 : Cond.methodLink RL 94 yX6_cell ∈ LG := LG_in 824 (by decide +kernel) rfl
theorem w_784 : Cond.instanceMethod yX6_cell ∈ LG := LG_in 825 (by decide +kernel) rfl
theorem w_785 : Cond.selects RX6 yX6_cell yX6_cell ∈ LG := LG_in 826 (by decide +kernel) rfl
theorem w_786 : Cond.code yX6_cell cX6_cell 4 (some .int) ∈ LG := LG_in 827 (by decide +kernel) rfl
theorem w_787 : Cond.methodLink RX6 111 yX6_cellTold ∈ LG := LG_in 828 (by decide +kernel) rfl
theorem w_789 : Cond.instanceMethod yX6_cellTold ∈ LG := LG_in 830 (by decide +kernel) rfl
theorem w_790 : Cond.code yX6_cellTold cX6_cellTold 3 (some .int) ∈ LG := LG_in 831 (by decide +kernel) rfl
theorem w_791 : Cond.methodLink RX6 108 yX5_would ∈ LG := LG_in 832 (by decide +kernel) rfl
theorem w_792 : Cond.instanceMethod yX5_would ∈ LG := LG_in 833 (by decide +kernel) rfl
theorem w_793 : Cond.selects RX5 yX5_would yX5_would ∈ LG := LG_in 834 (by decide +kernel) rfl
theorem w_794 : Cond.code yX5_would cX5_would 2 (some .int) ∈ LG := LG_in 835 (by decide +kernel) rfl
theorem w_795 : Cond.methodLink RX5 73 Lib.Math.min.name ∈ LG := LG_in 836 (by decide +kernel) rfl
theorem w_796 : Cond.methodLink RX5 82 Lib.Math.max.name ∈ LG := LG_in 837 (by decide +kernel) rfl
theorem w_797 : Cond.methodLink RL 97 yX6_hole ∈ LG := LG_in 838 (by decide +kernel) rfl
theorem w_798 : Cond.instanceMethod yX6_hole ∈ LG := LG_in 839 (by decide +kernel) rfl
theorem w_799 : Cond.selects RX6 yX6_hole yX6_hole ∈ LG := LG_in 840 (by decide +kernel) rfl
theorem w_800 : Cond.code yX6_hole cX6_hole 3 (some .int) ∈ LG := LG_in 841 (by decide +kernel) rfl
theorem w_801 : Cond.methodLink RX6 123 yX6_holeTold ∈ LG := LG_in 842 (by decide +kernel) rfl
theorem w_803 : Cond.instanceMethod yX6_holeTold ∈ LG := LG_in 844 (by decide +kernel) rfl
theorem w_804 : Cond.code yX6_holeTold cX6_holeTold 3 (some .int) ∈ LG := LG_in 845 (by decide +kernel) rfl
theorem w_805 : Cond.methodLink RX6 117 yX5_spearersAt ∈ LG := LG_in 846 (by decide +kernel) rfl
theorem w_806 : Cond.instanceMethod yX5_spearersAt ∈ LG := LG_in 847 (by decide +kernel) rfl
theorem w_807 : Cond.selects RX5 yX5_spearersAt yX5_spearersAt ∈ LG := LG_in 848 (by decide +kernel) rfl
theorem w_808 : Cond.code yX5_spearersAt cX5_spearersAt 4 (some .int) ∈ LG := LG_in 849 (by decide +kernel) rfl
theorem w_809 : Cond.methodLink RX6 120 yX6_nearest ∈ LG := LG_in 850 (by decide +kernel) rfl
theorem w_811 : Cond.instanceMethod yX6_nearest ∈ LG := LG_in 852 (by decide +kernel) rfl
theorem w_812 : Cond.code yX6_nearest cX6_nearest 4 (some .int) ∈ LG := LG_in 853 (by decide +kernel) rfl
theorem w_813 : Cond.methodLink RX6 114 yX5_farFrom ∈ LG := LG_in 854 (by decide +kernel) rfl
theorem w_814 : Cond.instanceMethod yX5_farFrom ∈ LG := LG_in 855 (by decide +kernel) rfl
theorem w_815 : Cond.selects RX5 yX5_farFrom yX5_farFrom ∈ LG := LG_in 856 (by decide +kernel) rfl
theorem w_816 : Cond.code yX5_farFrom cX5_farFrom 3 (some .int) ∈ LG := LG_in 857 (by decide +kernel) rfl
theorem w_818 : Cond.static yX6_far ∈ LG := LG_in 859 (by decide +kernel) rfl
theorem w_819 : Cond.code yX6_far cX6_far 4 (some .int) ∈ LG := LG_in 860 (by decide +kernel) rfl
theorem w_820 : Cond.methodLink RX6 51 Lib.Math.abs.name ∈ LG := LG_in 861 (by decide +kernel) rfl
theorem w_821 : Cond.methodLink RX6 57 Lib.Math.max.name ∈ LG := LG_in 862 (by decide +kernel) rfl
theorem w_822 : Cond.methodLink RL 100 yX6_spearer ∈ LG := LG_in 863 (by decide +kernel) rfl
theorem w_823 : Cond.instanceMethod yX6_spearer ∈ LG := LG_in 864 (by decide +kernel) rfl
theorem w_824 : Cond.selects RX6 yX6_spearer yX6_spearer ∈ LG := LG_in 865 (by decide +kernel) rfl
theorem w_825 : Cond.code yX6_spearer cX6_spearer 3 (some .int) ∈ LG := LG_in 866 (by decide +kernel) rfl
theorem w_826 : Cond.methodLink RX6 135 yX6_spearerTold ∈ LG := LG_in 867 (by decide +kernel) rfl
theorem w_828 : Cond.instanceMethod yX6_spearerTold ∈ LG := LG_in 869 (by decide +kernel) rfl
theorem w_829 : Cond.code yX6_spearerTold cX6_spearerTold 3 (some .int) ∈ LG := LG_in 870 (by decide +kernel) rfl
theorem w_830 : Cond.methodLink RL 103 yX6_about ∈ LG := LG_in 871 (by decide +kernel) rfl
theorem w_831 : Cond.instanceMethod yX6_about ∈ LG := LG_in 872 (by decide +kernel) rfl
theorem w_832 : Cond.selects RX6 yX6_about yX6_about ∈ LG := LG_in 873 (by decide +kernel) rfl
theorem w_833 : Cond.code yX6_about cX6_about 3 (some .int) ∈ LG := LG_in 874 (by decide +kernel) rfl
theorem w_834 : Cond.methodLink RX6 141 yX6_wardenTold ∈ LG := LG_in 875 (by decide +kernel) rfl
theorem w_836 : Cond.instanceMethod yX6_wardenTold ∈ LG := LG_in 877 (by decide +kernel) rfl
theorem w_837 : Cond.code yX6_wardenTold cX6_wardenTold 3 (some .int) ∈ LG := LG_in 878 (by decide +kernel) rfl
theorem w_838 : Cond.methodLink RL 107 yX6_count ∈ LG := LG_in 879 (by decide +kernel) rfl
theorem w_839 : Cond.instanceMethod yX6_count ∈ LG := LG_in 880 (by decide +kernel) rfl
theorem w_840 : Cond.selects RX6 yX6_count yX6_count ∈ LG := LG_in 881 (by decide +kernel) rfl
theorem w_841 : Cond.code yX6_count cX6_count 2 (some .int) ∈ LG := LG_in 882 (by decide +kernel) rfl
theorem w_842 : Cond.methodLink RX6 144 yX5_count ∈ LG := LG_in 883 (by decide +kernel) rfl
theorem w_843 : Cond.instanceMethod yX5_count ∈ LG := LG_in 884 (by decide +kernel) rfl
theorem w_844 : Cond.selects RX5 yX5_count yX5_count ∈ LG := LG_in 885 (by decide +kernel) rfl
theorem w_845 : Cond.code yX5_count cX5_count 2 (some .int) ∈ LG := LG_in 886 (by decide +kernel) rfl
theorem w_846 : Cond.methodLink RX5 149 yX5_sum ∈ LG := LG_in 887 (by decide +kernel) rfl
theorem w_848 : Cond.instanceMethod yX5_sum ∈ LG := LG_in 889 (by decide +kernel) rfl
theorem w_849 : Cond.code yX5_sum cX5_sum 5 (some .int) ∈ LG := LG_in 890 (by decide +kernel) rfl
theorem w_850 : Cond.methodLink RL 110 yX6_pass ∈ LG := LG_in 891 (by decide +kernel) rfl
theorem w_851 : Cond.instanceMethod yX6_pass ∈ LG := LG_in 892 (by decide +kernel) rfl
theorem w_852 : Cond.selects RX6 yX6_pass yX6_pass ∈ LG := LG_in 893 (by decide +kernel) rfl
theorem w_853 : Cond.code yX6_pass cX6_pass 2 (some .int) ∈ LG := LG_in 894 (by decide +kernel) rfl
theorem w_854 : Cond.methodLink RX6 147 yX5_pass_ ∈ LG := LG_in 895 (by decide +kernel) rfl
theorem w_855 : Cond.instanceMethod yX5_pass_ ∈ LG := LG_in 896 (by decide +kernel) rfl
theorem w_856 : Cond.selects RX5 yX5_pass_ yX5_pass_ ∈ LG := LG_in 897 (by decide +kernel) rfl
theorem w_857 : Cond.code yX5_pass_ cX5_pass_ 4 (some .int) ∈ LG := LG_in 898 (by decide +kernel) rfl
theorem w_858 : Cond.methodLink RX5 145 yX5_pass ∈ LG := LG_in 899 (by decide +kernel) rfl
theorem w_859 : Cond.instanceMethod yX5_pass ∈ LG := LG_in 900 (by decide +kernel) rfl
theorem w_860 : Cond.selects RX5 yX5_pass yX5_pass ∈ LG := LG_in 901 (by decide +kernel) rfl
theorem w_861 : Cond.code yX5_pass cX5_pass 3 (some .int) ∈ LG := LG_in 902 (by decide +kernel) rfl
theorem w_862 : Cond.methodLink RX5 125 yX5_lure ∈ LG := LG_in 903 (by decide +kernel) rfl
theorem w_864 : Cond.instanceMethod yX5_lure ∈ LG := LG_in 905 (by decide +kernel) rfl
theorem w_865 : Cond.code yX5_lure cX5_lure 7 none ∈ LG := LG_in 906 (by decide +kernel) rfl
theorem w_866 : Cond.methodLink RX5 129 yX5_spear ∈ LG := LG_in 907 (by decide +kernel) rfl
theorem w_868 : Cond.instanceMethod yX5_spear ∈ LG := LG_in 909 (by decide +kernel) rfl
theorem w_869 : Cond.code yX5_spear cX5_spear 3 none ∈ LG := LG_in 910 (by decide +kernel) rfl
theorem w_871 : Cond.methodLink RX5 89 yX5_would ∈ LG := LG_in 912 (by decide +kernel) rfl
theorem w_872 : Cond.methodLink RX5 135 yX5_guard ∈ LG := LG_in 913 (by decide +kernel) rfl
theorem w_874 : Cond.instanceMethod yX5_guard ∈ LG := LG_in 915 (by decide +kernel) rfl
theorem w_875 : Cond.code yX5_guard cX5_guard 5 none ∈ LG := LG_in 916 (by decide +kernel) rfl
theorem w_876 : Cond.methodLink RX5 108 yX5_goal ∈ LG := LG_in 917 (by decide +kernel) rfl
theorem w_878 : Cond.instanceMethod yX5_goal ∈ LG := LG_in 919 (by decide +kernel) rfl
theorem w_879 : Cond.code yX5_goal cX5_goal 7 (some .int) ∈ LG := LG_in 920 (by decide +kernel) rfl
theorem w_880 : Cond.methodLink RX5 101 yX5_isOver ∈ LG := LG_in 921 (by decide +kernel) rfl
theorem w_882 : Cond.instanceMethod yX5_isOver ∈ LG := LG_in 923 (by decide +kernel) rfl
theorem w_883 : Cond.code yX5_isOver cX5_isOver 3 (some .boolean) ∈ LG := LG_in 924 (by decide +kernel) rfl
theorem w_884 : Cond.methodLink RX5 105 yX5_farFrom ∈ LG := LG_in 925 (by decide +kernel) rfl
theorem w_885 : Cond.methodLink RX5 114 yJ6_signum_0f7a4 ∈ LG := LG_in 926 (by decide +kernel) rfl
theorem w_886 : Cond.static yJ6_signum_0f7a4 ∈ LG := LG_in 927 (by decide +kernel) rfl
theorem w_887 : Cond.code yJ6_signum_0f7a4 cJ6_signum_0f7a4 1 (some .int) ∈ LG := LG_in 928 (by decide +kernel) rfl
theorem w_889 : Cond.methodLink RX5 142 yX5_freeze ∈ LG := LG_in 930 (by decide +kernel) rfl
theorem w_891 : Cond.instanceMethod yX5_freeze ∈ LG := LG_in 932 (by decide +kernel) rfl
theorem w_892 : Cond.code yX5_freeze cX5_freeze 3 none ∈ LG := LG_in 933 (by decide +kernel) rfl
theorem w_893 : Cond.methodLink RX5 122 yX5_spearersAt ∈ LG := LG_in 934 (by decide +kernel) rfl
theorem w_894 : Cond.methodLink RL 114 yX6_bears ∈ LG := LG_in 935 (by decide +kernel) rfl
theorem w_895 : Cond.instanceMethod yX6_bears ∈ LG := LG_in 936 (by decide +kernel) rfl
theorem w_896 : Cond.selects RX6 yX6_bears yX6_bears ∈ LG := LG_in 937 (by decide +kernel) rfl
theorem w_897 : Cond.code yX6_bears cX6_bears 3 (some .int) ∈ LG := LG_in 938 (by decide +kernel) rfl
theorem w_898 : Cond.methodLink RX6 153 Lib.Math.min.name ∈ LG := LG_in 939 (by decide +kernel) rfl
theorem w_899 : Cond.methodLink RL 117 yX6_foresee ∈ LG := LG_in 940 (by decide +kernel) rfl
theorem w_900 : Cond.instanceMethod yX6_foresee ∈ LG := LG_in 941 (by decide +kernel) rfl
theorem w_901 : Cond.selects RX6 yX6_foresee yX6_foresee ∈ LG := LG_in 942 (by decide +kernel) rfl
theorem w_902 : Cond.code yX6_foresee cX6_foresee 3 (some .int) ∈ LG := LG_in 943 (by decide +kernel) rfl
theorem w_903 : Cond.methodLink RX6 156 yX5_become ∈ LG := LG_in 944 (by decide +kernel) rfl
theorem w_904 : Cond.instanceMethod yX5_become ∈ LG := LG_in 945 (by decide +kernel) rfl
theorem w_905 : Cond.selects RX5 yX5_become yX5_become ∈ LG := LG_in 946 (by decide +kernel) rfl
theorem w_906 : Cond.code yX5_become cX5_become 2 none ∈ LG := LG_in 947 (by decide +kernel) rfl
theorem w_907 : Cond.methodLink RX5 56 yX5_copy ∈ LG := LG_in 948 (by decide +kernel) rfl
theorem w_909 : Cond.instanceMethod yX5_copy ∈ LG := LG_in 950 (by decide +kernel) rfl
theorem w_910 : Cond.code yX5_copy cX5_copy 3 none ∈ LG := LG_in 951 (by decide +kernel) rfl
theorem w_911 : Cond.methodLink RX5 47 arraycopyName ∈ LG := LG_in 952 (by decide +kernel) rfl
theorem w_912 : Cond.static arraycopyName ∈ LG := LG_in 953 (by decide +kernel) rfl
theorem w_913 : Cond.native arraycopyName ∈ LG := LG_in 954 (by decide +kernel) rfl
theorem w_914 : Cond.methodLink RL 120 yX6_advise ∈ LG := LG_in 955 (by decide +kernel) rfl
theorem w_915 : Cond.instanceMethod yX6_advise ∈ LG := LG_in 956 (by decide +kernel) rfl
theorem w_916 : Cond.selects RX6 yX6_advise yX6_advise ∈ LG := LG_in 957 (by decide +kernel) rfl
theorem w_917 : Cond.code yX6_advise cX6_advise 5 (some .int) ∈ LG := LG_in 958 (by decide +kernel) rfl
theorem w_918 : Cond.methodLink RL 125 yX6_mean ∈ LG := LG_in 959 (by decide +kernel) rfl
theorem w_919 : Cond.instanceMethod yX6_mean ∈ LG := LG_in 960 (by decide +kernel) rfl
theorem w_920 : Cond.selects RX6 yX6_mean yX6_mean ∈ LG := LG_in 961 (by decide +kernel) rfl
theorem w_921 : Cond.code yX6_mean cX6_mean 1 (some .double) ∈ LG := LG_in 962 (by decide +kernel) rfl
theorem w_923 : Cond.methodLink RL 130 yX6_digest ∈ LG := LG_in 964 (by decide +kernel) rfl
theorem w_924 : Cond.instanceMethod yX6_digest ∈ LG := LG_in 965 (by decide +kernel) rfl
theorem w_925 : Cond.selects RX6 yX6_digest yX6_digest ∈ LG := LG_in 966 (by decide +kernel) rfl
theorem w_926 : Cond.code yX6_digest cX6_digest 7 (some .long) ∈ LG := LG_in 967 (by decide +kernel) rfl
theorem w_927 : Cond.constantLong RX6 164 (1187 : Int64) ∈ LG := LG_in 968 (by decide +kernel) rfl
theorem w_928 : Cond.constantLong RX6 166 (31 : Int64) ∈ LG := LG_in 969 (by decide +kernel) rfl
theorem w_929 : Cond.arrayClass Jvm.ClassFile.FieldType.long ∈ LG := LG_in 970 (by decide +kernel) rfl
theorem ws_0 : Cond.selects RX1 yX1_eelsOfLake yX1_eelsOfLake ∈ LG := LG_in 0 (by decide +kernel) rfl
theorem ws_1 : Cond.selects RX1 yX1_openHoles yX1_openHoles ∈ LG := LG_in 1 (by decide +kernel) rfl
theorem ws_2 : Cond.selects RX1 yX1_eelsOfSpearers yX1_eelsOfSpearers ∈ LG := LG_in 2 (by decide +kernel) rfl
theorem ws_3 : Cond.selects RX1 yX1_finesOfSpearers yX1_finesOfSpearers ∈ LG := LG_in 3 (by decide +kernel) rfl
theorem ws_4 : Cond.selects RX4 yX4_digestOfCells yX4_digestOfCells ∈ LG := LG_in 4 (by decide +kernel) rfl
theorem ws_5 : Cond.selects RX1 yX1_spearersAt yX1_spearersAt ∈ LG := LG_in 5 (by decide +kernel) rfl
theorem ws_6 : Cond.selects RX1 yX1_nearestWardenTo yX1_nearestWardenTo ∈ LG := LG_in 6 (by decide +kernel) rfl
theorem ws_7 : Cond.selects RX4 yX4_digestOfPeople yX4_digestOfPeople ∈ LG := LG_in 7 (by decide +kernel) rfl
theorem ws_9 : Cond.selects RX1 yX1_lightLamps yX1_lightLamps ∈ LG := LG_in 9 (by decide +kernel) rfl
theorem ws_10 : Cond.selects RX1 yX1_lure yX1_lure ∈ LG := LG_in 10 (by decide +kernel) rfl
theorem ws_11 : Cond.selects RX1 yX1_moveEels yX1_moveEels ∈ LG := LG_in 11 (by decide +kernel) rfl
theorem ws_12 : Cond.selects RX1 yX1_spearEels yX1_spearEels ∈ LG := LG_in 12 (by decide +kernel) rfl
theorem ws_13 : Cond.selects RX1 yX1_sendWardens yX1_sendWardens ∈ LG := LG_in 13 (by decide +kernel) rfl
theorem ws_14 : Cond.selects RX1 yX1_nearestOffence yX1_nearestOffence ∈ LG := LG_in 14 (by decide +kernel) rfl
theorem ws_15 : Cond.selects RX1 yX1_hasOffender yX1_hasOffender ∈ LG := LG_in 15 (by decide +kernel) rfl
theorem ws_16 : Cond.selects RX1 yX1_fineAllAt yX1_fineAllAt ∈ LG := LG_in 16 (by decide +kernel) rfl
theorem ws_17 : Cond.selects RX1 yX1_keepCatches yX1_keepCatches ∈ LG := LG_in 17 (by decide +kernel) rfl
theorem ws_18 : Cond.selects RX1 yX1_breedEels yX1_breedEels ∈ LG := LG_in 18 (by decide +kernel) rfl
theorem ws_19 : Cond.selects RX1 yX1_freeze yX1_freeze ∈ LG := LG_in 19 (by decide +kernel) rfl
theorem ws_20 : Cond.selects RX1 yX1_closeAllHoles yX1_closeAllHoles ∈ LG := LG_in 20 (by decide +kernel) rfl
theorem ws_21 : Cond.selects RX1 yX1_closeEmptyHoles yX1_closeEmptyHoles ∈ LG := LG_in 21 (by decide +kernel) rfl
theorem ws_22 : Cond.selects RX4 yX4_eelsIfAt yX4_eelsIfAt ∈ LG := LG_in 22 (by decide +kernel) rfl
theorem ws_23 : Cond.selects RX6 yX6_no yX6_no ∈ LG := LG_in 23 (by decide +kernel) rfl
theorem ws_24 : Cond.selects RX6 yX6_holeIn yX6_holeIn ∈ LG := LG_in 24 (by decide +kernel) rfl
theorem ws_25 : Cond.selects RX6 yX6_cellOf yX6_cellOf ∈ LG := LG_in 25 (by decide +kernel) rfl
theorem ws_26 : Cond.selects RX6 yX6_isSpearer yX6_isSpearer ∈ LG := LG_in 26 (by decide +kernel) rfl
theorem ws_27 : Cond.selects RX6 yX6_isHole yX6_isHole ∈ LG := LG_in 27 (by decide +kernel) rfl
theorem ws_28 : Cond.selects RX6 yX6_cellTold yX6_cellTold ∈ LG := LG_in 28 (by decide +kernel) rfl
theorem ws_29 : Cond.selects RX6 yX6_holeTold yX6_holeTold ∈ LG := LG_in 29 (by decide +kernel) rfl
theorem ws_30 : Cond.selects RX6 yX6_nearest yX6_nearest ∈ LG := LG_in 30 (by decide +kernel) rfl
theorem ws_31 : Cond.selects RX6 yX6_spearerTold yX6_spearerTold ∈ LG := LG_in 31 (by decide +kernel) rfl
theorem ws_32 : Cond.selects RX6 yX6_wardenTold yX6_wardenTold ∈ LG := LG_in 32 (by decide +kernel) rfl
theorem ws_33 : Cond.selects RX5 yX5_sum yX5_sum ∈ LG := LG_in 33 (by decide +kernel) rfl
theorem ws_34 : Cond.selects RX5 yX5_lure yX5_lure ∈ LG := LG_in 34 (by decide +kernel) rfl
theorem ws_35 : Cond.selects RX5 yX5_spear yX5_spear ∈ LG := LG_in 35 (by decide +kernel) rfl
theorem ws_36 : Cond.selects RX5 yX5_guard yX5_guard ∈ LG := LG_in 36 (by decide +kernel) rfl
theorem ws_37 : Cond.selects RX5 yX5_goal yX5_goal ∈ LG := LG_in 37 (by decide +kernel) rfl
theorem ws_38 : Cond.selects RX5 yX5_isOver yX5_isOver ∈ LG := LG_in 38 (by decide +kernel) rfl
theorem ws_39 : Cond.selects RX5 yX5_freeze yX5_freeze ∈ LG := LG_in 39 (by decide +kernel) rfl
theorem ws_40 : Cond.selects RX5 yX5_copy yX5_copy ∈ LG := LG_in 40 (by decide +kernel) rfl
theorem u_0 : ∀ w ∈ u_ws RX0 TX0 3, w ∈ LG := by
  intro w hw
  exact List.mem_filter.mpr ⟨(by decide +kernel : ∀ w ∈ u_ws RX0 TX0 3, w ∈ lw_tbl) w hw, (by decide +kernel : ∀ w ∈ u_ws RX0 TX0 3, goodWord w = true) w hw⟩
theorem u_1 : ∀ w ∈ u_ws RX1 TX1 11, w ∈ LG := by
  intro w hw
  exact List.mem_filter.mpr ⟨(by decide +kernel : ∀ w ∈ u_ws RX1 TX1 11, w ∈ lw_tbl) w hw, (by decide +kernel : ∀ w ∈ u_ws RX1 TX1 11, goodWord w = true) w hw⟩
theorem u_2 : ∀ w ∈ u_ws RX2 TX2 6, w ∈ LG := by
  intro w hw
  exact List.mem_filter.mpr ⟨(by decide +kernel : ∀ w ∈ u_ws RX2 TX2 6, w ∈ lw_tbl) w hw, (by decide +kernel : ∀ w ∈ u_ws RX2 TX2 6, goodWord w = true) w hw⟩
theorem u_3 : ∀ w ∈ u_ws RX3 TX3 4, w ∈ LG := by
  intro w hw
  exact List.mem_filter.mpr ⟨(by decide +kernel : ∀ w ∈ u_ws RX3 TX3 4, w ∈ lw_tbl) w hw, (by decide +kernel : ∀ w ∈ u_ws RX3 TX3 4, goodWord w = true) w hw⟩
theorem u_4 : ∀ w ∈ u_ws RX4 TX4 2, w ∈ LG := by
  intro w hw
  exact List.mem_filter.mpr ⟨(by decide +kernel : ∀ w ∈ u_ws RX4 TX4 2, w ∈ lw_tbl) w hw, (by decide +kernel : ∀ w ∈ u_ws RX4 TX4 2, goodWord w = true) w hw⟩
theorem u_5 : ∀ w ∈ u_ws RX5 TX5 12, w ∈ LG := by
  intro w hw
  exact List.mem_filter.mpr ⟨(by decide +kernel : ∀ w ∈ u_ws RX5 TX5 12, w ∈ lw_tbl) w hw, (by decide +kernel : ∀ w ∈ u_ws RX5 TX5 12, goodWord w = true) w hw⟩
theorem u_6 : ∀ w ∈ u_ws RX6 TX6 13, w ∈ LG := by
  intro w hw
  exact List.mem_filter.mpr ⟨(by decide +kernel : ∀ w ∈ u_ws RX6 TX6 13, w ∈ lw_tbl) w hw, (by decide +kernel : ∀ w ∈ u_ws RX6 TX6 13, goodWord w = true) w hw⟩
end
section
/-! ===== BEGIN words of one list among another's, by their places ===== -/
theorem goodIn_r {big : List Cond} (ws : List Cond) (ps : List Nat) (hp : ws = ps.filterMap (fun i => big[i]?)) (h : ws.all goodWord = true) : GoodIn big ws := by
  intro w hw
  have h1 := List.all_eq_true.mp h w hw
  rw [hp] at hw
  obtain ⟨i, -, hi⟩ := List.mem_filterMap.mp hw
  have hm : w ∈ big := by first | exact List.mem_of_getElem? hi | exact List.getElem?_mem hi
  exact ⟨hm, good_of_word h1⟩
theorem goodIn_app {big a b : List Cond} (ha : GoodIn big a) (hb : GoodIn big b) : GoodIn big (a ++ b) := fun w h => (List.mem_append.mp h).elim (ha w) (hb w)
theorem goodIn_ca {big a b : List Cond} {c : Cond} (ha : GoodIn big (c :: a)) (hb : GoodIn big b) : GoodIn big (c :: (a ++ b)) := fun w h => (List.mem_cons.mp h).elim (fun e => ha w (List.mem_cons.mpr (Or.inl e))) (fun h => (List.mem_append.mp h).elim (fun h => ha w (List.mem_cons.mpr (Or.inr h))) (hb w))
theorem goodIn_sub {big ws : List Cond} (hm : ∀ w ∈ ws, w ∈ big) (h : ws.all goodWord = true) : GoodIn big ws := fun w hw => ⟨hm w hw, good_of_word (List.all_eq_true.mp h w hw)⟩
/-! ===== END ===== -/

/-! ===== BEGIN exceptions that leave a method, and their catching by the caller (launches without stack traces) ===== -/
section VXA
/-! The laws vx_back, vx_callV, vx_callS, vx_callSW, vx_throw0, vx_throwS follow proofs of the library, with one case more: JvmDerived/Free/Laws.lean (Back.of_free), Shelf42/LK1.lean (callV, callS), Shelf/KitTraced.lean (throwNew0V, throwNewS). -/
/-- where a method has thrown q: the class by its name, the cell, what was written, the world -/
def vx_T (XC : String → State → State → Prop) (st : State) (q : Addr) (t : State) (mc ms : Nat) (free : Addr → Prop) : Prop :=
  ∃ (E : String) (ce : Cell) (L : List Loc), XC E st t ∧ t.heap[q]? = some ce ∧ ce.vm = .none ∧ st.vm.findClass E = some ce.cls ∧ st.WarmedH t.vm ∧ st.sameButNew ({ t with vm := st.vm } : State) L mc ms ∧ ∀ z ∈ L, free z.base
def vx_Q (Qc : Array Value → State → Outcome → State → Prop) (XC : String → State → State → Prop) (mc ms : Nat) (free : Addr → Prop) : Array Value → State → Outcome → State → Prop := fun a st o t =>
  (Qc a st o t ∧ ∃ L, FrameEnd st o t L mc ms ∧ ∀ q ∈ L, free q.base) ∨ ∃ q, o = .threw q ∧ vx_T XC st q t mc ms free
/-- a callee that returns or throws -/
def vx_Met (l : Launch) (y : MethodName) (ws : List Cond) (rm : Room) (Pc : Array Value → State → Prop) (Qc : Array Value → State → Outcome → State → Prop) (XC : String → State → State → Prop) (mc ms : Nat) (free : Addr → Prop) : Prop :=
  MetFree l y (headSpec ws rm) Pc (fun _ _ _ _ _ => True) (vx_Q Qc XC mc ms free)
def vx_Post (XC : String → State → State → Prop) (mc ms : Nat) (free : Addr → Prop) : Pt → Array Value → Addr → Pt → Prop := fun A a q B =>
  ∃ (g : JFrame) (mk : MethodId) (t : State) (L : List Loc) (E : String) (ce : Cell), B.U.heap = t.heap ∧ B.U.vm = t.vm ∧ XC E (A.U.calling g mk a) t ∧ t.heap[q]? = some ce ∧ ce.vm = .none ∧ A.U.vm.findClass E = some ce.cls ∧ B.locs = A.locs ++ L ∧ (∀ z ∈ L, free z.base) ∧ B.cells = A.cells + mc ∧ B.slots = A.slots + ms
def vx_Back (l : Launch) (R : Room) (p : Program) (e : Env) (below : List Frame) (s : State) (sargs : Array Value) (y : MethodName) (len W9 : Nat)
    (Pre : Pt → Array Value → Prop) (Post : Pt → Array Value → Option Value → Pt → Prop) (PostX : Pt → Array Value → Addr → Pt → Prop) : Prop :=
  ∀ (m : MethodId) (meth : Method) (c : Code) (A : Pt) (g : JFrame) (ig : Instr) (mk : MethodId) (a : Array Value),
    Stand p l e R s m sargs below meth c A.U A.locs A.cells A.slots → g.method = m → g.locals.size = c.maxLocals → decode c.code g.pc = .ok (ig, len) →
    2 * g.monitorRoom + (g.stack.map fun v => v.category).sum ≤ W9 → A.U.methodNamed? y = some mk → Pre A a →
    (∃ (v : Option Value) (B : Pt), Stand p l e R s m sargs below meth c B.U B.locs B.cells B.slots ∧ Post A a v B ∧
      Steps p.tables e below (doInvoke e (A.U.setTop g) [] mk a).1 (B.U.setTop { g with pc := g.pc + len, stack := v.toList ++ g.stack })) ∨
    (∃ (q : Addr) (B : Pt), Stand p l e R s m sargs below meth c B.U B.locs B.cells B.slots ∧ PostX A a q B ∧
      Steps p.tables e below (doInvoke e (A.U.setTop g) [] mk a).1 ((B.U.setTop g).pushFrame (.throwing q)))
section Payer
variable {l : Launch} {R : Room} {p : Program} {e : Env} {below : List Frame} {s : State} {sargs : Array Value} {y : MethodName} {len W9 : Nat}
theorem vx_back {ws : List Cond} {rm : Room} {Pc : Array Value → State → Prop} {Qc : Array Value → State → Outcome → State → Prop} {XC : String → State → State → Prop} {mc ms : Nat} {free : Addr → Prop} {bytes : ByteArray} {maxL : Nat} {ret : Option FieldType}
    (hM : vx_Met l y ws rm Pc Qc XC mc ms free) (hblind : FrameBlind Pc) (hrc : rm.cells = mc) (hrs : rm.slots = ms)
    (hframes : rm.frames + 1 ≤ R.frames) (hlocals : W9 + (maxL + 11) + rm.locals ≤ R.locals)
    (hws : ∀ w ∈ ws, ∀ a' U, s.WarmedH U.vm → w.before a' U = true) (hcode : Cond.code y bytes maxL ret ∈ ws) (hinit : ∀ a' U, s.WarmedH U.vm → (Cond.initialized y.cls).before a' U = true) :
    vx_Back l R p e below s sargs y len W9 (PreOf R mc ms Pc) (PostOf Qc mc ms free) (vx_Post XC mc ms free) := by
  intro m meth c A g ig mk a X hg hsize hdg hW hn hp
  have h1 : (headSpec ws rm).pre.before a A.U = true := atoms_intro fun w hw => hws w hw _ _ X.warmed
  have h2 : (Cond.code y bytes maxL ret).before a A.U = true := hws _ hcode _ _ X.warmed
  have h3 : (Cond.initialized y.cls).before a A.U = true := hinit _ _ X.warmed
  have h4 : A.cells + (headSpec ws rm).room.cells ≤ R.cells := by rw [show (headSpec ws rm).room.cells = mc from hrc]; exact hp.1
  have h5 : A.slots + (headSpec ws rm).room.slots ≤ R.slots := by rw [show (headSpec ws rm).room.slots = ms from hrs]; exact hp.2.1
  have hPc : Pc a (A.U.calling g mk a) := hblind _ _ _ _ hp.2.2
  obtain ⟨U, Ls, c0, s0⟩ := A
  dsimp only [Pt.U, Pt.locs, Pt.cells, Pt.slots] at h1 h2 h3 h4 h5 X hn hPc ⊢
  obtain ⟨methY, cY, hmY, hcY, -, hlY, -, -, -, -⟩ := Cond.code_spec hn h2
  obtain ⟨kY, hkY, -⟩ := className_of_methodNamed hn
  have hinitY : kY.init = .initialized := Cond.initialized_spec (findClass_of_methodNamed hn) hkY h3
  have h : At U g.method c below := by rw [hg]; exact X.here
  have hlocals9 : W9 + (maxL + 11) + (headSpec ws rm).room.locals ≤ R.locals := hlocals
  have happ : (headSpec ws rm).appliesLoose y e.platform (U.calling g mk a) = true :=
    Spec.appliesLoose_calling (g := g) h hdg hn hkY hinitY
      (X.room_calling (g := g) (R' := (headSpec ws rm).room) hsize hmY hcY hframes (by rw [hlY]; omega) h4 h5) h1
  obtain ⟨mid, hmid⟩ := h.above
  have hfr : (U.setTop g).frames = (.java g :: mid) ++ below := by rw [State.frames_setTop' g h.top, hmid]; rfl
  obtain ⟨o, s₂, hsteps, -, hend, hq⟩ := Steps.callFree hM p X.admits X.cas X.clock (acts := []) hfr happ hPc trivial
  have hq' : vx_Q Qc XC mc ms free a (U.calling g mk a) o s₂ := hq
  rw [State.frames_setTop' g h.top] at hend
  obtain ⟨g₀, hg0⟩ := Option.isSome_iff_exists.mp h.top
  obtain ⟨r, hr⟩ := State.topJava?_eq_some.mp hg0
  have hr' : (({ U with heap := s₂.heap, slotsUsed := s₂.slotsUsed } : State).setVm s₂.vm).frames = .java g₀ :: r := hr
  rcases hq' with ⟨hqc, L, hfe, hL⟩ | ⟨q, rfl, E, ce, L, hx, hce, hcv, hcl, hW₂, hsm, hL⟩
  · obtain ⟨⟨v, rfl⟩, hW₂, e2, q2, q3, q4, q5, q6⟩ := id hfe
    have e3 : s₂ = ({ (U.calling g mk a).setFrames s₂.frames with heap := s₂.heap, slotsUsed := s₂.slotsUsed } : State).setVm s₂.vm := by
      have : s₂ = ({ s₂ with vm := (U.calling g mk a).vm } : State).setVm s₂.vm := rfl
      rw [e2] at this
      exact this
    obtain ⟨c₂, i₂, len₂, hc₂, hd₂, hf₂⟩ := hend
    have hW' : U.WarmedH s₂.vm := hW₂
    have hcc : c₂ = c := by
      have h1 : s₂.code? g.method = U.code? g.method := by
        rw [State.code?_eq, State.code?_eq, hW'.alike.method?]
      exact Option.some.inj (hc₂.symm.trans (h1.trans h.code))
    subst hcc
    have hlen : len₂ = len := by rw [hdg] at hd₂; cases hd₂; rfl
    subst hlen
    have hs₂ : s₂ = (({ U with heap := s₂.heap, slotsUsed := s₂.slotsUsed } : State).setVm s₂.vm).setTop { g with pc := g.pc + len₂, stack := v.toList ++ g.stack } := by
      refine e3.trans ?_
      rw [hf₂, State.calling_eq h.top, State.setFrames_setFrames, State.setTop_of_frames _ hr', hr]
      rfl
    have hsame : U.sameButNew ({ U with heap := s₂.heap, slotsUsed := s₂.slotsUsed } : State) L mc ms := by
      refine ⟨?_, q2, q3, q4, q5, q6⟩
      obtain ⟨t, ht, -⟩ := State.frames_cons hr
      show ({ U with heap := s₂.heap, slotsUsed := s₂.slotsUsed } : State) = { U.setFrames U.frames with heap := s₂.heap, slotsUsed := s₂.slotsUsed }
      rw [State.setFrames_self ht]
    subst hg
    refine Or.inl ⟨v, ⟨(({ U with heap := s₂.heap, slotsUsed := s₂.slotsUsed } : State).setVm s₂.vm), Ls ++ L, c0 + mc, s0 + ms⟩,
      ⟨X.admits, X.cas, X.clock, X.frames, X.room, X.hears, X.method, X.code, (X.here.setHeapUsed s₂.heap s₂.slotsUsed).setVm hW'.alike, X.tail, State.WarmedH.trans X.warmed hW', X.limits, X.bytes, X.same.trans (hsame.setVm s.vm)⟩,
      ⟨g, mk, s₂, L, rfl, rfl, hqc, rfl, hL, rfl, rfl⟩, ?_⟩
    show Steps p.tables e below _ ((({ U with heap := s₂.heap, slotsUsed := s₂.slotsUsed } : State).setVm s₂.vm).setTop { g with pc := g.pc + len₂, stack := v.toList ++ g.stack })
    rw [← hs₂]
    exact hsteps
  · obtain ⟨e2, q2, q3, q4, q5, q6⟩ := id hsm
    have e3 : s₂ = ({ (U.calling g mk a).setFrames s₂.frames with heap := s₂.heap, slotsUsed := s₂.slotsUsed } : State).setVm s₂.vm := by
      have : s₂ = ({ s₂ with vm := (U.calling g mk a).vm } : State).setVm s₂.vm := rfl
      rw [e2] at this
      exact this
    have hf₂ : s₂.frames = .throwing q :: .java g :: U.frames.tail := hend
    have hW' : U.WarmedH s₂.vm := hW₂
    have hs₂ : s₂ = ((({ U with heap := s₂.heap, slotsUsed := s₂.slotsUsed } : State).setVm s₂.vm).setTop g).pushFrame (.throwing q) := by
      refine e3.trans ?_
      rw [hf₂, State.calling_eq h.top, State.setFrames_setFrames, State.pushFrame, State.frames_setTop _ hr', State.setTop_of_frames _ hr', State.setFrames_setFrames, hr]
      rfl
    have hsame : U.sameButNew ({ U with heap := s₂.heap, slotsUsed := s₂.slotsUsed } : State) L mc ms := by
      refine ⟨?_, q2, q3, q4, q5, q6⟩
      obtain ⟨t, ht, -⟩ := State.frames_cons hr
      show ({ U with heap := s₂.heap, slotsUsed := s₂.slotsUsed } : State) = { U.setFrames U.frames with heap := s₂.heap, slotsUsed := s₂.slotsUsed }
      rw [State.setFrames_self ht]
    subst hg
    refine Or.inr ⟨q, ⟨(({ U with heap := s₂.heap, slotsUsed := s₂.slotsUsed } : State).setVm s₂.vm), Ls ++ L, c0 + mc, s0 + ms⟩,
      ⟨X.admits, X.cas, X.clock, X.frames, X.room, X.hears, X.method, X.code, (X.here.setHeapUsed s₂.heap s₂.slotsUsed).setVm hW'.alike, X.tail, State.WarmedH.trans X.warmed hW', X.limits, X.bytes, X.same.trans (hsame.setVm s.vm)⟩,
      ⟨g, mk, s₂, L, E, ce, rfl, rfl, hx, hce, hcv, hcl, rfl, hL, rfl, rfl⟩, ?_⟩
    show Steps p.tables e below _ (((({ U with heap := s₂.heap, slotsUsed := s₂.slotsUsed } : State).setVm s₂.vm).setTop g).pushFrame (.throwing q))
    rw [← hs₂]
    exact hsteps
end Payer
section Calls
variable {p : Program} {l : Launch} {e : Env} {R : Room} {s : State} {m : MethodId} {args : Array Value} {below : List Frame} {meth : Method} {c : Code} {T : State} {locs : List Loc} {cells slots : Nat}
theorem vx_callV (X : Stand p l e R s m args below meth c T locs cells slots) (hexec : p.tables.exec = Jvm.exec) {own C : String} {index : Nat} {y : MethodName} {bytes : ByteArray} {maxL : Nat} {ret : Option FieldType}
    (hown : s.vm.findClass own = some m.cls) (hlink : (Cond.methodLink own index y).before args s = true) (hinst : (Cond.instanceMethod y).before args s = true) (hsel : (Cond.selects C y y).before args s = true)
    (hcode : (Cond.code y bytes maxL ret).before args s = true) (hy : y.cls ≠ "java/lang/invoke/MethodHandle" ∧ y.cls ≠ "java/lang/invoke/VarHandle")
    {W9 : Nat} {Pre : Pt → Array Value → Prop} {Post : Pt → Array Value → Option Value → Pt → Prop} {PostX : Pt → Array Value → Addr → Pt → Prop} (hK : vx_Back l R p e below s args y 3 W9 Pre Post PostX)
    {b : Addr} {cellB : Cell} (hcell : T.heap[b]? = some cellB) (hobj : cellB.vm.isStatics = false) (hcls : s.vm.findClass C = some cellB.cls)
    {g : JFrame} (hg : g.method = m) (hsize : g.locals.size = c.maxLocals) {argsL rest : List Value} (hlen : ∀ sig, parseMethodDescriptor y.desc = some sig → argsL.length = sig.parameters.length)
    (hstack : g.stack = argsL.reverse ++ .ref b :: rest) (hW : 2 * g.monitorRoom + (rest.map fun v => v.category).sum ≤ W9) (hdg : decode c.code g.pc = .ok (.invokevirtual index, 3))
    (hpre : ∀ vm₁, s.WarmedH vm₁ → Pre ⟨T.setVm vm₁, locs, cells, slots⟩ (Value.ref b :: argsL).toArray) :
    (∃ (v : Option Value) (vm₁ : Vm) (B : Pt), s.WarmedH vm₁ ∧ Stand p l e R s m args below meth c B.U B.locs B.cells B.slots ∧ Post ⟨T.setVm vm₁, locs, cells, slots⟩ (Value.ref b :: argsL).toArray v B ∧
      ∀ target, Steps p.tables e below (B.U.setTop { g with pc := g.pc + 3, stack := v.toList ++ rest }) target → Steps p.tables e below (T.setTop g) target) ∨
    (∃ (q : Addr) (vm₁ : Vm) (B : Pt), s.WarmedH vm₁ ∧ Stand p l e R s m args below meth c B.U B.locs B.cells B.slots ∧ PostX ⟨T.setVm vm₁, locs, cells, slots⟩ (Value.ref b :: argsL).toArray q B ∧
      Steps p.tables e below (T.setTop g) ((B.U.setTop { g with stack := rest }).pushFrame (.throwing q))) := by
  obtain ⟨mk, methM, hnamed, hmethM, hstM, habM⟩ := Cond.instanceMethod_spec hinst
  obtain ⟨methM', cM, hmethM', -, -, -, -, -, -, hsigM⟩ := Cond.code_spec hnamed hcode
  cases hmethM.symm.trans hmethM'
  obtain ⟨c2, r2, m2, q1, q2, q3, q4, kP, hkP, hkPi⟩ := Cond.selects_spec hsel
  cases hcls.symm.trans q1
  cases (State.methodFound?_of_named hnamed hy).symm.trans q2
  cases hnamed.symm.trans q3
  have hselP : selectMethod e.platform s.vm cellB.cls mk = .method mk := by rw [Launch.admits_selectMethod X.admits]; exact q4
  obtain ⟨vm₁, X₁, hstep₁⟩ := X.invokevirtual hexec hown hlink hnamed hmethM hstM hkP hkPi hy (a := b) (cell := cellB) hcell
    (fun z h => by rw [h] at hobj; cases hobj) hselP hmethM habM hkP hkPi (g := g) hg (argsL := argsL) (rest := rest) (hlen _ hsigM) hstack hdg
  rcases hK m meth c ⟨T.setVm vm₁, locs, cells, slots⟩ { g with stack := rest } (.invokevirtual index) mk (Value.ref b :: argsL).toArray X₁ hg hsize hdg hW (X₁.named hnamed) (hpre vm₁ X₁.warmed) with ⟨v, B, X', hpost, hsteps⟩ | ⟨q, B, X', hpost, hsteps⟩
  · exact Or.inl ⟨v, vm₁, B, X₁.warmed, X', hpost, fun target h => hstep₁ _ fun acts => by rw [doInvoke_state]; exact hsteps.trans h⟩
  · exact Or.inr ⟨q, vm₁, B, X₁.warmed, X', hpost, hstep₁ _ fun acts => by rw [doInvoke_state]; exact hsteps⟩
theorem vx_callS (X : Stand p l e R s m args below meth c T locs cells slots) (hexec : p.tables.exec = Jvm.exec) {own : String} {index : Nat} {y : MethodName} {bytes : ByteArray} {maxL : Nat} {ret : Option FieldType}
    (hown : s.vm.findClass own = some m.cls) (hlink : (Cond.methodLink own index y).before args s = true) (hstat : (Cond.static y).before args s = true) (hinit : (Cond.initialized y.cls).before args s = true)
    (hcode : (Cond.code y bytes maxL ret).before args s = true) (hy : y.cls ≠ "java/lang/invoke/MethodHandle" ∧ y.cls ≠ "java/lang/invoke/VarHandle")
    {W9 : Nat} {Pre : Pt → Array Value → Prop} {Post : Pt → Array Value → Option Value → Pt → Prop} {PostX : Pt → Array Value → Addr → Pt → Prop} (hK : vx_Back l R p e below s args y 3 W9 Pre Post PostX)
    {g : JFrame} (hg : g.method = m) (hsize : g.locals.size = c.maxLocals) {argsL rest : List Value} (hlen : ∀ sig, parseMethodDescriptor y.desc = some sig → argsL.length = sig.parameters.length)
    (hstack : g.stack = argsL.reverse ++ rest) (hW : 2 * g.monitorRoom + (rest.map fun v => v.category).sum ≤ W9) (hdg : decode c.code g.pc = .ok (.invokestatic index, 3))
    (hpre : ∀ vm₁, s.WarmedH vm₁ → Pre ⟨T.setVm vm₁, locs, cells, slots⟩ argsL.toArray) :
    (∃ (v : Option Value) (vm₁ : Vm) (B : Pt), s.WarmedH vm₁ ∧ Stand p l e R s m args below meth c B.U B.locs B.cells B.slots ∧ Post ⟨T.setVm vm₁, locs, cells, slots⟩ argsL.toArray v B ∧
      ∀ target, Steps p.tables e below (B.U.setTop { g with pc := g.pc + 3, stack := v.toList ++ rest }) target → Steps p.tables e below (T.setTop g) target) ∨
    (∃ (q : Addr) (vm₁ : Vm) (B : Pt), s.WarmedH vm₁ ∧ Stand p l e R s m args below meth c B.U B.locs B.cells B.slots ∧ PostX ⟨T.setVm vm₁, locs, cells, slots⟩ argsL.toArray q B ∧
      Steps p.tables e below (T.setTop g) ((B.U.setTop { g with stack := rest }).pushFrame (.throwing q))) := by
  obtain ⟨mk, hnamed⟩ := Cond.code_named hcode
  obtain ⟨methM, cM, hmethM, -, -, -, -, -, -, hsigM⟩ := Cond.code_spec hnamed hcode
  have hstatic : methM.isStatic = true := Cond.static_spec hnamed hmethM hstat
  obtain ⟨kP, hkP, -⟩ := className_of_methodNamed hnamed
  have hinitP : kP.init = .initialized := Cond.initialized_spec (findClass_of_methodNamed hnamed) hkP hinit
  obtain ⟨vm₁, X₁, hstep₁⟩ := X.invokestatic hexec hown hlink hnamed hmethM hstatic hkP hinitP hy (g := g) hg (argsL := argsL) (rest := rest) (hlen _ hsigM) hstack hdg
  rcases hK m meth c ⟨T.setVm vm₁, locs, cells, slots⟩ { g with stack := rest } (.invokestatic index) mk argsL.toArray X₁ hg hsize hdg hW (X₁.named hnamed) (hpre vm₁ X₁.warmed) with ⟨v, B, X', hpost, hsteps⟩ | ⟨q, B, X', hpost, hsteps⟩
  · exact Or.inl ⟨v, vm₁, B, X₁.warmed, X', hpost, fun target h => hstep₁ _ fun acts => by rw [doInvoke_state]; exact hsteps.trans h⟩
  · exact Or.inr ⟨q, vm₁, B, X₁.warmed, X', hpost, hstep₁ _ fun acts => by rw [doInvoke_state]; exact hsteps⟩
end Calls
theorem vx_cls {s : State} {T : State} {vm₁ : Vm} {E : String} {k : ClassId} (hW : s.WarmedH vm₁) (h : (T.setVm vm₁).vm.findClass E = some k) : s.vm.findClass E = some k := by
  have h1 : vm₁.findClass E = some k := h
  rw [hW.alike.findClass] at h1
  exact h1
/-- the method's frame g, with q thrown over it -/
def vx_W (p : Program) (l : Launch) (e : Env) (R : Room) (s : State) (m : MethodId) (args : Array Value) (below : List Frame) (meth : Method) (c : Code) (H : Heap) (locs : List Loc) (cells slots : Nat) (Q : State → Prop) (g : JFrame) (q : Addr) : Prop :=
  ∀ T : State, T.heap = H → Stand p l e R s m args below meth c T locs cells slots → ∃ t, Steps p.tables e below ((T.setTop g).pushFrame (.throwing q)) t ∧ Q t
def vx_Run (p : Program) (l : Launch) (e : Env) (R : Room) (s : State) (m : MethodId) (args : Array Value) (below : List Frame) (meth : Method) (c : Code) (H : Heap) (locs : List Loc) (cells slots mc ms : Nat) (g : JFrame) (rest : List Value) (Qa : State → Outcome → State → Prop) (XC : String → State → State → Prop) (free : Addr → Prop) : Prop :=
  ∀ T : State, T.heap = H → Stand p l e R s m args below meth c T locs cells slots →
    (∃ (v : Option Value) (st₀ t T' : State) (L : List Loc), st₀.heap = H ∧ Stand p l e R s m args below meth c T' (locs ++ L) (cells + mc) (slots + ms) ∧ (∀ q ∈ L, free q.base) ∧ T'.heap = t.heap ∧ T'.vm = t.vm ∧ Qa st₀ (.returned v) t ∧
      Goes p e below T g T' { g with pc := g.pc + 3, stack := v.toList ++ rest }) ∨
    (∃ (q : Addr) (st₀ t T' : State) (L : List Loc) (E : String) (ce : Cell), st₀.heap = H ∧ Stand p l e R s m args below meth c T' (locs ++ L) (cells + mc) (slots + ms) ∧ (∀ z ∈ L, free z.base) ∧ T'.heap = t.heap ∧ T'.vm = t.vm ∧ XC E st₀ t ∧ t.heap[q]? = some ce ∧ ce.vm = .none ∧ s.vm.findClass E = some ce.cls ∧
      Steps p.tables e below (T.setTop g) ((T'.setTop { g with stack := rest }).pushFrame (.throwing q)))
def vx_X {S : Type} (px : S → Prop) (B : String → S → State → Prop) (A : Nat → Prop) : String → State → State → Prop := fun E st t => ∃ u : S, px u ∧ B E u t ∧ va_F A st t
section Runs
variable {p : Program} {l : Launch} {e : Env} {R : Room} {s : State} {m : MethodId} {args : Array Value} {below : List Frame} {meth : Method} {c : Code} {H : Heap} {locs : List Loc} {cells slots : Nat}
variable {y : MethodName} {bytes cc : ByteArray} {maxL nL mc ms n index : Nat} {ret : Option FieldType} {ws : List Cond} {rm : Room} {Pc : Array Value → State → Prop} {Qc : Array Value → State → Outcome → State → Prop} {XC : String → State → State → Prop} {free : Addr → Prop} {Ts : List Cond} {own C : String} {b : Addr} {As rest : List Value} {g : JFrame}
theorem vx_callBack (cb : CallB R s args own index y bytes maxL ret ws rm mc ms n) (hM : vx_Met l y ws rm Pc Qc XC mc ms free) (hbl : FrameBlind Pc) : vx_Back l R p e below s args y 3 8 (PreOf R mc ms Pc) (PostOf Qc mc ms free) (vx_Post XC mc ms free) := by
  obtain ⟨hrc, hrs, hfr, hlo, hws, hcw, -, hini, -⟩ := cb
  exact vx_back (bytes := bytes) (maxL := maxL) (ret := ret) hM hbl hrc hrs hfr hlo hws hcw (fun a' U hW => word_at hW (Or.inl (by first | rfl | simp [Cond.onTables, Cond.keeps, Cond.steady])) hini)
theorem vx_runV (S : CallFix p m c cc nL s args Ts own) (hM : vx_Met l y ws rm Pc Qc XC mc ms free) (cw : CallW R s args own C index y bytes maxL ret ws rm mc ms n) (hp : PreV s H C b Pc As)
    (hg : g.method = m) (hn : As.length = n) (hsize : g.locals.size = nL) (hstack : g.stack = As.reverse ++ .ref b :: rest) (hW : 2 * g.monitorRoom + (rest.map fun v => v.category).sum ≤ 8) (hdg : decode cc g.pc = .ok (.invokevirtual index, 3)) (hf : cells + mc ≤ R.cells ∧ slots + ms ≤ R.slots) :
    vx_Run p l e R s m args below meth c H locs cells slots mc ms g rest (Qc (Value.ref b :: As).toArray) XC free := by
  have hK : vx_Back l R p e below s args y 3 8 (PreOf R mc ms Pc) (PostOf Qc mc ms free) (vx_Post XC mc ms free) := vx_callBack cw.1 hM hp.1
  obtain ⟨⟨-, -, -, -, -, -, hcode, -, hy, hlen, hl⟩, hin, hse⟩ := cw
  obtain ⟨hx, hb, hml, ho, -⟩ := S
  obtain ⟨-, ⟨cellB, hcB, hoB, hclB⟩, hPc⟩ := hp
  intro T hT X
  rcases vx_callV X hx (C := C) (bytes := bytes) (maxL := maxL) (ret := ret) ho hl hin hse hcode hy hK (by rw [hT]; exact hcB) hoB hclB hg (hsize.trans hml.symm) (argsL := As) (rest := rest) (fun sig h => hn.trans (hlen sig h)) hstack hW (by rw [hb]; exact hdg)
    (fun vm₁ hW₁ => ⟨hf.1, hf.2, hPc (T.setVm vm₁) hT hW₁⟩) with ⟨v, vm₁, ⟨U', l2, c2, s2⟩, hW₁, X', ⟨g', mk, t, L, e1, e2, hq, h1, hL, h2, h3⟩, st⟩ | ⟨q, vm₁, ⟨U', l2, c2, s2⟩, hW₁, X', ⟨g', mk, t, L, E, ce, e1, e2, hq, hce, hcv, hcl, h1, hL, h2, h3⟩, st⟩
  · dsimp only [Pt.U, Pt.locs, Pt.cells, Pt.slots] at X' e1 e2 h1 h2 h3 st
    subst h1; subst h2; subst h3
    exact Or.inl ⟨v, (T.setVm vm₁).calling g' mk (Value.ref b :: As).toArray, t, U', L, hT, X', hL, e1, e2, hq, st⟩
  · dsimp only [Pt.U, Pt.locs, Pt.cells, Pt.slots] at X' e1 e2 h1 h2 h3 st hcl
    subst h1; subst h2; subst h3
    exact Or.inr ⟨q, (T.setVm vm₁).calling g' mk (Value.ref b :: As).toArray, t, U', L, E, ce, hT, X', hL, e1, e2, hq, hce, hcv, vx_cls hW₁ hcl, st⟩
theorem vx_runS (S : CallFix p m c cc nL s args Ts own) (hM : vx_Met l y ws rm Pc Qc XC mc ms free) (cw : CallB R s args own index y bytes maxL ret ws rm mc ms n ∧ (Cond.static y).before args s = true) (hp : PreS s H Pc As)
    (hg : g.method = m) (hn : As.length = n) (hsize : g.locals.size = nL) (hstack : g.stack = As.reverse ++ rest) (hW : 2 * g.monitorRoom + (rest.map fun v => v.category).sum ≤ 8) (hdg : decode cc g.pc = .ok (.invokestatic index, 3)) (hf : cells + mc ≤ R.cells ∧ slots + ms ≤ R.slots) :
    vx_Run p l e R s m args below meth c H locs cells slots mc ms g rest (Qc As.toArray) XC free := by
  have hK : vx_Back l R p e below s args y 3 8 (PreOf R mc ms Pc) (PostOf Qc mc ms free) (vx_Post XC mc ms free) := vx_callBack cw.1 hM hp.1
  obtain ⟨⟨-, -, -, -, -, -, hcode, hini, hy, hlen, hl⟩, hstt⟩ := cw
  obtain ⟨hx, hb, hml, ho, -⟩ := S
  intro T hT X
  rcases vx_callS X hx (bytes := bytes) (maxL := maxL) (ret := ret) ho hl hstt hini hcode hy hK hg (hsize.trans hml.symm) (argsL := As) (rest := rest) (fun sig h => hn.trans (hlen sig h)) hstack hW (by rw [hb]; exact hdg)
    (fun vm₁ hW₁ => ⟨hf.1, hf.2, hp.2 (T.setVm vm₁) hT hW₁⟩) with ⟨v, vm₁, ⟨U', l2, c2, s2⟩, hW₁, X', ⟨g', mk, t, L, e1, e2, hq, h1, hL, h2, h3⟩, st⟩ | ⟨q, vm₁, ⟨U', l2, c2, s2⟩, hW₁, X', ⟨g', mk, t, L, E, ce, e1, e2, hq, hce, hcv, hcl, h1, hL, h2, h3⟩, st⟩
  · dsimp only [Pt.U, Pt.locs, Pt.cells, Pt.slots] at X' e1 e2 h1 h2 h3 st
    subst h1; subst h2; subst h3
    exact Or.inl ⟨v, (T.setVm vm₁).calling g' mk As.toArray, t, U', L, hT, X', hL, e1, e2, hq, st⟩
  · dsimp only [Pt.U, Pt.locs, Pt.cells, Pt.slots] at X' e1 e2 h1 h2 h3 st hcl
    subst h1; subst h2; subst h3
    exact Or.inr ⟨q, (T.setVm vm₁).calling g' mk As.toArray, t, U', L, E, ce, hT, X', hL, e1, e2, hq, hce, hcv, vx_cls hW₁ hcl, st⟩
end Runs
section Rows
variable {p : Program} {l : Launch} {e : Env} {R : Room} {s : State} {m : MethodId} {args : Array Value} {below : List Frame} {meth : Method} {c : Code} {H : Heap} {locs : List Loc} {cells slots : Nat} {Q : State → Prop}
variable {mc ms : Nat} {free : Addr → Prop} {A0 A1 : Nat → Prop} {H0 : Heap} {a : Array Value} {pc : Nat} {ls : Array Slot} {st0 rest : List Value}
theorem vx_keep {st₀ t T' : State} {L : List Loc} (h0 : st₀.heap = H) (e1 : T'.heap = t.heap) (hS : va_S A0 H0 H locs) (hA : ∀ q, q < H.size → A1 q → A0 q) (hf : ∀ q, free q → A0 q) (hL : ∀ q ∈ L, free q.base) (hF : va_F A1 st₀ t) :
    H.size ≤ T'.heap.size ∧ (∀ q : Nat, q < H.size → ¬ A1 q → T'.heap[q]? = H[q]?) ∧ va_S A0 H0 T'.heap (locs ++ L) := by
  obtain ⟨hz, hk⟩ := hF
  rw [h0] at hz hk
  exact ⟨by rw [e1]; exact hz, fun q h1 h2 => by rw [e1]; exact hk q h1 h2,
    ⟨Nat.le_trans hS.1 (by rw [e1]; exact hz), fun q h1 h2 => by rw [e1, hk q (Nat.lt_of_lt_of_le h1 hS.1) (fun z => h2 (hA q (Nat.lt_of_lt_of_le h1 hS.1) z))]; exact hS.2.1 q h1 h2, fun q hq => by
      rcases List.mem_append.mp hq with h | h
      · exact hS.2.2 q h
      · exact hf _ (hL q h)⟩⟩
theorem vx_calli {S SX : Type} {post : Int32 → S → Prop} {px : SX → Prop} {B : S → State → Prop} {BX : String → SX → State → Prop} {AX : Nat → Prop} (hr : vx_Run p l e R s m args below meth c H locs cells slots mc ms (F0 m pc ls st0) rest (va_Qi post B A1 a) (vx_X px BX AX) free) (hS : va_S A0 H0 H locs) (hA : ∀ q, q < H.size → A1 q → A0 q) (hf : ∀ q, free q → A0 q) (hAX : ∀ q, q < H.size → AX q → A0 q)
    (kx : ∀ (E : String) (ce : Cell) (q9 : Addr) (u : SX) (t : State) (H1 : Heap) (locs1 : List Loc), t.heap = H1 → s.vm.Alike t.vm → px u → BX E u t → H.size ≤ H1.size → (∀ q : Nat, q < H.size → ¬ AX q → H1[q]? = H[q]?) → va_S A0 H0 H1 locs1 → H1[q9]? = some ce → ce.vm = .none → s.vm.findClass E = some ce.cls → vx_W p l e R s m args below meth c H1 locs1 (cells + mc) (slots + ms) Q (F0 m pc ls rest) q9)
    (kk : ∀ (r : Int32) (u : S) (t : State) (H1 : Heap) (locs1 : List Loc), t.heap = H1 → s.vm.Alike t.vm → post r u → B u t → H.size ≤ H1.size → (∀ q : Nat, q < H.size → ¬ A1 q → H1[q]? = H[q]?) → va_S A0 H0 H1 locs1 → W p l e R s m args below meth c H1 locs1 (cells + mc) (slots + ms) Q (F0 m (pc + 3) ls (.int r :: rest))) : W p l e R s m args below meth c H locs cells slots Q (F0 m pc ls st0) := by
  intro T hT X
  rcases hr T hT X with ⟨v, st₀, t, T', L, h0, X', hL, e1, e2, ⟨⟨r, u, hv, hp, hb⟩, hF⟩, st⟩ | ⟨q, st₀, t, T', L, E, ce, h0, X', hL, e1, e2, ⟨u, hp, hb, hF⟩, hce, hcv, hcl, st⟩
  · cases hv
    obtain ⟨k1, k2, k3⟩ := vx_keep h0 e1 hS hA hf hL hF
    obtain ⟨t2, a1, b1⟩ := kk r u t T'.heap (locs ++ L) e1.symm (by rw [← e2]; exact X'.warmed.alike) hp hb k1 k2 k3 T' rfl X'
    exact ⟨t2, st t2 a1, b1⟩
  · obtain ⟨k1, k2, k3⟩ := vx_keep h0 e1 hS hAX hf hL hF
    obtain ⟨t2, a1, b1⟩ := kx E ce q u t T'.heap (locs ++ L) e1.symm (by rw [← e2]; exact X'.warmed.alike) hp hb k1 k2 k3 (by rw [e1]; exact hce) hcv hcl T' rfl X'
    exact ⟨t2, st.trans a1, b1⟩
theorem vx_calll {S SX : Type} {post : Int64 → S → Prop} {px : SX → Prop} {B : S → State → Prop} {BX : String → SX → State → Prop} {AX : Nat → Prop} (hr : vx_Run p l e R s m args below meth c H locs cells slots mc ms (F0 m pc ls st0) rest (va_Ql post B A1 a) (vx_X px BX AX) free) (hS : va_S A0 H0 H locs) (hA : ∀ q, q < H.size → A1 q → A0 q) (hf : ∀ q, free q → A0 q) (hAX : ∀ q, q < H.size → AX q → A0 q)
    (kx : ∀ (E : String) (ce : Cell) (q9 : Addr) (u : SX) (t : State) (H1 : Heap) (locs1 : List Loc), t.heap = H1 → s.vm.Alike t.vm → px u → BX E u t → H.size ≤ H1.size → (∀ q : Nat, q < H.size → ¬ AX q → H1[q]? = H[q]?) → va_S A0 H0 H1 locs1 → H1[q9]? = some ce → ce.vm = .none → s.vm.findClass E = some ce.cls → vx_W p l e R s m args below meth c H1 locs1 (cells + mc) (slots + ms) Q (F0 m pc ls rest) q9)
    (kk : ∀ (r : Int64) (u : S) (t : State) (H1 : Heap) (locs1 : List Loc), t.heap = H1 → s.vm.Alike t.vm → post r u → B u t → H.size ≤ H1.size → (∀ q : Nat, q < H.size → ¬ A1 q → H1[q]? = H[q]?) → va_S A0 H0 H1 locs1 → W p l e R s m args below meth c H1 locs1 (cells + mc) (slots + ms) Q (F0 m (pc + 3) ls (.long r :: rest))) : W p l e R s m args below meth c H locs cells slots Q (F0 m pc ls st0) := by
  intro T hT X
  rcases hr T hT X with ⟨v, st₀, t, T', L, h0, X', hL, e1, e2, ⟨⟨r, u, hv, hp, hb⟩, hF⟩, st⟩ | ⟨q, st₀, t, T', L, E, ce, h0, X', hL, e1, e2, ⟨u, hp, hb, hF⟩, hce, hcv, hcl, st⟩
  · cases hv
    obtain ⟨k1, k2, k3⟩ := vx_keep h0 e1 hS hA hf hL hF
    obtain ⟨t2, a1, b1⟩ := kk r u t T'.heap (locs ++ L) e1.symm (by rw [← e2]; exact X'.warmed.alike) hp hb k1 k2 k3 T' rfl X'
    exact ⟨t2, st t2 a1, b1⟩
  · obtain ⟨k1, k2, k3⟩ := vx_keep h0 e1 hS hAX hf hL hF
    obtain ⟨t2, a1, b1⟩ := kx E ce q u t T'.heap (locs ++ L) e1.symm (by rw [← e2]; exact X'.warmed.alike) hp hb k1 k2 k3 (by rw [e1]; exact hce) hcv hcl T' rfl X'
    exact ⟨t2, st.trans a1, b1⟩
theorem vx_callf {S SX : Type} {post : UInt32 → S → Prop} {px : SX → Prop} {B : S → State → Prop} {BX : String → SX → State → Prop} {AX : Nat → Prop} (hr : vx_Run p l e R s m args below meth c H locs cells slots mc ms (F0 m pc ls st0) rest (va_Qf post B A1 a) (vx_X px BX AX) free) (hS : va_S A0 H0 H locs) (hA : ∀ q, q < H.size → A1 q → A0 q) (hf : ∀ q, free q → A0 q) (hAX : ∀ q, q < H.size → AX q → A0 q)
    (kx : ∀ (E : String) (ce : Cell) (q9 : Addr) (u : SX) (t : State) (H1 : Heap) (locs1 : List Loc), t.heap = H1 → s.vm.Alike t.vm → px u → BX E u t → H.size ≤ H1.size → (∀ q : Nat, q < H.size → ¬ AX q → H1[q]? = H[q]?) → va_S A0 H0 H1 locs1 → H1[q9]? = some ce → ce.vm = .none → s.vm.findClass E = some ce.cls → vx_W p l e R s m args below meth c H1 locs1 (cells + mc) (slots + ms) Q (F0 m pc ls rest) q9)
    (kk : ∀ (r : UInt32) (u : S) (t : State) (H1 : Heap) (locs1 : List Loc), t.heap = H1 → s.vm.Alike t.vm → post r u → B u t → H.size ≤ H1.size → (∀ q : Nat, q < H.size → ¬ A1 q → H1[q]? = H[q]?) → va_S A0 H0 H1 locs1 → W p l e R s m args below meth c H1 locs1 (cells + mc) (slots + ms) Q (F0 m (pc + 3) ls (.float r :: rest))) : W p l e R s m args below meth c H locs cells slots Q (F0 m pc ls st0) := by
  intro T hT X
  rcases hr T hT X with ⟨v, st₀, t, T', L, h0, X', hL, e1, e2, ⟨⟨r, u, hv, hp, hb⟩, hF⟩, st⟩ | ⟨q, st₀, t, T', L, E, ce, h0, X', hL, e1, e2, ⟨u, hp, hb, hF⟩, hce, hcv, hcl, st⟩
  · cases hv
    obtain ⟨k1, k2, k3⟩ := vx_keep h0 e1 hS hA hf hL hF
    obtain ⟨t2, a1, b1⟩ := kk r u t T'.heap (locs ++ L) e1.symm (by rw [← e2]; exact X'.warmed.alike) hp hb k1 k2 k3 T' rfl X'
    exact ⟨t2, st t2 a1, b1⟩
  · obtain ⟨k1, k2, k3⟩ := vx_keep h0 e1 hS hAX hf hL hF
    obtain ⟨t2, a1, b1⟩ := kx E ce q u t T'.heap (locs ++ L) e1.symm (by rw [← e2]; exact X'.warmed.alike) hp hb k1 k2 k3 (by rw [e1]; exact hce) hcv hcl T' rfl X'
    exact ⟨t2, st.trans a1, b1⟩
theorem vx_calld {S SX : Type} {post : UInt64 → S → Prop} {px : SX → Prop} {B : S → State → Prop} {BX : String → SX → State → Prop} {AX : Nat → Prop} (hr : vx_Run p l e R s m args below meth c H locs cells slots mc ms (F0 m pc ls st0) rest (va_Qd post B A1 a) (vx_X px BX AX) free) (hS : va_S A0 H0 H locs) (hA : ∀ q, q < H.size → A1 q → A0 q) (hf : ∀ q, free q → A0 q) (hAX : ∀ q, q < H.size → AX q → A0 q)
    (kx : ∀ (E : String) (ce : Cell) (q9 : Addr) (u : SX) (t : State) (H1 : Heap) (locs1 : List Loc), t.heap = H1 → s.vm.Alike t.vm → px u → BX E u t → H.size ≤ H1.size → (∀ q : Nat, q < H.size → ¬ AX q → H1[q]? = H[q]?) → va_S A0 H0 H1 locs1 → H1[q9]? = some ce → ce.vm = .none → s.vm.findClass E = some ce.cls → vx_W p l e R s m args below meth c H1 locs1 (cells + mc) (slots + ms) Q (F0 m pc ls rest) q9)
    (kk : ∀ (r : UInt64) (u : S) (t : State) (H1 : Heap) (locs1 : List Loc), t.heap = H1 → s.vm.Alike t.vm → post r u → B u t → H.size ≤ H1.size → (∀ q : Nat, q < H.size → ¬ A1 q → H1[q]? = H[q]?) → va_S A0 H0 H1 locs1 → W p l e R s m args below meth c H1 locs1 (cells + mc) (slots + ms) Q (F0 m (pc + 3) ls (.double r :: rest))) : W p l e R s m args below meth c H locs cells slots Q (F0 m pc ls st0) := by
  intro T hT X
  rcases hr T hT X with ⟨v, st₀, t, T', L, h0, X', hL, e1, e2, ⟨⟨r, u, hv, hp, hb⟩, hF⟩, st⟩ | ⟨q, st₀, t, T', L, E, ce, h0, X', hL, e1, e2, ⟨u, hp, hb, hF⟩, hce, hcv, hcl, st⟩
  · cases hv
    obtain ⟨k1, k2, k3⟩ := vx_keep h0 e1 hS hA hf hL hF
    obtain ⟨t2, a1, b1⟩ := kk r u t T'.heap (locs ++ L) e1.symm (by rw [← e2]; exact X'.warmed.alike) hp hb k1 k2 k3 T' rfl X'
    exact ⟨t2, st t2 a1, b1⟩
  · obtain ⟨k1, k2, k3⟩ := vx_keep h0 e1 hS hAX hf hL hF
    obtain ⟨t2, a1, b1⟩ := kx E ce q u t T'.heap (locs ++ L) e1.symm (by rw [← e2]; exact X'.warmed.alike) hp hb k1 k2 k3 (by rw [e1]; exact hce) hcv hcl T' rfl X'
    exact ⟨t2, st.trans a1, b1⟩
theorem vx_callv {S SX : Type} {post : S → Prop} {px : SX → Prop} {B : S → State → Prop} {BX : String → SX → State → Prop} {AX : Nat → Prop} (hr : vx_Run p l e R s m args below meth c H locs cells slots mc ms (F0 m pc ls st0) rest (va_Qv post B A1 a) (vx_X px BX AX) free) (hS : va_S A0 H0 H locs) (hA : ∀ q, q < H.size → A1 q → A0 q) (hf : ∀ q, free q → A0 q) (hAX : ∀ q, q < H.size → AX q → A0 q)
    (kx : ∀ (E : String) (ce : Cell) (q9 : Addr) (u : SX) (t : State) (H1 : Heap) (locs1 : List Loc), t.heap = H1 → s.vm.Alike t.vm → px u → BX E u t → H.size ≤ H1.size → (∀ q : Nat, q < H.size → ¬ AX q → H1[q]? = H[q]?) → va_S A0 H0 H1 locs1 → H1[q9]? = some ce → ce.vm = .none → s.vm.findClass E = some ce.cls → vx_W p l e R s m args below meth c H1 locs1 (cells + mc) (slots + ms) Q (F0 m pc ls rest) q9)
    (kk : ∀ (u : S) (t : State) (H1 : Heap) (locs1 : List Loc), t.heap = H1 → s.vm.Alike t.vm → post u → B u t → H.size ≤ H1.size → (∀ q : Nat, q < H.size → ¬ A1 q → H1[q]? = H[q]?) → va_S A0 H0 H1 locs1 → W p l e R s m args below meth c H1 locs1 (cells + mc) (slots + ms) Q (F0 m (pc + 3) ls (rest))) : W p l e R s m args below meth c H locs cells slots Q (F0 m pc ls st0) := by
  intro T hT X
  rcases hr T hT X with ⟨v, st₀, t, T', L, h0, X', hL, e1, e2, ⟨⟨u, hv, hp, hb⟩, hF⟩, st⟩ | ⟨q, st₀, t, T', L, E, ce, h0, X', hL, e1, e2, ⟨u, hp, hb, hF⟩, hce, hcv, hcl, st⟩
  · cases hv
    obtain ⟨k1, k2, k3⟩ := vx_keep h0 e1 hS hA hf hL hF
    obtain ⟨t2, a1, b1⟩ := kk u t T'.heap (locs ++ L) e1.symm (by rw [← e2]; exact X'.warmed.alike) hp hb k1 k2 k3 T' rfl X'
    exact ⟨t2, st t2 a1, b1⟩
  · obtain ⟨k1, k2, k3⟩ := vx_keep h0 e1 hS hAX hf hL hF
    obtain ⟨t2, a1, b1⟩ := kx E ce q u t T'.heap (locs ++ L) e1.symm (by rw [← e2]; exact X'.warmed.alike) hp hb k1 k2 k3 (by rw [e1]; exact hce) hcv hcl T' rfl X'
    exact ⟨t2, st.trans a1, b1⟩
/-- caught by the row x of this method's table; the rows ahead don't take it -/
theorem vx_catch {own name : String} {E : String} {ce : Cell} {q : Addr} (hown : s.vm.findClass own = some m.cls) (pre : List ExceptionTableEntry) (x : ExceptionTableEntry) (suf : List ExceptionTableEntry) (hsplit : c.exceptionTable.toList = pre ++ x :: suf)
    (hpass : ∀ z ∈ pre, covers z pc = false ∨ (z.catchType ≠ 0 ∧ ∃ nm : String, (Cond.classLink own z.catchType nm).before args s = true ∧ va_Nc E nm s)) (hx : covers x pc = true) (h0 : x.catchType ≠ 0)
    (hlink : (Cond.classLink own x.catchType name).before args s = true) (hcast : (Cond.castable E name).before args s = true) (hcell : H[q]? = some ce) (hv : ce.vm = .none) (hcl : s.vm.findClass E = some ce.cls)
    (kk : W p l e R s m args below meth c H locs cells slots Q (F0 m x.handlerPc ls [.ref q])) : vx_W p l e R s m args below meth c H locs cells slots Q (F0 m pc ls rest) q := by
  intro T hT X
  have hpl : e.platform.magicAccessors = ({} : Platform).magicAccessors := by rw [X.admits.platform]
  obtain ⟨c3, c4, hc3, hc4, hasg⟩ := Cond.castable_spec hcast
  cases Option.some.inj (hc3.symm.trans hcl)
  obtain ⟨c5, hc5, hcl5⟩ := Cond.classLink_spec hown hlink e.platform hpl
  cases Option.some.inj (hc4.symm.trans hc5)
  obtain ⟨vm', X', st⟩ := X.thenCaughtThrough q (g := F0 m pc ls rest) rfl (Steps.refl _) (by rw [hT]; exact hcell) (by rw [hv]; rfl) (by obtain ⟨k9, h9, -⟩ := Vm.findClass_spec hcl; exact ⟨k9, h9⟩) pre x suf hsplit
    (fun z hz => by
      rcases hpass z hz with h | ⟨hz0, nm, hl1, hn1⟩
      · exact Or.inl h
      · obtain ⟨c6, hc6, hcl6⟩ := Cond.classLink_spec hown hl1 e.platform hpl
        obtain ⟨a8, b8, h1, h2, h3⟩ := hn1
        cases Option.some.inj (h1.symm.trans hcl)
        cases Option.some.inj (h2.symm.trans hc6)
        exact Or.inr ⟨hz0, _, hcl6, h3⟩) hx (Or.inr ⟨h0, c4, hcl5, hasg⟩)
  obtain ⟨t, a1, b1⟩ := kk (T.setVm vm') hT X'
  exact ⟨t, st.trans a1, b1⟩
end Rows
section Ends
variable {p : Program} {l : Launch} {e : Env} {R : Room} {s : State} {m : MethodId} {args : Array Value} {below : List Frame} {meth : Method} {c : Code} {H : Heap} {locs : List Loc} {cells slots : Nat} {Q : State → Prop}
variable {mc ms : Nat} {free : Addr → Prop} {A0 A1 : Nat → Prop} {H0 : Heap} {a : Array Value} {ls : Array Slot} {st0 rest : List Value}
variable {Qc : Array Value → State → Outcome → State → Prop} {XC : String → State → State → Prop}
/-- what a body that may throw owes at its end -/
def vx_MQ (below : List Frame) (Qc : Array Value → State → Outcome → State → Prop) (XC : String → State → State → Prop) (a : Array Value) (s : State) (mc ms : Nat) (free : Addr → Prop) : State → Prop := fun t =>
  ∃ o, t.status = .running ∧ Ended t below o ∧ vx_Q Qc XC mc ms free a s o t
theorem vx_ret {g : JFrame} {mc ms : Nat} (k : W p l e R s m args below meth c H locs cells slots (MQ below Qc args s mc ms free) g) : W p l e R s m args below meth c H locs cells slots (vx_MQ below Qc XC args s mc ms free) g := by
  intro T hT X
  obtain ⟨t, a1, o, b1, b2, b3, b4⟩ := k T hT X
  exact ⟨t, a1, o, b1, b2, Or.inl ⟨b3, b4⟩⟩
/-- not caught here: it goes on to the caller -/
theorem vx_widen {g : JFrame} {q : Addr} {k n : Nat} (h1 : cells ≤ k) (h2 : slots ≤ n) (kk : vx_W p l e R s m args below meth c H locs k n Q g q) : vx_W p l e R s m args below meth c H locs cells slots Q g q := fun T hT X => kk T hT (stand_widen X h1 h2)
theorem vx_out {pc : Nat} {E : String} {ce : Cell} {q : Addr} {mc ms : Nat} (hout : ∀ x ∈ c.exceptionTable.toList, covers x pc = false) (hlocks : meth.locks = false) (hcell : H[q]? = some ce) (hv : ce.vm = .none) (hcl : s.vm.findClass E = some ce.cls)
    (hx : ∀ t : State, t.heap = H → s.vm.Alike t.vm → XC E s t) (hf : ∀ z ∈ locs, free z.base) (hc : cells ≤ mc) (hs : slots ≤ ms) :
    vx_W p l e R s m args below meth c H locs cells slots (vx_MQ below Qc XC args s mc ms free) (F0 m pc ls rest) q := by
  intro T hT X
  obtain ⟨st1, hrun, hend, hW, hsm⟩ := X.leaveThrown q (g := F0 m pc ls rest) rfl rfl rfl hout hlocks
  have hcell9 : (T.setFrames (.throwing q :: below)).heap[q]? = some ce := by
    show T.heap[q]? = some ce
    rw [hT]; exact hcell
  exact ⟨_, st1, .threw q, hrun, hend, Or.inr ⟨q, rfl, E, ce, locs, hx _ hT hW.alike, hcell9, hv, hcl, hW, hsm.mono hc hs, hf⟩⟩
theorem vx_frame {U : State} {k n : Nat} (h : s.sameButNew ({ U with vm := s.vm } : State) locs k n) : s.heap.size ≤ U.heap.size ∧ ∀ q : Nat, q < s.heap.size → (∀ z ∈ locs, z.base ≠ q) → U.heap[q]? = s.heap[q]? := by
  obtain ⟨-, h2, -, -, -, h6⟩ := h
  refine ⟨h2, fun q hq hz => ?_⟩
  obtain ⟨c9, e1, e2, e3, e4⟩ := h6 q _ (Array.getElem?_eq_getElem hq)
  have hs : c9.slots = (s.heap[q]).slots := Array.ext_getElem? fun i => e4 i fun hm => hz _ hm rfl
  have h9 : c9 = s.heap[q] := by
    rw [hs] at e2
    exact e2
  have e5 : U.heap[q]? = some c9 := e1
  rw [e5, h9, Array.getElem?_eq_getElem hq]
/-- the words of a throw but the four that speak of the heap -/
def vx_no (w : Cond) : Bool := decide (w ≠ .isRef (.static Bundle.tN "UNASSIGNED_STACK" Bundle.steD)) && decide (w ≠ .isRef (.static Bundle.tN "SUPPRESSED_SENTINEL" Bundle.listD)) && decide (w ≠ .laysStatic Bundle.tN "UNASSIGNED_STACK" Bundle.steD) && decide (w ≠ .laysStatic Bundle.tN "SUPPRESSED_SENTINEL" Bundle.listD)
def vx_at0 (own : String) (ic : Nat) (X : String) (names : List String) : List Cond := (Bundle.ownAtoms0 own ic X names).filter vx_no
def vx_atS (own : String) (ic : Nat) (X : String) (names : List String) : List Cond := (Bundle.ownAtoms own ic X names).filter vx_no
/-- a word that the tables alone decide, or a good one -/
def vx_ot (w : Cond) : Bool := w.onTables || goodWord w
theorem vx_ot_at {args a' : Array Value} {s U : State} {w : Cond} (hW : s.WarmedH U.vm) (hvm : s.vm = U.vm) (hg : vx_ot w = true) (h : w.before args s = true) : w.before a' U = true := by
  simp only [vx_ot, Bool.or_eq_true] at hg
  rcases hg with hg | hg
  · exact va_tabs hg hvm h
  · exact word_at hW (good_of_word hg) h
/-- a list's words: the good ones out of the method's own list, the others by premises of their own -/
theorem vx_hat {args : Array Value} {s : State} {L B : List Cond} (h1 : ∀ w ∈ L.filter goodWord, w.before args s = true) (h2 : ∀ w ∈ L.filter (fun w => !goodWord w), w ∈ B) (h3 : ∀ w ∈ B, w.before args s = true) : ∀ w ∈ L, w.before args s = true := by
  intro w hw
  by_cases g : goodWord w = true
  · exact h1 w (List.mem_filter.mpr ⟨hw, g⟩)
  · refine h3 w (h2 w (List.mem_filter.mpr ⟨hw, ?_⟩))
    show (!goodWord w) = true
    cases hgw : goodWord w
    · rfl
    · exact absurd hgw g
theorem vx_c {args : Array Value} {s : State} {w : Cond} {B : List Cond} (h : w.before args s = true) (t : ∀ w ∈ B, w.before args s = true) : ∀ w' ∈ w :: B, w'.before args s = true := fun w' h' => (List.mem_cons.mp h').elim (fun e => by rw [e]; exact h) (t w')
theorem vx_n {args : Array Value} {s : State} : ∀ w ∈ ([] : List Cond), w.before args s = true := fun _ h => nomatch h
theorem vx_own {args : Array Value} {s : State} {L : List Cond} (h1 : ∀ w ∈ L.filter vx_no, w.before args s = true)
    (hU : (Cond.isRef (.static Bundle.tN "UNASSIGNED_STACK" Bundle.steD)).before args s = true) (hN : (Cond.isRef (.static Bundle.tN "SUPPRESSED_SENTINEL" Bundle.listD)).before args s = true)
    (lU : (Cond.laysStatic Bundle.tN "UNASSIGNED_STACK" Bundle.steD).before args s = true) (lN : (Cond.laysStatic Bundle.tN "SUPPRESSED_SENTINEL" Bundle.listD).before args s = true) : ∀ w ∈ L, w.before args s = true := by
  intro w hw
  by_cases e1 : w = .isRef (.static Bundle.tN "UNASSIGNED_STACK" Bundle.steD)
  · rw [e1]; exact hU
  · by_cases e2 : w = .isRef (.static Bundle.tN "SUPPRESSED_SENTINEL" Bundle.listD)
    · rw [e2]; exact hN
    · by_cases e3 : w = .laysStatic Bundle.tN "UNASSIGNED_STACK" Bundle.steD
      · rw [e3]; exact lU
      · by_cases e4 : w = .laysStatic Bundle.tN "SUPPRESSED_SENTINEL" Bundle.listD
        · rw [e4]; exact lN
        · exact h1 w (List.mem_filter.mpr ⟨hw, by unfold vx_no; rw [decide_eq_true e1, decide_eq_true e2, decide_eq_true e3, decide_eq_true e4]; rfl⟩)
/-- where a static field lies, its class's statics cell in H -/
def vx_L (C n d : String) (A : Nat → Prop) (U : State) (H : Heap) : Prop := ∃ (c : ClassId) (k : Class) (i : Nat) (f : Field) (a : Nat) (cell : Cell), U.vm.findClass C = some c ∧ U.fieldFound? C n d = some (c, k, i, f) ∧ f.isStatic = true ∧ k.statics = some a ∧ H[a]? = some cell ∧ cell.vm.isStatics = true ∧ cell.cls = c ∧ f.slot < cell.slots.size ∧ k.staticTypes[f.slot]? = some f.type ∧ ¬ A a
theorem vx_L.moved {C n d : String} {A : Nat → Prop} {u U : State} {H : Heap} (hvm : u.vm.Alike U.vm) (h : vx_L C n d A u H) : vx_L C n d A U H := by
  obtain ⟨c, k, i, f, a, cell, h1, h2, h3, h4, h5, h6, h7, h8, h9, h10⟩ := h
  obtain ⟨k', hi', he⟩ := State.fieldFound?_setVm hvm h2
  exact ⟨c, k', i, f, a, cell, by rw [hvm.findClass]; exact h1, hi', h3, by rw [he]; exact h4, h5, h6, h7, h8, by rw [he]; exact h9, h10⟩
theorem vx_L.kept {C n d : String} {A : Nat → Prop} {U : State} {H H1 : Heap} (h : vx_L C n d A U H) (hq : ∀ a : Nat, a < H.size → ¬ A a → H1[a]? = H[a]?) : vx_L C n d A U H1 := by
  obtain ⟨c, k, i, f, a, cell, h1, h2, h3, h4, h5, h6, h7, h8, h9, h10⟩ := h
  exact ⟨c, k, i, f, a, cell, h1, h2, h3, h4, by rw [hq a (Array.getElem?_eq_some_iff.mp h5).1 h10]; exact h5, h6, h7, h8, h9, h10⟩
theorem vx_L.narrow {C n d : String} {A B : Nat → Prop} {U : State} {H : Heap} (h : vx_L C n d A U H) (hAB : ∀ q, B q → A q) : vx_L C n d B U H := by
  obtain ⟨c, k, i, f, a, cell, h1, h2, h3, h4, h5, h6, h7, h8, h9, h10⟩ := h
  exact ⟨c, k, i, f, a, cell, h1, h2, h3, h4, h5, h6, h7, h8, h9, fun z => h10 (hAB _ z)⟩
theorem vx_L.word {C n d : String} {A : Nat → Prop} {s : State} {args : Array Value} (h : vx_L C n d A s s.heap) : (Cond.laysStatic C n d).before args s = true := by
  obtain ⟨c, k, i, f, a, cell, h1, h2, h3, h4, h5, h6, h7, h8, h9, -⟩ := h
  show (Cond.laysStatic C n d).holds args s none s [] = true
  exact Cond.laysStatic_of h1 h2 h3 h4 h5 h6 h7 h8 h9
/-- .. and what it holds: null or some reference -/
def vx_Zq (C n d : String) (A : Nat → Prop) (U : State) (H : Heap) : Prop := va_Zq C n d A U H ∧ vx_L C n d A U H
theorem vx_Zq.moved {C n d : String} {A : Nat → Prop} {u U : State} {H : Heap} (hvm : u.vm.Alike U.vm) (h : vx_Zq C n d A u H) : vx_Zq C n d A U H := ⟨va_Zq.moved hvm h.1, vx_L.moved hvm h.2⟩
theorem vx_Zq.kept {C n d : String} {A : Nat → Prop} {U : State} {H H1 : Heap} (h : vx_Zq C n d A U H) (hq : ∀ a : Nat, a < H.size → ¬ A a → H1[a]? = H[a]?) : vx_Zq C n d A U H1 := ⟨va_Zq.kept h.1 hq, vx_L.kept h.2 hq⟩
theorem vx_Zq.narrow {C n d : String} {A B : Nat → Prop} {U : State} {H : Heap} (h : vx_Zq C n d A U H) (hAB : ∀ q, B q → A q) : vx_Zq C n d B U H := ⟨va_Zq.narrow h.1 hAB, vx_L.narrow h.2 hAB⟩
theorem vx_Zqof {args : Array Value} {s : State} {C n d : String} {A : Nat → Prop} (hl : (Cond.laysStatic C n d).before args s = true) (hini : (Cond.initialized C).before args s = true) (h : (Cond.isRef (.static C n d)).before args s = true) (hA : ∀ a : Nat, a < s.heap.size → ¬ A a) : vx_Zq C n d A s s.heap := by
  refine ⟨va_Zqof hl hini h hA, ?_⟩
  obtain ⟨c, k, i, f, a, cell, h1, h2, h3, h4, h5, h6, h7, h8, h9⟩ := Cond.laysStatic_spec hl
  exact ⟨c, k, i, f, a, cell, h1, h2, h3, h4, h5, h6, h7, h8, h9, hA a (Array.getElem?_eq_some_iff.mp h5).1⟩
theorem vx_isRef {C n d : String} {v : Value} {A : Nat → Prop} {s : State} {args : Array Value} (h : va_Z C n d v A s s.heap) (hv : v.isRef = true) : (Cond.isRef (.static C n d)).before args s = true := by
  obtain ⟨cf, kf, fi, f, a, cell, h1, h2, h3, h4, h5, h6, h7, -⟩ := h
  have he : (Term.static C n d).eval args s none [] s = some v := by
    simp [Term.eval, State.fieldNamed?, h1, h2, h4, h5, h6, h7]
  simp only [Cond.before, Cond.holds, Cond.value, he]
  cases v <;> simp_all [Value.isRef]
theorem vx_isRefq {C n d : String} {A : Nat → Prop} {s : State} {args : Array Value} (h : va_Zq C n d A s s.heap) : (Cond.isRef (.static C n d)).before args s = true := by
  rcases h with h | ⟨t, h⟩
  · exact vx_isRef h rfl
  · exact vx_isRef h rfl
/-- the same frame, seen from here: as if the method were called anew in this heap -/
theorem vx_rebase {T : State} (X : Stand p l e R s m args below meth c T locs cells slots) {R' : Room} (hf : R'.frames ≤ R.frames) (hl : R'.locals ≤ R.locals) (hc : cells + R'.cells ≤ R.cells) (hs : slots + R'.slots ≤ R.slots) :
    Stand p l e R' ((T.setVm s.vm).setFrames (.invoking m args :: below)) m args below meth c T [] 0 0 := by
  have htop : (T.setVm s.vm).topJava?.isSome := X.here.top
  have hF : ((T.setVm s.vm).setFrames (.invoking m args :: below)).frames = .invoking m args :: below := State.frames_setFrames _ (State.cur_lt_of_top htop)
  obtain ⟨g₀, hg0⟩ := Option.isSome_iff_exists.mp htop
  obtain ⟨r, hr⟩ := State.topJava?_eq_some.mp hg0
  have hl9 : e.platform.stackLimits (T.setVm s.vm).me = e.platform.stackLimits s.me := X.limits
  have hb9 : (T.setVm s.vm).me.stackBytes = s.me.stackBytes := X.bytes
  refine ⟨X.admits, X.cas, X.clock, hF, ?_, X.hears, X.method, X.code, X.here, X.tail, X.warmed, ?_, ?_, ?_⟩
  · have h := X.room
    have hU : ((T.setVm s.vm).setFrames (.invoking m args :: below)).localsInUse = s.localsInUse := by
      rw [State.localsInUse_invoking hF (meth := meth) (c := c) X.method X.code, State.localsInUse_invoking X.frames X.method X.code]
    simp only [State.hasRoom, Bool.and_eq_true, decide_eq_true_eq] at h ⊢
    obtain ⟨⟨⟨⟨h1, h2, h3, h4, h5, h6⟩, h7⟩, h8⟩, h9⟩ := h
    rw [X.frames, List.length_cons] at h2 h3
    have q1 := X.heapSize
    have q2 := X.used
    simp only [hF, hU, List.length_cons, State.stackLimits_setFrames, State.stackBytes_setFrames, hl9, hb9]
    refine ⟨⟨⟨⟨by omega, by omega, by omega, by omega, by omega, h6⟩, ?_⟩, ?_⟩, X.book⟩
    · show T.heap.size + R'.cells ≤ e.platform.maxCells
      omega
    · show T.slotsUsed + R'.slots ≤ e.platform.maxSlots
      omega
  · rw [State.stackLimits_setFrames]; rfl
  · rw [State.stackBytes_setFrames]; rfl
  · refine ⟨?_, Nat.le_refl _, Nat.le_refl _, ?_, ?_, fun a c9 h9 => ⟨c9, h9, rfl, rfl, fun _ _ => rfl⟩⟩
    · obtain ⟨t, ht, -⟩ := State.frames_cons hr
      show T.setVm s.vm = { ((T.setVm s.vm).setFrames (.invoking m args :: below)).setFrames (T.setVm s.vm).frames with heap := T.heap, slotsUsed := T.slotsUsed }
      rw [State.setFrames_setFrames, State.setFrames_self ht]
      rfl
    · show T.slotsUsed = T.slotsUsed + ((T.heap.toList.drop T.heap.size).map (·.slots.size)).sum
      rw [List.drop_eq_nil_of_le (Nat.le_of_eq Array.length_toList)]
      rfl
    · show ((T.heap.toList.drop T.heap.size).map (·.slots.size)).sum ≤ 0
      rw [List.drop_eq_nil_of_le (Nat.le_of_eq Array.length_toList)]
      exact Nat.le_refl _
/-- 'throw new E()': new; dup; invokespecial; athrow -/
theorem vx_throw0 {cc : ByteArray} {pc : Nat} (hexec : p.tables.exec = Jvm.exec) (hb : c.code = cc) (hl : l.stackTraces = false) {own cls : String} {names : List String} {ik ic mc ms : Nat} {A : Nat → Prop}
    (hown : s.vm.findClass own = some m.cls) (hcls : Bundle.fit cls = true) (hnames : ∀ n ∈ names, Bundle.fit n = true)
    (hk : (Cond.classLink own ik cls).before args s = true) (hini : (Cond.initialized cls).before args s = true) (hat : ∀ w ∈ vx_at0 own ic cls names, w.before args s = true)
    (hgood : ∀ w ∈ Cond.classLink own ik cls :: Cond.initialized cls :: vx_at0 own ic cls names, vx_ot w = true)
    (hU : vx_Zq Bundle.tN "UNASSIGNED_STACK" Bundle.steD A s s.heap) (hN : vx_Zq Bundle.tN "SUPPRESSED_SENTINEL" Bundle.listD A s s.heap) (hS : va_S A s.heap H locs) (hsize : ls.size = c.maxLocals)
    (d0 : decode cc pc = .ok (.new ik, 3)) (d3 : decode cc (pc + 3) = .ok (.dup, 1)) (d4 : decode cc (pc + 4) = .ok (.invokespecial ic, 3)) (d7 : decode cc (pc + 7) = .ok (.athrow, 1))
    (hout : ∀ x ∈ c.exceptionTable.toList, covers x (pc + 7) = false)
    (hRframes : names.length + 3 < R.frames) (hRlocals : (rest.map fun v => v.category).sum + (13 * (names.length + 1) + 42) ≤ R.locals) (hRcells : cells + 1 ≤ R.cells) (hRslots : slots + 6 ≤ R.slots) (hlocks : meth.locks = false)
    (hx : ∀ t : State, s.vm.Alike t.vm → H.size ≤ t.heap.size → (∀ q : Nat, q < H.size → t.heap[q]? = H[q]?) → XC cls s t)
    (hf : ∀ z ∈ locs, free z.base) (hc : cells + 1 ≤ mc) (hs : slots + 6 ≤ ms) :
    W p l e R s m args below meth c H locs cells slots (vx_MQ below Qc XC args s mc ms free) (F0 m pc ls rest) := by
  intro T hT X
  have htr : e.platform.stackTraces = false := (show e.platform.stackTraces = l.stackTraces by rw [X.admits.platform]).trans hl
  have Y := vx_rebase X (R' := { frames := R.frames, locals := R.locals, cells := 1, slots := 6 }) (Nat.le_refl _) (Nat.le_refl _) hRcells hRslots
  obtain ⟨s', hA⟩ : ∃ z, z = (T.setVm s.vm).setFrames (.invoking m args :: below) := ⟨_, rfl⟩
  rw [← hA] at Y
  have hvm : s'.vm = s.vm := by rw [hA]; rfl
  have hhp : s'.heap = H := by rw [hA]; exact hT
  have hW0 : s.WarmedH s'.vm := by rw [hvm]; exact State.WarmedH.refl s
  have hat' : ∀ w ∈ vx_at0 own ic cls names, w.before args s' = true := fun w hw => vx_ot_at hW0 hvm.symm (hgood w (List.mem_cons_of_mem _ (List.mem_cons_of_mem _ hw))) (hat w hw)
  have hk' : (Cond.classLink own ik cls).before args s' = true := vx_ot_at hW0 hvm.symm (hgood _ List.mem_cons_self) hk
  have hini' : (Cond.initialized cls).before args s' = true := vx_ot_at hW0 hvm.symm (hgood _ (List.mem_cons_of_mem _ List.mem_cons_self)) hini
  have hU' : vx_Zq Bundle.tN "UNASSIGNED_STACK" Bundle.steD A s' s'.heap := by rw [hhp]; exact vx_Zq.moved hW0.alike (hU.kept hS.2.1)
  have hN' : vx_Zq Bundle.tN "SUPPRESSED_SENTINEL" Bundle.listD A s' s'.heap := by rw [hhp]; exact vx_Zq.moved hW0.alike (hN.kept hS.2.1)
  have h : ∀ w ∈ Bundle.ownAtoms0 own ic cls names, w.before args s' = true := vx_own hat' (vx_isRefq hU'.1) (vx_isRefq hN'.1) hU'.2.word hN'.2.word
  have hown' : s'.vm.findClass own = some m.cls := by rw [hvm]; exact hown
  have hins : (Cond.instantiable cls 6).before args s' = true := h _ (by simp [Bundle.ownAtoms0])
  obtain ⟨vm₁, cX, kX, hfX, hkX, -, -, X₁, st1⟩ := Y.newCold hexec (own := own) (C := cls) (index := ik) (n := 6) hown' hk' hins hini'
    (g := F0 m pc ls rest) rfl (by rw [hb]; exact d0) (Nat.le_refl _) (Nat.le_refl _)
  generalize hT1 : (T.setVm vm₁).pushCell { cls := cX, slots := kX.instanceTypes.map defaultValue, vm := .none } = T1 at X₁ st1
  have hcat : (Value.ref T.heap.size).category = 1 := rfl
  have hcellA : T1.heap[T.heap.size]? = some (freshCell cX kX) := by rw [← hT1]; exact State.heap_pushCell_size _ _
  have d3' : decode c.code (pc + 3) = .ok (.dup, 1) := by rw [hb]; exact d3
  obtain ⟨U, hsteps, hrun, hend, hW, hsame, ce, hce, hO⟩ := X₁.ctorThrow0 hexec htr (own := own) (cls := cls) (names := names) (ic := ic) hown' hcls hnames h (fun x hx => nomatch hx) hfX hkX hcellA (by rw [hhp, hT]; exact Nat.le_refl _)
    (g := { method := m, pc := pc + 4, locals := ls, stack := .ref T.heap.size :: .ref T.heap.size :: rest, locked := none }) rfl hsize rfl rfl (rest := rest) rfl
    (by rw [hb]; exact d4) (by rw [hb]; exact d7) hout hRframes (by simp only [List.map_cons, List.sum_cons, hcat]; omega) hlocks
  obtain ⟨f1, f2⟩ := vx_frame hsame
  rw [hhp] at f1 f2
  have hWs : s.WarmedH U.vm := State.WarmedH.trans hW0 hW
  have hcl : s.vm.findClass cls = some ce.cls := by
    have h9 := hO.cls
    rw [hvm] at h9
    exact h9
  have hall : s.sameButNew ({ U with vm := s.vm } : State) locs mc ms := by
    subst hA
    obtain ⟨e1, e2⟩ := hsame
    rw [State.setFrames_setFrames] at e1
    have h2 : (T.setVm s.vm).sameButNew ({ U with vm := s.vm } : State) [] (0 + 1) (0 + 6) := ⟨e1, e2⟩
    have h3 := X.same.trans h2
    rw [List.append_nil] at h3
    exact h3.mono hc hs
  refine ⟨U, ?_, .threw T.heap.size, hrun, hend, Or.inr ⟨T.heap.size, rfl, cls, ce, locs, hx U hWs.alike f1 (fun q hq => f2 q hq (fun z hz => nomatch hz)), hce, hO.vm, hcl, hWs, hall, hf⟩⟩
  refine st1 _ ?_
  show Steps p.tables e below (T1.setTop { method := m, pc := pc + 3, locals := ls, stack := .ref T.heap.size :: rest, locked := none }) _
  jvm_step X₁.here [X₁.here.top, hexec, d3', Value.category]
  exact hsteps
/-- 'throw new E("text")': new; dup; ldc; invokespecial; athrow -/
theorem vx_throwS {cc : ByteArray} {pc : Nat} (hexec : p.tables.exec = Jvm.exec) (hb : c.code = cc) (hl : l.stackTraces = false) {own cls text : String} {names : List String} {ik is ic mc ms sa : Nat} {A : Nat → Prop}
    (hown : s.vm.findClass own = some m.cls) (hcls : Bundle.fit cls = true) (hnames : ∀ n ∈ names, Bundle.fit n = true)
    (hk : (Cond.classLink own ik cls).before args s = true) (hini : (Cond.initialized cls).before args s = true) (hstr : vk_R own is text sa s) (hat : ∀ w ∈ vx_atS own ic cls names, w.before args s = true)
    (hgood : ∀ w ∈ Cond.classLink own ik cls :: Cond.initialized cls :: vx_atS own ic cls names, vx_ot w = true)
    (hU : vx_Zq Bundle.tN "UNASSIGNED_STACK" Bundle.steD A s s.heap) (hN : vx_Zq Bundle.tN "SUPPRESSED_SENTINEL" Bundle.listD A s s.heap) (hS : va_S A s.heap H locs) (hsize : ls.size = c.maxLocals)
    (d0 : decode cc pc = .ok (.new ik, 3)) (d3 : decode cc (pc + 3) = .ok (.dup, 1)) (d4 : decode cc (pc + 4) = .ok (.ldc is, 2)) (d6 : decode cc (pc + 6) = .ok (.invokespecial ic, 3)) (d9 : decode cc (pc + 9) = .ok (.athrow, 1))
    (hout : ∀ x ∈ c.exceptionTable.toList, covers x (pc + 9) = false)
    (hRframes : names.length + 3 < R.frames) (hRlocals : (rest.map fun v => v.category).sum + (13 * (names.length + 1) + 43) ≤ R.locals) (hRcells : cells + 1 ≤ R.cells) (hRslots : slots + 6 ≤ R.slots) (hlocks : meth.locks = false)
    (hx : ∀ t : State, s.vm.Alike t.vm → H.size ≤ t.heap.size → (∀ q : Nat, q < H.size → t.heap[q]? = H[q]?) → XC cls s t)
    (hf : ∀ z ∈ locs, free z.base) (hc : cells + 1 ≤ mc) (hs : slots + 6 ≤ ms) :
    W p l e R s m args below meth c H locs cells slots (vx_MQ below Qc XC args s mc ms free) (F0 m pc ls rest) := by
  intro T hT X
  have htr : e.platform.stackTraces = false := (show e.platform.stackTraces = l.stackTraces by rw [X.admits.platform]).trans hl
  have Y := vx_rebase X (R' := { frames := R.frames, locals := R.locals, cells := 1, slots := 6 }) (Nat.le_refl _) (Nat.le_refl _) hRcells hRslots
  obtain ⟨s', hA⟩ : ∃ z, z = (T.setVm s.vm).setFrames (.invoking m args :: below) := ⟨_, rfl⟩
  rw [← hA] at Y
  have hvm : s'.vm = s.vm := by rw [hA]; rfl
  have hhp : s'.heap = H := by rw [hA]; exact hT
  have hW0 : s.WarmedH s'.vm := by rw [hvm]; exact State.WarmedH.refl s
  have hat' : ∀ w ∈ vx_atS own ic cls names, w.before args s' = true := fun w hw => vx_ot_at hW0 hvm.symm (hgood w (List.mem_cons_of_mem _ (List.mem_cons_of_mem _ hw))) (hat w hw)
  have hk' : (Cond.classLink own ik cls).before args s' = true := vx_ot_at hW0 hvm.symm (hgood _ List.mem_cons_self) hk
  have hini' : (Cond.initialized cls).before args s' = true := vx_ot_at hW0 hvm.symm (hgood _ (List.mem_cons_of_mem _ List.mem_cons_self)) hini
  have hU' : vx_Zq Bundle.tN "UNASSIGNED_STACK" Bundle.steD A s' s'.heap := by rw [hhp]; exact vx_Zq.moved hW0.alike (hU.kept hS.2.1)
  have hN' : vx_Zq Bundle.tN "SUPPRESSED_SENTINEL" Bundle.listD A s' s'.heap := by rw [hhp]; exact vx_Zq.moved hW0.alike (hN.kept hS.2.1)
  have h : ∀ w ∈ Bundle.ownAtoms own ic cls names, w.before args s' = true := vx_own hat' (vx_isRefq hU'.1) (vx_isRefq hN'.1) hU'.2.word hN'.2.word
  have hown' : s'.vm.findClass own = some m.cls := by rw [hvm]; exact hown
  have hins : (Cond.instantiable cls 6).before args s' = true := h _ (by simp [Bundle.ownAtoms])
  obtain ⟨vm₁, cX, kX, hfX, hkX, -, -, X₁, st1⟩ := Y.newCold hexec (own := own) (C := cls) (index := ik) (n := 6) hown' hk' hins hini'
    (g := F0 m pc ls rest) rfl (by rw [hb]; exact d0) (Nat.le_refl _) (Nat.le_refl _)
  generalize hT1 : (T.setVm vm₁).pushCell { cls := cX, slots := kX.instanceTypes.map defaultValue, vm := .none } = T1 at X₁ st1
  have hcat : (Value.ref T.heap.size).category = 1 := rfl
  have hcellA : T1.heap[T.heap.size]? = some (freshCell cX kX) := by rw [← hT1]; exact State.heap_pushCell_size _ _
  have d3' : decode c.code (pc + 3) = .ok (.dup, 1) := by rw [hb]; exact d3
  have d4' : decode c.code (pc + 4) = .ok (.ldc is, 2) := by rw [hb]; exact d4
  have hstr' : vk_R own is text sa s' := vk_R.warm hW0 hstr
  obtain ⟨U, hsteps, hrun, hend, hW, hsame, ce, hce, hO⟩ := X₁.ctorThrowS hexec htr (own := own) (cls := cls) (names := names) (ic := ic) hown' hcls hnames h (fun x hx => nomatch hx) hfX hkX hcellA (by rw [hhp, hT]; exact Nat.le_refl _) (msg := .ref sa) rfl
    (g := { method := m, pc := pc + 6, locals := ls, stack := .ref sa :: .ref T.heap.size :: .ref T.heap.size :: rest, locked := none }) rfl hsize rfl rfl (rest := rest) rfl
    (by rw [hb]; exact d6) (by rw [hb]; exact d9) hout hRframes (by simp only [List.map_cons, List.sum_cons, hcat]; omega) hlocks
  obtain ⟨f1, f2⟩ := vx_frame hsame
  rw [hhp] at f1 f2
  have hWs : s.WarmedH U.vm := State.WarmedH.trans hW0 hW
  have hcl : s.vm.findClass cls = some ce.cls := by
    have h9 := hO.cls
    rw [hvm] at h9
    exact h9
  have hall : s.sameButNew ({ U with vm := s.vm } : State) locs mc ms := by
    subst hA
    obtain ⟨e1, e2⟩ := hsame
    rw [State.setFrames_setFrames] at e1
    have h2 : (T.setVm s.vm).sameButNew ({ U with vm := s.vm } : State) [] (0 + 1) (0 + 6) := ⟨e1, e2⟩
    have h3 := X.same.trans h2
    rw [List.append_nil] at h3
    exact h3.mono hc hs
  refine ⟨U, ?_, .threw T.heap.size, hrun, hend, Or.inr ⟨T.heap.size, rfl, cls, ce, locs, hx U hWs.alike f1 (fun q hq => f2 q hq (fun z hz => nomatch hz)), hce, hO.vm, hcl, hWs, hall, hf⟩⟩
  refine st1 _ ?_
  show Steps p.tables e below (T1.setTop { method := m, pc := pc + 3, locals := ls, stack := .ref T.heap.size :: rest, locked := none }) _
  jvm_step X₁.here [X₁.here.top, hexec, d3', Value.category]
  exact X₁.ldcString hexec (own := own) (text := text) (index := is) (a := sa) hown' hstr'.1 hstr'.2
    (g := { method := m, pc := pc + 4, locals := ls, stack := .ref T.heap.size :: .ref T.heap.size :: rest, locked := none }) rfl d4' _ hsteps
/-- 'throw new E("text")', the text by a wide index -/
theorem vx_throwSW {cc : ByteArray} {pc : Nat} (hexec : p.tables.exec = Jvm.exec) (hb : c.code = cc) (hl : l.stackTraces = false) {own cls text : String} {names : List String} {ik is ic mc ms sa : Nat} {A : Nat → Prop}
    (hown : s.vm.findClass own = some m.cls) (hcls : Bundle.fit cls = true) (hnames : ∀ n ∈ names, Bundle.fit n = true)
    (hk : (Cond.classLink own ik cls).before args s = true) (hini : (Cond.initialized cls).before args s = true) (hstr : vk_R own is text sa s) (hat : ∀ w ∈ vx_atS own ic cls names, w.before args s = true)
    (hgood : ∀ w ∈ Cond.classLink own ik cls :: Cond.initialized cls :: vx_atS own ic cls names, vx_ot w = true)
    (hU : vx_Zq Bundle.tN "UNASSIGNED_STACK" Bundle.steD A s s.heap) (hN : vx_Zq Bundle.tN "SUPPRESSED_SENTINEL" Bundle.listD A s s.heap) (hS : va_S A s.heap H locs) (hsize : ls.size = c.maxLocals)
    (d0 : decode cc pc = .ok (.new ik, 3)) (d3 : decode cc (pc + 3) = .ok (.dup, 1)) (d4 : decode cc (pc + 4) = .ok (.ldc_w is, 3)) (d7 : decode cc (pc + 7) = .ok (.invokespecial ic, 3)) (d10 : decode cc (pc + 10) = .ok (.athrow, 1))
    (hout : ∀ x ∈ c.exceptionTable.toList, covers x (pc + 10) = false)
    (hRframes : names.length + 3 < R.frames) (hRlocals : (rest.map fun v => v.category).sum + (13 * (names.length + 1) + 43) ≤ R.locals) (hRcells : cells + 1 ≤ R.cells) (hRslots : slots + 6 ≤ R.slots) (hlocks : meth.locks = false)
    (hx : ∀ t : State, s.vm.Alike t.vm → H.size ≤ t.heap.size → (∀ q : Nat, q < H.size → t.heap[q]? = H[q]?) → XC cls s t)
    (hf : ∀ z ∈ locs, free z.base) (hc : cells + 1 ≤ mc) (hs : slots + 6 ≤ ms) :
    W p l e R s m args below meth c H locs cells slots (vx_MQ below Qc XC args s mc ms free) (F0 m pc ls rest) := by
  intro T hT X
  have htr : e.platform.stackTraces = false := (show e.platform.stackTraces = l.stackTraces by rw [X.admits.platform]).trans hl
  have Y := vx_rebase X (R' := { frames := R.frames, locals := R.locals, cells := 1, slots := 6 }) (Nat.le_refl _) (Nat.le_refl _) hRcells hRslots
  obtain ⟨s', hA⟩ : ∃ z, z = (T.setVm s.vm).setFrames (.invoking m args :: below) := ⟨_, rfl⟩
  rw [← hA] at Y
  have hvm : s'.vm = s.vm := by rw [hA]; rfl
  have hhp : s'.heap = H := by rw [hA]; exact hT
  have hW0 : s.WarmedH s'.vm := by rw [hvm]; exact State.WarmedH.refl s
  have hat' : ∀ w ∈ vx_atS own ic cls names, w.before args s' = true := fun w hw => vx_ot_at hW0 hvm.symm (hgood w (List.mem_cons_of_mem _ (List.mem_cons_of_mem _ hw))) (hat w hw)
  have hk' : (Cond.classLink own ik cls).before args s' = true := vx_ot_at hW0 hvm.symm (hgood _ List.mem_cons_self) hk
  have hini' : (Cond.initialized cls).before args s' = true := vx_ot_at hW0 hvm.symm (hgood _ (List.mem_cons_of_mem _ List.mem_cons_self)) hini
  have hU' : vx_Zq Bundle.tN "UNASSIGNED_STACK" Bundle.steD A s' s'.heap := by rw [hhp]; exact vx_Zq.moved hW0.alike (hU.kept hS.2.1)
  have hN' : vx_Zq Bundle.tN "SUPPRESSED_SENTINEL" Bundle.listD A s' s'.heap := by rw [hhp]; exact vx_Zq.moved hW0.alike (hN.kept hS.2.1)
  have h : ∀ w ∈ Bundle.ownAtoms own ic cls names, w.before args s' = true := vx_own hat' (vx_isRefq hU'.1) (vx_isRefq hN'.1) hU'.2.word hN'.2.word
  have hown' : s'.vm.findClass own = some m.cls := by rw [hvm]; exact hown
  have hins : (Cond.instantiable cls 6).before args s' = true := h _ (by simp [Bundle.ownAtoms])
  obtain ⟨vm₁, cX, kX, hfX, hkX, -, -, X₁, st1⟩ := Y.newCold hexec (own := own) (C := cls) (index := ik) (n := 6) hown' hk' hins hini'
    (g := F0 m pc ls rest) rfl (by rw [hb]; exact d0) (Nat.le_refl _) (Nat.le_refl _)
  generalize hT1 : (T.setVm vm₁).pushCell { cls := cX, slots := kX.instanceTypes.map defaultValue, vm := .none } = T1 at X₁ st1
  have hcat : (Value.ref T.heap.size).category = 1 := rfl
  have hcellA : T1.heap[T.heap.size]? = some (freshCell cX kX) := by rw [← hT1]; exact State.heap_pushCell_size _ _
  have d3' : decode c.code (pc + 3) = .ok (.dup, 1) := by rw [hb]; exact d3
  have d4' : decode c.code (pc + 4) = .ok (.ldc_w is, 3) := by rw [hb]; exact d4
  have hstr' : vk_R own is text sa s' := vk_R.warm hW0 hstr
  obtain ⟨U, hsteps, hrun, hend, hW, hsame, ce, hce, hO⟩ := X₁.ctorThrowS hexec htr (own := own) (cls := cls) (names := names) (ic := ic) hown' hcls hnames h (fun x hx => nomatch hx) hfX hkX hcellA (by rw [hhp, hT]; exact Nat.le_refl _) (msg := .ref sa) rfl
    (g := { method := m, pc := pc + 7, locals := ls, stack := .ref sa :: .ref T.heap.size :: .ref T.heap.size :: rest, locked := none }) rfl hsize rfl rfl (rest := rest) rfl
    (by rw [hb]; exact d7) (by rw [hb]; exact d10) hout hRframes (by simp only [List.map_cons, List.sum_cons, hcat]; omega) hlocks
  obtain ⟨f1, f2⟩ := vx_frame hsame
  rw [hhp] at f1 f2
  have hWs : s.WarmedH U.vm := State.WarmedH.trans hW0 hW
  have hcl : s.vm.findClass cls = some ce.cls := by
    have h9 := hO.cls
    rw [hvm] at h9
    exact h9
  have hall : s.sameButNew ({ U with vm := s.vm } : State) locs mc ms := by
    subst hA
    obtain ⟨e1, e2⟩ := hsame
    rw [State.setFrames_setFrames] at e1
    have h2 : (T.setVm s.vm).sameButNew ({ U with vm := s.vm } : State) [] (0 + 1) (0 + 6) := ⟨e1, e2⟩
    have h3 := X.same.trans h2
    rw [List.append_nil] at h3
    exact h3.mono hc hs
  refine ⟨U, ?_, .threw T.heap.size, hrun, hend, Or.inr ⟨T.heap.size, rfl, cls, ce, locs, hx U hWs.alike f1 (fun q hq => f2 q hq (fun z hz => nomatch hz)), hce, hO.vm, hcl, hWs, hall, hf⟩⟩
  refine st1 _ ?_
  show Steps p.tables e below (T1.setTop { method := m, pc := pc + 3, locals := ls, stack := .ref T.heap.size :: rest, locked := none }) _
  jvm_step X₁.here [X₁.here.top, hexec, d3', Value.category]
  exact X₁.ldcStringW hexec (own := own) (text := text) (index := is) (a := sa) hown' hstr'.1 hstr'.2
    (g := { method := m, pc := pc + 4, locals := ls, stack := .ref T.heap.size :: .ref T.heap.size :: rest, locked := none }) rfl d4' _ hsteps
end Ends
section Bodies
variable {l : Launch}
theorem vx_ofW {y : MethodName} {ws ws' : List Cond} {rm : Room} {Pc : Array Value → State → Prop} {Qc : Array Value → State → Outcome → State → Prop} {XC : String → State → State → Prop} {mc ms : Nat} {free : Addr → Prop} {cc : ByteArray} {maxL : Nat} {ret : Option FieldType}
    (hy : plainName y.cls = true) (hw : ws = Cond.code y cc maxL ret :: ws')
    (body : ∀ p e s m args below meth c s₁, BodyLoose p l y (headSpec ws rm) cc maxL ret e s m args below meth c s₁ → c.maxLocals = maxL → (∀ x ∈ c.exceptionTable.toList, False) → Pc args s →
      W p l e (headSpec ws rm).room s m args below meth c s.heap [] 0 0 (vx_MQ below Qc XC args s mc ms free) (entryFrame m args maxL)) : vx_Met l y ws rm Pc Qc XC mc ms free := by
  refine MetFree.of_bodyS (code := cc) (maxLocals := maxL) (ret := ret) hy ?_ ?_
  · intro args s m h hn
    obtain ⟨meth, c, h1, h2, h3, h4, h5, h6, -, -⟩ := Cond.code_spec hn (atoms_spec (ws := ws) h _ (by rw [hw]; exact List.mem_cons_self))
    exact ⟨meth, c, h1, h2, h3, h4, h5, h6⟩
  · intro p e s m args below meth c s₁ B hml hP _
    have hh0 : s₁.heap = s.heap := by rw [B.state]; rfl
    have ht : ∀ x ∈ c.exceptionTable.toList, False := by
      obtain ⟨meth9, c9, h1, h2, -, -, -, -, h7, -⟩ := Cond.code_spec B.named (atoms_spec (ws := ws) B.pre _ (by rw [hw]; exact List.mem_cons_self))
      cases Option.some.inj (h1.symm.trans B.method)
      cases Option.some.inj (h2.symm.trans (Stand.of_body B).code)
      intro x hx
      rw [Array.isEmpty_iff.mp h7] at hx
      cases hx
    obtain ⟨t, a1, o, b1, b2, b3⟩ := body p e s m args below meth c s₁ B hml ht hP s₁ hh0 (Stand.of_body B)
    exact ⟨t, o, a1, b1, b2, b3⟩
/-- the table of a body with handlers -/
theorem vx_table {p : Program} {x y : MethodName} {S : Spec} {cc bytes : ByteArray} {maxL maxL' : Nat} {ret ret' : Option FieldType} {e : Env} {s s₁ : State} {m : MethodId} {args : Array Value} {below : List Frame} {meth : Method} {c : Code} {hh : List (Nat × Nat × Nat × Nat)}
    (B : BodyLoose p l y S cc maxL ret e s m args below meth c s₁) (h : (Cond.codeWith y bytes maxL' ret' hh).before args s = true) : c.exceptionTable.toList = tableOf hh := by
  obtain ⟨m9, meth9, c9, hn9, h1, h2, -, -, h6, -⟩ := Cond.codeWith_spec h
  cases Option.some.inj (hn9.symm.trans B.named)
  cases Option.some.inj (h1.symm.trans B.method)
  cases Option.some.inj (h2.symm.trans (Stand.of_body B).code)
  rw [← h6, table_eq]
end Bodies
end VXA
/-! ===== END ===== -/
/-! ===== BEGIN a static call of a method with an exception table ===== -/
section VXS
variable {p : Program} {l : Launch} {e : Env} {R : Room} {s : State} {m : MethodId} {args : Array Value} {below : List Frame} {meth : Method} {c : Code} {T : State} {H : Heap} {locs : List Loc} {cells slots : Nat}
abbrev vx_CSW (R : Room) (s : State) (args : Array Value) (own : String) (index : Nat) (y : MethodName) (bytes : ByteArray) (maxL : Nat) (ret : Option FieldType) (hh : List (Nat × Nat × Nat × Nat)) (ws : List Cond) (rm : Room) (mc ms n : Nat) : Prop :=
  (rm.cells = mc ∧ rm.slots = ms ∧ rm.frames + 1 ≤ R.frames ∧ 8 + (maxL + 11) + rm.locals ≤ R.locals ∧ (∀ w ∈ ws, ∀ (a' : Array Value) (U : State), s.WarmedH U.vm → w.before a' U = true) ∧ Cond.codeWith y bytes maxL ret hh ∈ ws) ∧
  (Cond.codeWith y bytes maxL ret hh).before args s = true ∧ (Cond.initialized y.cls).before args s = true ∧ (y.cls ≠ "java/lang/invoke/MethodHandle" ∧ y.cls ≠ "java/lang/invoke/VarHandle") ∧
  (∀ sig, parseMethodDescriptor y.desc = some sig → n = sig.parameters.length) ∧ (Cond.methodLink own index y).before args s = true ∧ (Cond.static y).before args s = true
theorem vx_cwSW {own : String} {index maxL mc ms : Nat} {y : MethodName} {bytes : ByteArray} {ret : Option FieldType} {hh : List (Nat × Nat × Nat × Nat)} {Ts ws ws' : List Cond} {rm : Room} (n : Nat) (ht : ∀ w ∈ Ts, w.before args s = true) (hT : GoodIn Ts (va_wsS own index y ws)) (hw : ws = Cond.codeWith y bytes maxL ret hh :: ws') (hrc : rm.cells = mc) (hrs : rm.slots = ms)
    (hd : y.cls ≠ "java/lang/invoke/MethodHandle" ∧ y.cls ≠ "java/lang/invoke/VarHandle" ∧ (parseMethodDescriptor y.desc).map (fun d => d.parameters.length) = some n) (hR : rm.frames + 1 ≤ R.frames ∧ 8 + (maxL + 11) + rm.locals ≤ R.locals) :
    vx_CSW R s args own index y bytes maxL ret hh ws rm mc ms n := by
  have ok : ∀ w ∈ va_wsS own index y ws, w.before args s = true := fun w h => ht w (hT w h).1
  have hG : GoodIn Ts ws := fun w h => hT w (by unfold va_wsS; exact List.mem_append_right _ h)
  have hc : Cond.codeWith y bytes maxL ret hh ∈ ws := by rw [hw]; exact List.mem_cons_self
  refine ⟨⟨hrc, hrs, hR.1, hR.2, pay_in ht hG, hc⟩, ht _ (hG _ hc).1, ok _ (by simp [va_wsS]), ⟨hd.1, hd.2.1⟩, fun sig h => ?_, ok _ (by simp [va_wsS]), ok _ (by simp [va_wsS])⟩
  have h2 := hd.2.2
  rw [h] at h2
  exact (Option.some.inj h2).symm
theorem vx_callSW (X : Stand p l e R s m args below meth c T locs cells slots) (hexec : p.tables.exec = Jvm.exec) {own : String} {index : Nat} {y : MethodName} {bytes : ByteArray} {maxL : Nat} {ret : Option FieldType} {hh : List (Nat × Nat × Nat × Nat)}
    (hown : s.vm.findClass own = some m.cls) (hlink : (Cond.methodLink own index y).before args s = true) (hstat : (Cond.static y).before args s = true) (hinit : (Cond.initialized y.cls).before args s = true)
    (hcode : (Cond.codeWith y bytes maxL ret hh).before args s = true) (hy : y.cls ≠ "java/lang/invoke/MethodHandle" ∧ y.cls ≠ "java/lang/invoke/VarHandle")
    {W9 : Nat} {Pre : Pt → Array Value → Prop} {Post : Pt → Array Value → Option Value → Pt → Prop} (hK : Back l R p e below s args y 3 W9 Pre Post)
    {g : JFrame} (hg : g.method = m) (hsize : g.locals.size = c.maxLocals) {argsL rest : List Value} (hlen : ∀ sig, parseMethodDescriptor y.desc = some sig → argsL.length = sig.parameters.length)
    (hstack : g.stack = argsL.reverse ++ rest) (hW : 2 * g.monitorRoom + (rest.map fun v => v.category).sum ≤ W9) (hdg : decode c.code g.pc = .ok (.invokestatic index, 3))
    (hpre : ∀ vm₁, s.WarmedH vm₁ → Pre ⟨T.setVm vm₁, locs, cells, slots⟩ argsL.toArray) :
    ∃ (v : Option Value) (vm₁ : Vm) (B : Pt), s.WarmedH vm₁ ∧ Stand p l e R s m args below meth c B.U B.locs B.cells B.slots ∧ Post ⟨T.setVm vm₁, locs, cells, slots⟩ argsL.toArray v B ∧
      ∀ target, Steps p.tables e below (B.U.setTop { g with pc := g.pc + 3, stack := v.toList ++ rest }) target → Steps p.tables e below (T.setTop g) target := by
  obtain ⟨mk, methM, cM, hnamed, hmethM, -, -, -, -, -, -, hsigM⟩ := Cond.codeWith_spec hcode
  have hstatic : methM.isStatic = true := Cond.static_spec hnamed hmethM hstat
  obtain ⟨kP, hkP, -⟩ := className_of_methodNamed hnamed
  have hinitP : kP.init = .initialized := Cond.initialized_spec (findClass_of_methodNamed hnamed) hkP hinit
  obtain ⟨vm₁, X₁, hstep₁⟩ := X.invokestatic hexec hown hlink hnamed hmethM hstatic hkP hinitP hy (g := g) hg (argsL := argsL) (rest := rest) (hlen _ hsigM) hstack hdg
  obtain ⟨v, B, X', hpost, hsteps⟩ := hK m meth c ⟨T.setVm vm₁, locs, cells, slots⟩ { g with stack := rest } (.invokestatic index) mk argsL.toArray X₁ hg hsize hdg hW (X₁.named hnamed) (hpre vm₁ X₁.warmed)
  exact ⟨v, vm₁, B, X₁.warmed, X', hpost, fun target h => hstep₁ _ fun acts => by rw [doInvoke_state]; exact hsteps.trans h⟩
theorem vx_runSW {y : MethodName} {bytes cc : ByteArray} {maxL nL mc ms n index : Nat} {ret : Option FieldType} {hh : List (Nat × Nat × Nat × Nat)} {ws : List Cond} {rm : Room} {Pc : Array Value → State → Prop} {Qc : Array Value → State → Outcome → State → Prop} {free : Addr → Prop} {Ts : List Cond} {own : String} {As rest : List Value} {g : JFrame}
    (S : CallFix p m c cc nL s args Ts own) (hM : Met l y ws rm Pc Qc mc ms free) (cw : vx_CSW R s args own index y bytes maxL ret hh ws rm mc ms n) (hp : PreS s H Pc As)
    (hg : g.method = m) (hn : As.length = n) (hsize : g.locals.size = nL) (hstack : g.stack = As.reverse ++ rest) (hW : 2 * g.monitorRoom + (rest.map fun v => v.category).sum ≤ 8) (hdg : decode cc g.pc = .ok (.invokestatic index, 3)) (hf : cells + mc ≤ R.cells ∧ slots + ms ≤ R.slots) :
    va_Run p l e R s m args below meth c H locs cells slots mc ms g rest (Qc As.toArray) (free) := by
  obtain ⟨⟨hrc, hrs, hfr, hlo, hws, hcw⟩, hcode, hini, hy, hlen, hl, hstt⟩ := cw
  have hK : Back l R p e below s args y 3 8 (PreOf R mc ms Pc) (PostOf Qc mc ms free) := va_backW (hh := hh) (bytes := bytes) (maxL := maxL) (ret := ret) hM hp.1 hrc hrs hfr hlo hws hcw (fun a' U hW => word_at hW (Or.inl (by first | rfl | simp [Cond.onTables, Cond.keeps, Cond.steady])) hini)
  obtain ⟨hx, hb, hml, ho, -⟩ := S
  intro T hT X
  obtain ⟨v, vm₁, ⟨U', l2, c2, s2⟩, hW₁, X', ⟨g', mk, t, L, e1, e2, hq, h1, hL, h2, h3⟩, st⟩ := vx_callSW X hx (hh := hh) (bytes := bytes) (maxL := maxL) (ret := ret) ho hl hstt hini hcode hy hK hg (hsize.trans hml.symm) (argsL := As) (rest := rest) (fun sig h => hn.trans (hlen sig h)) hstack hW (by rw [hb]; exact hdg)
    (fun vm₁ hW₁ => ⟨hf.1, hf.2, hp.2 (T.setVm vm₁) hT hW₁⟩)
  dsimp only [Pt.U, Pt.locs, Pt.cells, Pt.slots] at X' e1 e2 h1 h2 h3 st
  subst h1; subst h2; subst h3
  exact ⟨v, (T.setVm vm₁).calling g' mk As.toArray, t, U', L, hT, X', hL, e1, e2, hq, st⟩
/-- not caught here, past rows that name other classes: it goes on to the caller -/
theorem vx_outP {p : Program} {l : Launch} {e : Env} {R : Room} {s : State} {m : MethodId} {args : Array Value} {below : List Frame} {meth : Method} {c : Code} {H : Heap} {locs : List Loc} {cells slots : Nat} {free : Addr → Prop} {ls : Array Slot} {rest : List Value} {Qc : Array Value → State → Outcome → State → Prop} {XC : String → State → State → Prop}
    {pc : Nat} {own E : String} {ce : Cell} {q : Addr} {mc ms : Nat} (hown : s.vm.findClass own = some m.cls) (hlocks : meth.locks = false)
    (hpass : ∀ z ∈ c.exceptionTable.toList, covers z pc = false ∨ (z.catchType ≠ 0 ∧ ∃ nm : String, (Cond.classLink own z.catchType nm).before args s = true ∧ va_Nc E nm s)) (hcell : H[q]? = some ce) (hv : ce.vm = .none) (hcl : s.vm.findClass E = some ce.cls)
    (hx : ∀ t : State, t.heap = H → s.vm.Alike t.vm → XC E s t) (hf : ∀ z ∈ locs, free z.base) (hc : cells ≤ mc) (hs : slots ≤ ms) :
    vx_W p l e R s m args below meth c H locs cells slots (vx_MQ below Qc XC args s mc ms free) (F0 m pc ls rest) q := by
  intro T hT X
  have hpl : e.platform.magicAccessors = ({} : Platform).magicAccessors := by rw [X.admits.platform]
  obtain ⟨vm', hW', X', st⟩ := X.outThrough hlocks q (g := F0 m pc ls rest) rfl rfl rfl (cell := ce) (by rw [hT]; exact hcell) (by rw [hv]; rfl)
    (by obtain ⟨k9, h9, -⟩ := Vm.findClass_spec hcl; exact ⟨k9, h9⟩) (fun z hz => by
      rcases hpass z hz with h | ⟨hz0, nm, hl1, hn1⟩
      · exact Or.inl h
      · obtain ⟨c6, hc6, hcl6⟩ := Cond.classLink_spec hown hl1 e.platform hpl
        obtain ⟨a8, b8, h1, h2, h3⟩ := hn1
        cases Option.some.inj (h1.symm.trans hcl)
        cases Option.some.inj (h2.symm.trans hc6)
        exact Or.inr ⟨hz0, _, hcl6, h3⟩)
  obtain ⟨g₀, hfr⟩ := X'.frames_eq
  have hcell9 : ((T.setVm vm').setFrames (.throwing q :: below)).heap[q]? = some ce := by
    show T.heap[q]? = some ce
    rw [hT]; exact hcell
  have hend : Ended ((T.setVm vm').setFrames (.throwing q :: below)) below (.threw q) := State.frames_setFrames _ (State.cur_lt_of_frames hfr)
  refine ⟨(T.setVm vm').setFrames (.throwing q :: below), ?_, .threw q, X'.here.running, hend, Or.inr ⟨q, rfl, E, ce, locs, hx _ hT (X'.ends _).1.alike, hcell9, hv, hcl, (X'.ends _).1, (X'.ends _).2.mono hc hs, hf⟩⟩
  rw [X.pushThrowing_eq]
  exact st
/-- a thing of a world lies in the heap -/
theorem vx_lt {D : va_G} {cl : List vw_C} {ws : va_W} {H1 : Heap} (h : va_P D cl ws H1) {k : Nat} {q : Nat × va_E} (hk : ws[k]? = some q) : q.1 < H1.size := (h k q hk).lt
end VXS
/-! ===== END ===== -/
/-! ===== BEGIN methods with a table of their own: called by a name, returning or throwing ===== -/
section VXH
/-! vx_backW, vx_callVX, vx_callSX, vx_callVW, vx_runVW, vx_runVX, vx_runSX, vx_ofWH follow the same proofs as their sisters above (Free/Laws.lean, Shelf42/LK1.lean); vx_outP calls Shelf42/NT130.lean (outThrough). -/
section
variable {l : Launch} {R : Room} {p : Program} {e : Env} {below : List Frame} {s : State} {sargs : Array Value} {y : MethodName} {len W9 : Nat}
theorem vx_backW {ws : List Cond} {rm : Room} {Pc : Array Value → State → Prop} {Qc : Array Value → State → Outcome → State → Prop} {XC : String → State → State → Prop} {mc ms : Nat} {free : Addr → Prop} {bytes : ByteArray} {maxL : Nat} {ret : Option FieldType} {hh : List (Nat × Nat × Nat × Nat)}
    (hM : vx_Met l y ws rm Pc Qc XC mc ms free) (hblind : FrameBlind Pc) (hrc : rm.cells = mc) (hrs : rm.slots = ms)
    (hframes : rm.frames + 1 ≤ R.frames) (hlocals : W9 + (maxL + 11) + rm.locals ≤ R.locals)
    (hws : ∀ w ∈ ws, ∀ a' U, s.WarmedH U.vm → w.before a' U = true) (hcode : Cond.codeWith y bytes maxL ret hh ∈ ws) (hinit : ∀ a' U, s.WarmedH U.vm → (Cond.initialized y.cls).before a' U = true) :
    vx_Back l R p e below s sargs y len W9 (PreOf R mc ms Pc) (PostOf Qc mc ms free) (vx_Post XC mc ms free) := by
  intro m meth c A g ig mk a X hg hsize hdg hW hn hp
  have h1 : (headSpec ws rm).pre.before a A.U = true := atoms_intro fun w hw => hws w hw _ _ X.warmed
  have h2 : (Cond.codeWith y bytes maxL ret hh).before a A.U = true := hws _ hcode _ _ X.warmed
  have h3 : (Cond.initialized y.cls).before a A.U = true := hinit _ _ X.warmed
  have h4 : A.cells + (headSpec ws rm).room.cells ≤ R.cells := by rw [show (headSpec ws rm).room.cells = mc from hrc]; exact hp.1
  have h5 : A.slots + (headSpec ws rm).room.slots ≤ R.slots := by rw [show (headSpec ws rm).room.slots = ms from hrs]; exact hp.2.1
  have hPc : Pc a (A.U.calling g mk a) := hblind _ _ _ _ hp.2.2
  obtain ⟨U, Ls, c0, s0⟩ := A
  dsimp only [Pt.U, Pt.locs, Pt.cells, Pt.slots] at h1 h2 h3 h4 h5 X hn hPc ⊢
  obtain ⟨m9, methY, cY, hn9, hmY, hcY, -, hlY, -⟩ := Cond.codeWith_spec h2
  cases Option.some.inj (hn9.symm.trans hn)
  obtain ⟨kY, hkY, -⟩ := className_of_methodNamed hn
  have hinitY : kY.init = .initialized := Cond.initialized_spec (findClass_of_methodNamed hn) hkY h3
  have h : At U g.method c below := by rw [hg]; exact X.here
  have hlocals9 : W9 + (maxL + 11) + (headSpec ws rm).room.locals ≤ R.locals := hlocals
  have happ : (headSpec ws rm).appliesLoose y e.platform (U.calling g mk a) = true :=
    Spec.appliesLoose_calling (g := g) h hdg hn hkY hinitY
      (X.room_calling (g := g) (R' := (headSpec ws rm).room) hsize hmY hcY hframes (by rw [hlY]; omega) h4 h5) h1
  obtain ⟨mid, hmid⟩ := h.above
  have hfr : (U.setTop g).frames = (.java g :: mid) ++ below := by rw [State.frames_setTop' g h.top, hmid]; rfl
  obtain ⟨o, s₂, hsteps, -, hend, hq⟩ := Steps.callFree hM p X.admits X.cas X.clock (acts := []) hfr happ hPc trivial
  have hq' : vx_Q Qc XC mc ms free a (U.calling g mk a) o s₂ := hq
  rw [State.frames_setTop' g h.top] at hend
  obtain ⟨g₀, hg0⟩ := Option.isSome_iff_exists.mp h.top
  obtain ⟨r, hr⟩ := State.topJava?_eq_some.mp hg0
  have hr' : (({ U with heap := s₂.heap, slotsUsed := s₂.slotsUsed } : State).setVm s₂.vm).frames = .java g₀ :: r := hr
  rcases hq' with ⟨hqc, L, hfe, hL⟩ | ⟨q, rfl, E, ce, L, hx, hce, hcv, hcl, hW₂, hsm, hL⟩
  · obtain ⟨⟨v, rfl⟩, hW₂, e2, q2, q3, q4, q5, q6⟩ := id hfe
    have e3 : s₂ = ({ (U.calling g mk a).setFrames s₂.frames with heap := s₂.heap, slotsUsed := s₂.slotsUsed } : State).setVm s₂.vm := by
      have : s₂ = ({ s₂ with vm := (U.calling g mk a).vm } : State).setVm s₂.vm := rfl
      rw [e2] at this
      exact this
    obtain ⟨c₂, i₂, len₂, hc₂, hd₂, hf₂⟩ := hend
    have hW' : U.WarmedH s₂.vm := hW₂
    have hcc : c₂ = c := by
      have h1 : s₂.code? g.method = U.code? g.method := by
        rw [State.code?_eq, State.code?_eq, hW'.alike.method?]
      exact Option.some.inj (hc₂.symm.trans (h1.trans h.code))
    subst hcc
    have hlen : len₂ = len := by rw [hdg] at hd₂; cases hd₂; rfl
    subst hlen
    have hs₂ : s₂ = (({ U with heap := s₂.heap, slotsUsed := s₂.slotsUsed } : State).setVm s₂.vm).setTop { g with pc := g.pc + len₂, stack := v.toList ++ g.stack } := by
      refine e3.trans ?_
      rw [hf₂, State.calling_eq h.top, State.setFrames_setFrames, State.setTop_of_frames _ hr', hr]
      rfl
    have hsame : U.sameButNew ({ U with heap := s₂.heap, slotsUsed := s₂.slotsUsed } : State) L mc ms := by
      refine ⟨?_, q2, q3, q4, q5, q6⟩
      obtain ⟨t, ht, -⟩ := State.frames_cons hr
      show ({ U with heap := s₂.heap, slotsUsed := s₂.slotsUsed } : State) = { U.setFrames U.frames with heap := s₂.heap, slotsUsed := s₂.slotsUsed }
      rw [State.setFrames_self ht]
    subst hg
    refine Or.inl ⟨v, ⟨(({ U with heap := s₂.heap, slotsUsed := s₂.slotsUsed } : State).setVm s₂.vm), Ls ++ L, c0 + mc, s0 + ms⟩,
      ⟨X.admits, X.cas, X.clock, X.frames, X.room, X.hears, X.method, X.code, (X.here.setHeapUsed s₂.heap s₂.slotsUsed).setVm hW'.alike, X.tail, State.WarmedH.trans X.warmed hW', X.limits, X.bytes, X.same.trans (hsame.setVm s.vm)⟩,
      ⟨g, mk, s₂, L, rfl, rfl, hqc, rfl, hL, rfl, rfl⟩, ?_⟩
    show Steps p.tables e below _ ((({ U with heap := s₂.heap, slotsUsed := s₂.slotsUsed } : State).setVm s₂.vm).setTop { g with pc := g.pc + len₂, stack := v.toList ++ g.stack })
    rw [← hs₂]
    exact hsteps
  · obtain ⟨e2, q2, q3, q4, q5, q6⟩ := id hsm
    have e3 : s₂ = ({ (U.calling g mk a).setFrames s₂.frames with heap := s₂.heap, slotsUsed := s₂.slotsUsed } : State).setVm s₂.vm := by
      have : s₂ = ({ s₂ with vm := (U.calling g mk a).vm } : State).setVm s₂.vm := rfl
      rw [e2] at this
      exact this
    have hf₂ : s₂.frames = .throwing q :: .java g :: U.frames.tail := hend
    have hW' : U.WarmedH s₂.vm := hW₂
    have hs₂ : s₂ = ((({ U with heap := s₂.heap, slotsUsed := s₂.slotsUsed } : State).setVm s₂.vm).setTop g).pushFrame (.throwing q) := by
      refine e3.trans ?_
      rw [hf₂, State.calling_eq h.top, State.setFrames_setFrames, State.pushFrame, State.frames_setTop _ hr', State.setTop_of_frames _ hr', State.setFrames_setFrames, hr]
      rfl
    have hsame : U.sameButNew ({ U with heap := s₂.heap, slotsUsed := s₂.slotsUsed } : State) L mc ms := by
      refine ⟨?_, q2, q3, q4, q5, q6⟩
      obtain ⟨t, ht, -⟩ := State.frames_cons hr
      show ({ U with heap := s₂.heap, slotsUsed := s₂.slotsUsed } : State) = { U.setFrames U.frames with heap := s₂.heap, slotsUsed := s₂.slotsUsed }
      rw [State.setFrames_self ht]
    subst hg
    refine Or.inr ⟨q, ⟨(({ U with heap := s₂.heap, slotsUsed := s₂.slotsUsed } : State).setVm s₂.vm), Ls ++ L, c0 + mc, s0 + ms⟩,
      ⟨X.admits, X.cas, X.clock, X.frames, X.room, X.hears, X.method, X.code, (X.here.setHeapUsed s₂.heap s₂.slotsUsed).setVm hW'.alike, X.tail, State.WarmedH.trans X.warmed hW', X.limits, X.bytes, X.same.trans (hsame.setVm s.vm)⟩,
      ⟨g, mk, s₂, L, E, ce, rfl, rfl, hx, hce, hcv, hcl, rfl, hL, rfl, rfl⟩, ?_⟩
    show Steps p.tables e below _ (((({ U with heap := s₂.heap, slotsUsed := s₂.slotsUsed } : State).setVm s₂.vm).setTop g).pushFrame (.throwing q))
    rw [← hs₂]
    exact hsteps
end
variable {p : Program} {l : Launch} {e : Env} {R : Room} {s : State} {m : MethodId} {args : Array Value} {below : List Frame} {meth : Method} {c : Code} {T : State} {H : Heap} {locs : List Loc} {cells slots : Nat}
theorem vx_callVX (X : Stand p l e R s m args below meth c T locs cells slots) (hexec : p.tables.exec = Jvm.exec) {own C : String} {index : Nat} {y : MethodName} {bytes : ByteArray} {maxL : Nat} {ret : Option FieldType} {hh : List (Nat × Nat × Nat × Nat)}
    (hown : s.vm.findClass own = some m.cls) (hlink : (Cond.methodLink own index y).before args s = true) (hinst : (Cond.instanceMethod y).before args s = true) (hsel : (Cond.selects C y y).before args s = true)
    (hcode : (Cond.codeWith y bytes maxL ret hh).before args s = true) (hy : y.cls ≠ "java/lang/invoke/MethodHandle" ∧ y.cls ≠ "java/lang/invoke/VarHandle")
    {W9 : Nat} {Pre : Pt → Array Value → Prop} {Post : Pt → Array Value → Option Value → Pt → Prop} {PostX : Pt → Array Value → Addr → Pt → Prop} (hK : vx_Back l R p e below s args y 3 W9 Pre Post PostX)
    {b : Addr} {cellB : Cell} (hcell : T.heap[b]? = some cellB) (hobj : cellB.vm.isStatics = false) (hcls : s.vm.findClass C = some cellB.cls)
    {g : JFrame} (hg : g.method = m) (hsize : g.locals.size = c.maxLocals) {argsL rest : List Value} (hlen : ∀ sig, parseMethodDescriptor y.desc = some sig → argsL.length = sig.parameters.length)
    (hstack : g.stack = argsL.reverse ++ .ref b :: rest) (hW : 2 * g.monitorRoom + (rest.map fun v => v.category).sum ≤ W9) (hdg : decode c.code g.pc = .ok (.invokevirtual index, 3))
    (hpre : ∀ vm₁, s.WarmedH vm₁ → Pre ⟨T.setVm vm₁, locs, cells, slots⟩ (Value.ref b :: argsL).toArray) :
    (∃ (v : Option Value) (vm₁ : Vm) (B : Pt), s.WarmedH vm₁ ∧ Stand p l e R s m args below meth c B.U B.locs B.cells B.slots ∧ Post ⟨T.setVm vm₁, locs, cells, slots⟩ (Value.ref b :: argsL).toArray v B ∧
      ∀ target, Steps p.tables e below (B.U.setTop { g with pc := g.pc + 3, stack := v.toList ++ rest }) target → Steps p.tables e below (T.setTop g) target) ∨
    (∃ (q : Addr) (vm₁ : Vm) (B : Pt), s.WarmedH vm₁ ∧ Stand p l e R s m args below meth c B.U B.locs B.cells B.slots ∧ PostX ⟨T.setVm vm₁, locs, cells, slots⟩ (Value.ref b :: argsL).toArray q B ∧
      Steps p.tables e below (T.setTop g) ((B.U.setTop { g with stack := rest }).pushFrame (.throwing q))) := by
  obtain ⟨mk, methM, hnamed, hmethM, hstM, habM⟩ := Cond.instanceMethod_spec hinst
  obtain ⟨m8, methM', cM, hn8, hmethM', -, -, -, -, -, -, hsigM⟩ := Cond.codeWith_spec hcode
  cases Option.some.inj (hn8.symm.trans hnamed)
  cases hmethM.symm.trans hmethM'
  obtain ⟨c2, r2, m2, q1, q2, q3, q4, kP, hkP, hkPi⟩ := Cond.selects_spec hsel
  cases hcls.symm.trans q1
  cases (State.methodFound?_of_named hnamed hy).symm.trans q2
  cases hnamed.symm.trans q3
  have hselP : selectMethod e.platform s.vm cellB.cls mk = .method mk := by rw [Launch.admits_selectMethod X.admits]; exact q4
  obtain ⟨vm₁, X₁, hstep₁⟩ := X.invokevirtual hexec hown hlink hnamed hmethM hstM hkP hkPi hy (a := b) (cell := cellB) hcell
    (fun z h => by rw [h] at hobj; cases hobj) hselP hmethM habM hkP hkPi (g := g) hg (argsL := argsL) (rest := rest) (hlen _ hsigM) hstack hdg
  rcases hK m meth c ⟨T.setVm vm₁, locs, cells, slots⟩ { g with stack := rest } (.invokevirtual index) mk (Value.ref b :: argsL).toArray X₁ hg hsize hdg hW (X₁.named hnamed) (hpre vm₁ X₁.warmed) with ⟨v, B, X', hpost, hsteps⟩ | ⟨q, B, X', hpost, hsteps⟩
  · exact Or.inl ⟨v, vm₁, B, X₁.warmed, X', hpost, fun target h => hstep₁ _ fun acts => by rw [doInvoke_state]; exact hsteps.trans h⟩
  · exact Or.inr ⟨q, vm₁, B, X₁.warmed, X', hpost, hstep₁ _ fun acts => by rw [doInvoke_state]; exact hsteps⟩
theorem vx_callSX (X : Stand p l e R s m args below meth c T locs cells slots) (hexec : p.tables.exec = Jvm.exec) {own : String} {index : Nat} {y : MethodName} {bytes : ByteArray} {maxL : Nat} {ret : Option FieldType} {hh : List (Nat × Nat × Nat × Nat)}
    (hown : s.vm.findClass own = some m.cls) (hlink : (Cond.methodLink own index y).before args s = true) (hstat : (Cond.static y).before args s = true) (hinit : (Cond.initialized y.cls).before args s = true)
    (hcode : (Cond.codeWith y bytes maxL ret hh).before args s = true) (hy : y.cls ≠ "java/lang/invoke/MethodHandle" ∧ y.cls ≠ "java/lang/invoke/VarHandle")
    {W9 : Nat} {Pre : Pt → Array Value → Prop} {Post : Pt → Array Value → Option Value → Pt → Prop} {PostX : Pt → Array Value → Addr → Pt → Prop} (hK : vx_Back l R p e below s args y 3 W9 Pre Post PostX)
    {g : JFrame} (hg : g.method = m) (hsize : g.locals.size = c.maxLocals) {argsL rest : List Value} (hlen : ∀ sig, parseMethodDescriptor y.desc = some sig → argsL.length = sig.parameters.length)
    (hstack : g.stack = argsL.reverse ++ rest) (hW : 2 * g.monitorRoom + (rest.map fun v => v.category).sum ≤ W9) (hdg : decode c.code g.pc = .ok (.invokestatic index, 3))
    (hpre : ∀ vm₁, s.WarmedH vm₁ → Pre ⟨T.setVm vm₁, locs, cells, slots⟩ argsL.toArray) :
    (∃ (v : Option Value) (vm₁ : Vm) (B : Pt), s.WarmedH vm₁ ∧ Stand p l e R s m args below meth c B.U B.locs B.cells B.slots ∧ Post ⟨T.setVm vm₁, locs, cells, slots⟩ argsL.toArray v B ∧
      ∀ target, Steps p.tables e below (B.U.setTop { g with pc := g.pc + 3, stack := v.toList ++ rest }) target → Steps p.tables e below (T.setTop g) target) ∨
    (∃ (q : Addr) (vm₁ : Vm) (B : Pt), s.WarmedH vm₁ ∧ Stand p l e R s m args below meth c B.U B.locs B.cells B.slots ∧ PostX ⟨T.setVm vm₁, locs, cells, slots⟩ argsL.toArray q B ∧
      Steps p.tables e below (T.setTop g) ((B.U.setTop { g with stack := rest }).pushFrame (.throwing q))) := by
  obtain ⟨mk, methM, cM, hnamed, hmethM, -, -, -, -, -, -, hsigM⟩ := Cond.codeWith_spec hcode
  have hstatic : methM.isStatic = true := Cond.static_spec hnamed hmethM hstat
  obtain ⟨kP, hkP, -⟩ := className_of_methodNamed hnamed
  have hinitP : kP.init = .initialized := Cond.initialized_spec (findClass_of_methodNamed hnamed) hkP hinit
  obtain ⟨vm₁, X₁, hstep₁⟩ := X.invokestatic hexec hown hlink hnamed hmethM hstatic hkP hinitP hy (g := g) hg (argsL := argsL) (rest := rest) (hlen _ hsigM) hstack hdg
  rcases hK m meth c ⟨T.setVm vm₁, locs, cells, slots⟩ { g with stack := rest } (.invokestatic index) mk argsL.toArray X₁ hg hsize hdg hW (X₁.named hnamed) (hpre vm₁ X₁.warmed) with ⟨v, B, X', hpost, hsteps⟩ | ⟨q, B, X', hpost, hsteps⟩
  · exact Or.inl ⟨v, vm₁, B, X₁.warmed, X', hpost, fun target h => hstep₁ _ fun acts => by rw [doInvoke_state]; exact hsteps.trans h⟩
  · exact Or.inr ⟨q, vm₁, B, X₁.warmed, X', hpost, hstep₁ _ fun acts => by rw [doInvoke_state]; exact hsteps⟩
theorem vx_callVW (X : Stand p l e R s m args below meth c T locs cells slots) (hexec : p.tables.exec = Jvm.exec) {own C : String} {index : Nat} {y : MethodName} {bytes : ByteArray} {maxL : Nat} {ret : Option FieldType} {hh : List (Nat × Nat × Nat × Nat)}
    (hown : s.vm.findClass own = some m.cls) (hlink : (Cond.methodLink own index y).before args s = true) (hinst : (Cond.instanceMethod y).before args s = true) (hsel : (Cond.selects C y y).before args s = true)
    (hcode : (Cond.codeWith y bytes maxL ret hh).before args s = true) (hy : y.cls ≠ "java/lang/invoke/MethodHandle" ∧ y.cls ≠ "java/lang/invoke/VarHandle")
    {W9 : Nat} {Pre : Pt → Array Value → Prop} {Post : Pt → Array Value → Option Value → Pt → Prop} (hK : Back l R p e below s args y 3 W9 Pre Post)
    {b : Addr} {cellB : Cell} (hcell : T.heap[b]? = some cellB) (hobj : cellB.vm.isStatics = false) (hcls : s.vm.findClass C = some cellB.cls)
    {g : JFrame} (hg : g.method = m) (hsize : g.locals.size = c.maxLocals) {argsL rest : List Value} (hlen : ∀ sig, parseMethodDescriptor y.desc = some sig → argsL.length = sig.parameters.length)
    (hstack : g.stack = argsL.reverse ++ .ref b :: rest) (hW : 2 * g.monitorRoom + (rest.map fun v => v.category).sum ≤ W9) (hdg : decode c.code g.pc = .ok (.invokevirtual index, 3))
    (hpre : ∀ vm₁, s.WarmedH vm₁ → Pre ⟨T.setVm vm₁, locs, cells, slots⟩ (Value.ref b :: argsL).toArray) :
    ∃ (v : Option Value) (vm₁ : Vm) (B : Pt), s.WarmedH vm₁ ∧ Stand p l e R s m args below meth c B.U B.locs B.cells B.slots ∧ Post ⟨T.setVm vm₁, locs, cells, slots⟩ (Value.ref b :: argsL).toArray v B ∧
      ∀ target, Steps p.tables e below (B.U.setTop { g with pc := g.pc + 3, stack := v.toList ++ rest }) target → Steps p.tables e below (T.setTop g) target := by
  obtain ⟨mk, methM, hnamed, hmethM, hstM, habM⟩ := Cond.instanceMethod_spec hinst
  obtain ⟨m8, methM', cM, hn8, hmethM', -, -, -, -, -, -, hsigM⟩ := Cond.codeWith_spec hcode
  cases Option.some.inj (hn8.symm.trans hnamed)
  cases hmethM.symm.trans hmethM'
  obtain ⟨c2, r2, m2, q1, q2, q3, q4, kP, hkP, hkPi⟩ := Cond.selects_spec hsel
  cases hcls.symm.trans q1
  cases (State.methodFound?_of_named hnamed hy).symm.trans q2
  cases hnamed.symm.trans q3
  have hselP : selectMethod e.platform s.vm cellB.cls mk = .method mk := by rw [Launch.admits_selectMethod X.admits]; exact q4
  obtain ⟨vm₁, X₁, hstep₁⟩ := X.invokevirtual hexec hown hlink hnamed hmethM hstM hkP hkPi hy (a := b) (cell := cellB) hcell
    (fun z h => by rw [h] at hobj; cases hobj) hselP hmethM habM hkP hkPi (g := g) hg (argsL := argsL) (rest := rest) (hlen _ hsigM) hstack hdg
  obtain ⟨v, B, X', hpost, hsteps⟩ := hK m meth c ⟨T.setVm vm₁, locs, cells, slots⟩ { g with stack := rest } (.invokevirtual index) mk (Value.ref b :: argsL).toArray X₁ hg hsize hdg hW (X₁.named hnamed) (hpre vm₁ X₁.warmed)
  exact ⟨v, vm₁, B, X₁.warmed, X', hpost, fun target h => hstep₁ _ fun acts => by rw [doInvoke_state]; exact hsteps.trans h⟩
abbrev vx_CVW (R : Room) (s : State) (args : Array Value) (own C : String) (index : Nat) (y : MethodName) (bytes : ByteArray) (maxL : Nat) (ret : Option FieldType) (hh : List (Nat × Nat × Nat × Nat)) (ws : List Cond) (rm : Room) (mc ms n : Nat) : Prop :=
  (rm.cells = mc ∧ rm.slots = ms ∧ rm.frames + 1 ≤ R.frames ∧ 8 + (maxL + 11) + rm.locals ≤ R.locals ∧ (∀ w ∈ ws, ∀ (a' : Array Value) (U : State), s.WarmedH U.vm → w.before a' U = true) ∧ Cond.codeWith y bytes maxL ret hh ∈ ws) ∧
  (Cond.codeWith y bytes maxL ret hh).before args s = true ∧ (Cond.initialized y.cls).before args s = true ∧ (y.cls ≠ "java/lang/invoke/MethodHandle" ∧ y.cls ≠ "java/lang/invoke/VarHandle") ∧
  (∀ sig, parseMethodDescriptor y.desc = some sig → n = sig.parameters.length) ∧ (Cond.methodLink own index y).before args s = true ∧ (Cond.instanceMethod y).before args s = true ∧ (Cond.selects C y y).before args s = true
theorem vx_cwVW {own C : String} {index maxL mc ms : Nat} {y : MethodName} {bytes : ByteArray} {ret : Option FieldType} {hh : List (Nat × Nat × Nat × Nat)} {Ts ws ws' : List Cond} {rm : Room} (n : Nat) (ht : ∀ w ∈ Ts, w.before args s = true) (hT : GoodIn Ts (wsV own index C y ws)) (hw : ws = Cond.codeWith y bytes maxL ret hh :: ws') (hrc : rm.cells = mc) (hrs : rm.slots = ms)
    (hd : y.cls = C ∧ y.cls ≠ "java/lang/invoke/MethodHandle" ∧ y.cls ≠ "java/lang/invoke/VarHandle" ∧ (parseMethodDescriptor y.desc).map (fun d => d.parameters.length) = some n) (hR : rm.frames + 1 ≤ R.frames ∧ 8 + (maxL + 11) + rm.locals ≤ R.locals) :
    vx_CVW R s args own C index y bytes maxL ret hh ws rm mc ms n := by
  obtain ⟨hC, hd⟩ := hd
  subst hC
  have ok : ∀ w ∈ wsV own index y.cls y ws, w.before args s = true := fun w h => ht w (hT w h).1
  have hG : GoodIn Ts ws := fun w h => hT w (by unfold wsV; exact List.mem_append_right _ h)
  have hc : Cond.codeWith y bytes maxL ret hh ∈ ws := by rw [hw]; exact List.mem_cons_self
  refine ⟨⟨hrc, hrs, hR.1, hR.2, pay_in ht hG, hc⟩, ht _ (hG _ hc).1, ok _ (by simp [wsV]), ⟨hd.1, hd.2.1⟩, fun sig h => ?_, ok _ (by simp [wsV]), ok _ (by simp [wsV]), ok _ (by simp [wsV])⟩
  have h2 := hd.2.2
  rw [h] at h2
  exact (Option.some.inj h2).symm
theorem vx_runVW {y : MethodName} {bytes cc : ByteArray} {maxL nL mc ms n index : Nat} {ret : Option FieldType} {hh : List (Nat × Nat × Nat × Nat)} {ws : List Cond} {rm : Room} {Pc : Array Value → State → Prop} {Qc : Array Value → State → Outcome → State → Prop} {free : Addr → Prop} {Ts : List Cond} {own C : String} {b : Addr} {As rest : List Value} {g : JFrame}
    (S : CallFix p m c cc nL s args Ts own) (hM : Met l y ws rm Pc Qc mc ms free) (cw : vx_CVW R s args own C index y bytes maxL ret hh ws rm mc ms n) (hp : PreV s H C b Pc As)
    (hg : g.method = m) (hn : As.length = n) (hsize : g.locals.size = nL) (hstack : g.stack = As.reverse ++ .ref b :: rest) (hW : 2 * g.monitorRoom + (rest.map fun v => v.category).sum ≤ 8) (hdg : decode cc g.pc = .ok (.invokevirtual index, 3)) (hf : cells + mc ≤ R.cells ∧ slots + ms ≤ R.slots) :
    va_Run p l e R s m args below meth c H locs cells slots mc ms g rest (Qc (Value.ref b :: As).toArray) free := by
  obtain ⟨⟨hrc, hrs, hfr, hlo, hws, hcw⟩, hcode, hini, hy, hlen, hl, hin, hse⟩ := cw
  have hK : Back l R p e below s args y 3 8 (PreOf R mc ms Pc) (PostOf Qc mc ms free) := va_backW (hh := hh) (bytes := bytes) (maxL := maxL) (ret := ret) hM hp.1 hrc hrs hfr hlo hws hcw (fun a' U hW => word_at hW (Or.inl (by first | rfl | simp [Cond.onTables, Cond.keeps, Cond.steady])) hini)
  obtain ⟨hx, hb, hml, ho, -⟩ := S
  obtain ⟨-, ⟨cellB, hcB, hoB, hclB⟩, hPc⟩ := hp
  intro T hT X
  obtain ⟨v, vm₁, ⟨U', l2, c2, s2⟩, hW₁, X', ⟨g', mk, t, L, e1, e2, hq, h1, hL, h2, h3⟩, st⟩ := vx_callVW X hx (C := C) (hh := hh) (bytes := bytes) (maxL := maxL) (ret := ret) ho hl hin hse hcode hy hK (by rw [hT]; exact hcB) hoB hclB hg (hsize.trans hml.symm) (argsL := As) (rest := rest) (fun sig h => hn.trans (hlen sig h)) hstack hW (by rw [hb]; exact hdg)
    (fun vm₁ hW₁ => ⟨hf.1, hf.2, hPc (T.setVm vm₁) hT hW₁⟩)
  dsimp only [Pt.U, Pt.locs, Pt.cells, Pt.slots] at X' e1 e2 h1 h2 h3 st
  subst h1; subst h2; subst h3
  exact ⟨v, (T.setVm vm₁).calling g' mk (Value.ref b :: As).toArray, t, U', L, hT, X', hL, e1, e2, hq, st⟩
section
variable {y : MethodName} {bytes cc : ByteArray} {maxL nL mc ms n index : Nat} {ret : Option FieldType} {ws : List Cond} {rm : Room} {Pc : Array Value → State → Prop} {Qc : Array Value → State → Outcome → State → Prop} {XC : String → State → State → Prop} {free : Addr → Prop} {Ts : List Cond} {own C : String} {b : Addr} {As rest : List Value} {g : JFrame}
theorem vx_runVX {hh : List (Nat × Nat × Nat × Nat)} (S : CallFix p m c cc nL s args Ts own) (hM : vx_Met l y ws rm Pc Qc XC mc ms free) (cw : vx_CVW R s args own C index y bytes maxL ret hh ws rm mc ms n) (hp : PreV s H C b Pc As)
    (hg : g.method = m) (hn : As.length = n) (hsize : g.locals.size = nL) (hstack : g.stack = As.reverse ++ .ref b :: rest) (hW : 2 * g.monitorRoom + (rest.map fun v => v.category).sum ≤ 8) (hdg : decode cc g.pc = .ok (.invokevirtual index, 3)) (hf : cells + mc ≤ R.cells ∧ slots + ms ≤ R.slots) :
    vx_Run p l e R s m args below meth c H locs cells slots mc ms g rest (Qc (Value.ref b :: As).toArray) XC free := by
  obtain ⟨⟨hrc, hrs, hfr, hlo, hws, hcw⟩, hcode, hini, hy, hlen, hl, hin, hse⟩ := cw
  have hK : vx_Back l R p e below s args y 3 8 (PreOf R mc ms Pc) (PostOf Qc mc ms free) (vx_Post XC mc ms free) := vx_backW (hh := hh) (bytes := bytes) (maxL := maxL) (ret := ret) hM hp.1 hrc hrs hfr hlo hws hcw (fun a' U hW => word_at hW (Or.inl (by first | rfl | simp [Cond.onTables, Cond.keeps, Cond.steady])) hini)
  obtain ⟨hx, hb, hml, ho, -⟩ := S
  obtain ⟨-, ⟨cellB, hcB, hoB, hclB⟩, hPc⟩ := hp
  intro T hT X
  rcases vx_callVX X hx (C := C) (hh := hh) (bytes := bytes) (maxL := maxL) (ret := ret) ho hl hin hse hcode hy hK (by rw [hT]; exact hcB) hoB hclB hg (hsize.trans hml.symm) (argsL := As) (rest := rest) (fun sig h => hn.trans (hlen sig h)) hstack hW (by rw [hb]; exact hdg)
    (fun vm₁ hW₁ => ⟨hf.1, hf.2, hPc (T.setVm vm₁) hT hW₁⟩) with ⟨v, vm₁, ⟨U', l2, c2, s2⟩, hW₁, X', ⟨g', mk, t, L, e1, e2, hq, h1, hL, h2, h3⟩, st⟩ | ⟨q, vm₁, ⟨U', l2, c2, s2⟩, hW₁, X', ⟨g', mk, t, L, E, ce, e1, e2, hq, hce, hcv, hcl, h1, hL, h2, h3⟩, st⟩
  · dsimp only [Pt.U, Pt.locs, Pt.cells, Pt.slots] at X' e1 e2 h1 h2 h3 st
    subst h1; subst h2; subst h3
    exact Or.inl ⟨v, (T.setVm vm₁).calling g' mk (Value.ref b :: As).toArray, t, U', L, hT, X', hL, e1, e2, hq, st⟩
  · dsimp only [Pt.U, Pt.locs, Pt.cells, Pt.slots] at X' e1 e2 h1 h2 h3 st hcl
    subst h1; subst h2; subst h3
    exact Or.inr ⟨q, (T.setVm vm₁).calling g' mk (Value.ref b :: As).toArray, t, U', L, E, ce, hT, X', hL, e1, e2, hq, hce, hcv, vx_cls hW₁ hcl, st⟩
theorem vx_runSX {hh : List (Nat × Nat × Nat × Nat)} (S : CallFix p m c cc nL s args Ts own) (hM : vx_Met l y ws rm Pc Qc XC mc ms free) (cw : vx_CSW R s args own index y bytes maxL ret hh ws rm mc ms n) (hp : PreS s H Pc As)
    (hg : g.method = m) (hn : As.length = n) (hsize : g.locals.size = nL) (hstack : g.stack = As.reverse ++ rest) (hW : 2 * g.monitorRoom + (rest.map fun v => v.category).sum ≤ 8) (hdg : decode cc g.pc = .ok (.invokestatic index, 3)) (hf : cells + mc ≤ R.cells ∧ slots + ms ≤ R.slots) :
    vx_Run p l e R s m args below meth c H locs cells slots mc ms g rest (Qc As.toArray) XC free := by
  obtain ⟨⟨hrc, hrs, hfr, hlo, hws, hcw⟩, hcode, hini, hy, hlen, hl, hstt⟩ := cw
  have hK : vx_Back l R p e below s args y 3 8 (PreOf R mc ms Pc) (PostOf Qc mc ms free) (vx_Post XC mc ms free) := vx_backW (hh := hh) (bytes := bytes) (maxL := maxL) (ret := ret) hM hp.1 hrc hrs hfr hlo hws hcw (fun a' U hW => word_at hW (Or.inl (by first | rfl | simp [Cond.onTables, Cond.keeps, Cond.steady])) hini)
  obtain ⟨hx, hb, hml, ho, -⟩ := S
  intro T hT X
  rcases vx_callSX X hx (hh := hh) (bytes := bytes) (maxL := maxL) (ret := ret) ho hl hstt hini hcode hy hK hg (hsize.trans hml.symm) (argsL := As) (rest := rest) (fun sig h => hn.trans (hlen sig h)) hstack hW (by rw [hb]; exact hdg)
    (fun vm₁ hW₁ => ⟨hf.1, hf.2, hp.2 (T.setVm vm₁) hT hW₁⟩) with ⟨v, vm₁, ⟨U', l2, c2, s2⟩, hW₁, X', ⟨g', mk, t, L, e1, e2, hq, h1, hL, h2, h3⟩, st⟩ | ⟨q, vm₁, ⟨U', l2, c2, s2⟩, hW₁, X', ⟨g', mk, t, L, E, ce, e1, e2, hq, hce, hcv, hcl, h1, hL, h2, h3⟩, st⟩
  · dsimp only [Pt.U, Pt.locs, Pt.cells, Pt.slots] at X' e1 e2 h1 h2 h3 st
    subst h1; subst h2; subst h3
    exact Or.inl ⟨v, (T.setVm vm₁).calling g' mk As.toArray, t, U', L, hT, X', hL, e1, e2, hq, st⟩
  · dsimp only [Pt.U, Pt.locs, Pt.cells, Pt.slots] at X' e1 e2 h1 h2 h3 st hcl
    subst h1; subst h2; subst h3
    exact Or.inr ⟨q, (T.setVm vm₁).calling g' mk As.toArray, t, U', L, E, ce, hT, X', hL, e1, e2, hq, hce, hcv, vx_cls hW₁ hcl, st⟩
end
end VXH
theorem vx_ofWH {l : Launch} {y : MethodName} {ws ws' : List Cond} {rm : Room} {Pc : Array Value → State → Prop} {Qc : Array Value → State → Outcome → State → Prop} {XC : String → State → State → Prop} {mc ms : Nat} {free : Addr → Prop} {cc : ByteArray} {maxL : Nat} {ret : Option FieldType} {hh : List (Nat × Nat × Nat × Nat)}
    (hy : plainName y.cls = true) (hw : ws = Cond.codeWith y cc maxL ret hh :: ws')
    (body : ∀ p e s m args below meth c s₁, BodyLoose p l y (headSpec ws rm) cc maxL ret e s m args below meth c s₁ → c.maxLocals = maxL → Pc args s →
      W p l e (headSpec ws rm).room s m args below meth c s.heap [] 0 0 (vx_MQ below Qc XC args s mc ms free) (entryFrame m args maxL)) : vx_Met l y ws rm Pc Qc XC mc ms free := by
  refine MetFree.of_bodyS (code := cc) (maxLocals := maxL) (ret := ret) hy ?_ ?_
  · intro args s m h hn
    obtain ⟨m9, meth, c, hn9, h1, h2, h3, h4, -, h5, h6, -⟩ := Cond.codeWith_spec (atoms_spec (ws := ws) h _ (by rw [hw]; exact List.mem_cons_self))
    cases hn.symm.trans hn9
    exact ⟨meth, c, h1, h2, h3, h4, h5, h6⟩
  · intro p e s m args below meth c s₁ B hml hP _
    have hh0 : s₁.heap = s.heap := by rw [B.state]; rfl
    obtain ⟨t, a1, o, b1, b2, b3⟩ := body p e s m args below meth c s₁ B hml hP s₁ hh0 (Stand.of_body B)
    exact ⟨t, o, a1, b1, b2, b3⟩
/-! ===== END ===== -/

def nst : Cond → Bool
  | .fieldLinkNest .. => true
  | .methodLinkNest .. => true
  | .declares _ => true
  | .castable .. => true
  | _ => false
def NW : List Cond := lw_tbl.filter nst
theorem NW_in {w : Cond} (i : Nat) (h : lw_tbl[i]? = some w) (g : nst w = true) : w ∈ NW := List.mem_filter.mpr ⟨List.mem_of_getElem? h, g⟩
def NN (U : State) : Prop := (∀ w ∈ NW, va_Nw w U) ∧ ∀ (own : String) (k : Nat) (tx : String), Cond.stringRef own k tx ∈ lw_tbl → ∃ a, vk_R own k tx a U
theorem NN.warm {s U : State} (hW : s.WarmedH U.vm) (h : NN s) : NN U := by
  refine ⟨fun w hw => ?_, fun own k tx hm => ?_⟩
  · have h1 := h.1 w hw
    have h2 := (List.mem_filter.mp hw).2
    cases w <;> first | exact va_Nw.warmF hW h1 | exact va_Nw.warmM hW h1 | exact va_Nw.warmD hW h1 | exact va_Nw.warmC hW h1 | (simp [nst] at h2)
  · obtain ⟨a, ha⟩ := h.2 own k tx hm
    exact ⟨a, vk_R.warm hW ha⟩
theorem NN.same {u U : State} (e : u.vm = U.vm) (h : NN u) : NN U := by
  refine ⟨fun w hw => ?_, fun own k tx hm => ?_⟩
  · have h1 := h.1 w hw
    have h2 := (List.mem_filter.mp hw).2
    cases w <;> first | exact va_Nw.same rfl e h1 | (simp [nst] at h2)
  · obtain ⟨a, ha⟩ := h.2 own k tx hm
    exact ⟨a, vk_R.same e.symm ha⟩
theorem NN.ofW {args : Array Value} {s : State} (hts : ∀ w ∈ lw_tbl, w.before args s = true) : ∀ w ∈ NW, va_Nw w s := by
  intro w hw
  have h1 := hts w (List.mem_filter.mp hw).1
  have h2 := (List.mem_filter.mp hw).2
  cases w <;> first | exact va_Nw.of rfl h1 | (simp [nst] at h2)
theorem n_202 : Cond.methodLinkNest RX1 122 yX4_iceBears RX4 ∈ NW := NW_in 243 (by decide +kernel) rfl
theorem n_231 : Cond.methodLinkNest RX1 105 yX4_cellAt RX4 ∈ NW := NW_in 272 (by decide +kernel) rfl
theorem n_256 : Cond.methodLinkNest RX1 142 yX4_distance RX4 ∈ NW := NW_in 297 (by decide +kernel) rfl
theorem n_438 : Cond.methodLinkNest RX1 68 yX4_isWithin RX4 ∈ NW := NW_in 479 (by decide +kernel) rfl
theorem n_572 : Cond.methodLinkNest RX1 205 yX4_iceBehind RX4 ∈ NW := NW_in 613 (by decide +kernel) rfl
theorem n_627 : Cond.methodLinkNest RX6 33 yX5_init RX6 ∈ NW := NW_in 668 (by decide +kernel) rfl
theorem n_632 : Cond.fieldLinkNest RX6 150 "EelPermitsModel$State" "night" "I" RX6 ∈ NW := NW_in 673 (by decide +kernel) rfl
theorem n_634 : Cond.fieldLinkNest RX6 83 "EelPermitsModel$State" "ice" "I" RX6 ∈ NW := NW_in 675 (by decide +kernel) rfl
theorem n_636 : Cond.fieldLinkNest RX6 80 "EelPermitsModel$State" "eels" "[I" RX6 ∈ NW := NW_in 677 (by decide +kernel) rfl
theorem n_638 : Cond.fieldLinkNest RX6 67 "EelPermitsModel$State" "open" "[I" RX6 ∈ NW := NW_in 679 (by decide +kernel) rfl
theorem n_640 : Cond.fieldLinkNest RX6 89 "EelPermitsModel$State" "at" "[I" RX6 ∈ NW := NW_in 681 (by decide +kernel) rfl
theorem n_642 : Cond.fieldLinkNest RX6 126 "EelPermitsModel$State" "caught" "[I" RX6 ∈ NW := NW_in 683 (by decide +kernel) rfl
theorem n_644 : Cond.fieldLinkNest RX6 129 "EelPermitsModel$State" "all" "[I" RX6 ∈ NW := NW_in 685 (by decide +kernel) rfl
theorem n_646 : Cond.fieldLinkNest RX6 132 "EelPermitsModel$State" "fines" "[I" RX6 ∈ NW := NW_in 687 (by decide +kernel) rfl
theorem n_648 : Cond.fieldLinkNest RX6 102 "EelPermitsModel$State" "wardenX" "[I" RX6 ∈ NW := NW_in 689 (by decide +kernel) rfl
theorem n_650 : Cond.fieldLinkNest RX6 105 "EelPermitsModel$State" "wardenY" "[I" RX6 ∈ NW := NW_in 691 (by decide +kernel) rfl
theorem n_652 : Cond.fieldLinkNest RX6 138 "EelPermitsModel$State" "given" "[I" RX6 ∈ NW := NW_in 693 (by decide +kernel) rfl
theorem n_681 : Cond.fieldLinkNest RX5 79 "EelPermitsModel" "mud" "[I" RX6 ∈ NW := NW_in 722 (by decide +kernel) rfl
theorem n_683 : Cond.fieldLinkNest RX5 119 "EelPermitsModel" "frost" "[I" RX6 ∈ NW := NW_in 724 (by decide +kernel) rfl
theorem n_685 : Cond.fieldLinkNest RX5 95 "EelPermitsModel" "holes" "I" RX6 ∈ NW := NW_in 726 (by decide +kernel) rfl
theorem n_687 : Cond.fieldLinkNest RX5 60 "EelPermitsModel" "holeX" "[I" RX6 ∈ NW := NW_in 728 (by decide +kernel) rfl
theorem n_689 : Cond.fieldLinkNest RX5 63 "EelPermitsModel" "holeY" "[I" RX6 ∈ NW := NW_in 730 (by decide +kernel) rfl
theorem n_690 : Cond.fieldLinkNest RX5 98 "EelPermitsModel" "spearers" "I" RX6 ∈ NW := NW_in 731 (by decide +kernel) rfl
theorem n_693 : Cond.fieldLinkNest RX5 92 "EelPermitsModel" "permit" "[I" RX6 ∈ NW := NW_in 734 (by decide +kernel) rfl
theorem n_695 : Cond.fieldLinkNest RX5 70 "EelPermitsModel" "light" "[I" RX6 ∈ NW := NW_in 736 (by decide +kernel) rfl
theorem n_696 : Cond.fieldLinkNest RX5 132 "EelPermitsModel" "wardens" "I" RX6 ∈ NW := NW_in 737 (by decide +kernel) rfl
theorem n_699 : Cond.fieldLinkNest RX5 111 "EelPermitsModel" "pace" "[I" RX6 ∈ NW := NW_in 740 (by decide +kernel) rfl
theorem n_817 : Cond.methodLinkNest RX5 66 yX6_far RX6 ∈ NW := NW_in 858 (by decide +kernel) rfl
theorem n_870 : Cond.methodLinkNest RX5 85 yX6_cellOf RX6 ∈ NW := NW_in 911 (by decide +kernel) rfl
theorem n_888 : Cond.methodLinkNest RX5 138 yX6_isIn RX6 ∈ NW := NW_in 929 (by decide +kernel) rfl
theorem n_922 : Cond.methodLinkNest RX6 160 yX5_sum RX6 ∈ NW := NW_in 963 (by decide +kernel) rfl
end
section
/-! The worlds as functions of keys; one row an access, a call, an end. -/
abbrev Key : Type := Nat × Nat × Nat
abbrev Gm : Type := (va_G × (Nat → ClassId)) × ((Key → Nat) × Nat)
abbrev gD (g : Gm) : va_G := g.1.1
abbrev gC (g : Gm) : Nat → ClassId := g.1.2
abbrev ad (g : Gm) : Key → Nat := g.2.1
abbrev bs (g : Gm) : Nat := g.2.2
abbrev AA (g : Gm) : Nat → Prop := fun q => bs g ≤ q
def cls7 : List vw_C := [(RX0, TX0, 3), (RX1, TX1, 11), (RX2, TX2, 6), (RX3, TX3, 4), (RX4, TX4, 2), (RX5, TX5, 12), (RX6, TX6, 13)]
def tys5 (g : Gm) : List (ClassId × FieldType) := [(gC g 0, .int), (gC g 1, .object RX0), (gC g 2, .object RX2), (gC g 3, .object RX3), (gC g 4, .long)]
/-- the cells of the keys K hold what en says -/
def WPe (g : Gm) (K : Key → Prop) (en : Key → va_E) (H : Heap) : Prop := ∀ k, K k → va_at (gD g) cls7 (ad g k, en k) H
theorem WPe.one {g : Gm} {K : Key → Prop} {en : Key → va_E} {H : Heap} {k : Key} (h : WPe g K en H) (hk : K k) : va_P (gD g) cls7 [(ad g k, en k)] H := by
  intro i q hq
  cases i with
  | zero => cases hq; exact h k hk
  | succ i => simp at hq
theorem WPe.cast {g : Gm} {K : Key → Prop} {en en' : Key → va_E} {H : Heap} (h : WPe g K en H) (he : ∀ k, K k → en' k = en k) : WPe g K en' H := fun k hk => by rw [he k hk]; exact h k hk
/-- the keys' cells are apart, and new since the base -/
def IJ (g : Gm) (K : Key → Prop) : Prop := (∀ j k, K j → K k → ad g j = ad g k → j = k) ∧ ∀ k, K k → bs g ≤ ad g k
/-- what holds of the tables, and of what nobody writes -/
def Ev (g : Gm) (s : State) : Prop := va_K (gD g) cls7 (tys5 g) s ∧ NN s ∧ vx_Zq Bundle.tN "UNASSIGNED_STACK" Bundle.steD (AA g) s s.heap ∧ vx_Zq Bundle.tN "SUPPRESSED_SENTINEL" Bundle.listD (AA g) s s.heap ∧ bs g ≤ s.heap.size
theorem Ev.call {g : Gm} {s U : State} {H : Heap} {locs : List Loc} (hE : Ev g s) (hS : va_S (AA g) s.heap H locs) (hU : U.heap = H) (hW : s.WarmedH U.vm) : Ev g U := by
  obtain ⟨h1, h2, h3, h4, h5⟩ := hE
  refine ⟨h1.moved hW.alike, h2.warm hW, (h3.kept (H1 := U.heap) (fun a x y => by rw [hU]; exact hS.2.1 a x y)).moved hW.alike, (h4.kept (H1 := U.heap) (fun a x y => by rw [hU]; exact hS.2.1 a x y)).moved hW.alike, ?_⟩
  rw [hU]
  exact Nat.le_trans h5 hS.1
theorem Ev.calling {g : Gm} {U : State} {f : JFrame} {mk : MethodId} {a : Array Value} (h : Ev g U) : Ev g (U.calling f mk a) := by
  obtain ⟨h1, h2, h3, h4, h5⟩ := h
  exact ⟨va_K.moved (u := U) (U := U.calling f mk a) (Vm.Alike.refl U.vm) h1, NN.same (u := U) rfl h2, vx_Zq.moved (u := U) (U := U.calling f mk a) (Vm.Alike.refl U.vm) h3, vx_Zq.moved (u := U) (U := U.calling f mk a) (Vm.Alike.refl U.vm) h4, h5⟩
/-- a method's start: its arguments, the tables, the world -/
def Pd (g : Gm) (K : Key → Prop) (en : Key → va_E) (av : List Value) : Array Value → State → Prop := fun v U => v = av.toArray ∧ Ev g U ∧ WPe g K en U.heap
theorem Pd.blind {g : Gm} {K : Key → Prop} {en : Key → va_E} {av : List Value} : FrameBlind (Pd g K en av) := fun a U f mk h => ⟨h.1, h.2.1.calling, h.2.2⟩
def Qi (g : Gm) (R : Int32) (K : Key → Prop) (en : Key → va_E) : Array Value → State → Outcome → State → Prop := va_Qi (fun (r : Int32) (_ : Unit) => r = R) (fun _ t => WPe g K en t.heap) (AA g)
def Ql (g : Gm) (R : Int64) (K : Key → Prop) (en : Key → va_E) : Array Value → State → Outcome → State → Prop := va_Ql (fun (r : Int64) (_ : Unit) => r = R) (fun _ t => WPe g K en t.heap) (AA g)
def Qv (g : Gm) (K : Key → Prop) (en : Key → va_E) : Array Value → State → Outcome → State → Prop := va_Qv (fun (_ : Unit) => True) (fun _ t => WPe g K en t.heap) (AA g)
abbrev rm (f lo : Nat) : Room := { frames := f, cells := 0, slots := 0, locals := lo }
/-- contracts: an int, a long, nothing is answered; the world becomes en' -/
abbrev MI (l : Launch) (y : MethodName) (b : ByteArray) (n : Nat) (rt : FieldType) (R : Room) (g : Gm) (K : Key → Prop) (en : Key → va_E) (av : List Value) (r : Int32) (en' : Key → va_E) : Prop := Met l y (wy y b n (some rt)) R (Pd g K en av) (Qi g r K en') R.cells R.slots (AA g)
abbrev ML (l : Launch) (y : MethodName) (b : ByteArray) (n : Nat) (R : Room) (g : Gm) (K : Key → Prop) (en : Key → va_E) (av : List Value) (r : Int64) (en' : Key → va_E) : Prop := Met l y (wy y b n (some .long)) R (Pd g K en av) (Ql g r K en') R.cells R.slots (AA g)
abbrev MV (l : Launch) (y : MethodName) (b : ByteArray) (n : Nat) (R : Room) (g : Gm) (K : Key → Prop) (en : Key → va_E) (av : List Value) (en' : Key → va_E) : Prop := Met l y (wy y b n none) R (Pd g K en av) (Qv g K en') R.cells R.slots (AA g)
theorem lp_up {P : Nat → Prop} (N : Nat) (h0 : P N) (hs : ∀ i, i < N → P (i + 1) → P i) : ∀ i, i ≤ N → P i := by
  intro i hi
  obtain ⟨d, hd⟩ : ∃ d, N = i + d := ⟨N - i, by omega⟩
  subst hd
  clear hi
  induction d generalizing i with
  | zero => exact h0
  | succ d ih =>
    refine hs i (by omega) (ih (i + 1) ?_ ?_)
    · rw [show i + 1 + d = i + (d + 1) from by omega]; exact h0
    · intro j hj; exact hs j (by omega)
section MO
variable {l : Launch} {y : MethodName} {b : ByteArray} {n : Nat} {ret : Option FieldType} {R : Room} {g : Gm} {K : Key → Prop} {en : Key → va_E} {av : List Value} {Qc : Array Value → State → Outcome → State → Prop}
/-- the entry of a method -/
theorem met_of (hy : plainName y.cls = true) (hn : (lg_sl av).length ≤ n)
    (body : ∀ (p : Program) (e : Jvm.Env) (s : State) (m : MethodId) (below : List Frame) (meth : Method) (c : Code) (ls : Array Slot), CallFix p m c b n s av.toArray LG y.cls → meth.sig.returnType = ret → meth.locks = false → meth.name = y.name → Ev g s → WPe g K en s.heap → va_S (AA g) s.heap s.heap [] → lv_has ls n (lv_args 0 av) →
      W p l e R s m av.toArray below meth c s.heap [] 0 0 (MQ below Qc av.toArray s R.cells R.slots (AA g)) (F0 m 0 ls [])) : Met l y (wy y b n ret) R (Pd g K en av) Qc R.cells R.slots (AA g) := by
  refine Met.ofW (cc := b) (maxL := n) (ret := ret) hy rfl ?_
  intro p e s m args below meth c s₁ B hml hv
  obtain ⟨rfl, hE, hP⟩ := hv
  have hts := atoms_spec (ws := wy y b n ret) B.pre
  have hl := lv_entry av (n := n) hn
  rw [lg_entry_eq]
  exact body p e s m below meth c _ ⟨B.exec, B.bytes, hml, findClass_of_methodNamed B.named, fun w hw => hts w (List.mem_cons_of_mem _ hw)⟩ B.returns B.notSynchronized (name_of_methodNamed B.named B.method).1 hE hP va_S.rf hl
end MO
section MW
variable {p : Program} {l : Launch} {e : Jvm.Env} {R : Room} {s : State} {m : MethodId} {args : Array Value} {below : List Frame} {meth : Method} {c : Code} {H : Heap} {locs : List Loc} {cells slots : Nat} {Q : State → Prop}
variable {cc : ByteArray} {nL pc : Nat} {ls : Array Slot} {rest : List Value} {own : String} {g : Gm} {K : Key → Prop} {en : Key → va_E}
theorem m_get (hC : CallFix p m c cc nL s args LG own) (hE : Ev g s) (hP : WPe g K en H) {k : Key} (hk : K k) {ci N : Nat} {C : String} {T : u_T} {fs : List Value} (he : en k = .inr (ci, fs)) (hc : cls7[ci]? = some (C, T, N)) (hu : ∀ w ∈ u_ws C T N, w ∈ LG) (f : Nat) (hf : f < N) {ref : String} {index : Nat} (hlink : Cond.fieldLink own index ref (T f).2.1 (T f).2.2.1 ∈ LG) (href : (T f).1 = ref) {v : Value} (hv : fs[f]? = some v) (hdg : decode cc pc = .ok (.getfield index, 3))
    (kk : W p l e R s m args below meth c H locs cells slots Q (F0 m (pc + 3) ls (v :: rest))) : W p l e R s m args below meth c H locs cells slots Q (F0 m pc ls (.ref (ad g k) :: rest)) := by
  obtain ⟨hx, hb, hml, hown, hG⟩ := hC
  subst href
  exact va_get (D := gD g) hx hb hG hu hown hE.1 (hP.one hk) 0 (by rw [he]; rfl) hc f hf (hG _ hlink) (fun _ h => h) hv hdg kk
theorem m_getN (hC : CallFix p m c cc nL s args LG own) (hE : Ev g s) (hP : WPe g K en H) {k : Key} (hk : K k) {ci N : Nat} {C host : String} {T : u_T} {fs : List Value} (he : en k = .inr (ci, fs)) (hc : cls7[ci]? = some (C, T, N)) (hu : ∀ w ∈ u_ws C T N, w ∈ LG) (f : Nat) (hf : f < N) {ref : String} {index : Nat} (hlink : Cond.fieldLinkNest own index ref (T f).2.1 (T f).2.2.1 host ∈ NW) (href : (T f).1 = ref) {v : Value} (hv : fs[f]? = some v) (hdg : decode cc pc = .ok (.getfield index, 3))
    (kk : W p l e R s m args below meth c H locs cells slots Q (F0 m (pc + 3) ls (v :: rest))) : W p l e R s m args below meth c H locs cells slots Q (F0 m pc ls (.ref (ad g k) :: rest)) := by
  obtain ⟨hx, hb, hml, hown, hG⟩ := hC
  subst href
  exact va_getN (D := gD g) hx hb hG hu hown hE.1 (hP.one hk) 0 (by rw [he]; rfl) hc f hf (va_Nw.use rfl (hE.2.1.1 _ hlink)) (fun _ h => h) hv hdg kk
theorem m_put (hC : CallFix p m c cc nL s args LG own) (hE : Ev g s) (hI : IJ g K) (hP : WPe g K en H) (hS : va_S (AA g) s.heap H locs) {k : Key} (hk : K k) {ci N : Nat} {C : String} {T : u_T} {fs : List Value} (he : en k = .inr (ci, fs)) (hc : cls7[ci]? = some (C, T, N)) (hu : ∀ w ∈ u_ws C T N, w ∈ LG) {ty0 : Nat → FieldType} (hty : ∀ k, k < N → parseFieldDescriptor (T k).2.2.1 = some (ty0 k)) (hnm : ∀ a, a < N → ∀ b, b < N → a ≠ b → (T a).2.1 ≠ (T b).2.1) (f : Nat) (hf : f < N) {ref : String} {index : Nat} (hlink : Cond.fieldLink own index ref (T f).2.1 (T f).2.2.1 ∈ LG) (href : (T f).1 = ref) (hfin : (T f).2.2.2 = false) {v : Value} (hn : narrow (ty0 f) v = v) (hfit : fits (ty0 f) v = true) (hl : f < fs.length) {en' : Key → va_E} (h1 : en' k = .inr (ci, fs.set f v)) (h2 : ∀ j, K j → j ≠ k → en' j = en j) (hdg : decode cc pc = .ok (.putfield index, 3))
    (kk : ∀ (H1 : Heap) (locs1 : List Loc), WPe g K en' H1 → va_S (AA g) s.heap H1 locs1 → W p l e R s m args below meth c H1 locs1 cells slots Q (F0 m (pc + 3) ls rest)) : W p l e R s m args below meth c H locs cells slots Q (F0 m pc ls (v :: .ref (ad g k) :: rest)) := by
  obtain ⟨hx, hb, hml, hown, hG⟩ := hC
  subst href
  have hK := hE.1
  have hap := va_apart (own := own) hG hu ty0 hty hnm hK hc
  have h0 := hP k hk
  rw [he] at h0
  obtain ⟨r, e1, cell, q1, q2, q3, q4⟩ := h0
  have hr : r = (C, T, N) := Option.some.inj (e1.symm.trans hc)
  subst hr
  obtain ⟨hSl, hfc, kC, hkC, hkind⟩ := hK.1 ci _ hc
  obtain ⟨cf, kf, fi, fd, hi, hsl⟩ := hSl f hf
  have hlay := hG _ (hu _ (u_in_lay hf))
  unfold u_lay at hlay
  rw [if_neg (by rw [hfin]; decide)] at hlay
  have hst := (u_facts hfc hkC (u_lays hG hu hf) hi).1
  have h6 := u_store hfc hkC hkind hlay hi (hty f hf) hn hfit
  refine W.putK hx hb (f := fd) ⟨hown, hG _ hlink, ⟨_, _, _, hi⟩, hst⟩ (by rw [q2]; exact h6) q1 q3 (by rw [hsl]; exact k2_hasslot (q4 f hf)) rfl rfl hdg fun H' z1 z2 z3 => ?_
  rw [hsl] at z1 ⊢
  refine kk H' _ (fun j hj => ?_) (hS.put z2 z3 (hI.2 k hk))
  by_cases hjk : j = k
  · subst hjk
    rw [h1]
    exact ⟨_, hc, t_OB.to (V := updV (vp_V fs) f v) ⟨_, z1, q2, q3, t_set q4 hap hf v⟩ (fun j _ => vp_updV_set hl v j)⟩
  · rw [h2 j hj hjk]
    exact (hP j hj).kept (z3 _ (fun z => hjk (hI.1 j k hj hk z)))
theorem m_putN (hC : CallFix p m c cc nL s args LG own) (hE : Ev g s) (hI : IJ g K) (hP : WPe g K en H) (hS : va_S (AA g) s.heap H locs) {k : Key} (hk : K k) {ci N : Nat} {C host : String} {T : u_T} {fs : List Value} (he : en k = .inr (ci, fs)) (hc : cls7[ci]? = some (C, T, N)) (hu : ∀ w ∈ u_ws C T N, w ∈ LG) {ty0 : Nat → FieldType} (hty : ∀ k, k < N → parseFieldDescriptor (T k).2.2.1 = some (ty0 k)) (hnm : ∀ a, a < N → ∀ b, b < N → a ≠ b → (T a).2.1 ≠ (T b).2.1) (f : Nat) (hf : f < N) {ref : String} {index : Nat} (hlink : Cond.fieldLinkNest own index ref (T f).2.1 (T f).2.2.1 host ∈ NW) (href : (T f).1 = ref) (hfin : (T f).2.2.2 = false) {v : Value} (hn : narrow (ty0 f) v = v) (hfit : fits (ty0 f) v = true) (hl : f < fs.length) {en' : Key → va_E} (h1 : en' k = .inr (ci, fs.set f v)) (h2 : ∀ j, K j → j ≠ k → en' j = en j) (hdg : decode cc pc = .ok (.putfield index, 3))
    (kk : ∀ (H1 : Heap) (locs1 : List Loc), WPe g K en' H1 → va_S (AA g) s.heap H1 locs1 → W p l e R s m args below meth c H1 locs1 cells slots Q (F0 m (pc + 3) ls rest)) : W p l e R s m args below meth c H locs cells slots Q (F0 m pc ls (v :: .ref (ad g k) :: rest)) := by
  obtain ⟨hx, hb, hml, hown, hG⟩ := hC
  subst href
  have hK := hE.1
  have hap := va_apart (own := own) hG hu ty0 hty hnm hK hc
  have h0 := hP k hk
  rw [he] at h0
  obtain ⟨r, e1, cell, q1, q2, q3, q4⟩ := h0
  have hr : r = (C, T, N) := Option.some.inj (e1.symm.trans hc)
  subst hr
  obtain ⟨hSl, hfc, kC, hkC, hkind⟩ := hK.1 ci _ hc
  obtain ⟨cf, kf, fi, fd, hi, hsl⟩ := hSl f hf
  have hlay := hG _ (hu _ (u_in_lay hf))
  unfold u_lay at hlay
  rw [if_neg (by rw [hfin]; decide)] at hlay
  have hst := (u_facts hfc hkC (u_lays hG hu hf) hi).1
  have h6 := u_store hfc hkC hkind hlay hi (hty f hf) hn hfit
  refine va_WputK hx hb (f := fd) hown (va_Nw.use rfl (hE.2.1.1 _ hlink)) hi hst (by rw [q2]; exact h6) q1 q3 (by rw [hsl]; exact k2_hasslot (q4 f hf)) rfl rfl hdg fun H' z1 z2 z3 => ?_
  rw [hsl] at z1 ⊢
  refine kk H' _ (fun j hj => ?_) (hS.put z2 z3 (hI.2 k hk))
  by_cases hjk : j = k
  · subst hjk
    rw [h1]
    exact ⟨_, hc, t_OB.to (V := updV (vp_V fs) f v) ⟨_, z1, q2, q3, t_set q4 hap hf v⟩ (fun j _ => vp_updV_set hl v j)⟩
  · rw [h2 j hj hjk]
    exact (hP j hj).kept (z3 _ (fun z => hjk (hI.1 j k hj hk z)))
theorem m_iald (hC : CallFix p m c cc nL s args LG own) (hE : Ev g s) (hP : WPe g K en H) {k : Key} (hk : K k) {n : Nat} {f : Nat → Int32} (he : en k = .inl (gC g 0, n, .inl f)) {x : Int32} (i : Nat) (hx : x = nI i) (hi : i < n) (hn : n < 2 ^ 31) (hdg : decode cc pc = .ok (.iaload, 1))
    (kk : W p l e R s m args below meth c H locs cells slots Q (F0 m (pc + 1) ls (.int (f i) :: rest))) : W p l e R s m args below meth c H locs cells slots Q (F0 m pc ls (.int x :: .ref (ad g k) :: rest)) := by
  obtain ⟨hx1, hb, hml, hown, hG⟩ := hC
  subst hx
  refine va_iald (D := gD g) (f := f) hx1 hb hE.1 (hP.one hk) 0 0 (by rw [he]; rfl) rfl (vp_in_nI hi hn) hdg ?_
  rw [nI_clamp (by omega)]
  exact kk
theorem m_iast (hC : CallFix p m c cc nL s args LG own) (hE : Ev g s) (hI : IJ g K) (hP : WPe g K en H) (hS : va_S (AA g) s.heap H locs) {k : Key} (hk : K k) {n : Nat} {f : Nat → Int32} (he : en k = .inl (gC g 0, n, .inl f)) {x v : Int32} (i : Nat) (hx : x = nI i) (hi : i < n) (hn : n < 2 ^ 31) {en' : Key → va_E} (h1 : en' k = .inl (gC g 0, n, .inl (upd f i v))) (h2 : ∀ j, K j → j ≠ k → en' j = en j) (hdg : decode cc pc = .ok (.iastore, 1))
    (kk : ∀ (H1 : Heap) (locs1 : List Loc), WPe g K en' H1 → va_S (AA g) s.heap H1 locs1 → W p l e R s m args below meth c H1 locs1 cells slots Q (F0 m (pc + 1) ls rest)) : W p l e R s m args below meth c H locs cells slots Q (F0 m pc ls (.int v :: .int x :: .ref (ad g k) :: rest)) := by
  obtain ⟨hx1, hb, hml, hown, hG⟩ := hC
  subst hx
  have h0 := hP k hk
  rw [he] at h0
  have hin : vp_in (nI i) n := vp_in_nI hi hn
  refine W.iast hx1 hb h0 ((hE.1.2 0 _ rfl).1 n (fun j => .int (f j))) (fun q => by cases q) (by show ¬ (nI i < 0 ∨ (arrV _ _ _).slots.size ≤ _); rw [arrV_size]; exact hin) rfl rfl hdg fun H1 z1 z2 z3 => ?_
  refine kk H1 _ (fun j hj => ?_) (hS.put z2 z3 (hI.2 k hk))
  by_cases hjk : j = k
  · subst hjk
    rw [h1]
    show H1[ad g j]? = some (vp_cell _ _)
    rw [z1, vp_cell_i, vp_cell_i, arrV_store, nI_clamp (by omega)]
    congr 2
    funext q
    by_cases hq : q = i
    · subst hq
      simp [updV, upd]
    · simp [updV, upd, hq]
  · rw [h2 j hj hjk]
    exact (hP j hj).kept (z3 _ (fun z => hjk (hI.1 j k hj hk z)))
theorem m_aald (hC : CallFix p m c cc nL s args LG own) (hE : Ev g s) (hP : WPe g K en H) {k : Key} (hk : K k) {n t : Nat} {C : String} {f : Nat → Option Nat} (he : en k = .inl (gC g t, n, .inr (.inr (.inr (.inr f))))) (ht : (tys5 g)[t]? = some (gC g t, .object C)) {x : Int32} (i : Nat) (hx : x = nI i) (hi : i < n) (hn : n < 2 ^ 31) {a : Nat} (ha : f i = some a) (hdg : decode cc pc = .ok (.aaload, 1))
    (kk : W p l e R s m args below meth c H locs cells slots Q (F0 m (pc + 1) ls (.ref a :: rest))) : W p l e R s m args below meth c H locs cells slots Q (F0 m pc ls (.int x :: .ref (ad g k) :: rest)) := by
  obtain ⟨hx1, hb, hml, hown, hG⟩ := hC
  subst hx
  refine va_aldq (D := gD g) (f := f) hx1 hb hE.1 (hP.one hk) 0 t (by rw [he]; rfl) ht (vp_in_nI hi hn) hdg ?_
  rw [nI_clamp (by omega), ha]
  exact kk
theorem m_max (hC : CallFix p m c cc nL s args LG own) {index : Nat} (hlink : Cond.methodLink own index Lib.Math.max.name ∈ LG) (hstat : Cond.static Lib.Math.max.name ∈ LG) (hini : Cond.initialized "java/lang/Math" ∈ LG) (hcode : Cond.code Lib.Math.max.name Lib.Math.max.code 2 (some .int) ∈ LG) (hls : ls.size = nL) (hframes : 1 ≤ R.frames) (hlocals : (rest.map fun v => v.category).sum + 13 ≤ R.locals) (hc : cells ≤ R.cells) (hs : slots ≤ R.slots) {x y : Int32} (hdg : decode cc pc = .ok (.invokestatic index, 3))
    (kk : W p l e R s m args below meth c H locs cells slots Q (F0 m (pc + 3) ls (.int (if x < y then y else x) :: rest))) : W p l e R s m args below meth c H locs cells slots Q (F0 m pc ls (.int y :: .int x :: rest)) := by
  obtain ⟨hx1, hb, hml, hown, hG⟩ := hC
  exact va_mmax hx1 hb (hml.trans hls.symm) hown (hG _ hlink) (hG _ hstat) (hG _ hini) (hG _ hcode) hframes hlocals hc hs hdg kk
theorem m_min (hC : CallFix p m c cc nL s args LG own) {index : Nat} (hlink : Cond.methodLink own index Lib.Math.min.name ∈ LG) (hstat : Cond.static Lib.Math.min.name ∈ LG) (hini : Cond.initialized "java/lang/Math" ∈ LG) (hcode : Cond.code Lib.Math.min.name Lib.Math.min.code 2 (some .int) ∈ LG) (hls : ls.size = nL) (hframes : 1 ≤ R.frames) (hlocals : (rest.map fun v => v.category).sum + 13 ≤ R.locals) (hc : cells ≤ R.cells) (hs : slots ≤ R.slots) {x y : Int32} (hdg : decode cc pc = .ok (.invokestatic index, 3))
    (kk : W p l e R s m args below meth c H locs cells slots Q (F0 m (pc + 3) ls (.int (if y < x then y else x) :: rest))) : W p l e R s m args below meth c H locs cells slots Q (F0 m pc ls (.int y :: .int x :: rest)) := by
  obtain ⟨hx1, hb, hml, hown, hG⟩ := hC
  exact va_mmin hx1 hb (hml.trans hls.symm) hown (hG _ hlink) (hG _ hstat) (hG _ hini) (hG _ hcode) hframes hlocals hc hs hdg kk
theorem m_abs (hC : CallFix p m c cc nL s args LG own) {index : Nat} (hlink : Cond.methodLink own index Lib.Math.abs.name ∈ LG) (hstat : Cond.static Lib.Math.abs.name ∈ LG) (hini : Cond.initialized "java/lang/Math" ∈ LG) (hcode : Cond.code Lib.Math.abs.name Lib.Math.abs.code 1 (some .int) ∈ LG) (hls : ls.size = nL) (hframes : 1 ≤ R.frames) (hlocals : (rest.map fun v => v.category).sum + 13 ≤ R.locals) (hc : cells ≤ R.cells) (hs : slots ≤ R.slots) {x : Int32} (hdg : decode cc pc = .ok (.invokestatic index, 3))
    (kk : W p l e R s m args below meth c H locs cells slots Q (F0 m (pc + 3) ls (.int (if 0 ≤ x then x else 0 - x) :: rest))) : W p l e R s m args below meth c H locs cells slots Q (F0 m pc ls (.int x :: rest)) := by
  obtain ⟨hx1, hb, hml, hown, hG⟩ := hC
  exact va_mabs hx1 hb (hml.trans hls.symm) hown (hG _ hlink) (hG _ hstat) (hG _ hini) (hG _ hcode) hframes hlocals hc hs hdg kk
/-- the ends -/
theorem m_iret (hC : CallFix p m c cc nL s args LG own) {rt : FieldType} (hr : meth.sig.returnType = some rt) (hlk : meth.locks = false) (hS : va_S (AA g) s.heap H locs) (hP : WPe g K en H) {v r : Int32} (hn : narrow rt (.int v) = .int v) (hv : v = r) (hdg : decode cc pc = .ok (.ireturn, 1)) : W p l e R s m args below meth c H locs cells slots (MQ below (Qi g r K en) args s cells slots (AA g)) (F0 m pc ls [.int v]) := by
  obtain ⟨hx1, hb, hml, hown, hG⟩ := hC
  exact W.zret hx1 hb hr hn (fun t ht hW => ⟨⟨v, (), rfl, hv, by show WPe g K en t.heap; rw [ht]; exact hP⟩, hS.F ht⟩) hS.2.2 hdg hlk
theorem m_lret (hC : CallFix p m c cc nL s args LG own) (hr : meth.sig.returnType = some .long) (hlk : meth.locks = false) (hS : va_S (AA g) s.heap H locs) (hP : WPe g K en H) {v r : Int64} (hv : v = r) (hdg : decode cc pc = .ok (.lreturn, 1)) : W p l e R s m args below meth c H locs cells slots (MQ below (Ql g r K en) args s cells slots (AA g)) (F0 m pc ls [.long v]) := by
  obtain ⟨hx1, hb, hml, hown, hG⟩ := hC
  exact W.lret hx1 hb hr (fun t ht hW => ⟨⟨v, (), rfl, hv, by show WPe g K en t.heap; rw [ht]; exact hP⟩, hS.F ht⟩) hS.2.2 hdg hlk
theorem m_vret (hC : CallFix p m c cc nL s args LG own) (hr : meth.sig.returnType = none) (hlk : meth.locks = false) (hS : va_S (AA g) s.heap H locs) (hP : WPe g K en H) (hdg : decode cc pc = .ok (.return_, 1)) : W p l e R s m args below meth c H locs cells slots (MQ below (Qv g K en) args s cells slots (AA g)) (F0 m pc ls []) := by
  obtain ⟨hx1, hb, hml, hown, hG⟩ := hC
  exact W.vret hx1 hb hr (fun t ht hW => ⟨⟨(), rfl, trivial, by show WPe g K en t.heap; rw [ht]; exact hP⟩, hS.F ht⟩) hS.2.2 hdg hlk
/-- the calls -/
def CalV (C : String) (y : MethodName) (b : ByteArray) (n : Nat) (ret : Option FieldType) (na : Nat) : Prop := Cond.instanceMethod y ∈ LG ∧ Cond.selects C y y ∈ LG ∧ Cond.initialized C ∈ LG ∧ Cond.code y b n ret ∈ LG ∧ (y.cls = C ∧ y.cls ≠ "java/lang/invoke/MethodHandle" ∧ y.cls ≠ "java/lang/invoke/VarHandle" ∧ (parseMethodDescriptor y.desc).map (fun d => d.parameters.length) = some na)
def CalS (y : MethodName) (b : ByteArray) (n : Nat) (ret : Option FieldType) (na : Nat) : Prop := Cond.static y ∈ LG ∧ Cond.initialized y.cls ∈ LG ∧ Cond.code y b n ret ∈ LG ∧ (y.cls ≠ "java/lang/invoke/MethodHandle" ∧ y.cls ≠ "java/lang/invoke/VarHandle" ∧ (parseMethodDescriptor y.desc).map (fun d => d.parameters.length) = some na)
theorem preS_of (hE : Ev g s) (hS : va_S (AA g) s.heap H locs) (hP : WPe g K en H) {As : List Value} : PreS s H (Pd g K en As) As := ⟨Pd.blind, fun U hU hW => ⟨rfl, hE.call hS hU hW, by rw [hU]; exact hP⟩⟩
theorem preV_of (hE : Ev g s) (hS : va_S (AA g) s.heap H locs) (hP : WPe g K en H) {As : List Value} {k : Key} (hk : K k) {ci N : Nat} {C : String} {T : u_T} {fs : List Value} (he : en k = .inr (ci, fs)) (hc : cls7[ci]? = some (C, T, N)) : PreV s H C (ad g k) (Pd g K en (.ref (ad g k) :: As)) As :=
  ⟨Pd.blind, va_recv (q := (C, T, N)) (ws := [(ad g k, en k)]) (q0 := 0) hE.1 (hP.one hk) hc (by rw [he]; rfl), fun U hU hW => ⟨rfl, hE.call hS hU hW, by rw [hU]; exact hP⟩⟩
variable {y : MethodName} {b1 : ByteArray} {n1 na index : Nat} {R1 : Room} {en' : Key → va_E} {ret : Option FieldType} {Qc : Array Value → State → Outcome → State → Prop} {st : List Value}
theorem run_V (hC : CallFix p m c cc nL s args LG own) (hE : Ev g s) (hP : WPe g K en H) (hS : va_S (AA g) s.heap H locs) {k : Key} {As : List Value} (hM : Met l y (wy y b1 n1 ret) R1 (Pd g K en (.ref (ad g k) :: As)) Qc R1.cells R1.slots (AA g)) {C : String} (hcal : CalV C y b1 n1 ret na) (hlink : Cond.methodLink own index y ∈ LG) (hR : R1.frames + 1 ≤ R.frames ∧ 8 + (n1 + 11) + R1.locals ≤ R.locals) (hk : K k) {ci N : Nat} {T : u_T} {fs : List Value} (he : en k = .inr (ci, fs)) (hc : cls7[ci]? = some (C, T, N)) (hlen : As.length = na) (hst : st = As.reverse ++ .ref (ad g k) :: rest) (hroom : (rest.map fun v => v.category).sum ≤ 8) (hls : ls.size = nL) (hf : cells + R1.cells ≤ R.cells ∧ slots + R1.slots ≤ R.slots) (hdg : decode cc pc = .ok (.invokevirtual index, 3)) :
    va_Run p l e R s m args below meth c H locs cells slots R1.cells R1.slots (F0 m pc ls st) rest (Qc (Value.ref (ad g k) :: As).toArray) (AA g) := by
  obtain ⟨a1, a2, a3, a4, a5⟩ := hcal
  exact va_runV hC hM (cwV na hC.2.2.2.2 (LG_V hlink a1 a2 a3 a4) rfl rfl rfl a5 hR) (preV_of hE hS hP hk he hc) rfl hlen hls hst (lv_room hroom) hdg hf
theorem run_S (hC : CallFix p m c cc nL s args LG own) (hE : Ev g s) (hP : WPe g K en H) (hS : va_S (AA g) s.heap H locs) {As : List Value} (hM : Met l y (wy y b1 n1 ret) R1 (Pd g K en As) Qc R1.cells R1.slots (AA g)) (hcal : CalS y b1 n1 ret na) (hlink : Cond.methodLink own index y ∈ LG) (hR : R1.frames + 1 ≤ R.frames ∧ 8 + (n1 + 11) + R1.locals ≤ R.locals) (hlen : As.length = na) (hst : st = As.reverse ++ rest) (hroom : (rest.map fun v => v.category).sum ≤ 8) (hls : ls.size = nL) (hf : cells + R1.cells ≤ R.cells ∧ slots + R1.slots ≤ R.slots) (hdg : decode cc pc = .ok (.invokestatic index, 3)) :
    va_Run p l e R s m args below meth c H locs cells slots R1.cells R1.slots (F0 m pc ls st) rest (Qc As.toArray) (AA g) := by
  obtain ⟨a1, a2, a3, a5⟩ := hcal
  exact va_runS hC hM (va_cwS na hC.2.2.2.2 (LG_S hlink a1 a2 a3) rfl rfl rfl a5 hR) (preS_of hE hS hP) rfl hlen hls hst (lv_room hroom) hdg hf
theorem run_SN (hC : CallFix p m c cc nL s args LG own) (hE : Ev g s) (hP : WPe g K en H) (hS : va_S (AA g) s.heap H locs) {As : List Value} (hM : Met l y (wy y b1 n1 ret) R1 (Pd g K en As) Qc R1.cells R1.slots (AA g)) (hcal : CalS y b1 n1 ret na) {host : String} (hlink : Cond.methodLinkNest own index y host ∈ NW) (hR : R1.frames + 1 ≤ R.frames ∧ 8 + (n1 + 11) + R1.locals ≤ R.locals) (hlen : As.length = na) (hst : st = As.reverse ++ rest) (hroom : (rest.map fun v => v.category).sum ≤ 8) (hls : ls.size = nL) (hf : cells + R1.cells ≤ R.cells ∧ slots + R1.slots ≤ R.slots) (hdg : decode cc pc = .ok (.invokestatic index, 3)) :
    va_Run p l e R s m args below meth c H locs cells slots R1.cells R1.slots (F0 m pc ls st) rest (Qc As.toArray) (AA g) := by
  obtain ⟨a1, a2, a3, a5⟩ := hcal
  exact va_runSN hC hM ⟨va_cnB na hC.2.2.2.2 (LG_y a3) rfl rfl rfl (hE.2.1.1 _ hlink) (hC.2.2.2.2 _ a2) a5 hR, hC.2.2.2.2 _ a1, trivial⟩ (preS_of hE hS hP) rfl hlen hls hst (lv_room hroom) hdg hf
theorem run_VN (hC : CallFix p m c cc nL s args LG own) (hE : Ev g s) (hP : WPe g K en H) (hS : va_S (AA g) s.heap H locs) {k : Key} {As : List Value} (hM : Met l y (wy y b1 n1 ret) R1 (Pd g K en (.ref (ad g k) :: As)) Qc R1.cells R1.slots (AA g)) {C host : String} (hcal : CalV C y b1 n1 ret na) (hlink : Cond.methodLinkNest own index y host ∈ NW) (hR : R1.frames + 1 ≤ R.frames ∧ 8 + (n1 + 11) + R1.locals ≤ R.locals) (hk : K k) {ci N : Nat} {T : u_T} {fs : List Value} (he : en k = .inr (ci, fs)) (hc : cls7[ci]? = some (C, T, N)) (hlen : As.length = na) (hst : st = As.reverse ++ .ref (ad g k) :: rest) (hroom : (rest.map fun v => v.category).sum ≤ 8) (hls : ls.size = nL) (hf : cells + R1.cells ≤ R.cells ∧ slots + R1.slots ≤ R.slots) (hdg : decode cc pc = .ok (.invokevirtual index, 3)) :
    va_Run p l e R s m args below meth c H locs cells slots R1.cells R1.slots (F0 m pc ls st) rest (Qc (Value.ref (ad g k) :: As).toArray) (AA g) := by
  obtain ⟨a1, a2, a3, a4, a5⟩ := hcal
  have hini : (Cond.initialized y.cls).before args s = true := by rw [a5.1]; exact hC.2.2.2.2 _ a3
  exact va_runVN hC hM ⟨va_cnB na hC.2.2.2.2 (LG_y a4) rfl rfl rfl (hE.2.1.1 _ hlink) hini a5.2 hR, hC.2.2.2.2 _ a1, hC.2.2.2.2 _ a2⟩ (preV_of hE hS hP hk he hc) rfl hlen hls hst (lv_room hroom) hdg hf
theorem on_i {r : Int32} {mc ms : Nat} {a : Array Value} (hr : va_Run p l e R s m args below meth c H locs cells slots mc ms (F0 m pc ls st) rest (Qi g r K en' a) (AA g)) (hS : va_S (AA g) s.heap H locs)
    (kk : ∀ (H1 : Heap) (locs1 : List Loc), WPe g K en' H1 → va_S (AA g) s.heap H1 locs1 → W p l e R s m args below meth c H1 locs1 (cells + mc) (slots + ms) Q (F0 m (pc + 3) ls (.int r :: rest))) : W p l e R s m args below meth c H locs cells slots Q (F0 m pc ls st) := by
  refine va_calli hr hS (fun q _ h => h) (fun q h => h) (fun r1 u t H1 locs1 ht hvm hw hB hz hk hS1 => ?_)
  subst hw
  rw [ht] at hB
  exact kk H1 locs1 hB hS1
theorem on_l {r : Int64} {mc ms : Nat} {a : Array Value} (hr : va_Run p l e R s m args below meth c H locs cells slots mc ms (F0 m pc ls st) rest (Ql g r K en' a) (AA g)) (hS : va_S (AA g) s.heap H locs)
    (kk : ∀ (H1 : Heap) (locs1 : List Loc), WPe g K en' H1 → va_S (AA g) s.heap H1 locs1 → W p l e R s m args below meth c H1 locs1 (cells + mc) (slots + ms) Q (F0 m (pc + 3) ls (.long r :: rest))) : W p l e R s m args below meth c H locs cells slots Q (F0 m pc ls st) := by
  refine va_calll hr hS (fun q _ h => h) (fun q h => h) (fun r1 u t H1 locs1 ht hvm hw hB hz hk hS1 => ?_)
  subst hw
  rw [ht] at hB
  exact kk H1 locs1 hB hS1
theorem on_v {mc ms : Nat} {a : Array Value} (hr : va_Run p l e R s m args below meth c H locs cells slots mc ms (F0 m pc ls st) rest (Qv g K en' a) (AA g)) (hS : va_S (AA g) s.heap H locs)
    (kk : ∀ (H1 : Heap) (locs1 : List Loc), WPe g K en' H1 → va_S (AA g) s.heap H1 locs1 → W p l e R s m args below meth c H1 locs1 (cells + mc) (slots + ms) Q (F0 m (pc + 3) ls rest)) : W p l e R s m args below meth c H locs cells slots Q (F0 m pc ls st) := by
  refine va_callv hr hS (fun q _ h => h) (fun q h => h) (fun u t H1 locs1 ht hvm hw hB hz hk hS1 => ?_)
  rw [ht] at hB
  exact kk H1 locs1 hB hS1
end MW
end
section
/-! The cells of this law: lakes (regions 0, 1), states of the reference (2, 3), by keys; M: region, component, place. -/
abbrev Vw : Type := Nat → Nat → Int32
abbrev Mem : Type := Nat → Vw
def alen : Nat → Nat := fun c => match c with
  | 0 => 81
  | 1 => 81
  | 2 => 7
  | 3 => 12
  | 4 => 12
  | 5 => 12
  | 6 => 8
  | 7 => 8
  | 8 => 8
  | 9 => 8
  | 10 => 8
  | 11 => 8
  | _ => 3
/-- which components a state of the reference holds itself -/
def pv : Nat → Bool := fun c => match c with
  | 0 => true
  | 5 => true
  | 8 => true
  | 9 => true
  | 10 => true
  | 11 => true
  | 12 => true
  | 13 => true
  | 15 => true
  | _ => false
def setR (M : Mem) (r : Nat) (v : Vw) : Mem := fun r' => if r' = r then v else M r'
def up2 (v : Vw) (c i : Nat) (x : Int32) : Vw := fun c' i' => if c' = c ∧ i' = i then x else v c' i'
theorem setR_same (M : Mem) (r : Nat) (v : Vw) : setR M r v r = v := by simp [setR]
theorem setR_ne (M : Mem) {r r' : Nat} (v : Vw) (h : r' ≠ r) : setR M r v r' = M r' := by simp [setR, h]
theorem setR_self (M : Mem) (r : Nat) : setR M r (M r) = M := by
  funext r'
  by_cases h : r' = r <;> simp [setR, h]
theorem setR_setR (M : Mem) (r : Nat) (v w : Vw) : setR (setR M r v) r w = setR M r w := by
  funext r'
  by_cases h : r' = r <;> simp [setR, h]
theorem up2_same (v : Vw) (c i : Nat) (x : Int32) : up2 v c i x c i = x := by simp [up2]
theorem up2_c {v : Vw} {c i : Nat} {x : Int32} {c' i' : Nat} (h : c' ≠ c) : up2 v c i x c' i' = v c' i' := by simp [up2, h]
theorem up2_i {v : Vw} {c i : Nat} {x : Int32} {c' i' : Nat} (h : i' ≠ i) : up2 v c i x c' i' = v c' i' := by simp [up2, h]
theorem up2_upd (v : Vw) (c i : Nat) (x : Int32) : up2 v c i x c = upd (v c) i x := by
  funext j
  by_cases h : j = i <;> simp [up2, upd, h]
def ent (g : Gm) (M : Mem) (o : Nat → Int64) : Key → va_E := fun k => match k.1 with
  | 0 => .inr (0, [.int (M k.2.1 3 k.2.2), .int (M k.2.1 4 k.2.2), .int (M k.2.1 5 k.2.2)])
  | 1 => .inr (2, [.int (M k.2.1 6 k.2.2), .int (M k.2.1 7 k.2.2), .int (M k.2.1 8 k.2.2), .int (M k.2.1 9 k.2.2), .int (M k.2.1 10 k.2.2), .int (M k.2.1 11 k.2.2)])
  | 2 => .inr (3, [.int (M k.2.1 12 k.2.2), .int (M k.2.1 13 k.2.2), .int (M k.2.1 14 k.2.2), .int (M k.2.1 15 k.2.2)])
  | 3 => .inr (1, [.ref (ad g (4, k.2.1, 0)), .ref (ad g (4, k.2.1, 1)), .ref (ad g (4, k.2.1, 2)), .ref (ad g (5, k.2.1, 0)), .ref (ad g (6, k.2.1, 0)), .ref (ad g (7, k.2.1, 0)), .int (M k.2.1 16 0), .int (M k.2.1 16 1), .int (M k.2.1 16 2), .int (M k.2.1 16 3), .int (M k.2.1 16 4)])
  | 4 => .inl (gC g 0, alen k.2.2, .inl (M k.2.1 k.2.2))
  | 5 => .inl (gC g 1, 12, .inr (.inr (.inr (.inr (fun i => some (ad g (0, k.2.1, i)))))))
  | 6 => .inl (gC g 2, 8, .inr (.inr (.inr (.inr (fun i => some (ad g (1, k.2.1, i)))))))
  | 7 => .inl (gC g 3, 3, .inr (.inr (.inr (.inr (fun i => some (ad g (2, k.2.1, i)))))))
  | 8 => .inr (4, [.ref (ad g (3, 0, 0)), .ref (ad g (3, 1, 0))])
  | 9 => .inr (5, [.int (M k.2.1 16 4), .int (M k.2.1 16 3), .ref (ad g (4, k.2.1, 0)), .ref (ad g (4, k.2.1, 5)), .ref (ad g (4, k.2.1, 8)), .ref (ad g (4, k.2.1, 9)), .ref (ad g (4, k.2.1, 10)), .ref (ad g (4, k.2.1, 11)), .ref (ad g (4, k.2.1, 12)), .ref (ad g (4, k.2.1, 13)), .ref (ad g (4, k.2.1, 15)), .ref (ad g (10, 0, 0))])
  | 10 => .inr (6, [.int (M 2 16 5), .ref (ad g (4, 2, 1)), .ref (ad g (4, 2, 2)), .int (M 2 16 0), .ref (ad g (4, 2, 3)), .ref (ad g (4, 2, 4)), .int (M 2 16 1), .ref (ad g (4, 2, 6)), .ref (ad g (4, 2, 7)), .int (M 2 16 2), .ref (ad g (4, 2, 14)), .ref (ad g (9, 2, 0)), .ref (ad g (9, 3, 0))])
  | _ => .inl (gC g 4, 1, .inr (.inl o))
def KK (k : Key) : Prop := match k.1 with
  | 0 => k.2.1 < 2 ∧ k.2.2 < 12
  | 1 => k.2.1 < 2 ∧ k.2.2 < 8
  | 2 => k.2.1 < 2 ∧ k.2.2 < 3
  | 3 => k.2.1 < 2 ∧ k.2.2 = 0
  | 4 => (k.2.1 < 2 ∧ k.2.2 < 3) ∨ (k.2.1 = 2 ∧ k.2.2 < 16) ∨ (k.2.1 = 3 ∧ pv k.2.2 = true)
  | 5 => k.2.1 < 2 ∧ k.2.2 = 0
  | 6 => k.2.1 < 2 ∧ k.2.2 = 0
  | 7 => k.2.1 < 2 ∧ k.2.2 = 0
  | 8 => k.2.1 = 0 ∧ k.2.2 = 0
  | 9 => (k.2.1 = 2 ∨ k.2.1 = 3) ∧ k.2.2 = 0
  | 10 => k.2.1 = 0 ∧ k.2.2 = 0
  | 11 => k.2.1 = 0 ∧ k.2.2 = 0
  | _ => False
/-- which numbers a cell holds -/
def dep (k : Key) (r c i : Nat) : Prop := match k.1 with
  | 0 => k.2.1 = r ∧ k.2.2 = i ∧ 3 ≤ c ∧ c < 6
  | 1 => k.2.1 = r ∧ k.2.2 = i ∧ 6 ≤ c ∧ c < 12
  | 2 => k.2.1 = r ∧ k.2.2 = i ∧ 12 ≤ c ∧ c < 16
  | 3 => k.2.1 = r ∧ c = 16 ∧ i < 5
  | 4 => k.2.1 = r ∧ k.2.2 = c
  | 9 => k.2.1 = r ∧ c = 16 ∧ (i = 3 ∨ i = 4)
  | 10 => r = 2 ∧ c = 16 ∧ (i < 3 ∨ i = 5)
  | _ => False
def keyOf (r c i : Nat) : Key := if c = 16 then (if r < 2 then (3, r, 0) else if i = 3 ∨ i = 4 then (9, r, 0) else (10, 0, 0)) else if r < 2 ∧ 3 ≤ c then (if c < 6 then (0, r, i) else if c < 12 then (1, r, i) else (2, r, i)) else (4, r, c)
theorem pv_16 : ∀ c, pv c = true → c < 16 := by
  intro c h
  unfold pv at h
  split at h <;> first | omega | cases h
theorem dep_key {k : Key} {r c i : Nat} (hk : KK k) (h : dep k r c i) : k = keyOf r c i := by
  obtain ⟨t, a, b⟩ := k
  unfold KK at hk
  unfold dep at h
  split at h <;> rename_i ht <;> simp only at ht h hk <;> (try subst ht) <;> simp only at hk
  · obtain ⟨rfl, rfl, h1, h2⟩ := h
    simp only [keyOf]
    rw [if_neg (by omega), if_pos (by omega), if_pos h2]
  · obtain ⟨rfl, rfl, h1, h2⟩ := h
    simp only [keyOf]
    rw [if_neg (by omega), if_pos (by omega), if_neg (by omega), if_pos h2]
  · obtain ⟨rfl, rfl, h1, h2⟩ := h
    simp only [keyOf]
    rw [if_neg (by omega), if_pos (by omega), if_neg (by omega), if_neg (by omega)]
  · obtain ⟨rfl, rfl, h1⟩ := h
    simp only [keyOf]
    rw [if_pos trivial, if_pos hk.1, hk.2]
  · obtain ⟨rfl, rfl⟩ := h
    simp only [keyOf]
    have hb : b < 16 := by
      rcases hk with q | q | q
      · omega
      · omega
      · exact pv_16 _ q.2
    rw [if_neg (by omega), if_neg (by omega)]
  · obtain ⟨rfl, rfl, h1⟩ := h
    simp only [keyOf]
    rw [if_pos trivial, if_neg (by omega), if_pos h1, hk.2]
  · obtain ⟨rfl, rfl, h1⟩ := h
    simp only [keyOf]
    rw [if_pos trivial, if_neg (by omega), if_neg (by omega), hk.1, hk.2]
theorem ent_congr {g : Gm} {M M' : Mem} {o : Nat → Int64} {k : Key} (h : ∀ r c i, dep k r c i → M' r c i = M r c i) : ent g M' o k = ent g M o k := by
  obtain ⟨t, a, b⟩ := k
  unfold dep at h
  unfold ent
  split <;> rename_i ht <;> simp only at ht h ⊢ <;> (try subst ht) <;> simp only at h
  · rw [h a 3 b ⟨rfl, rfl, by omega, by omega⟩, h a 4 b ⟨rfl, rfl, by omega, by omega⟩, h a 5 b ⟨rfl, rfl, by omega, by omega⟩]
  · rw [h a 6 b ⟨rfl, rfl, by omega, by omega⟩, h a 7 b ⟨rfl, rfl, by omega, by omega⟩, h a 8 b ⟨rfl, rfl, by omega, by omega⟩, h a 9 b ⟨rfl, rfl, by omega, by omega⟩, h a 10 b ⟨rfl, rfl, by omega, by omega⟩, h a 11 b ⟨rfl, rfl, by omega, by omega⟩]
  · rw [h a 12 b ⟨rfl, rfl, by omega, by omega⟩, h a 13 b ⟨rfl, rfl, by omega, by omega⟩, h a 14 b ⟨rfl, rfl, by omega, by omega⟩, h a 15 b ⟨rfl, rfl, by omega, by omega⟩]
  · rw [h a 16 0 ⟨rfl, rfl, by omega⟩, h a 16 1 ⟨rfl, rfl, by omega⟩, h a 16 2 ⟨rfl, rfl, by omega⟩, h a 16 3 ⟨rfl, rfl, by omega⟩, h a 16 4 ⟨rfl, rfl, by omega⟩]
  · rw [show M' a b = M a b from funext fun i => h a b i ⟨rfl, rfl⟩]
  · rw [h a 16 4 ⟨rfl, rfl, by omega⟩, h a 16 3 ⟨rfl, rfl, by omega⟩]
  · rw [h 2 16 5 ⟨rfl, rfl, by omega⟩, h 2 16 0 ⟨rfl, rfl, by omega⟩, h 2 16 1 ⟨rfl, rfl, by omega⟩, h 2 16 2 ⟨rfl, rfl, by omega⟩]
/-- the world -/
abbrev WP (g : Gm) (M : Mem) (o : Nat → Int64) (H : Heap) : Prop := WPe g KK (ent g M o) H
theorem WP.cast {g : Gm} {M M' : Mem} {o : Nat → Int64} {H : Heap} (h : WP g M o H) (e : M' = M) : WP g M' o H := by rw [e]; exact h
theorem WPe.castR {g : Gm} {M : Mem} {r : Nat} {v w : Vw} {o : Nat → Int64} {H : Heap} (h : WP g (setR M r v) o H) (e : w = v) : WP g (setR M r w) o H := by rw [e]; exact h
/-- one number written: the other cells stay -/
theorem ent_put (g : Gm) (M : Mem) (r : Nat) (v : Vw) (o : Nat → Int64) (c i : Nat) (x : Int32) {k : Key} (hk : keyOf r c i = k) : ∀ j, KK j → j ≠ k → ent g (setR M r (up2 v c i x)) o j = ent g (setR M r v) o j := by
  intro j hj hne
  refine ent_congr fun r' c' i' hd => ?_
  by_cases h : r' = r
  · subst h
    rw [setR_same, setR_same]
    by_cases hc : c' = c
    · subst hc
      by_cases hi : i' = i
      · subst hi
        exact absurd ((dep_key hj hd).trans hk) hne
      · exact up2_i hi
    · exact up2_c hc
  · rw [setR_ne _ _ h, setR_ne _ _ h]
/-- the keys of the cells -/
theorem k_0 {r h : Nat} (hr : r < 2) (hh : h < 12) : KK (0, r, h) := ⟨hr, hh⟩
theorem k_1 {r h : Nat} (hr : r < 2) (hh : h < 8) : KK (1, r, h) := ⟨hr, hh⟩
theorem k_2 {r h : Nat} (hr : r < 2) (hh : h < 3) : KK (2, r, h) := ⟨hr, hh⟩
theorem k_3 {r : Nat} (hr : r < 2) : KK (3, r, 0) := ⟨hr, rfl⟩
theorem k_4 {r c : Nat} (hr : r < 2) (hc : c < 3) : KK (4, r, c) := Or.inl ⟨hr, hc⟩
theorem k_4s {c : Nat} (hc : c < 16) : KK (4, 2, c) := Or.inr (Or.inl ⟨rfl, hc⟩)
theorem k_4p {r c : Nat} (hr : r = 2 ∨ r = 3) (hc : pv c = true) : KK (4, r, c) := by
  rcases hr with rfl | rfl
  · exact Or.inr (Or.inl ⟨rfl, pv_16 _ hc⟩)
  · exact Or.inr (Or.inr ⟨rfl, hc⟩)
theorem k_5 {r : Nat} (hr : r < 2) : KK (5, r, 0) := ⟨hr, rfl⟩
theorem k_6 {r : Nat} (hr : r < 2) : KK (6, r, 0) := ⟨hr, rfl⟩
theorem k_7 {r : Nat} (hr : r < 2) : KK (7, r, 0) := ⟨hr, rfl⟩
theorem k_8 : KK (8, 0, 0) := ⟨rfl, rfl⟩
theorem k_9 {r : Nat} (hr : r = 2 ∨ r = 3) : KK (9, r, 0) := ⟨hr, rfl⟩
theorem k_10 : KK (10, 0, 0) := ⟨rfl, rfl⟩
theorem k_11 : KK (11, 0, 0) := ⟨rfl, rfl⟩

theorem e_0 {g : Gm} {M : Mem} {r : Nat} {v : Vw} {o : Nat → Int64} {h : Nat} : ent g (setR M r v) o (0, r, h) = .inr (0, [.int (v 3 h), .int (v 4 h), .int (v 5 h)]) := by
  show Sum.inr _ = _
  simp only [setR_same]
theorem f_0 {g : Gm} {M : Mem} {o : Nat → Int64} {r : Nat} {h : Nat} : ent g M o (0, r, h) = .inr (0, [.int (M r 3 h), .int (M r 4 h), .int (M r 5 h)]) := rfl
theorem p_0_0 {g : Gm} {M : Mem} {r : Nat} {v : Vw} {o : Nat → Int64} {x : Int32} {h : Nat} : ent g (setR M r (up2 v 3 h x)) o (0, r, h) = .inr (0, ([.int (v 3 h), .int (v 4 h), .int (v 5 h)] : List Value).set 0 (.int x)) := by
  rw [e_0]
  simp [up2]
theorem p_0_1 {g : Gm} {M : Mem} {r : Nat} {v : Vw} {o : Nat → Int64} {x : Int32} {h : Nat} : ent g (setR M r (up2 v 4 h x)) o (0, r, h) = .inr (0, ([.int (v 3 h), .int (v 4 h), .int (v 5 h)] : List Value).set 1 (.int x)) := by
  rw [e_0]
  simp [up2]
theorem p_0_2 {g : Gm} {M : Mem} {r : Nat} {v : Vw} {o : Nat → Int64} {x : Int32} {h : Nat} : ent g (setR M r (up2 v 5 h x)) o (0, r, h) = .inr (0, ([.int (v 3 h), .int (v 4 h), .int (v 5 h)] : List Value).set 2 (.int x)) := by
  rw [e_0]
  simp [up2]
theorem e_1 {g : Gm} {M : Mem} {r : Nat} {v : Vw} {o : Nat → Int64} {h : Nat} : ent g (setR M r v) o (1, r, h) = .inr (2, [.int (v 6 h), .int (v 7 h), .int (v 8 h), .int (v 9 h), .int (v 10 h), .int (v 11 h)]) := by
  show Sum.inr _ = _
  simp only [setR_same]
theorem f_1 {g : Gm} {M : Mem} {o : Nat → Int64} {r : Nat} {h : Nat} : ent g M o (1, r, h) = .inr (2, [.int (M r 6 h), .int (M r 7 h), .int (M r 8 h), .int (M r 9 h), .int (M r 10 h), .int (M r 11 h)]) := rfl
theorem p_1_0 {g : Gm} {M : Mem} {r : Nat} {v : Vw} {o : Nat → Int64} {x : Int32} {h : Nat} : ent g (setR M r (up2 v 6 h x)) o (1, r, h) = .inr (2, ([.int (v 6 h), .int (v 7 h), .int (v 8 h), .int (v 9 h), .int (v 10 h), .int (v 11 h)] : List Value).set 0 (.int x)) := by
  rw [e_1]
  simp [up2]
theorem p_1_1 {g : Gm} {M : Mem} {r : Nat} {v : Vw} {o : Nat → Int64} {x : Int32} {h : Nat} : ent g (setR M r (up2 v 7 h x)) o (1, r, h) = .inr (2, ([.int (v 6 h), .int (v 7 h), .int (v 8 h), .int (v 9 h), .int (v 10 h), .int (v 11 h)] : List Value).set 1 (.int x)) := by
  rw [e_1]
  simp [up2]
theorem p_1_2 {g : Gm} {M : Mem} {r : Nat} {v : Vw} {o : Nat → Int64} {x : Int32} {h : Nat} : ent g (setR M r (up2 v 8 h x)) o (1, r, h) = .inr (2, ([.int (v 6 h), .int (v 7 h), .int (v 8 h), .int (v 9 h), .int (v 10 h), .int (v 11 h)] : List Value).set 2 (.int x)) := by
  rw [e_1]
  simp [up2]
theorem p_1_3 {g : Gm} {M : Mem} {r : Nat} {v : Vw} {o : Nat → Int64} {x : Int32} {h : Nat} : ent g (setR M r (up2 v 9 h x)) o (1, r, h) = .inr (2, ([.int (v 6 h), .int (v 7 h), .int (v 8 h), .int (v 9 h), .int (v 10 h), .int (v 11 h)] : List Value).set 3 (.int x)) := by
  rw [e_1]
  simp [up2]
theorem p_1_4 {g : Gm} {M : Mem} {r : Nat} {v : Vw} {o : Nat → Int64} {x : Int32} {h : Nat} : ent g (setR M r (up2 v 10 h x)) o (1, r, h) = .inr (2, ([.int (v 6 h), .int (v 7 h), .int (v 8 h), .int (v 9 h), .int (v 10 h), .int (v 11 h)] : List Value).set 4 (.int x)) := by
  rw [e_1]
  simp [up2]
theorem p_1_5 {g : Gm} {M : Mem} {r : Nat} {v : Vw} {o : Nat → Int64} {x : Int32} {h : Nat} : ent g (setR M r (up2 v 11 h x)) o (1, r, h) = .inr (2, ([.int (v 6 h), .int (v 7 h), .int (v 8 h), .int (v 9 h), .int (v 10 h), .int (v 11 h)] : List Value).set 5 (.int x)) := by
  rw [e_1]
  simp [up2]
theorem e_2 {g : Gm} {M : Mem} {r : Nat} {v : Vw} {o : Nat → Int64} {h : Nat} : ent g (setR M r v) o (2, r, h) = .inr (3, [.int (v 12 h), .int (v 13 h), .int (v 14 h), .int (v 15 h)]) := by
  show Sum.inr _ = _
  simp only [setR_same]
theorem f_2 {g : Gm} {M : Mem} {o : Nat → Int64} {r : Nat} {h : Nat} : ent g M o (2, r, h) = .inr (3, [.int (M r 12 h), .int (M r 13 h), .int (M r 14 h), .int (M r 15 h)]) := rfl
theorem p_2_0 {g : Gm} {M : Mem} {r : Nat} {v : Vw} {o : Nat → Int64} {x : Int32} {h : Nat} : ent g (setR M r (up2 v 12 h x)) o (2, r, h) = .inr (3, ([.int (v 12 h), .int (v 13 h), .int (v 14 h), .int (v 15 h)] : List Value).set 0 (.int x)) := by
  rw [e_2]
  simp [up2]
theorem p_2_1 {g : Gm} {M : Mem} {r : Nat} {v : Vw} {o : Nat → Int64} {x : Int32} {h : Nat} : ent g (setR M r (up2 v 13 h x)) o (2, r, h) = .inr (3, ([.int (v 12 h), .int (v 13 h), .int (v 14 h), .int (v 15 h)] : List Value).set 1 (.int x)) := by
  rw [e_2]
  simp [up2]
theorem p_2_2 {g : Gm} {M : Mem} {r : Nat} {v : Vw} {o : Nat → Int64} {x : Int32} {h : Nat} : ent g (setR M r (up2 v 14 h x)) o (2, r, h) = .inr (3, ([.int (v 12 h), .int (v 13 h), .int (v 14 h), .int (v 15 h)] : List Value).set 2 (.int x)) := by
  rw [e_2]
  simp [up2]
theorem p_2_3 {g : Gm} {M : Mem} {r : Nat} {v : Vw} {o : Nat → Int64} {x : Int32} {h : Nat} : ent g (setR M r (up2 v 15 h x)) o (2, r, h) = .inr (3, ([.int (v 12 h), .int (v 13 h), .int (v 14 h), .int (v 15 h)] : List Value).set 3 (.int x)) := by
  rw [e_2]
  simp [up2]
theorem e_3 {g : Gm} {M : Mem} {r : Nat} {v : Vw} {o : Nat → Int64} : ent g (setR M r v) o (3, r, 0) = .inr (1, [.ref (ad g (4, r, 0)), .ref (ad g (4, r, 1)), .ref (ad g (4, r, 2)), .ref (ad g (5, r, 0)), .ref (ad g (6, r, 0)), .ref (ad g (7, r, 0)), .int (v 16 0), .int (v 16 1), .int (v 16 2), .int (v 16 3), .int (v 16 4)]) := by
  show Sum.inr _ = _
  simp only [setR_same]
theorem f_3 {g : Gm} {M : Mem} {o : Nat → Int64} {r : Nat} : ent g M o (3, r, 0) = .inr (1, [.ref (ad g (4, r, 0)), .ref (ad g (4, r, 1)), .ref (ad g (4, r, 2)), .ref (ad g (5, r, 0)), .ref (ad g (6, r, 0)), .ref (ad g (7, r, 0)), .int (M r 16 0), .int (M r 16 1), .int (M r 16 2), .int (M r 16 3), .int (M r 16 4)]) := rfl
theorem p_3_6 {g : Gm} {M : Mem} {r : Nat} {v : Vw} {o : Nat → Int64} {x : Int32} : ent g (setR M r (up2 v 16 0 x)) o (3, r, 0) = .inr (1, ([.ref (ad g (4, r, 0)), .ref (ad g (4, r, 1)), .ref (ad g (4, r, 2)), .ref (ad g (5, r, 0)), .ref (ad g (6, r, 0)), .ref (ad g (7, r, 0)), .int (v 16 0), .int (v 16 1), .int (v 16 2), .int (v 16 3), .int (v 16 4)] : List Value).set 6 (.int x)) := by
  rw [e_3]
  simp [up2]
theorem p_3_7 {g : Gm} {M : Mem} {r : Nat} {v : Vw} {o : Nat → Int64} {x : Int32} : ent g (setR M r (up2 v 16 1 x)) o (3, r, 0) = .inr (1, ([.ref (ad g (4, r, 0)), .ref (ad g (4, r, 1)), .ref (ad g (4, r, 2)), .ref (ad g (5, r, 0)), .ref (ad g (6, r, 0)), .ref (ad g (7, r, 0)), .int (v 16 0), .int (v 16 1), .int (v 16 2), .int (v 16 3), .int (v 16 4)] : List Value).set 7 (.int x)) := by
  rw [e_3]
  simp [up2]
theorem p_3_8 {g : Gm} {M : Mem} {r : Nat} {v : Vw} {o : Nat → Int64} {x : Int32} : ent g (setR M r (up2 v 16 2 x)) o (3, r, 0) = .inr (1, ([.ref (ad g (4, r, 0)), .ref (ad g (4, r, 1)), .ref (ad g (4, r, 2)), .ref (ad g (5, r, 0)), .ref (ad g (6, r, 0)), .ref (ad g (7, r, 0)), .int (v 16 0), .int (v 16 1), .int (v 16 2), .int (v 16 3), .int (v 16 4)] : List Value).set 8 (.int x)) := by
  rw [e_3]
  simp [up2]
theorem p_3_9 {g : Gm} {M : Mem} {r : Nat} {v : Vw} {o : Nat → Int64} {x : Int32} : ent g (setR M r (up2 v 16 3 x)) o (3, r, 0) = .inr (1, ([.ref (ad g (4, r, 0)), .ref (ad g (4, r, 1)), .ref (ad g (4, r, 2)), .ref (ad g (5, r, 0)), .ref (ad g (6, r, 0)), .ref (ad g (7, r, 0)), .int (v 16 0), .int (v 16 1), .int (v 16 2), .int (v 16 3), .int (v 16 4)] : List Value).set 9 (.int x)) := by
  rw [e_3]
  simp [up2]
theorem p_3_10 {g : Gm} {M : Mem} {r : Nat} {v : Vw} {o : Nat → Int64} {x : Int32} : ent g (setR M r (up2 v 16 4 x)) o (3, r, 0) = .inr (1, ([.ref (ad g (4, r, 0)), .ref (ad g (4, r, 1)), .ref (ad g (4, r, 2)), .ref (ad g (5, r, 0)), .ref (ad g (6, r, 0)), .ref (ad g (7, r, 0)), .int (v 16 0), .int (v 16 1), .int (v 16 2), .int (v 16 3), .int (v 16 4)] : List Value).set 10 (.int x)) := by
  rw [e_3]
  simp [up2]
theorem e_9 {g : Gm} {M : Mem} {r : Nat} {v : Vw} {o : Nat → Int64} : ent g (setR M r v) o (9, r, 0) = .inr (5, [.int (v 16 4), .int (v 16 3), .ref (ad g (4, r, 0)), .ref (ad g (4, r, 5)), .ref (ad g (4, r, 8)), .ref (ad g (4, r, 9)), .ref (ad g (4, r, 10)), .ref (ad g (4, r, 11)), .ref (ad g (4, r, 12)), .ref (ad g (4, r, 13)), .ref (ad g (4, r, 15)), .ref (ad g (10, 0, 0))]) := by
  show Sum.inr _ = _
  simp only [setR_same]
theorem f_9 {g : Gm} {M : Mem} {o : Nat → Int64} {r : Nat} : ent g M o (9, r, 0) = .inr (5, [.int (M r 16 4), .int (M r 16 3), .ref (ad g (4, r, 0)), .ref (ad g (4, r, 5)), .ref (ad g (4, r, 8)), .ref (ad g (4, r, 9)), .ref (ad g (4, r, 10)), .ref (ad g (4, r, 11)), .ref (ad g (4, r, 12)), .ref (ad g (4, r, 13)), .ref (ad g (4, r, 15)), .ref (ad g (10, 0, 0))]) := rfl
theorem p_9_0 {g : Gm} {M : Mem} {r : Nat} {v : Vw} {o : Nat → Int64} {x : Int32} : ent g (setR M r (up2 v 16 4 x)) o (9, r, 0) = .inr (5, ([.int (v 16 4), .int (v 16 3), .ref (ad g (4, r, 0)), .ref (ad g (4, r, 5)), .ref (ad g (4, r, 8)), .ref (ad g (4, r, 9)), .ref (ad g (4, r, 10)), .ref (ad g (4, r, 11)), .ref (ad g (4, r, 12)), .ref (ad g (4, r, 13)), .ref (ad g (4, r, 15)), .ref (ad g (10, 0, 0))] : List Value).set 0 (.int x)) := by
  rw [e_9]
  simp [up2]
theorem p_9_1 {g : Gm} {M : Mem} {r : Nat} {v : Vw} {o : Nat → Int64} {x : Int32} : ent g (setR M r (up2 v 16 3 x)) o (9, r, 0) = .inr (5, ([.int (v 16 4), .int (v 16 3), .ref (ad g (4, r, 0)), .ref (ad g (4, r, 5)), .ref (ad g (4, r, 8)), .ref (ad g (4, r, 9)), .ref (ad g (4, r, 10)), .ref (ad g (4, r, 11)), .ref (ad g (4, r, 12)), .ref (ad g (4, r, 13)), .ref (ad g (4, r, 15)), .ref (ad g (10, 0, 0))] : List Value).set 1 (.int x)) := by
  rw [e_9]
  simp [up2]
theorem kf_0 {r h c : Nat} (hr : r < 2) (h1 : 3 ≤ c) (h2 : c < 6) : keyOf r c h = (0, r, h) := by
  unfold keyOf
  rw [if_neg (by omega), if_pos ⟨hr, h1⟩, if_pos h2]
theorem kf_1 {r h c : Nat} (hr : r < 2) (h1 : 6 ≤ c) (h2 : c < 12) : keyOf r c h = (1, r, h) := by
  unfold keyOf
  rw [if_neg (by omega), if_pos ⟨hr, by omega⟩, if_neg (by omega), if_pos h2]
theorem kf_2 {r h c : Nat} (hr : r < 2) (h1 : 12 ≤ c) (h2 : c < 16) : keyOf r c h = (2, r, h) := by
  unfold keyOf
  rw [if_neg (by omega), if_pos ⟨hr, by omega⟩, if_neg (by omega), if_neg (by omega)]
theorem kf_3 {r i : Nat} (hr : r < 2) : keyOf r 16 i = (3, r, 0) := by
  unfold keyOf
  rw [if_pos rfl, if_pos hr]
theorem kf_4 {r c i : Nat} (hr : r < 2) (hc : c < 3) : keyOf r c i = (4, r, c) := by
  unfold keyOf
  rw [if_neg (by omega), if_neg (by omega)]
theorem kf_4m {r c i : Nat} (hr : r = 2 ∨ r = 3) (hc : c < 16) : keyOf r c i = (4, r, c) := by
  unfold keyOf
  rw [if_neg (by omega), if_neg (by omega)]
theorem kf_9 {r i : Nat} (hr : r = 2 ∨ r = 3) (hi : i = 3 ∨ i = 4) : keyOf r 16 i = (9, r, 0) := by
  unfold keyOf
  rw [if_pos rfl, if_neg (by omega), if_pos hi]
theorem kf_10 {i : Nat} (hi : ¬ (i = 3 ∨ i = 4)) : keyOf 2 16 i = (10, 0, 0) := by
  unfold keyOf
  rw [if_pos rfl, if_neg (by omega), if_neg hi]
theorem e_4 {g : Gm} {M : Mem} {r c : Nat} {v : Vw} {o : Nat → Int64} : ent g (setR M r v) o (4, r, c) = .inl (gC g 0, alen c, .inl (v c)) := by
  show Sum.inl _ = _
  simp only [setR_same]
theorem p_4 {g : Gm} {M : Mem} {r c i : Nat} {v : Vw} {o : Nat → Int64} {x : Int32} : ent g (setR M r (up2 v c i x)) o (4, r, c) = .inl (gC g 0, alen c, .inl (upd (v c) i x)) := by
  rw [e_4, up2_upd]
theorem f_4 {g : Gm} {M : Mem} {r c : Nat} {o : Nat → Int64} : ent g M o (4, r, c) = .inl (gC g 0, alen c, .inl (M r c)) := rfl
theorem f_5 {g : Gm} {M : Mem} {r : Nat} {o : Nat → Int64} : ent g M o (5, r, 0) = .inl (gC g 1, 12, .inr (.inr (.inr (.inr (fun i => some (ad g (0, r, i))))))) := rfl
theorem f_6 {g : Gm} {M : Mem} {r : Nat} {o : Nat → Int64} : ent g M o (6, r, 0) = .inl (gC g 2, 8, .inr (.inr (.inr (.inr (fun i => some (ad g (1, r, i))))))) := rfl
theorem f_7 {g : Gm} {M : Mem} {r : Nat} {o : Nat → Int64} : ent g M o (7, r, 0) = .inl (gC g 3, 3, .inr (.inr (.inr (.inr (fun i => some (ad g (2, r, i))))))) := rfl
theorem f_8 {g : Gm} {M : Mem} {o : Nat → Int64} : ent g M o (8, 0, 0) = .inr (4, [.ref (ad g (3, 0, 0)), .ref (ad g (3, 1, 0))]) := rfl
theorem f_10 {g : Gm} {M : Mem} {o : Nat → Int64} : ent g M o (10, 0, 0) = .inr (6, [.int (M 2 16 5), .ref (ad g (4, 2, 1)), .ref (ad g (4, 2, 2)), .int (M 2 16 0), .ref (ad g (4, 2, 3)), .ref (ad g (4, 2, 4)), .int (M 2 16 1), .ref (ad g (4, 2, 6)), .ref (ad g (4, 2, 7)), .int (M 2 16 2), .ref (ad g (4, 2, 14)), .ref (ad g (9, 2, 0)), .ref (ad g (9, 3, 0))]) := rfl
theorem f_11 {g : Gm} {M : Mem} {o : Nat → Int64} : ent g M o (11, 0, 0) = .inl (gC g 4, 1, .inr (.inl o)) := rfl
end
section
/-! Words of the pictures; the loop; how each method is called. -/
def b2i (b : Bool) : Int32 := if b then 1 else 0
theorem b2i_t {b : Bool} (h : ¬ b2i b = 0) : b = true := by cases b <;> first | rfl | exact absurd rfl h
theorem b2i_f {b : Bool} (h : b2i b = 0) : b = false := by cases b <;> first | rfl | exact absurd h (by decide)
theorem b2i_0 {b : Bool} (h : b = false) : b2i b = 0 := by rw [h]; rfl
theorem b2i_1 {b : Bool} (h : b = true) : ¬ b2i b = 0 := by rw [h]; decide
theorem nar_b (b : Bool) : narrow .boolean (.int (b2i b)) = .int (b2i b) := by cases b <;> rfl
def isIn (v lo hi : Int32) : Bool := !decide (v < lo) && !decide (hi < v)
def isCell (x y : Int32) : Bool := isIn x 0 8 && isIn y 0 8
abbrev imax (x y : Int32) : Int32 := if x < y then y else x
abbrev imin (x y : Int32) : Int32 := if y < x then y else x
abbrev iabs (x : Int32) : Int32 := if 0 ≤ x then x else 0 - x
def far (x y a b : Int32) : Int32 := imax (iabs (x - a)) (iabs (y - b))
def it {α : Type} (f : Nat → α → α) : Nat → α → α
  | 0, x => x
  | n + 1, x => f n (it f n x)
theorem it_0 {α : Type} (f : Nat → α → α) (x : α) : it f 0 x = x := rfl
theorem it_s {α : Type} (f : Nat → α → α) (n : Nat) (x : α) : it f (n + 1) x = f n (it f n x) := rfl
theorem isIn_iff {v lo hi : Int32} : isIn v lo hi = true ↔ lo.toInt ≤ v.toInt ∧ v.toInt ≤ hi.toInt := by
  simp only [isIn, Bool.and_eq_true, Bool.not_eq_true', decide_eq_false_iff_not, Int32.lt_iff_toInt_lt]
  omega
/-- a number of 0 to n - 1 -/
theorem in_of {v hi : Int32} {n : Nat} (h : isIn v 0 hi = true) (e : hi.toInt + 1 = n) (hn : n < 2 ^ 31) : ∃ j : Nat, j < n ∧ v = nI j := by
  have h1 := isIn_iff.mp h
  rw [Int32.toInt_zero] at h1
  obtain ⟨j, hj, e1⟩ := nI_of (x := v) (by rw [Int32.lt_iff_toInt_lt, Int32.toInt_zero]; omega)
  subst e1
  rw [nI_toInt hj] at h1
  exact ⟨j, by omega, rfl⟩
theorem in_nI {j n : Nat} {hi : Int32} (hj : j < n) (e : hi.toInt + 1 = n) (hn : n < 2 ^ 31) : isIn (nI j) 0 hi = true := by
  rw [isIn_iff, Int32.toInt_zero, nI_toInt (by omega)]
  omega
section LW
variable {p : Program} {l : Launch} {e : Jvm.Env} {R : Room} {s : State} {m : MethodId} {args : Array Value} {below : List Frame} {meth : Method} {c : Code} {H : Heap} {locs : List Loc} {cells slots : Nat} {Q : State → Prop}
variable {nL pc : Nat} {ls : Array Slot} {rest : List Value} {g : Gm} {K : Key → Prop}
theorem m_top {x y : Int32} (h : x = y) (k : W p l e R s m args below meth c H locs cells slots Q (F0 m pc ls (.int y :: rest))) : W p l e R s m args below meth c H locs cells slots Q (F0 m pc ls (.int x :: rest)) := by rw [h]; exact k
theorem lp_W {i0 : Nat} (N : Nat) (en : Nat → Key → va_E) (lv : Nat → List (Nat × Value)) (J : Nat → Prop) (hi : i0 ≤ N) (hP : WPe g K (en i0) H) (hS : va_S (AA g) s.heap H locs) (hl : lv_has ls nL (lv i0)) (hJ : J i0)
    (hx : ∀ (H : Heap) (locs : List Loc) (ls : Array Slot), WPe g K (en N) H → va_S (AA g) s.heap H locs → lv_has ls nL (lv N) → J N → W p l e R s m args below meth c H locs cells slots Q (F0 m pc ls rest))
    (hs : ∀ i, i < N → (∀ (H : Heap) (locs : List Loc) (ls : Array Slot), WPe g K (en (i + 1)) H → va_S (AA g) s.heap H locs → lv_has ls nL (lv (i + 1)) → J (i + 1) → W p l e R s m args below meth c H locs cells slots Q (F0 m pc ls rest)) → ∀ (H : Heap) (locs : List Loc) (ls : Array Slot), WPe g K (en i) H → va_S (AA g) s.heap H locs → lv_has ls nL (lv i) → J i → W p l e R s m args below meth c H locs cells slots Q (F0 m pc ls rest)) : W p l e R s m args below meth c H locs cells slots Q (F0 m pc ls rest) :=
  lp_up (P := fun i => ∀ (H : Heap) (locs : List Loc) (ls : Array Slot), WPe g K (en i) H → va_S (AA g) s.heap H locs → lv_has ls nL (lv i) → J i → W p l e R s m args below meth c H locs cells slots Q (F0 m pc ls rest)) N hx hs i0 hi H locs ls hP hS hl hJ
end LW

theorem cal_X4_bears : CalV RX4 yX4_bears cX4_bears 3 (some .int) 0 := ⟨w_167, w_168, w_1, w_169, by decide +kernel⟩
theorem cal_X4_iceBears : CalS yX4_iceBears cX4_iceBears 1 (some .boolean) 1 := ⟨w_171, w_1, w_172, by decide +kernel⟩
theorem cal_X1_frostOf : CalV RX1 yX1_frostOf cX1_frostOf 2 (some .int) 1 := ⟨w_174, w_175, w_2, w_176, by decide +kernel⟩
theorem cal_J9_floorMod_7cf53 : CalS yJ9_floorMod_7cf53 cJ9_floorMod_7cf53 3 (some .int) 2 := ⟨w_178, w_14, w_179, by decide +kernel⟩
theorem cal_X4_iceBehind : CalS yX4_iceBehind cX4_iceBehind 2 (some .int) 2 := ⟨w_181, w_1, w_182, by decide +kernel⟩
theorem cal_X4_mean : CalV RX4 yX4_mean cX4_mean 3 (some .double) 0 := ⟨w_190, w_191, w_1, w_192, by decide +kernel⟩
theorem cal_X4_digest : CalV RX4 yX4_digest cX4_digest 5 (some .long) 0 := ⟨w_194, w_195, w_1, w_196, by decide +kernel⟩
theorem cal_X1_fact : CalV RX1 yX1_fact cX1_fact 2 (some .int) 1 := ⟨w_199, w_200, w_2, w_201, by decide +kernel⟩
theorem cal_X1_eelsOfLake : CalV RX1 yX1_eelsOfLake cX1_eelsOfLake 3 (some .int) 0 := ⟨w_205, ws_0, w_2, w_206, by decide +kernel⟩
theorem cal_X1_openHoles : CalV RX1 yX1_openHoles cX1_openHoles 3 (some .int) 0 := ⟨w_209, ws_1, w_2, w_210, by decide +kernel⟩
theorem cal_X1_eelsOfSpearers : CalV RX1 yX1_eelsOfSpearers cX1_eelsOfSpearers 3 (some .int) 0 := ⟨w_213, ws_2, w_2, w_214, by decide +kernel⟩
theorem cal_X1_finesOfSpearers : CalV RX1 yX1_finesOfSpearers cX1_finesOfSpearers 3 (some .int) 0 := ⟨w_217, ws_3, w_2, w_218, by decide +kernel⟩
theorem cal_X4_mixed : CalS yX4_mixed cX4_mixed 3 (some .long) 2 := ⟨w_220, w_1, w_221, by decide +kernel⟩
theorem cal_X4_digestOfCells : CalV RX4 yX4_digestOfCells cX4_digestOfCells 8 (some .long) 1 := ⟨w_225, ws_4, w_1, w_226, by decide +kernel⟩
theorem cal_X1_cellFact : CalV RX1 yX1_cellFact cX1_cellFact 5 (some .int) 3 := ⟨w_228, w_229, w_2, w_230, by decide +kernel⟩
theorem cal_X4_cellAt : CalS yX4_cellAt cX4_cellAt 2 (some .int) 2 := ⟨w_232, w_1, w_233, by decide +kernel⟩
theorem cal_X1_openHoleIn : CalV RX1 yX1_openHoleIn cX1_openHoleIn 5 (some .int) 2 := ⟨w_235, w_236, w_2, w_237, by decide +kernel⟩
theorem cal_X1_catchIn : CalV RX1 yX1_catchIn cX1_catchIn 3 (some .int) 1 := ⟨w_239, w_240, w_2, w_241, by decide +kernel⟩
theorem cal_X1_holeFact : CalV RX1 yX1_holeFact cX1_holeFact 3 (some .int) 2 := ⟨w_245, w_246, w_2, w_247, by decide +kernel⟩
theorem cal_X1_spearersAt : CalV RX1 yX1_spearersAt cX1_spearersAt 4 (some .int) 1 := ⟨w_250, ws_5, w_2, w_251, by decide +kernel⟩
theorem cal_X1_nearestWardenTo : CalV RX1 yX1_nearestWardenTo cX1_nearestWardenTo 5 (some .int) 1 := ⟨w_254, ws_6, w_2, w_255, by decide +kernel⟩
theorem cal_X4_distance : CalS yX4_distance cX4_distance 4 (some .int) 4 := ⟨w_257, w_1, w_258, by decide +kernel⟩
theorem cal_X4_digestOfPeople : CalV RX4 yX4_digestOfPeople cX4_digestOfPeople 7 (some .long) 1 := ⟨w_264, ws_7, w_1, w_265, by decide +kernel⟩
theorem cal_X2_tell : CalV RX2 yX2_tell cX2_tell 2 (some .int) 1 := ⟨w_267, w_268, w_4, w_269, by decide +kernel⟩
theorem cal_X3_tell : CalV RX3 yX3_tell cX3_tell 2 (some .int) 1 := ⟨w_271, w_272, w_5, w_273, by decide +kernel⟩
theorem cal_X4_set : CalV RX4 yX4_set cX4_set 7 (some .int) 4 := ⟨w_280, w_281, w_1, w_282, by decide +kernel⟩
theorem cal_X4_isCell : CalS yX4_isCell cX4_isCell 2 (some .boolean) 2 := ⟨w_284, w_1, w_285, by decide +kernel⟩
theorem cal_X4_isWithin : CalS yX4_isWithin cX4_isWithin 3 (some .boolean) 3 := ⟨w_287, w_1, w_288, by decide +kernel⟩
theorem cal_X4_setFrost : CalV RX4 yX4_setFrost cX4_setFrost 4 (some .int) 2 := ⟨w_378, w_379, w_1, w_380, by decide +kernel⟩
theorem cal_X4_cut : CalV RX4 yX4_cut cX4_cut 3 (some .int) 2 := ⟨w_388, w_389, w_1, w_390, by decide +kernel⟩
theorem cal_X1_addHole : CalV RX1 yX1_addHole cX1_addHole 4 (some .int) 2 := ⟨w_411, w_412, w_2, w_413, by decide +kernel⟩
theorem cal_X4_license : CalV RX4 yX4_license cX4_license 3 (some .int) 2 := ⟨w_418, w_419, w_1, w_420, by decide +kernel⟩
theorem cal_X1_addSpearer : CalV RX1 yX1_addSpearer cX1_addSpearer 4 (some .int) 2 := ⟨w_424, w_425, w_2, w_426, by decide +kernel⟩
theorem cal_X4_go : CalV RX4 yX4_go cX4_go 5 (some .int) 2 := ⟨w_431, w_432, w_1, w_433, by decide +kernel⟩
theorem cal_X1_hasSpearer : CalV RX1 yX1_hasSpearer cX1_hasSpearer 2 (some .boolean) 1 := ⟨w_435, w_436, w_2, w_437, by decide +kernel⟩
theorem cal_X1_hasHole : CalV RX1 yX1_hasHole cX1_hasHole 2 (some .boolean) 1 := ⟨w_441, w_442, w_2, w_443, by decide +kernel⟩
theorem cal_X4_warden : CalV RX4 yX4_warden cX4_warden 4 (some .int) 3 := ⟨w_450, w_451, w_1, w_452, by decide +kernel⟩
theorem cal_X1_addWarden : CalV RX1 yX1_addWarden cX1_addWarden 5 (some .int) 3 := ⟨w_456, w_457, w_2, w_458, by decide +kernel⟩
theorem cal_X4_cell : CalV RX4 yX4_cell cX4_cell 4 (some .int) 3 := ⟨w_463, w_464, w_1, w_465, by decide +kernel⟩
theorem cal_X4_hole : CalV RX4 yX4_hole cX4_hole 3 (some .int) 2 := ⟨w_471, w_472, w_1, w_473, by decide +kernel⟩
theorem cal_X4_spearer : CalV RX4 yX4_spearer cX4_spearer 3 (some .int) 2 := ⟨w_479, w_480, w_1, w_481, by decide +kernel⟩
theorem cal_X4_about : CalV RX4 yX4_about cX4_about 3 (some .int) 2 := ⟨w_487, w_488, w_1, w_489, by decide +kernel⟩
theorem cal_X1_hasWarden : CalV RX1 yX1_hasWarden cX1_hasWarden 2 (some .boolean) 1 := ⟨w_491, w_492, w_2, w_493, by decide +kernel⟩
theorem cal_X4_count : CalV RX4 yX4_count cX4_count 2 (some .int) 1 := ⟨w_499, w_500, w_1, w_501, by decide +kernel⟩
theorem cal_X4_pass : CalV RX4 yX4_pass cX4_pass 2 (some .int) 1 := ⟨w_507, w_508, w_1, w_509, by decide +kernel⟩
theorem cal_X1_letNightsGo : CalV RX1 yX1_letNightsGo cX1_letNightsGo 4 (some .int) 1 := ⟨w_512, w_513, w_2, w_514, by decide +kernel⟩
theorem cal_X1_lightLamps : CalV RX1 yX1_lightLamps cX1_lightLamps 3 none 0 := ⟨w_517, ws_9, w_2, w_518, by decide +kernel⟩
theorem cal_X1_lure : CalV RX1 yX1_lure cX1_lure 10 none 2 := ⟨w_522, ws_10, w_2, w_523, by decide +kernel⟩
theorem cal_X1_moveEels : CalV RX1 yX1_moveEels cX1_moveEels 5 none 2 := ⟨w_526, ws_11, w_2, w_527, by decide +kernel⟩
theorem cal_X1_spearEels : CalV RX1 yX1_spearEels cX1_spearEels 5 none 0 := ⟨w_530, ws_12, w_2, w_531, by decide +kernel⟩
theorem cal_X1_sendWardens : CalV RX1 yX1_sendWardens cX1_sendWardens 5 none 0 := ⟨w_534, ws_13, w_2, w_535, by decide +kernel⟩
theorem cal_X1_nearestOffence : CalV RX1 yX1_nearestOffence cX1_nearestOffence 6 (some .int) 1 := ⟨w_538, ws_14, w_2, w_539, by decide +kernel⟩
theorem cal_X1_hasOffender : CalV RX1 yX1_hasOffender cX1_hasOffender 3 (some .boolean) 1 := ⟨w_542, ws_15, w_2, w_543, by decide +kernel⟩
theorem cal_X2_tookTooMuch : CalV RX2 yX2_tookTooMuch cX2_tookTooMuch 1 (some .boolean) 0 := ⟨w_545, w_546, w_4, w_547, by decide +kernel⟩
theorem cal_X3_goTowards : CalV RX3 yX3_goTowards cX3_goTowards 3 none 1 := ⟨w_549, w_550, w_5, w_551, by decide +kernel⟩
theorem cal_J6_compare_7cf53 : CalS yJ6_compare_7cf53 cJ6_compare_7cf53 2 (some .int) 2 := ⟨w_553, w_15, w_554, by decide +kernel⟩
theorem cal_X1_fineAllAt : CalV RX1 yX1_fineAllAt cX1_fineAllAt 7 none 2 := ⟨w_557, ws_16, w_2, w_558, by decide +kernel⟩
theorem cal_X1_keepCatches : CalV RX1 yX1_keepCatches cX1_keepCatches 3 (some .int) 0 := ⟨w_561, ws_17, w_2, w_562, by decide +kernel⟩
theorem cal_X1_breedEels : CalV RX1 yX1_breedEels cX1_breedEels 2 none 0 := ⟨w_565, ws_18, w_2, w_566, by decide +kernel⟩
theorem cal_X1_freeze : CalV RX1 yX1_freeze cX1_freeze 2 none 0 := ⟨w_569, ws_19, w_2, w_570, by decide +kernel⟩
theorem cal_X1_closeAllHoles : CalV RX1 yX1_closeAllHoles cX1_closeAllHoles 2 none 0 := ⟨w_575, ws_20, w_2, w_576, by decide +kernel⟩
theorem cal_X1_closeEmptyHoles : CalV RX1 yX1_closeEmptyHoles cX1_closeEmptyHoles 2 none 0 := ⟨w_579, ws_21, w_2, w_580, by decide +kernel⟩
theorem cal_X4_foresee : CalV RX4 yX4_foresee cX4_foresee 3 (some .int) 2 := ⟨w_585, w_586, w_1, w_587, by decide +kernel⟩
theorem cal_X4_isForeseen : CalS yX4_isForeseen cX4_isForeseen 1 (some .boolean) 1 := ⟨w_589, w_1, w_590, by decide +kernel⟩
theorem cal_X1_become : CalV RX1 yX1_become cX1_become 3 none 1 := ⟨w_593, w_594, w_2, w_595, by decide +kernel⟩
theorem cal_X0_become : CalV RX0 yX0_become cX0_become 2 none 1 := ⟨w_597, w_598, w_3, w_599, by decide +kernel⟩
theorem cal_X2_become : CalV RX2 yX2_become cX2_become 2 none 1 := ⟨w_601, w_602, w_4, w_603, by decide +kernel⟩
theorem cal_X3_become : CalV RX3 yX3_become cX3_become 2 none 1 := ⟨w_605, w_606, w_5, w_607, by decide +kernel⟩
theorem cal_X4_advise : CalV RX4 yX4_advise cX4_advise 6 (some .int) 1 := ⟨w_612, w_613, w_1, w_614, by decide +kernel⟩
theorem cal_X4_eelsIfAt : CalV RX4 yX4_eelsIfAt cX4_eelsIfAt 3 (some .int) 2 := ⟨w_617, ws_22, w_1, w_618, by decide +kernel⟩
theorem cal_X6_thrown : CalV RX6 yX6_thrown cX6_thrown 1 (some .int) 0 := ⟨w_730, w_731, w_6, w_732, by decide +kernel⟩
theorem cal_X6_set : CalV RX6 yX6_set cX6_set 7 (some .int) 4 := ⟨w_734, w_735, w_6, w_736, by decide +kernel⟩
theorem cal_X6_isCell : CalS yX6_isCell cX6_isCell 2 (some .boolean) 2 := ⟨w_738, w_6, w_739, by decide +kernel⟩
theorem cal_X6_isIn : CalS yX6_isIn cX6_isIn 3 (some .boolean) 3 := ⟨w_741, w_6, w_742, by decide +kernel⟩
theorem cal_X6_no : CalV RX6 yX6_no cX6_no 2 (some .int) 1 := ⟨w_745, ws_23, w_6, w_746, by decide +kernel⟩
theorem cal_X6_setFrost : CalV RX6 yX6_setFrost cX6_setFrost 4 (some .int) 2 := ⟨w_748, w_749, w_6, w_750, by decide +kernel⟩
theorem cal_X6_cut : CalV RX6 yX6_cut cX6_cut 3 (some .int) 2 := ⟨w_752, w_753, w_6, w_754, by decide +kernel⟩
theorem cal_X6_holeIn : CalV RX6 yX6_holeIn cX6_holeIn 3 (some .int) 1 := ⟨w_757, ws_24, w_6, w_758, by decide +kernel⟩
theorem cal_X6_cellOf : CalV RX6 yX6_cellOf cX6_cellOf 2 (some .int) 1 := ⟨w_761, ws_25, w_6, w_762, by decide +kernel⟩
theorem cal_X6_license : CalV RX6 yX6_license cX6_license 3 (some .int) 2 := ⟨w_764, w_765, w_6, w_766, by decide +kernel⟩
theorem cal_X6_go : CalV RX6 yX6_go cX6_go 4 (some .int) 2 := ⟨w_768, w_769, w_6, w_770, by decide +kernel⟩
theorem cal_X6_isSpearer : CalV RX6 yX6_isSpearer cX6_isSpearer 2 (some .boolean) 1 := ⟨w_773, ws_26, w_6, w_774, by decide +kernel⟩
theorem cal_X6_isHole : CalV RX6 yX6_isHole cX6_isHole 2 (some .boolean) 1 := ⟨w_777, ws_27, w_6, w_778, by decide +kernel⟩
theorem cal_X6_warden : CalV RX6 yX6_warden cX6_warden 4 (some .int) 3 := ⟨w_780, w_781, w_6, w_782, by decide +kernel⟩
theorem cal_X6_cell : CalV RX6 yX6_cell cX6_cell 4 (some .int) 3 := ⟨w_784, w_785, w_6, w_786, by decide +kernel⟩
theorem cal_X6_cellTold : CalV RX6 yX6_cellTold cX6_cellTold 3 (some .int) 2 := ⟨w_789, ws_28, w_6, w_790, by decide +kernel⟩
theorem cal_X5_would : CalV RX5 yX5_would cX5_would 2 (some .int) 1 := ⟨w_792, w_793, w_7, w_794, by decide +kernel⟩
theorem cal_X6_hole : CalV RX6 yX6_hole cX6_hole 3 (some .int) 2 := ⟨w_798, w_799, w_6, w_800, by decide +kernel⟩
theorem cal_X6_holeTold : CalV RX6 yX6_holeTold cX6_holeTold 3 (some .int) 2 := ⟨w_803, ws_29, w_6, w_804, by decide +kernel⟩
theorem cal_X5_spearersAt : CalV RX5 yX5_spearersAt cX5_spearersAt 4 (some .int) 1 := ⟨w_806, w_807, w_7, w_808, by decide +kernel⟩
theorem cal_X6_nearest : CalV RX6 yX6_nearest cX6_nearest 4 (some .int) 1 := ⟨w_811, ws_30, w_6, w_812, by decide +kernel⟩
theorem cal_X5_farFrom : CalV RX5 yX5_farFrom cX5_farFrom 3 (some .int) 2 := ⟨w_814, w_815, w_7, w_816, by decide +kernel⟩
theorem cal_X6_far : CalS yX6_far cX6_far 4 (some .int) 4 := ⟨w_818, w_6, w_819, by decide +kernel⟩
theorem cal_X6_spearer : CalV RX6 yX6_spearer cX6_spearer 3 (some .int) 2 := ⟨w_823, w_824, w_6, w_825, by decide +kernel⟩
theorem cal_X6_spearerTold : CalV RX6 yX6_spearerTold cX6_spearerTold 3 (some .int) 2 := ⟨w_828, ws_31, w_6, w_829, by decide +kernel⟩
theorem cal_X6_about : CalV RX6 yX6_about cX6_about 3 (some .int) 2 := ⟨w_831, w_832, w_6, w_833, by decide +kernel⟩
theorem cal_X6_wardenTold : CalV RX6 yX6_wardenTold cX6_wardenTold 3 (some .int) 2 := ⟨w_836, ws_32, w_6, w_837, by decide +kernel⟩
theorem cal_X6_count : CalV RX6 yX6_count cX6_count 2 (some .int) 1 := ⟨w_839, w_840, w_6, w_841, by decide +kernel⟩
theorem cal_X5_count : CalV RX5 yX5_count cX5_count 2 (some .int) 1 := ⟨w_843, w_844, w_7, w_845, by decide +kernel⟩
theorem cal_X5_sum : CalV RX5 yX5_sum cX5_sum 5 (some .int) 2 := ⟨w_848, ws_33, w_7, w_849, by decide +kernel⟩
theorem cal_X6_pass : CalV RX6 yX6_pass cX6_pass 2 (some .int) 1 := ⟨w_851, w_852, w_6, w_853, by decide +kernel⟩
theorem cal_X5_pass_ : CalV RX5 yX5_pass_ cX5_pass_ 4 (some .int) 1 := ⟨w_855, w_856, w_7, w_857, by decide +kernel⟩
theorem cal_X5_pass : CalV RX5 yX5_pass cX5_pass 3 (some .int) 0 := ⟨w_859, w_860, w_7, w_861, by decide +kernel⟩
theorem cal_X5_lure : CalV RX5 yX5_lure cX5_lure 7 none 1 := ⟨w_864, ws_34, w_7, w_865, by decide +kernel⟩
theorem cal_X5_spear : CalV RX5 yX5_spear cX5_spear 3 none 1 := ⟨w_868, ws_35, w_7, w_869, by decide +kernel⟩
theorem cal_X5_guard : CalV RX5 yX5_guard cX5_guard 5 none 1 := ⟨w_874, ws_36, w_7, w_875, by decide +kernel⟩
theorem cal_X5_goal : CalV RX5 yX5_goal cX5_goal 7 (some .int) 1 := ⟨w_878, ws_37, w_7, w_879, by decide +kernel⟩
theorem cal_X5_isOver : CalV RX5 yX5_isOver cX5_isOver 3 (some .boolean) 2 := ⟨w_882, ws_38, w_7, w_883, by decide +kernel⟩
theorem cal_J6_signum_0f7a4 : CalS yJ6_signum_0f7a4 cJ6_signum_0f7a4 1 (some .int) 1 := ⟨w_886, w_15, w_887, by decide +kernel⟩
theorem cal_X5_freeze : CalV RX5 yX5_freeze cX5_freeze 3 none 0 := ⟨w_891, ws_39, w_7, w_892, by decide +kernel⟩
theorem cal_X6_bears : CalV RX6 yX6_bears cX6_bears 3 (some .int) 0 := ⟨w_895, w_896, w_6, w_897, by decide +kernel⟩
theorem cal_X6_foresee : CalV RX6 yX6_foresee cX6_foresee 3 (some .int) 2 := ⟨w_900, w_901, w_6, w_902, by decide +kernel⟩
theorem cal_X5_become : CalV RX5 yX5_become cX5_become 2 none 1 := ⟨w_904, w_905, w_7, w_906, by decide +kernel⟩
theorem cal_X5_copy : CalV RX5 yX5_copy cX5_copy 3 none 2 := ⟨w_909, ws_40, w_7, w_910, by decide +kernel⟩
theorem cal_X6_advise : CalV RX6 yX6_advise cX6_advise 5 (some .int) 1 := ⟨w_915, w_916, w_6, w_917, by decide +kernel⟩
theorem cal_X6_mean : CalV RX6 yX6_mean cX6_mean 1 (some .double) 0 := ⟨w_919, w_920, w_6, w_921, by decide +kernel⟩
theorem cal_X6_digest : CalV RX6 yX6_digest cX6_digest 7 (some .long) 0 := ⟨w_924, w_925, w_6, w_926, by decide +kernel⟩
section MOF
variable {l : Launch} {y : MethodName} {b : ByteArray} {n : Nat} {ret : Option FieldType} {R : Room} {g : Gm} {K : Key → Prop} {en : Key → va_E} {av : List Value} {Qc : Array Value → State → Outcome → State → Prop}
/-- the entry of a method of java.lang.Math that no entry of the table of natives overrides -/
theorem met_ofF (hy : plainFor y = true) (hn : (lg_sl av).length ≤ n)
    (body : ∀ (p : Program) (e : Jvm.Env) (s : State) (m : MethodId) (below : List Frame) (meth : Method) (c : Code) (ls : Array Slot), CallFix p m c b n s av.toArray LG y.cls → meth.sig.returnType = ret → meth.locks = false → meth.name = y.name → Ev g s → WPe g K en s.heap → va_S (AA g) s.heap s.heap [] → lv_has ls n (lv_args 0 av) →
      W p l e R s m av.toArray below meth c s.heap [] 0 0 (MQ below Qc av.toArray s R.cells R.slots (AA g)) (F0 m 0 ls [])) : Met l y (wy y b n ret) R (Pd g K en av) Qc R.cells R.slots (AA g) := by
  refine MetFree.of_bodySF (code := b) (maxLocals := n) (ret := ret) hy ?_ ?_
  · intro args s m h hn
    obtain ⟨meth, c, h1, h2, h3, h4, h5, h6, -, -⟩ := Cond.code_spec hn (atoms_spec (ws := wy y b n ret) h _ List.mem_cons_self)
    exact ⟨meth, c, h1, h2, h3, h4, h5, h6⟩
  · intro p e s m args below meth c s₁ B hml hv _
    have hh0 : s₁.heap = s.heap := by rw [B.state]; rfl
    obtain ⟨rfl, hE, hP⟩ := hv
    have hts := atoms_spec (ws := wy y b n ret) B.pre
    have hl := lv_entry av (n := n) hn
    have k := body p e s m below meth c _ ⟨B.exec, B.bytes, hml, findClass_of_methodNamed B.named, fun w hw => hts w (List.mem_cons_of_mem _ hw)⟩ B.returns B.notSynchronized (name_of_methodNamed B.named B.method).1 hE hP va_S.rf hl
    rw [← lg_entry_eq] at k
    obtain ⟨t, a1, o, b1, b2, b3⟩ := k s₁ hh0 (Stand.of_body B)
    exact ⟨t, o, a1, b1, b2, ⟨b3.1, b3.2⟩⟩
end MOF
end
section
/-! What a lake is, and how a night goes, over views. Components: 0 eels, 1 mud, 2 frost, 3 hole x, 4 hole y, 5 open, 6 permit, 7 light, 8 at, 9 caught, 10 all, 11 fines, 12 warden x, 13 warden y, 14 pace, 15 given, 16: holes, spearers, wardens, ice, night. -/
def bear (x : Int32) : Bool := !decide (x < 5)
def ice2 (x y : Int32) : Int32 := imax 0 (imin 90 (x + y))
def mix (d : Int64) (x : Int32) : Int64 := d * 31 + x.toInt64
def cmp3 (a b : Int32) : Int32 := if a < b then -1 else if a = b then 0 else 1
def nH (v : Vw) : Nat := (v 16 0).toNatClampNeg
def nS (v : Vw) : Nat := (v 16 1).toNatClampNeg
def nW (v : Vw) : Nat := (v 16 2).toNatClampNeg
def tt (v : Vw) : Nat := (v 16 4).toNatClampNeg
def lt9 (x : Int32) : Prop := ∃ j : Nat, j < 9 ∧ x = nI j
def IH (v : Vw) (h : Nat) : Prop := lt9 (v 3 h) ∧ lt9 (v 4 h) ∧ (v 5 h = 0 ∨ v 5 h = 1)
def IS (v : Vw) (k : Nat) : Prop := (v 8 k = -1 ∨ ∃ h, h < nH v ∧ v 8 k = nI h) ∧ (∃ j : Nat, j < 5 ∧ v 7 k = nI j) ∧ (∃ j : Nat, j < 31 ∧ v 6 k = nI j) ∧ ∃ j : Nat, j ≤ 60 ∧ v 9 k = nI j
def IW (v : Vw) (w : Nat) : Prop := lt9 (v 12 w) ∧ lt9 (v 13 w)
def IC (v : Vw) (c : Nat) : Prop := ∃ j : Nat, j ≤ 60 ∧ v 0 c = nI j
def Inv (v : Vw) : Prop := (v 16 0 = nI (nH v) ∧ nH v ≤ 12) ∧ (v 16 1 = nI (nS v) ∧ nS v ≤ 8) ∧ (v 16 2 = nI (nW v) ∧ nW v ≤ 3) ∧ (∀ h, h < nH v → IH v h) ∧ (∀ k, k < nS v → IS v k) ∧ (∀ w, w < nW v → IW v w) ∧ ∀ c, c < 81 → IC v c
theorem Inv.eH {v : Vw} (h : Inv v) : v 16 0 = nI (nH v) := h.1.1
theorem Inv.lH {v : Vw} (h : Inv v) : nH v ≤ 12 := h.1.2
theorem Inv.eS {v : Vw} (h : Inv v) : v 16 1 = nI (nS v) := h.2.1.1
theorem Inv.lS {v : Vw} (h : Inv v) : nS v ≤ 8 := h.2.1.2
theorem Inv.eW {v : Vw} (h : Inv v) : v 16 2 = nI (nW v) := h.2.2.1.1
theorem Inv.lW {v : Vw} (h : Inv v) : nW v ≤ 3 := h.2.2.1.2
theorem Inv.hH {v : Vw} (h : Inv v) : ∀ i, i < nH v → IH v i := h.2.2.2.1
theorem Inv.hS {v : Vw} (h : Inv v) : ∀ k, k < nS v → IS v k := h.2.2.2.2.1
theorem Inv.hW {v : Vw} (h : Inv v) : ∀ k, k < nW v → IW v k := h.2.2.2.2.2.1
theorem Inv.hC {v : Vw} (h : Inv v) : ∀ c, c < 81 → IC v c := h.2.2.2.2.2.2
theorem lt9_cl {x : Int32} (h : lt9 x) : x = nI x.toNatClampNeg ∧ x.toNatClampNeg < 9 := by
  obtain ⟨j, hj, rfl⟩ := h
  rw [nI_clamp (by omega)]
  exact ⟨rfl, hj⟩
def sumI (f : Nat → Int32) : Nat → Int32
  | 0 => 0
  | n + 1 => sumI f n + f n
def anyB (p : Nat → Bool) : Nat → Bool
  | 0 => false
  | n + 1 => anyB p n || p n
/-- the first place of n that has p, or -1 -/
def fst1 (p : Nat → Bool) : Nat → Int32
  | 0 => -1
  | n + 1 => if anyB p n = true then fst1 p n else if p n = true then nI n else -1
theorem anyB_no {p : Nat → Bool} : ∀ {n : Nat}, (∀ j, j < n → p j = false) → anyB p n = false
  | 0, _ => rfl
  | n + 1, h => by
    show (anyB p n || p n) = false
    rw [anyB_no (fun j hj => h j (by omega)), h n (by omega)]; rfl
theorem anyB_yes {p : Nat → Bool} : ∀ {n i : Nat}, i < n → p i = true → anyB p n = true
  | 0, _, h, _ => absurd h (Nat.not_lt_zero _)
  | n + 1, i, h, hp => by
    show (anyB p n || p n) = true
    rcases Nat.lt_or_ge i n with q | q
    · rw [anyB_yes q hp]; rfl
    · have e : i = n := by omega
      subst e
      rw [hp, Bool.or_true]
theorem anyB_iff {p : Nat → Bool} : ∀ {n : Nat}, anyB p n = true ↔ ∃ i, i < n ∧ p i = true
  | 0 => ⟨fun h => Bool.noConfusion h, fun ⟨i, h, _⟩ => absurd h (Nat.not_lt_zero _)⟩
  | n + 1 => by
    constructor
    · intro h
      have h : (anyB p n || p n) = true := h
      rw [Bool.or_eq_true] at h
      rcases h with h | h
      · obtain ⟨i, a, b⟩ := anyB_iff.mp h
        exact ⟨i, by omega, b⟩
      · exact ⟨n, by omega, h⟩
    · rintro ⟨i, a, b⟩
      exact anyB_yes a b
theorem anyB_congr {p q : Nat → Bool} : ∀ {n : Nat}, (∀ j, j < n → p j = q j) → anyB p n = anyB q n
  | 0, _ => rfl
  | n + 1, h => by
    show (anyB p n || p n) = (anyB q n || q n)
    rw [anyB_congr (fun j hj => h j (by omega)), h n (by omega)]
theorem fst1_no {p : Nat → Bool} : ∀ {n : Nat}, (∀ j, j < n → p j = false) → fst1 p n = -1
  | 0, _ => rfl
  | n + 1, h => by
    show (if anyB p n = true then fst1 p n else if p n = true then nI n else -1) = -1
    rw [anyB_no (fun j hj => h j (by omega)), h n (by omega)]; rfl
theorem fst1_yes {p : Nat → Bool} {i : Nat} (h1 : ∀ j, j < i → p j = false) (h2 : p i = true) : ∀ {n : Nat}, i < n → fst1 p n = nI i
  | 0, h => absurd h (Nat.not_lt_zero _)
  | n + 1, h => by
    show (if anyB p n = true then fst1 p n else if p n = true then nI n else -1) = nI i
    rcases Nat.lt_or_ge i n with q | q
    · rw [if_pos (anyB_yes q h2)]
      exact fst1_yes h1 h2 q
    · have e : i = n := by omega
      subst e
      rw [anyB_no h1, h2]; rfl
theorem sumI_congr {f g : Nat → Int32} : ∀ {n : Nat}, (∀ j, j < n → f j = g j) → sumI f n = sumI g n
  | 0, _ => rfl
  | n + 1, h => by
    show sumI f n + f n = sumI g n + g n
    rw [sumI_congr (fun j hj => h j (by omega)), h n (by omega)]
theorem it_keep {f : Nat → Vw → Vw} {c i : Nat} (h : ∀ k v, f k v c i = v c i) : ∀ (n : Nat) (v : Vw), it f n v c i = v c i
  | 0, _ => rfl
  | n + 1, v => (h n _).trans (it_keep h n v)
theorem it_inv {α : Type} {f : Nat → α → α} {P : α → Prop} {N : Nat} (h : ∀ k v, k < N → P v → P (f k v)) : ∀ (n : Nat) (v : α), n ≤ N → P v → P (it f n v)
  | 0, _, _, hv => hv
  | n + 1, v, hn, hv => h n _ (by omega) (it_inv h n v (by omega) hv)
def bearV (v : Vw) : Bool := bear (v 16 3)
def opn (v : Vw) (x y : Int32) (h : Nat) : Bool := !decide (v 5 h = 0) && (decide (v 3 h = x) && decide (v 4 h = y))
def openIn (v : Vw) (x y : Int32) : Int32 := fst1 (opn v x y) (nH v)
def would (v : Vw) (c : Nat) : Int32 := imax 0 (imin (v 0 c) (v 0 c / 2 + 1 - v 1 c))
def come (v : Vw) (c own : Nat) : Int32 := imin (imin 2 (v 0 c)) (60 - v 0 own)
def mvc (c own : Nat) (v : Vw) : Vw := up2 (up2 v 0 c (v 0 c - come v c own)) 0 own (up2 v 0 c (v 0 c - come v c own) 0 own + come v c own)
def cl (v : Vw) (h : Nat) : Nat := 9 * (v 4 h).toNatClampNeg + (v 3 h).toNatClampNeg
def hol (v : Vw) (k : Nat) : Nat := (v 8 k).toNatClampNeg
def lurC (own : Nat) (x y lt : Int32) (c : Nat) (v : Vw) : Vw := if c = own ∨ lt < far (nI (c % 9)) (nI (c / 9)) x y then v else mvc c own v
def lurA (h : Nat) (lt : Int32) (v : Vw) : Vw := it (lurC (cl v h) (v 3 h) (v 4 h) lt) 81 v
def lur (k : Nat) (v : Vw) : Vw := if v 8 k = -1 then v else lurA (hol v k) (v 7 k) v
def spr (k : Nat) (v : Vw) : Vw := if v 8 k = -1 then up2 v 9 k 0 else up2 (up2 (up2 v 9 k 0) 9 k (would v (cl v (hol v k)))) 0 (cl v (hol v k)) (v 0 (cl v (hol v k)) - would v (cl v (hol v k)))
def ovr (v : Vw) (h k : Nat) : Bool := decide (v 8 k = nI h) && decide (v 6 k < v 9 k)
def farW (v : Vw) (w h : Nat) : Int32 := far (v 12 w) (v 13 w) (v 3 h) (v 4 h)
def golS (v : Vw) (w h : Nat) (q : Int32 × Int32) : Int32 × Int32 := if anyB (ovr v h) (nS v) = true ∧ farW v w h < q.2 then (nI h, farW v w h) else q
def gol (v : Vw) (w : Nat) : Int32 := (it (golS v w) (nH v) (-1, 9)).1
def stp (w h : Nat) (v : Vw) : Vw := up2 (up2 v 12 w (v 12 w + cmp3 (v 3 h) (v 12 w))) 13 w (v 13 w + cmp3 (v 4 h) (v 13 w))
def mov (w h : Nat) (v : Vw) : Vw := it (fun _ u => stp w h u) (v 14 w).toNatClampNeg v
def fin1 (w h c k : Nat) (v : Vw) : Vw := if ovr v h k = true then up2 (up2 (up2 (up2 v 0 c (imin 60 (v 0 c + v 9 k - v 6 k))) 9 k (v 6 k)) 11 k (v 11 k + 1)) 15 w (v 15 w + 1) else v
def finA (w h : Nat) (v : Vw) : Vw := it (fin1 w h (cl v h)) (nS v) v
def gua (w : Nat) (v : Vw) : Vw := if gol v w = -1 then v else if 0 < farW (mov w (gol v w).toNatClampNeg v) w (gol v w).toNatClampNeg then mov w (gol v w).toNatClampNeg v else finA w (gol v w).toNatClampNeg (mov w (gol v w).toNatClampNeg v)
def kep (k : Nat) (v : Vw) : Vw := up2 v 10 k (v 10 k + v 9 k)
def bre (c : Nat) (v : Vw) : Vw := if isIn (v 0 c) 1 40 = true then up2 v 0 c (v 0 c + (v 0 c / 10 + 1)) else v
def spAt (v : Vw) (h : Int32) : Int32 := sumI (fun k => if v 8 k = h then 1 else 0) (nS v)
def frostN (v : Vw) : Int32 := v 2 (tt v % 7)
def iceN (v : Vw) : Int32 := ice2 (v 16 3) (frostN v)
def frz (v : Vw) : Vw := fun c j => if c = 16 ∧ j = 3 then iceN v else if c = 5 ∧ j < nH v ∧ (iceN v < 5 ∨ (0 < frostN v ∧ spAt v (nI j) = 0)) then 0 else if c = 8 ∧ j < nS v ∧ iceN v < 5 then -1 else v c j
def nig (v : Vw) : Vw := up2 v 16 4 (v 16 4 + 1)
def lam (v : Vw) : Vw := it lur (nS v) v
def spe (v : Vw) : Vw := it spr (nS v) v
def sen (v : Vw) : Vw := it gua (nW v) v
def kepA (v : Vw) : Vw := it kep (nS v) v
def breA (v : Vw) : Vw := it bre 81 v
def pre1 (v : Vw) : Vw := sen (spe (lam v))
def day (v : Vw) : Vw := nig (frz (breA (kepA (pre1 v))))
def got1 (v : Vw) : Int32 := sumI (pre1 v 9) (nS v)
def days (n : Nat) (v : Vw) : Vw := it (fun _ => day) n v
def gots (n : Nat) (v : Vw) : Int32 := sumI (fun i => got1 (days i v)) n
def near (v : Vw) (h : Nat) : Int32 := it (fun w q => if q = -1 ∨ farW v w h < q then farW v w h else q) (nW v) (-1)
def cellF (v : Vw) (x y : Nat) (what : Int32) : Int32 := if what = 0 then v 0 (9 * y + x) else if what = 1 then v 1 (9 * y + x) else if what = 2 then openIn v (nI x) (nI y) else would v (9 * y + x)
def holeF (v : Vw) (h : Nat) (what : Int32) : Int32 := if what = 0 then v 3 h else if what = 1 then v 4 h else if what = 2 then v 5 h else if what = 3 then spAt v (nI h) else near v h
def sprF (v : Vw) (k : Nat) (what : Int32) : Int32 := if what = 0 then v 6 k else if what = 1 then v 7 k else if what = 2 then v 8 k else if what = 3 then v 9 k else if what = 4 then v 10 k else v 11 k
def warF (v : Vw) (w : Nat) (what : Int32) : Int32 := if what = 0 then v 12 w else if what = 1 then v 13 w else if what = 2 then v 14 w else v 15 w
def factF (v : Vw) (what : Int32) : Int32 := if what = 0 then v 16 4 else if what = 1 then v 16 3 else if what = 2 then b2i (bear (v 16 3)) else if what = 3 then sumI (v 0) 81 else if what = 4 then v 16 0 else if what = 5 then sumI (v 5) (nH v) else if what = 6 then v 16 1 else if what = 7 then sumI (v 10) (nS v) else sumI (v 11) (nS v)
end
section
/-! the static methods -/
theorem dX4_isWithin_0 : decode cX4_isWithin 0 = .ok (.iload_n 0, 1) := by decide +kernel
theorem dX4_isWithin_1 : decode cX4_isWithin 1 = .ok (.iload_n 1, 1) := by decide +kernel
theorem dX4_isWithin_2 : decode cX4_isWithin 2 = .ok (.if_icmp .lt 12, 3) := by decide +kernel
theorem dX4_isWithin_5 : decode cX4_isWithin 5 = .ok (.iload_n 0, 1) := by decide +kernel
theorem dX4_isWithin_6 : decode cX4_isWithin 6 = .ok (.iload_n 2, 1) := by decide +kernel
theorem dX4_isWithin_7 : decode cX4_isWithin 7 = .ok (.if_icmp .gt 7, 3) := by decide +kernel
theorem dX4_isWithin_10 : decode cX4_isWithin 10 = .ok (.iconst 1, 1) := by decide +kernel
theorem dX4_isWithin_11 : decode cX4_isWithin 11 = .ok (.goto 4, 3) := by decide +kernel
theorem dX4_isWithin_14 : decode cX4_isWithin 14 = .ok (.iconst 0, 1) := by decide +kernel
theorem dX4_isWithin_15 : decode cX4_isWithin 15 = .ok (.ireturn, 1) := by decide +kernel
theorem dX4_isCell_0 : decode cX4_isCell 0 = .ok (.iload_n 0, 1) := by decide +kernel
theorem dX4_isCell_1 : decode cX4_isCell 1 = .ok (.iconst 0, 1) := by decide +kernel
theorem dX4_isCell_2 : decode cX4_isCell 2 = .ok (.bipush 8, 2) := by decide +kernel
theorem dX4_isCell_4 : decode cX4_isCell 4 = .ok (.invokestatic 30, 3) := by decide +kernel
theorem dX4_isCell_7 : decode cX4_isCell 7 = .ok (.ifCond .eq 17, 3) := by decide +kernel
theorem dX4_isCell_10 : decode cX4_isCell 10 = .ok (.iload_n 1, 1) := by decide +kernel
theorem dX4_isCell_11 : decode cX4_isCell 11 = .ok (.iconst 0, 1) := by decide +kernel
theorem dX4_isCell_12 : decode cX4_isCell 12 = .ok (.bipush 8, 2) := by decide +kernel
theorem dX4_isCell_14 : decode cX4_isCell 14 = .ok (.invokestatic 30, 3) := by decide +kernel
theorem dX4_isCell_17 : decode cX4_isCell 17 = .ok (.ifCond .eq 7, 3) := by decide +kernel
theorem dX4_isCell_20 : decode cX4_isCell 20 = .ok (.iconst 1, 1) := by decide +kernel
theorem dX4_isCell_21 : decode cX4_isCell 21 = .ok (.goto 4, 3) := by decide +kernel
theorem dX4_isCell_24 : decode cX4_isCell 24 = .ok (.iconst 0, 1) := by decide +kernel
theorem dX4_isCell_25 : decode cX4_isCell 25 = .ok (.ireturn, 1) := by decide +kernel
theorem dX4_cellAt_0 : decode cX4_cellAt 0 = .ok (.bipush 9, 2) := by decide +kernel
theorem dX4_cellAt_2 : decode cX4_cellAt 2 = .ok (.iload_n 1, 1) := by decide +kernel
theorem dX4_cellAt_3 : decode cX4_cellAt 3 = .ok (.imul, 1) := by decide +kernel
theorem dX4_cellAt_4 : decode cX4_cellAt 4 = .ok (.iload_n 0, 1) := by decide +kernel
theorem dX4_cellAt_5 : decode cX4_cellAt 5 = .ok (.iadd, 1) := by decide +kernel
theorem dX4_cellAt_6 : decode cX4_cellAt 6 = .ok (.ireturn, 1) := by decide +kernel
theorem dX4_distance_0 : decode cX4_distance 0 = .ok (.iload_n 0, 1) := by decide +kernel
theorem dX4_distance_1 : decode cX4_distance 1 = .ok (.iload_n 2, 1) := by decide +kernel
theorem dX4_distance_2 : decode cX4_distance 2 = .ok (.isub, 1) := by decide +kernel
theorem dX4_distance_3 : decode cX4_distance 3 = .ok (.invokestatic 214, 3) := by decide +kernel
theorem dX4_distance_6 : decode cX4_distance 6 = .ok (.iload_n 1, 1) := by decide +kernel
theorem dX4_distance_7 : decode cX4_distance 7 = .ok (.iload_n 3, 1) := by decide +kernel
theorem dX4_distance_8 : decode cX4_distance 8 = .ok (.isub, 1) := by decide +kernel
theorem dX4_distance_9 : decode cX4_distance 9 = .ok (.invokestatic 214, 3) := by decide +kernel
theorem dX4_distance_12 : decode cX4_distance 12 = .ok (.invokestatic 219, 3) := by decide +kernel
theorem dX4_distance_15 : decode cX4_distance 15 = .ok (.ireturn, 1) := by decide +kernel
theorem dX4_iceBears_0 : decode cX4_iceBears 0 = .ok (.iload_n 0, 1) := by decide +kernel
theorem dX4_iceBears_1 : decode cX4_iceBears 1 = .ok (.iconst 5, 1) := by decide +kernel
theorem dX4_iceBears_2 : decode cX4_iceBears 2 = .ok (.if_icmp .lt 7, 3) := by decide +kernel
theorem dX4_iceBears_5 : decode cX4_iceBears 5 = .ok (.iconst 1, 1) := by decide +kernel
theorem dX4_iceBears_6 : decode cX4_iceBears 6 = .ok (.goto 4, 3) := by decide +kernel
theorem dX4_iceBears_9 : decode cX4_iceBears 9 = .ok (.iconst 0, 1) := by decide +kernel
theorem dX4_iceBears_10 : decode cX4_iceBears 10 = .ok (.ireturn, 1) := by decide +kernel
theorem dX4_iceBehind_0 : decode cX4_iceBehind 0 = .ok (.iconst 0, 1) := by decide +kernel
theorem dX4_iceBehind_1 : decode cX4_iceBehind 1 = .ok (.bipush 90, 2) := by decide +kernel
theorem dX4_iceBehind_3 : decode cX4_iceBehind 3 = .ok (.iload_n 0, 1) := by decide +kernel
theorem dX4_iceBehind_4 : decode cX4_iceBehind 4 = .ok (.iload_n 1, 1) := by decide +kernel
theorem dX4_iceBehind_5 : decode cX4_iceBehind 5 = .ok (.iadd, 1) := by decide +kernel
theorem dX4_iceBehind_6 : decode cX4_iceBehind 6 = .ok (.invokestatic 222, 3) := by decide +kernel
theorem dX4_iceBehind_9 : decode cX4_iceBehind 9 = .ok (.invokestatic 219, 3) := by decide +kernel
theorem dX4_iceBehind_12 : decode cX4_iceBehind 12 = .ok (.ireturn, 1) := by decide +kernel
theorem dX4_mixed_0 : decode cX4_mixed 0 = .ok (.lload_n 0, 1) := by decide +kernel
theorem dX4_mixed_1 : decode cX4_mixed 1 = .ok (.ldc2_w 212, 3) := by decide +kernel
theorem dX4_mixed_4 : decode cX4_mixed 4 = .ok (.lmul, 1) := by decide +kernel
theorem dX4_mixed_5 : decode cX4_mixed 5 = .ok (.iload_n 2, 1) := by decide +kernel
theorem dX4_mixed_6 : decode cX4_mixed 6 = .ok (.i2l, 1) := by decide +kernel
theorem dX4_mixed_7 : decode cX4_mixed 7 = .ok (.ladd, 1) := by decide +kernel
theorem dX4_mixed_8 : decode cX4_mixed 8 = .ok (.lreturn, 1) := by decide +kernel
theorem dX4_isForeseen_0 : decode cX4_isForeseen 0 = .ok (.iload_n 0, 1) := by decide +kernel
theorem dX4_isForeseen_1 : decode cX4_isForeseen 1 = .ok (.iconst 1, 1) := by decide +kernel
theorem dX4_isForeseen_2 : decode cX4_isForeseen 2 = .ok (.if_icmp .eq 25, 3) := by decide +kernel
theorem dX4_isForeseen_5 : decode cX4_isForeseen 5 = .ok (.iload_n 0, 1) := by decide +kernel
theorem dX4_isForeseen_6 : decode cX4_isForeseen 6 = .ok (.iconst 3, 1) := by decide +kernel
theorem dX4_isForeseen_7 : decode cX4_isForeseen 7 = .ok (.if_icmp .eq 20, 3) := by decide +kernel
theorem dX4_isForeseen_10 : decode cX4_isForeseen 10 = .ok (.iload_n 0, 1) := by decide +kernel
theorem dX4_isForeseen_11 : decode cX4_isForeseen 11 = .ok (.iconst 5, 1) := by decide +kernel
theorem dX4_isForeseen_12 : decode cX4_isForeseen 12 = .ok (.if_icmp .eq 15, 3) := by decide +kernel
theorem dX4_isForeseen_15 : decode cX4_isForeseen 15 = .ok (.iload_n 0, 1) := by decide +kernel
theorem dX4_isForeseen_16 : decode cX4_isForeseen 16 = .ok (.bipush 7, 2) := by decide +kernel
theorem dX4_isForeseen_18 : decode cX4_isForeseen 18 = .ok (.if_icmp .eq 9, 3) := by decide +kernel
theorem dX4_isForeseen_21 : decode cX4_isForeseen 21 = .ok (.iload_n 0, 1) := by decide +kernel
theorem dX4_isForeseen_22 : decode cX4_isForeseen 22 = .ok (.bipush 8, 2) := by decide +kernel
theorem dX4_isForeseen_24 : decode cX4_isForeseen 24 = .ok (.if_icmp .ne 7, 3) := by decide +kernel
theorem dX4_isForeseen_27 : decode cX4_isForeseen 27 = .ok (.iconst 1, 1) := by decide +kernel
theorem dX4_isForeseen_28 : decode cX4_isForeseen 28 = .ok (.goto 4, 3) := by decide +kernel
theorem dX4_isForeseen_31 : decode cX4_isForeseen 31 = .ok (.iconst 0, 1) := by decide +kernel
theorem dX4_isForeseen_32 : decode cX4_isForeseen 32 = .ok (.ireturn, 1) := by decide +kernel
theorem dJ6_compare_7cf53_0 : decode cJ6_compare_7cf53 0 = .ok (.iload_n 0, 1) := by decide +kernel
theorem dJ6_compare_7cf53_1 : decode cJ6_compare_7cf53 1 = .ok (.iload_n 1, 1) := by decide +kernel
theorem dJ6_compare_7cf53_2 : decode cJ6_compare_7cf53 2 = .ok (.if_icmp .ge 7, 3) := by decide +kernel
theorem dJ6_compare_7cf53_5 : decode cJ6_compare_7cf53 5 = .ok (.iconst (-1), 1) := by decide +kernel
theorem dJ6_compare_7cf53_6 : decode cJ6_compare_7cf53 6 = .ok (.goto 13, 3) := by decide +kernel
theorem dJ6_compare_7cf53_9 : decode cJ6_compare_7cf53 9 = .ok (.iload_n 0, 1) := by decide +kernel
theorem dJ6_compare_7cf53_10 : decode cJ6_compare_7cf53 10 = .ok (.iload_n 1, 1) := by decide +kernel
theorem dJ6_compare_7cf53_11 : decode cJ6_compare_7cf53 11 = .ok (.if_icmp .ne 7, 3) := by decide +kernel
theorem dJ6_compare_7cf53_14 : decode cJ6_compare_7cf53 14 = .ok (.iconst 0, 1) := by decide +kernel
theorem dJ6_compare_7cf53_15 : decode cJ6_compare_7cf53 15 = .ok (.goto 4, 3) := by decide +kernel
theorem dJ6_compare_7cf53_18 : decode cJ6_compare_7cf53 18 = .ok (.iconst 1, 1) := by decide +kernel
theorem dJ6_compare_7cf53_19 : decode cJ6_compare_7cf53 19 = .ok (.ireturn, 1) := by decide +kernel
set_option maxHeartbeats 4000000 in
set_option maxRecDepth 100000 in
theorem c_isWithin (l : Launch) {g : Gm} {en : Key → va_E} (v lo hi : Int32) : MI l yX4_isWithin cX4_isWithin 3 .boolean (rm 0 0) g KK en [.int (v), .int (lo), .int (hi)] (b2i (isIn v lo hi)) en := by
  refine met_of (by decide +kernel) (Nat.le_of_ble_eq_true rfl) ?_
  intro p e s m below meth c ls hC hr_ hlk hnm hE hP hS hl
  obtain ⟨hx, hb, hml, hown, hG⟩ := id hC
  have hl : lv_has ls 3 [(0, .int (v)), (1, .int (lo)), (2, .int (hi))] := hl
  refine lv_iload_n hx hb dX4_isWithin_0 rfl (lv_at hl 0 rfl) ?_
  refine lv_iload_n hx hb dX4_isWithin_1 rfl (lv_at hl 1 rfl) ?_
  refine lv_icmp_lt (tgt := 14) hx hb dX4_isWithin_2 (by decide) (fun c1 => ?_) (fun c1 => ?_)
  · refine lv_iconst (v := 0) hx hb dX4_isWithin_14 (by decide) ?_
    exact m_iret hC hr_ hlk hS hP (by first | rfl | exact nar_b _) (by first | rfl | (simp [b2i, isIn, isCell, c1]; done) | (simp [b2i, isIn, isCell, c1, c2]; done)) dX4_isWithin_15
  · refine lv_iload_n hx hb dX4_isWithin_5 rfl (lv_at hl 0 rfl) ?_
    refine lv_iload_n hx hb dX4_isWithin_6 rfl (lv_at hl 2 rfl) ?_
    refine lv_icmp_gt (tgt := 14) hx hb dX4_isWithin_7 (by decide) (fun c2 => ?_) (fun c2 => ?_)
    · refine lv_iconst (v := 0) hx hb dX4_isWithin_14 (by decide) ?_
      exact m_iret hC hr_ hlk hS hP (by first | rfl | exact nar_b _) (by first | rfl | (simp [b2i, isIn, isCell, c1]; done) | (simp [b2i, isIn, isCell, c1, c2]; done)) dX4_isWithin_15
    · refine lv_iconst (v := 1) hx hb dX4_isWithin_10 (by decide) ?_
      refine lv_goto (tgt := 15) hx hb dX4_isWithin_11 (by decide) ?_
      exact m_iret hC hr_ hlk hS hP (by first | rfl | exact nar_b _) (by first | rfl | (simp [b2i, isIn, isCell, c1]; done) | (simp [b2i, isIn, isCell, c1, c2]; done)) dX4_isWithin_15
set_option maxHeartbeats 4000000 in
set_option maxRecDepth 100000 in
theorem c_isCell (l : Launch) {g : Gm} {en : Key → va_E} (x y : Int32) : MI l yX4_isCell cX4_isCell 2 .boolean (rm 1 22) g KK en [.int (x), .int (y)] (b2i (isCell x y)) en := by
  refine met_of (by decide +kernel) (Nat.le_of_ble_eq_true rfl) ?_
  intro p e s m below meth c ls hC hr_ hlk hnm hE hP hS hl
  obtain ⟨hx, hb, hml, hown, hG⟩ := id hC
  have hl : lv_has ls 2 [(0, .int (x)), (1, .int (y))] := hl
  refine lv_iload_n hx hb dX4_isCell_0 rfl (lv_at hl 0 rfl) ?_
  refine lv_iconst (v := 0) hx hb dX4_isCell_1 (by decide) ?_
  refine lv_bipush (v := 8) hx hb dX4_isCell_2 (by decide) ?_
  refine on_i (run_S hC hE hP hS (As := [.int (x), .int ((0 : Int32)), .int ((8 : Int32))]) (c_isWithin l x (0 : Int32) (8 : Int32)) cal_X4_isWithin w_286 ⟨Nat.le_of_ble_eq_true rfl, Nat.le_of_ble_eq_true rfl⟩ rfl rfl (Nat.le_of_ble_eq_true rfl) hl.1 ⟨Nat.le_of_ble_eq_true rfl, Nat.le_of_ble_eq_true rfl⟩ dX4_isCell_4) hS (fun H locs hP hS => ?_)
  refine lv_if_eq (tgt := 24) hx hb dX4_isCell_7 (by decide) (fun c1 => ?_) (fun c1 => ?_)
  · have c1 := b2i_f c1
    refine lv_iconst (v := 0) hx hb dX4_isCell_24 (by decide) ?_
    exact m_iret hC hr_ hlk hS hP (by first | rfl | exact nar_b _) (by first | (unfold isCell; rw [c1]; rfl) | (unfold isCell; rw [c1, c2]; rfl)) dX4_isCell_25
  · have c1 := b2i_t c1
    refine lv_iload_n hx hb dX4_isCell_10 rfl (lv_at hl 1 rfl) ?_
    refine lv_iconst (v := 0) hx hb dX4_isCell_11 (by decide) ?_
    refine lv_bipush (v := 8) hx hb dX4_isCell_12 (by decide) ?_
    refine on_i (run_S hC hE hP hS (As := [.int (y), .int ((0 : Int32)), .int ((8 : Int32))]) (c_isWithin l y (0 : Int32) (8 : Int32)) cal_X4_isWithin w_286 ⟨Nat.le_of_ble_eq_true rfl, Nat.le_of_ble_eq_true rfl⟩ rfl rfl (Nat.le_of_ble_eq_true rfl) hl.1 ⟨Nat.le_of_ble_eq_true rfl, Nat.le_of_ble_eq_true rfl⟩ dX4_isCell_14) hS (fun H locs hP hS => ?_)
    refine lv_if_eq (tgt := 24) hx hb dX4_isCell_17 (by decide) (fun c2 => ?_) (fun c2 => ?_)
    · have c2 := b2i_f c2
      refine lv_iconst (v := 0) hx hb dX4_isCell_24 (by decide) ?_
      exact m_iret hC hr_ hlk hS hP (by first | rfl | exact nar_b _) (by first | (unfold isCell; rw [c1]; rfl) | (unfold isCell; rw [c1, c2]; rfl)) dX4_isCell_25
    · have c2 := b2i_t c2
      refine lv_iconst (v := 1) hx hb dX4_isCell_20 (by decide) ?_
      refine lv_goto (tgt := 25) hx hb dX4_isCell_21 (by decide) ?_
      exact m_iret hC hr_ hlk hS hP (by first | rfl | exact nar_b _) (by first | (unfold isCell; rw [c1]; rfl) | (unfold isCell; rw [c1, c2]; rfl)) dX4_isCell_25
set_option maxHeartbeats 4000000 in
set_option maxRecDepth 100000 in
theorem c_cellAt (l : Launch) {g : Gm} {en : Key → va_E} (x y : Int32) : MI l yX4_cellAt cX4_cellAt 2 .int (rm 0 0) g KK en [.int (x), .int (y)] (9 * y + x) en := by
  refine met_of (by decide +kernel) (Nat.le_of_ble_eq_true rfl) ?_
  intro p e s m below meth c ls hC hr_ hlk hnm hE hP hS hl
  obtain ⟨hx, hb, hml, hown, hG⟩ := id hC
  have hl : lv_has ls 2 [(0, .int (x)), (1, .int (y))] := hl
  refine lv_bipush (v := 9) hx hb dX4_cellAt_0 (by decide) ?_
  refine lv_iload_n hx hb dX4_cellAt_2 rfl (lv_at hl 1 rfl) ?_
  refine lv_imul hx hb dX4_cellAt_3 ?_
  refine lv_iload_n hx hb dX4_cellAt_4 rfl (lv_at hl 0 rfl) ?_
  refine lv_iadd hx hb dX4_cellAt_5 ?_
  exact m_iret hC hr_ hlk hS hP rfl (rfl) dX4_cellAt_6
set_option maxHeartbeats 4000000 in
set_option maxRecDepth 100000 in
theorem c_distance (l : Launch) {g : Gm} {en : Key → va_E} (x y a b : Int32) : MI l yX4_distance cX4_distance 4 .int (rm 1 21) g KK en [.int (x), .int (y), .int (a), .int (b)] (far x y a b) en := by
  refine met_of (by decide +kernel) (Nat.le_of_ble_eq_true rfl) ?_
  intro p e s m below meth c ls hC hr_ hlk hnm hE hP hS hl
  obtain ⟨hx, hb, hml, hown, hG⟩ := id hC
  have hl : lv_has ls 4 [(0, .int (x)), (1, .int (y)), (2, .int (a)), (3, .int (b))] := hl
  refine lv_iload_n hx hb dX4_distance_0 rfl (lv_at hl 0 rfl) ?_
  refine lv_iload_n hx hb dX4_distance_1 rfl (lv_at hl 2 rfl) ?_
  refine lv_isub hx hb dX4_distance_2 ?_
  refine m_abs hC w_259 w_260 w_14 w_261 hl.1 (by decide) (Nat.le_of_ble_eq_true rfl) (Nat.zero_le _) (Nat.zero_le _) dX4_distance_3 ?_
  refine m_top (y := iabs (x - a)) rfl ?_
  refine lv_iload_n hx hb dX4_distance_6 rfl (lv_at hl 1 rfl) ?_
  refine lv_iload_n hx hb dX4_distance_7 rfl (lv_at hl 3 rfl) ?_
  refine lv_isub hx hb dX4_distance_8 ?_
  refine m_abs hC w_259 w_260 w_14 w_261 hl.1 (by decide) (Nat.le_of_ble_eq_true rfl) (Nat.zero_le _) (Nat.zero_le _) dX4_distance_9 ?_
  refine m_top (y := iabs (y - b)) rfl ?_
  refine m_max hC w_186 w_187 w_14 w_188 hl.1 (by decide) (Nat.le_of_ble_eq_true rfl) (Nat.zero_le _) (Nat.zero_le _) dX4_distance_12 ?_
  refine m_top (y := imax (iabs (x - a)) (iabs (y - b))) rfl ?_
  exact m_iret hC hr_ hlk hS hP rfl (rfl) dX4_distance_15
set_option maxHeartbeats 4000000 in
set_option maxRecDepth 100000 in
theorem c_iceBears (l : Launch) {g : Gm} {en : Key → va_E} (x : Int32) : MI l yX4_iceBears cX4_iceBears 1 .boolean (rm 0 0) g KK en [.int (x)] (b2i (bear x)) en := by
  refine met_of (by decide +kernel) (Nat.le_of_ble_eq_true rfl) ?_
  intro p e s m below meth c ls hC hr_ hlk hnm hE hP hS hl
  obtain ⟨hx, hb, hml, hown, hG⟩ := id hC
  have hl : lv_has ls 1 [(0, .int (x))] := hl
  refine lv_iload_n hx hb dX4_iceBears_0 rfl (lv_at hl 0 rfl) ?_
  refine lv_iconst (v := 5) hx hb dX4_iceBears_1 (by decide) ?_
  refine lv_icmp_lt (tgt := 9) hx hb dX4_iceBears_2 (by decide) (fun c1 => ?_) (fun c1 => ?_)
  · refine lv_iconst (v := 0) hx hb dX4_iceBears_9 (by decide) ?_
    exact m_iret hC hr_ hlk hS hP (by first | rfl | exact nar_b _) (by simp [bear, b2i, c1]) dX4_iceBears_10
  · refine lv_iconst (v := 1) hx hb dX4_iceBears_5 (by decide) ?_
    refine lv_goto (tgt := 10) hx hb dX4_iceBears_6 (by decide) ?_
    exact m_iret hC hr_ hlk hS hP (by first | rfl | exact nar_b _) (by simp [bear, b2i, c1]) dX4_iceBears_10
set_option maxHeartbeats 4000000 in
set_option maxRecDepth 100000 in
theorem c_iceBehind (l : Launch) {g : Gm} {en : Key → va_E} (x y : Int32) : MI l yX4_iceBehind cX4_iceBehind 2 .int (rm 1 21) g KK en [.int (x), .int (y)] (ice2 x y) en := by
  refine met_of (by decide +kernel) (Nat.le_of_ble_eq_true rfl) ?_
  intro p e s m below meth c ls hC hr_ hlk hnm hE hP hS hl
  obtain ⟨hx, hb, hml, hown, hG⟩ := id hC
  have hl : lv_has ls 2 [(0, .int (x)), (1, .int (y))] := hl
  refine lv_iconst (v := 0) hx hb dX4_iceBehind_0 (by decide) ?_
  refine lv_bipush (v := 90) hx hb dX4_iceBehind_1 (by decide) ?_
  refine lv_iload_n hx hb dX4_iceBehind_3 rfl (lv_at hl 0 rfl) ?_
  refine lv_iload_n hx hb dX4_iceBehind_4 rfl (lv_at hl 1 rfl) ?_
  refine lv_iadd hx hb dX4_iceBehind_5 ?_
  refine m_min hC w_183 w_184 w_14 w_185 hl.1 (by decide) (Nat.le_of_ble_eq_true rfl) (Nat.zero_le _) (Nat.zero_le _) dX4_iceBehind_6 ?_
  refine m_top (y := imin (90 : Int32) (x + y)) rfl ?_
  refine m_max hC w_186 w_187 w_14 w_188 hl.1 (by decide) (Nat.le_of_ble_eq_true rfl) (Nat.zero_le _) (Nat.zero_le _) dX4_iceBehind_9 ?_
  refine m_top (y := imax (0 : Int32) (imin (90 : Int32) (x + y))) rfl ?_
  exact m_iret hC hr_ hlk hS hP rfl (rfl) dX4_iceBehind_12
set_option maxHeartbeats 4000000 in
set_option maxRecDepth 100000 in
theorem c_mixed (l : Launch) {g : Gm} {en : Key → va_E} (d : Int64) (x : Int32) : ML l yX4_mixed cX4_mixed 3 (rm 0 0) g KK en [.long (d), .int (x)] (mix d x) en := by
  refine met_of (by decide +kernel) (Nat.le_of_ble_eq_true rfl) ?_
  intro p e s m below meth c ls hC hr_ hlk hnm hE hP hS hl
  obtain ⟨hx, hb, hml, hown, hG⟩ := id hC
  have hl : lv_has ls 3 [(0, .long (d)), (2, .int (x))] := hl
  refine lv_lload_n hx hb dX4_mixed_0 rfl (lv_at hl 0 rfl) ?_
  refine lv_ldc2 (v := 31) hx hb hown (hG _ w_222) dX4_mixed_1 ?_
  refine lv_lmul hx hb dX4_mixed_4 ?_
  refine lv_iload_n hx hb dX4_mixed_5 rfl (lv_at hl 1 rfl) ?_
  refine lv_i2l hx hb dX4_mixed_6 rfl ?_
  refine lv_ladd hx hb dX4_mixed_7 ?_
  exact m_lret hC hr_ hlk hS hP (rfl) dX4_mixed_8
set_option maxHeartbeats 4000000 in
set_option maxRecDepth 100000 in
theorem c_isForeseen (l : Launch) {g : Gm} {en : Key → va_E} (x : Int32) : MI l yX4_isForeseen cX4_isForeseen 1 .boolean (rm 0 0) g KK en [.int (x)] (b2i (decide (x = 1 ∨ x = 3 ∨ x = 5 ∨ x = 7 ∨ x = 8))) en := by
  refine met_of (by decide +kernel) (Nat.le_of_ble_eq_true rfl) ?_
  intro p e s m below meth c ls hC hr_ hlk hnm hE hP hS hl
  obtain ⟨hx, hb, hml, hown, hG⟩ := id hC
  have hl : lv_has ls 1 [(0, .int (x))] := hl
  refine lv_iload_n hx hb dX4_isForeseen_0 rfl (lv_at hl 0 rfl) ?_
  refine lv_iconst (v := 1) hx hb dX4_isForeseen_1 (by decide) ?_
  refine lv_icmp_eq (tgt := 27) hx hb dX4_isForeseen_2 (by decide) (fun c1 => ?_) (fun c1 => ?_)
  · refine lv_iconst (v := 1) hx hb dX4_isForeseen_27 (by decide) ?_
    refine lv_goto (tgt := 32) hx hb dX4_isForeseen_28 (by decide) ?_
    exact m_iret hC hr_ hlk hS hP (by first | rfl | exact nar_b _) (by first | (simp [b2i, c1]; done) | (simp [b2i, c1, c2]; done) | (simp [b2i, c1, c2, c3]; done) | (simp [b2i, c1, c2, c3, c4]; done) | (simp [b2i, c1, c2, c3, c4, c5]; done)) dX4_isForeseen_32
  · refine lv_iload_n hx hb dX4_isForeseen_5 rfl (lv_at hl 0 rfl) ?_
    refine lv_iconst (v := 3) hx hb dX4_isForeseen_6 (by decide) ?_
    refine lv_icmp_eq (tgt := 27) hx hb dX4_isForeseen_7 (by decide) (fun c2 => ?_) (fun c2 => ?_)
    · refine lv_iconst (v := 1) hx hb dX4_isForeseen_27 (by decide) ?_
      refine lv_goto (tgt := 32) hx hb dX4_isForeseen_28 (by decide) ?_
      exact m_iret hC hr_ hlk hS hP (by first | rfl | exact nar_b _) (by first | (simp [b2i, c1]; done) | (simp [b2i, c1, c2]; done) | (simp [b2i, c1, c2, c3]; done) | (simp [b2i, c1, c2, c3, c4]; done) | (simp [b2i, c1, c2, c3, c4, c5]; done)) dX4_isForeseen_32
    · refine lv_iload_n hx hb dX4_isForeseen_10 rfl (lv_at hl 0 rfl) ?_
      refine lv_iconst (v := 5) hx hb dX4_isForeseen_11 (by decide) ?_
      refine lv_icmp_eq (tgt := 27) hx hb dX4_isForeseen_12 (by decide) (fun c3 => ?_) (fun c3 => ?_)
      · refine lv_iconst (v := 1) hx hb dX4_isForeseen_27 (by decide) ?_
        refine lv_goto (tgt := 32) hx hb dX4_isForeseen_28 (by decide) ?_
        exact m_iret hC hr_ hlk hS hP (by first | rfl | exact nar_b _) (by first | (simp [b2i, c1]; done) | (simp [b2i, c1, c2]; done) | (simp [b2i, c1, c2, c3]; done) | (simp [b2i, c1, c2, c3, c4]; done) | (simp [b2i, c1, c2, c3, c4, c5]; done)) dX4_isForeseen_32
      · refine lv_iload_n hx hb dX4_isForeseen_15 rfl (lv_at hl 0 rfl) ?_
        refine lv_bipush (v := 7) hx hb dX4_isForeseen_16 (by decide) ?_
        refine lv_icmp_eq (tgt := 27) hx hb dX4_isForeseen_18 (by decide) (fun c4 => ?_) (fun c4 => ?_)
        · refine lv_iconst (v := 1) hx hb dX4_isForeseen_27 (by decide) ?_
          refine lv_goto (tgt := 32) hx hb dX4_isForeseen_28 (by decide) ?_
          exact m_iret hC hr_ hlk hS hP (by first | rfl | exact nar_b _) (by first | (simp [b2i, c1]; done) | (simp [b2i, c1, c2]; done) | (simp [b2i, c1, c2, c3]; done) | (simp [b2i, c1, c2, c3, c4]; done) | (simp [b2i, c1, c2, c3, c4, c5]; done)) dX4_isForeseen_32
        · refine lv_iload_n hx hb dX4_isForeseen_21 rfl (lv_at hl 0 rfl) ?_
          refine lv_bipush (v := 8) hx hb dX4_isForeseen_22 (by decide) ?_
          refine lv_icmp_ne (tgt := 31) hx hb dX4_isForeseen_24 (by decide) (fun c5 => ?_) (fun c5 => ?_)
          · refine lv_iconst (v := 0) hx hb dX4_isForeseen_31 (by decide) ?_
            exact m_iret hC hr_ hlk hS hP (by first | rfl | exact nar_b _) (by first | (simp [b2i, c1]; done) | (simp [b2i, c1, c2]; done) | (simp [b2i, c1, c2, c3]; done) | (simp [b2i, c1, c2, c3, c4]; done) | (simp [b2i, c1, c2, c3, c4, c5]; done)) dX4_isForeseen_32
          · refine lv_iconst (v := 1) hx hb dX4_isForeseen_27 (by decide) ?_
            refine lv_goto (tgt := 32) hx hb dX4_isForeseen_28 (by decide) ?_
            exact m_iret hC hr_ hlk hS hP (by first | rfl | exact nar_b _) (by first | (simp [b2i, c1]; done) | (simp [b2i, c1, c2]; done) | (simp [b2i, c1, c2, c3]; done) | (simp [b2i, c1, c2, c3, c4]; done) | (simp [b2i, c1, c2, c3, c4, c5]; done)) dX4_isForeseen_32
set_option maxHeartbeats 4000000 in
set_option maxRecDepth 100000 in
theorem c_compare (l : Launch) {g : Gm} {en : Key → va_E} (a b : Int32) : MI l yJ6_compare_7cf53 cJ6_compare_7cf53 2 .int (rm 0 0) g KK en [.int (a), .int (b)] (cmp3 a b) en := by
  refine met_of (by decide +kernel) (Nat.le_of_ble_eq_true rfl) ?_
  intro p e s m below meth c ls hC hr_ hlk hnm hE hP hS hl
  obtain ⟨hx, hb, hml, hown, hG⟩ := id hC
  have hl : lv_has ls 2 [(0, .int (a)), (1, .int (b))] := hl
  refine lv_iload_n hx hb dJ6_compare_7cf53_0 rfl (lv_at hl 0 rfl) ?_
  refine lv_iload_n hx hb dJ6_compare_7cf53_1 rfl (lv_at hl 1 rfl) ?_
  refine lv_icmp_ge (tgt := 9) hx hb dJ6_compare_7cf53_2 (by decide) (fun c1 => ?_) (fun c1 => ?_)
  · refine lv_iload_n hx hb dJ6_compare_7cf53_9 rfl (lv_at hl 0 rfl) ?_
    refine lv_iload_n hx hb dJ6_compare_7cf53_10 rfl (lv_at hl 1 rfl) ?_
    refine lv_icmp_ne (tgt := 18) hx hb dJ6_compare_7cf53_11 (by decide) (fun c2 => ?_) (fun c2 => ?_)
    · refine lv_iconst (v := 1) hx hb dJ6_compare_7cf53_18 (by decide) ?_
      exact m_iret hC hr_ hlk hS hP rfl (by first | (unfold cmp3; rw [if_pos (Decidable.not_not.mp (fun q => c1 (Int32.not_lt.mp q)))]; done) | (unfold cmp3; rw [if_neg (Int32.not_lt.mpr c1), if_pos (Decidable.not_not.mp c2)]; done) | (unfold cmp3; rw [if_neg (Int32.not_lt.mpr c1), if_neg c2]; done) | (unfold cmp3; rw [if_neg (Int32.not_lt.mpr c1), if_pos c2]; done)) dJ6_compare_7cf53_19
    · refine lv_iconst (v := 0) hx hb dJ6_compare_7cf53_14 (by decide) ?_
      refine lv_goto (tgt := 19) hx hb dJ6_compare_7cf53_15 (by decide) ?_
      exact m_iret hC hr_ hlk hS hP rfl (by first | (unfold cmp3; rw [if_pos (Decidable.not_not.mp (fun q => c1 (Int32.not_lt.mp q)))]; done) | (unfold cmp3; rw [if_neg (Int32.not_lt.mpr c1), if_pos (Decidable.not_not.mp c2)]; done) | (unfold cmp3; rw [if_neg (Int32.not_lt.mpr c1), if_neg c2]; done) | (unfold cmp3; rw [if_neg (Int32.not_lt.mpr c1), if_pos c2]; done)) dJ6_compare_7cf53_19
  · refine lv_iconst (v := (-1)) hx hb dJ6_compare_7cf53_5 (by decide) ?_
    refine lv_goto (tgt := 19) hx hb dJ6_compare_7cf53_6 (by decide) ?_
    exact m_iret hC hr_ hlk hS hP rfl (by first | (unfold cmp3; rw [if_pos (Decidable.not_not.mp (fun q => c1 (Int32.not_lt.mp q)))]; done) | (unfold cmp3; rw [if_neg (Int32.not_lt.mpr c1), if_pos (Decidable.not_not.mp c2)]; done) | (unfold cmp3; rw [if_neg (Int32.not_lt.mpr c1), if_neg c2]; done) | (unfold cmp3; rw [if_neg (Int32.not_lt.mpr c1), if_pos c2]; done)) dJ6_compare_7cf53_19
end
section
/-! the lake: what is there -/
theorem dJ9_floorMod_7cf53_0 : decode cJ9_floorMod_7cf53 0 = .ok (.iload_n 0, 1) := by decide +kernel
theorem dJ9_floorMod_7cf53_1 : decode cJ9_floorMod_7cf53 1 = .ok (.iload_n 1, 1) := by decide +kernel
theorem dJ9_floorMod_7cf53_2 : decode cJ9_floorMod_7cf53 2 = .ok (.irem, 1) := by decide +kernel
theorem dJ9_floorMod_7cf53_3 : decode cJ9_floorMod_7cf53 3 = .ok (.istore_n 2, 1) := by decide +kernel
theorem dJ9_floorMod_7cf53_4 : decode cJ9_floorMod_7cf53 4 = .ok (.iload_n 0, 1) := by decide +kernel
theorem dJ9_floorMod_7cf53_5 : decode cJ9_floorMod_7cf53 5 = .ok (.iload_n 1, 1) := by decide +kernel
theorem dJ9_floorMod_7cf53_6 : decode cJ9_floorMod_7cf53 6 = .ok (.ixor, 1) := by decide +kernel
theorem dJ9_floorMod_7cf53_7 : decode cJ9_floorMod_7cf53 7 = .ok (.ifCond .ge 11, 3) := by decide +kernel
theorem dJ9_floorMod_7cf53_10 : decode cJ9_floorMod_7cf53 10 = .ok (.iload_n 2, 1) := by decide +kernel
theorem dJ9_floorMod_7cf53_11 : decode cJ9_floorMod_7cf53 11 = .ok (.ifCond .eq 7, 3) := by decide +kernel
theorem dJ9_floorMod_7cf53_14 : decode cJ9_floorMod_7cf53 14 = .ok (.iload_n 2, 1) := by decide +kernel
theorem dJ9_floorMod_7cf53_15 : decode cJ9_floorMod_7cf53 15 = .ok (.iload_n 1, 1) := by decide +kernel
theorem dJ9_floorMod_7cf53_16 : decode cJ9_floorMod_7cf53 16 = .ok (.iadd, 1) := by decide +kernel
theorem dJ9_floorMod_7cf53_17 : decode cJ9_floorMod_7cf53 17 = .ok (.ireturn, 1) := by decide +kernel
theorem dJ9_floorMod_7cf53_18 : decode cJ9_floorMod_7cf53 18 = .ok (.iload_n 2, 1) := by decide +kernel
theorem dJ9_floorMod_7cf53_19 : decode cJ9_floorMod_7cf53 19 = .ok (.ireturn, 1) := by decide +kernel
theorem dX1_hasHole_0 : decode cX1_hasHole 0 = .ok (.iload_n 1, 1) := by decide +kernel
theorem dX1_hasHole_1 : decode cX1_hasHole 1 = .ok (.iconst 0, 1) := by decide +kernel
theorem dX1_hasHole_2 : decode cX1_hasHole 2 = .ok (.aload_n 0, 1) := by decide +kernel
theorem dX1_hasHole_3 : decode cX1_hasHole 3 = .ok (.getfield 46, 3) := by decide +kernel
theorem dX1_hasHole_6 : decode cX1_hasHole 6 = .ok (.iconst 1, 1) := by decide +kernel
theorem dX1_hasHole_7 : decode cX1_hasHole 7 = .ok (.isub, 1) := by decide +kernel
theorem dX1_hasHole_8 : decode cX1_hasHole 8 = .ok (.invokestatic 68, 3) := by decide +kernel
theorem dX1_hasHole_11 : decode cX1_hasHole 11 = .ok (.ireturn, 1) := by decide +kernel
theorem dX1_hasSpearer_0 : decode cX1_hasSpearer 0 = .ok (.iload_n 1, 1) := by decide +kernel
theorem dX1_hasSpearer_1 : decode cX1_hasSpearer 1 = .ok (.iconst 0, 1) := by decide +kernel
theorem dX1_hasSpearer_2 : decode cX1_hasSpearer 2 = .ok (.aload_n 0, 1) := by decide +kernel
theorem dX1_hasSpearer_3 : decode cX1_hasSpearer 3 = .ok (.getfield 53, 3) := by decide +kernel
theorem dX1_hasSpearer_6 : decode cX1_hasSpearer 6 = .ok (.iconst 1, 1) := by decide +kernel
theorem dX1_hasSpearer_7 : decode cX1_hasSpearer 7 = .ok (.isub, 1) := by decide +kernel
theorem dX1_hasSpearer_8 : decode cX1_hasSpearer 8 = .ok (.invokestatic 68, 3) := by decide +kernel
theorem dX1_hasSpearer_11 : decode cX1_hasSpearer 11 = .ok (.ireturn, 1) := by decide +kernel
theorem dX1_hasWarden_0 : decode cX1_hasWarden 0 = .ok (.iload_n 1, 1) := by decide +kernel
theorem dX1_hasWarden_1 : decode cX1_hasWarden 1 = .ok (.iconst 0, 1) := by decide +kernel
theorem dX1_hasWarden_2 : decode cX1_hasWarden 2 = .ok (.aload_n 0, 1) := by decide +kernel
theorem dX1_hasWarden_3 : decode cX1_hasWarden 3 = .ok (.getfield 59, 3) := by decide +kernel
theorem dX1_hasWarden_6 : decode cX1_hasWarden 6 = .ok (.iconst 1, 1) := by decide +kernel
theorem dX1_hasWarden_7 : decode cX1_hasWarden 7 = .ok (.isub, 1) := by decide +kernel
theorem dX1_hasWarden_8 : decode cX1_hasWarden 8 = .ok (.invokestatic 68, 3) := by decide +kernel
theorem dX1_hasWarden_11 : decode cX1_hasWarden 11 = .ok (.ireturn, 1) := by decide +kernel
theorem dX1_openHoleIn_0 : decode cX1_openHoleIn 0 = .ok (.iconst 0, 1) := by decide +kernel
theorem dX1_openHoleIn_1 : decode cX1_openHoleIn 1 = .ok (.istore_n 3, 1) := by decide +kernel
theorem dX1_openHoleIn_2 : decode cX1_openHoleIn 2 = .ok (.iload_n 3, 1) := by decide +kernel
theorem dX1_openHoleIn_3 : decode cX1_openHoleIn 3 = .ok (.aload_n 0, 1) := by decide +kernel
theorem dX1_openHoleIn_4 : decode cX1_openHoleIn 4 = .ok (.getfield 46, 3) := by decide +kernel
theorem dX1_openHoleIn_7 : decode cX1_openHoleIn 7 = .ok (.if_icmp .ge 45, 3) := by decide +kernel
theorem dX1_openHoleIn_10 : decode cX1_openHoleIn 10 = .ok (.aload_n 0, 1) := by decide +kernel
theorem dX1_openHoleIn_11 : decode cX1_openHoleIn 11 = .ok (.getfield 23, 3) := by decide +kernel
theorem dX1_openHoleIn_14 : decode cX1_openHoleIn 14 = .ok (.iload_n 3, 1) := by decide +kernel
theorem dX1_openHoleIn_15 : decode cX1_openHoleIn 15 = .ok (.aaload, 1) := by decide +kernel
theorem dX1_openHoleIn_16 : decode cX1_openHoleIn 16 = .ok (.astore 4, 2) := by decide +kernel
theorem dX1_openHoleIn_18 : decode cX1_openHoleIn 18 = .ok (.aload 4, 2) := by decide +kernel
theorem dX1_openHoleIn_20 : decode cX1_openHoleIn 20 = .ok (.getfield 78, 3) := by decide +kernel
theorem dX1_openHoleIn_23 : decode cX1_openHoleIn 23 = .ok (.ifCond .eq 23, 3) := by decide +kernel
theorem dX1_openHoleIn_26 : decode cX1_openHoleIn 26 = .ok (.aload 4, 2) := by decide +kernel
theorem dX1_openHoleIn_28 : decode cX1_openHoleIn 28 = .ok (.getfield 72, 3) := by decide +kernel
theorem dX1_openHoleIn_31 : decode cX1_openHoleIn 31 = .ok (.iload_n 1, 1) := by decide +kernel
theorem dX1_openHoleIn_32 : decode cX1_openHoleIn 32 = .ok (.if_icmp .ne 14, 3) := by decide +kernel
theorem dX1_openHoleIn_35 : decode cX1_openHoleIn 35 = .ok (.aload 4, 2) := by decide +kernel
theorem dX1_openHoleIn_37 : decode cX1_openHoleIn 37 = .ok (.getfield 75, 3) := by decide +kernel
theorem dX1_openHoleIn_40 : decode cX1_openHoleIn 40 = .ok (.iload_n 2, 1) := by decide +kernel
theorem dX1_openHoleIn_41 : decode cX1_openHoleIn 41 = .ok (.if_icmp .ne 5, 3) := by decide +kernel
theorem dX1_openHoleIn_44 : decode cX1_openHoleIn 44 = .ok (.iload_n 3, 1) := by decide +kernel
theorem dX1_openHoleIn_45 : decode cX1_openHoleIn 45 = .ok (.ireturn, 1) := by decide +kernel
theorem dX1_openHoleIn_46 : decode cX1_openHoleIn 46 = .ok (.iinc 3 1, 3) := by decide +kernel
theorem dX1_openHoleIn_49 : decode cX1_openHoleIn 49 = .ok (.goto (-47), 3) := by decide +kernel
theorem dX1_openHoleIn_52 : decode cX1_openHoleIn 52 = .ok (.iconst (-1), 1) := by decide +kernel
theorem dX1_openHoleIn_53 : decode cX1_openHoleIn 53 = .ok (.ireturn, 1) := by decide +kernel
theorem dX1_frostOf_0 : decode cX1_frostOf 0 = .ok (.aload_n 0, 1) := by decide +kernel
theorem dX1_frostOf_1 : decode cX1_frostOf 1 = .ok (.getfield 18, 3) := by decide +kernel
theorem dX1_frostOf_4 : decode cX1_frostOf 4 = .ok (.iload_n 1, 1) := by decide +kernel
theorem dX1_frostOf_5 : decode cX1_frostOf 5 = .ok (.bipush 7, 2) := by decide +kernel
theorem dX1_frostOf_7 : decode cX1_frostOf 7 = .ok (.invokestatic 93, 3) := by decide +kernel
theorem dX1_frostOf_10 : decode cX1_frostOf 10 = .ok (.iaload, 1) := by decide +kernel
theorem dX1_frostOf_11 : decode cX1_frostOf 11 = .ok (.ireturn, 1) := by decide +kernel
theorem dX1_catchIn_0 : decode cX1_catchIn 0 = .ok (.aload_n 0, 1) := by decide +kernel
theorem dX1_catchIn_1 : decode cX1_catchIn 1 = .ok (.getfield 9, 3) := by decide +kernel
theorem dX1_catchIn_4 : decode cX1_catchIn 4 = .ok (.iload_n 1, 1) := by decide +kernel
theorem dX1_catchIn_5 : decode cX1_catchIn 5 = .ok (.iaload, 1) := by decide +kernel
theorem dX1_catchIn_6 : decode cX1_catchIn 6 = .ok (.iconst 2, 1) := by decide +kernel
theorem dX1_catchIn_7 : decode cX1_catchIn 7 = .ok (.idiv, 1) := by decide +kernel
theorem dX1_catchIn_8 : decode cX1_catchIn 8 = .ok (.iconst 1, 1) := by decide +kernel
theorem dX1_catchIn_9 : decode cX1_catchIn 9 = .ok (.iadd, 1) := by decide +kernel
theorem dX1_catchIn_10 : decode cX1_catchIn 10 = .ok (.aload_n 0, 1) := by decide +kernel
theorem dX1_catchIn_11 : decode cX1_catchIn 11 = .ok (.getfield 15, 3) := by decide +kernel
theorem dX1_catchIn_14 : decode cX1_catchIn 14 = .ok (.iload_n 1, 1) := by decide +kernel
theorem dX1_catchIn_15 : decode cX1_catchIn 15 = .ok (.iaload, 1) := by decide +kernel
theorem dX1_catchIn_16 : decode cX1_catchIn 16 = .ok (.isub, 1) := by decide +kernel
theorem dX1_catchIn_17 : decode cX1_catchIn 17 = .ok (.istore_n 2, 1) := by decide +kernel
theorem dX1_catchIn_18 : decode cX1_catchIn 18 = .ok (.aload_n 0, 1) := by decide +kernel
theorem dX1_catchIn_19 : decode cX1_catchIn 19 = .ok (.getfield 9, 3) := by decide +kernel
theorem dX1_catchIn_22 : decode cX1_catchIn 22 = .ok (.iload_n 1, 1) := by decide +kernel
theorem dX1_catchIn_23 : decode cX1_catchIn 23 = .ok (.iaload, 1) := by decide +kernel
theorem dX1_catchIn_24 : decode cX1_catchIn 24 = .ok (.iconst 0, 1) := by decide +kernel
theorem dX1_catchIn_25 : decode cX1_catchIn 25 = .ok (.iload_n 2, 1) := by decide +kernel
theorem dX1_catchIn_26 : decode cX1_catchIn 26 = .ok (.invokestatic 99, 3) := by decide +kernel
theorem dX1_catchIn_29 : decode cX1_catchIn 29 = .ok (.invokestatic 102, 3) := by decide +kernel
theorem dX1_catchIn_32 : decode cX1_catchIn 32 = .ok (.ireturn, 1) := by decide +kernel
theorem dX1_spearersAt_0 : decode cX1_spearersAt 0 = .ok (.iconst 0, 1) := by decide +kernel
theorem dX1_spearersAt_1 : decode cX1_spearersAt 1 = .ok (.istore_n 2, 1) := by decide +kernel
theorem dX1_spearersAt_2 : decode cX1_spearersAt 2 = .ok (.iconst 0, 1) := by decide +kernel
theorem dX1_spearersAt_3 : decode cX1_spearersAt 3 = .ok (.istore_n 3, 1) := by decide +kernel
theorem dX1_spearersAt_4 : decode cX1_spearersAt 4 = .ok (.iload_n 3, 1) := by decide +kernel
theorem dX1_spearersAt_5 : decode cX1_spearersAt 5 = .ok (.aload_n 0, 1) := by decide +kernel
theorem dX1_spearersAt_6 : decode cX1_spearersAt 6 = .ok (.getfield 53, 3) := by decide +kernel
theorem dX1_spearersAt_9 : decode cX1_spearersAt 9 = .ok (.if_icmp .ge 25, 3) := by decide +kernel
theorem dX1_spearersAt_12 : decode cX1_spearersAt 12 = .ok (.aload_n 0, 1) := by decide +kernel
theorem dX1_spearersAt_13 : decode cX1_spearersAt 13 = .ok (.getfield 30, 3) := by decide +kernel
theorem dX1_spearersAt_16 : decode cX1_spearersAt 16 = .ok (.iload_n 3, 1) := by decide +kernel
theorem dX1_spearersAt_17 : decode cX1_spearersAt 17 = .ok (.aaload, 1) := by decide +kernel
theorem dX1_spearersAt_18 : decode cX1_spearersAt 18 = .ok (.getfield 139, 3) := by decide +kernel
theorem dX1_spearersAt_21 : decode cX1_spearersAt 21 = .ok (.iload_n 1, 1) := by decide +kernel
theorem dX1_spearersAt_22 : decode cX1_spearersAt 22 = .ok (.if_icmp .ne 6, 3) := by decide +kernel
theorem dX1_spearersAt_25 : decode cX1_spearersAt 25 = .ok (.iinc 2 1, 3) := by decide +kernel
theorem dX1_spearersAt_28 : decode cX1_spearersAt 28 = .ok (.iinc 3 1, 3) := by decide +kernel
theorem dX1_spearersAt_31 : decode cX1_spearersAt 31 = .ok (.goto (-27), 3) := by decide +kernel
theorem dX1_spearersAt_34 : decode cX1_spearersAt 34 = .ok (.iload_n 2, 1) := by decide +kernel
theorem dX1_spearersAt_35 : decode cX1_spearersAt 35 = .ok (.ireturn, 1) := by decide +kernel
theorem dX1_nearestWardenTo_0 : decode cX1_nearestWardenTo 0 = .ok (.iconst (-1), 1) := by decide +kernel
theorem dX1_nearestWardenTo_1 : decode cX1_nearestWardenTo 1 = .ok (.istore_n 2, 1) := by decide +kernel
theorem dX1_nearestWardenTo_2 : decode cX1_nearestWardenTo 2 = .ok (.iconst 0, 1) := by decide +kernel
theorem dX1_nearestWardenTo_3 : decode cX1_nearestWardenTo 3 = .ok (.istore_n 3, 1) := by decide +kernel
theorem dX1_nearestWardenTo_4 : decode cX1_nearestWardenTo 4 = .ok (.iload_n 3, 1) := by decide +kernel
theorem dX1_nearestWardenTo_5 : decode cX1_nearestWardenTo 5 = .ok (.aload_n 0, 1) := by decide +kernel
theorem dX1_nearestWardenTo_6 : decode cX1_nearestWardenTo 6 = .ok (.getfield 59, 3) := by decide +kernel
theorem dX1_nearestWardenTo_9 : decode cX1_nearestWardenTo 9 = .ok (.if_icmp .ge 54, 3) := by decide +kernel
theorem dX1_nearestWardenTo_12 : decode cX1_nearestWardenTo 12 = .ok (.aload_n 0, 1) := by decide +kernel
theorem dX1_nearestWardenTo_13 : decode cX1_nearestWardenTo 13 = .ok (.getfield 37, 3) := by decide +kernel
theorem dX1_nearestWardenTo_16 : decode cX1_nearestWardenTo 16 = .ok (.iload_n 3, 1) := by decide +kernel
theorem dX1_nearestWardenTo_17 : decode cX1_nearestWardenTo 17 = .ok (.aaload, 1) := by decide +kernel
theorem dX1_nearestWardenTo_18 : decode cX1_nearestWardenTo 18 = .ok (.getfield 88, 3) := by decide +kernel
theorem dX1_nearestWardenTo_21 : decode cX1_nearestWardenTo 21 = .ok (.aload_n 0, 1) := by decide +kernel
theorem dX1_nearestWardenTo_22 : decode cX1_nearestWardenTo 22 = .ok (.getfield 37, 3) := by decide +kernel
theorem dX1_nearestWardenTo_25 : decode cX1_nearestWardenTo 25 = .ok (.iload_n 3, 1) := by decide +kernel
theorem dX1_nearestWardenTo_26 : decode cX1_nearestWardenTo 26 = .ok (.aaload, 1) := by decide +kernel
theorem dX1_nearestWardenTo_27 : decode cX1_nearestWardenTo 27 = .ok (.getfield 89, 3) := by decide +kernel
theorem dX1_nearestWardenTo_30 : decode cX1_nearestWardenTo 30 = .ok (.aload_n 1, 1) := by decide +kernel
theorem dX1_nearestWardenTo_31 : decode cX1_nearestWardenTo 31 = .ok (.getfield 72, 3) := by decide +kernel
theorem dX1_nearestWardenTo_34 : decode cX1_nearestWardenTo 34 = .ok (.aload_n 1, 1) := by decide +kernel
theorem dX1_nearestWardenTo_35 : decode cX1_nearestWardenTo 35 = .ok (.getfield 75, 3) := by decide +kernel
theorem dX1_nearestWardenTo_38 : decode cX1_nearestWardenTo 38 = .ok (.invokestatic 142, 3) := by decide +kernel
theorem dX1_nearestWardenTo_41 : decode cX1_nearestWardenTo 41 = .ok (.istore 4, 2) := by decide +kernel
theorem dX1_nearestWardenTo_43 : decode cX1_nearestWardenTo 43 = .ok (.iload_n 2, 1) := by decide +kernel
theorem dX1_nearestWardenTo_44 : decode cX1_nearestWardenTo 44 = .ok (.iconst (-1), 1) := by decide +kernel
theorem dX1_nearestWardenTo_45 : decode cX1_nearestWardenTo 45 = .ok (.if_icmp .eq 9, 3) := by decide +kernel
theorem dX1_nearestWardenTo_48 : decode cX1_nearestWardenTo 48 = .ok (.iload 4, 2) := by decide +kernel
theorem dX1_nearestWardenTo_50 : decode cX1_nearestWardenTo 50 = .ok (.iload_n 2, 1) := by decide +kernel
theorem dX1_nearestWardenTo_51 : decode cX1_nearestWardenTo 51 = .ok (.if_icmp .ge 6, 3) := by decide +kernel
theorem dX1_nearestWardenTo_54 : decode cX1_nearestWardenTo 54 = .ok (.iload 4, 2) := by decide +kernel
theorem dX1_nearestWardenTo_56 : decode cX1_nearestWardenTo 56 = .ok (.istore_n 2, 1) := by decide +kernel
theorem dX1_nearestWardenTo_57 : decode cX1_nearestWardenTo 57 = .ok (.iinc 3 1, 3) := by decide +kernel
theorem dX1_nearestWardenTo_60 : decode cX1_nearestWardenTo 60 = .ok (.goto (-56), 3) := by decide +kernel
theorem dX1_nearestWardenTo_63 : decode cX1_nearestWardenTo 63 = .ok (.iload_n 2, 1) := by decide +kernel
theorem dX1_nearestWardenTo_64 : decode cX1_nearestWardenTo 64 = .ok (.ireturn, 1) := by decide +kernel
theorem dX1_eelsOfLake_0 : decode cX1_eelsOfLake 0 = .ok (.iconst 0, 1) := by decide +kernel
theorem dX1_eelsOfLake_1 : decode cX1_eelsOfLake 1 = .ok (.istore_n 1, 1) := by decide +kernel
theorem dX1_eelsOfLake_2 : decode cX1_eelsOfLake 2 = .ok (.iconst 0, 1) := by decide +kernel
theorem dX1_eelsOfLake_3 : decode cX1_eelsOfLake 3 = .ok (.istore_n 2, 1) := by decide +kernel
theorem dX1_eelsOfLake_4 : decode cX1_eelsOfLake 4 = .ok (.iload_n 2, 1) := by decide +kernel
theorem dX1_eelsOfLake_5 : decode cX1_eelsOfLake 5 = .ok (.bipush 81, 2) := by decide +kernel
theorem dX1_eelsOfLake_7 : decode cX1_eelsOfLake 7 = .ok (.if_icmp .ge 18, 3) := by decide +kernel
theorem dX1_eelsOfLake_10 : decode cX1_eelsOfLake 10 = .ok (.iload_n 1, 1) := by decide +kernel
theorem dX1_eelsOfLake_11 : decode cX1_eelsOfLake 11 = .ok (.aload_n 0, 1) := by decide +kernel
theorem dX1_eelsOfLake_12 : decode cX1_eelsOfLake 12 = .ok (.getfield 9, 3) := by decide +kernel
theorem dX1_eelsOfLake_15 : decode cX1_eelsOfLake 15 = .ok (.iload_n 2, 1) := by decide +kernel
theorem dX1_eelsOfLake_16 : decode cX1_eelsOfLake 16 = .ok (.iaload, 1) := by decide +kernel
theorem dX1_eelsOfLake_17 : decode cX1_eelsOfLake 17 = .ok (.iadd, 1) := by decide +kernel
theorem dX1_eelsOfLake_18 : decode cX1_eelsOfLake 18 = .ok (.istore_n 1, 1) := by decide +kernel
theorem dX1_eelsOfLake_19 : decode cX1_eelsOfLake 19 = .ok (.iinc 2 1, 3) := by decide +kernel
theorem dX1_eelsOfLake_22 : decode cX1_eelsOfLake 22 = .ok (.goto (-18), 3) := by decide +kernel
theorem dX1_eelsOfLake_25 : decode cX1_eelsOfLake 25 = .ok (.iload_n 1, 1) := by decide +kernel
theorem dX1_eelsOfLake_26 : decode cX1_eelsOfLake 26 = .ok (.ireturn, 1) := by decide +kernel
theorem dX1_openHoles_0 : decode cX1_openHoles 0 = .ok (.iconst 0, 1) := by decide +kernel
theorem dX1_openHoles_1 : decode cX1_openHoles 1 = .ok (.istore_n 1, 1) := by decide +kernel
theorem dX1_openHoles_2 : decode cX1_openHoles 2 = .ok (.iconst 0, 1) := by decide +kernel
theorem dX1_openHoles_3 : decode cX1_openHoles 3 = .ok (.istore_n 2, 1) := by decide +kernel
theorem dX1_openHoles_4 : decode cX1_openHoles 4 = .ok (.iload_n 2, 1) := by decide +kernel
theorem dX1_openHoles_5 : decode cX1_openHoles 5 = .ok (.aload_n 0, 1) := by decide +kernel
theorem dX1_openHoles_6 : decode cX1_openHoles 6 = .ok (.getfield 46, 3) := by decide +kernel
theorem dX1_openHoles_9 : decode cX1_openHoles 9 = .ok (.if_icmp .ge 24, 3) := by decide +kernel
theorem dX1_openHoles_12 : decode cX1_openHoles 12 = .ok (.aload_n 0, 1) := by decide +kernel
theorem dX1_openHoles_13 : decode cX1_openHoles 13 = .ok (.getfield 23, 3) := by decide +kernel
theorem dX1_openHoles_16 : decode cX1_openHoles 16 = .ok (.iload_n 2, 1) := by decide +kernel
theorem dX1_openHoles_17 : decode cX1_openHoles 17 = .ok (.aaload, 1) := by decide +kernel
theorem dX1_openHoles_18 : decode cX1_openHoles 18 = .ok (.getfield 78, 3) := by decide +kernel
theorem dX1_openHoles_21 : decode cX1_openHoles 21 = .ok (.ifCond .eq 6, 3) := by decide +kernel
theorem dX1_openHoles_24 : decode cX1_openHoles 24 = .ok (.iinc 1 1, 3) := by decide +kernel
theorem dX1_openHoles_27 : decode cX1_openHoles 27 = .ok (.iinc 2 1, 3) := by decide +kernel
theorem dX1_openHoles_30 : decode cX1_openHoles 30 = .ok (.goto (-26), 3) := by decide +kernel
theorem dX1_openHoles_33 : decode cX1_openHoles 33 = .ok (.iload_n 1, 1) := by decide +kernel
theorem dX1_openHoles_34 : decode cX1_openHoles 34 = .ok (.ireturn, 1) := by decide +kernel
theorem dX1_eelsOfSpearers_0 : decode cX1_eelsOfSpearers 0 = .ok (.iconst 0, 1) := by decide +kernel
theorem dX1_eelsOfSpearers_1 : decode cX1_eelsOfSpearers 1 = .ok (.istore_n 1, 1) := by decide +kernel
theorem dX1_eelsOfSpearers_2 : decode cX1_eelsOfSpearers 2 = .ok (.iconst 0, 1) := by decide +kernel
theorem dX1_eelsOfSpearers_3 : decode cX1_eelsOfSpearers 3 = .ok (.istore_n 2, 1) := by decide +kernel
theorem dX1_eelsOfSpearers_4 : decode cX1_eelsOfSpearers 4 = .ok (.iload_n 2, 1) := by decide +kernel
theorem dX1_eelsOfSpearers_5 : decode cX1_eelsOfSpearers 5 = .ok (.aload_n 0, 1) := by decide +kernel
theorem dX1_eelsOfSpearers_6 : decode cX1_eelsOfSpearers 6 = .ok (.getfield 53, 3) := by decide +kernel
theorem dX1_eelsOfSpearers_9 : decode cX1_eelsOfSpearers 9 = .ok (.if_icmp .ge 21, 3) := by decide +kernel
theorem dX1_eelsOfSpearers_12 : decode cX1_eelsOfSpearers 12 = .ok (.iload_n 1, 1) := by decide +kernel
theorem dX1_eelsOfSpearers_13 : decode cX1_eelsOfSpearers 13 = .ok (.aload_n 0, 1) := by decide +kernel
theorem dX1_eelsOfSpearers_14 : decode cX1_eelsOfSpearers 14 = .ok (.getfield 30, 3) := by decide +kernel
theorem dX1_eelsOfSpearers_17 : decode cX1_eelsOfSpearers 17 = .ok (.iload_n 2, 1) := by decide +kernel
theorem dX1_eelsOfSpearers_18 : decode cX1_eelsOfSpearers 18 = .ok (.aaload, 1) := by decide +kernel
theorem dX1_eelsOfSpearers_19 : decode cX1_eelsOfSpearers 19 = .ok (.getfield 146, 3) := by decide +kernel
theorem dX1_eelsOfSpearers_22 : decode cX1_eelsOfSpearers 22 = .ok (.iadd, 1) := by decide +kernel
theorem dX1_eelsOfSpearers_23 : decode cX1_eelsOfSpearers 23 = .ok (.istore_n 1, 1) := by decide +kernel
theorem dX1_eelsOfSpearers_24 : decode cX1_eelsOfSpearers 24 = .ok (.iinc 2 1, 3) := by decide +kernel
theorem dX1_eelsOfSpearers_27 : decode cX1_eelsOfSpearers 27 = .ok (.goto (-23), 3) := by decide +kernel
theorem dX1_eelsOfSpearers_30 : decode cX1_eelsOfSpearers 30 = .ok (.iload_n 1, 1) := by decide +kernel
theorem dX1_eelsOfSpearers_31 : decode cX1_eelsOfSpearers 31 = .ok (.ireturn, 1) := by decide +kernel
theorem dX1_finesOfSpearers_0 : decode cX1_finesOfSpearers 0 = .ok (.iconst 0, 1) := by decide +kernel
theorem dX1_finesOfSpearers_1 : decode cX1_finesOfSpearers 1 = .ok (.istore_n 1, 1) := by decide +kernel
theorem dX1_finesOfSpearers_2 : decode cX1_finesOfSpearers 2 = .ok (.iconst 0, 1) := by decide +kernel
theorem dX1_finesOfSpearers_3 : decode cX1_finesOfSpearers 3 = .ok (.istore_n 2, 1) := by decide +kernel
theorem dX1_finesOfSpearers_4 : decode cX1_finesOfSpearers 4 = .ok (.iload_n 2, 1) := by decide +kernel
theorem dX1_finesOfSpearers_5 : decode cX1_finesOfSpearers 5 = .ok (.aload_n 0, 1) := by decide +kernel
theorem dX1_finesOfSpearers_6 : decode cX1_finesOfSpearers 6 = .ok (.getfield 53, 3) := by decide +kernel
theorem dX1_finesOfSpearers_9 : decode cX1_finesOfSpearers 9 = .ok (.if_icmp .ge 21, 3) := by decide +kernel
theorem dX1_finesOfSpearers_12 : decode cX1_finesOfSpearers 12 = .ok (.iload_n 1, 1) := by decide +kernel
theorem dX1_finesOfSpearers_13 : decode cX1_finesOfSpearers 13 = .ok (.aload_n 0, 1) := by decide +kernel
theorem dX1_finesOfSpearers_14 : decode cX1_finesOfSpearers 14 = .ok (.getfield 30, 3) := by decide +kernel
theorem dX1_finesOfSpearers_17 : decode cX1_finesOfSpearers 17 = .ok (.iload_n 2, 1) := by decide +kernel
theorem dX1_finesOfSpearers_18 : decode cX1_finesOfSpearers 18 = .ok (.aaload, 1) := by decide +kernel
theorem dX1_finesOfSpearers_19 : decode cX1_finesOfSpearers 19 = .ok (.getfield 148, 3) := by decide +kernel
theorem dX1_finesOfSpearers_22 : decode cX1_finesOfSpearers 22 = .ok (.iadd, 1) := by decide +kernel
theorem dX1_finesOfSpearers_23 : decode cX1_finesOfSpearers 23 = .ok (.istore_n 1, 1) := by decide +kernel
theorem dX1_finesOfSpearers_24 : decode cX1_finesOfSpearers 24 = .ok (.iinc 2 1, 3) := by decide +kernel
theorem dX1_finesOfSpearers_27 : decode cX1_finesOfSpearers 27 = .ok (.goto (-23), 3) := by decide +kernel
theorem dX1_finesOfSpearers_30 : decode cX1_finesOfSpearers 30 = .ok (.iload_n 1, 1) := by decide +kernel
theorem dX1_finesOfSpearers_31 : decode cX1_finesOfSpearers 31 = .ok (.ireturn, 1) := by decide +kernel
theorem sum_t {v : Vw} {h : Int32} {i : Nat} (c : v 8 i = h) : sumI (fun k => if v 8 k = h then 1 else 0) (i + 1) = sumI (fun k => if v 8 k = h then 1 else 0) i + 1 := by
  show _ + (if v 8 i = h then (1 : Int32) else 0) = _
  rw [if_pos c]
theorem sum_f {v : Vw} {h : Int32} {i : Nat} (c : ¬ v 8 i = h) : sumI (fun k => if v 8 k = h then 1 else 0) (i + 1) = sumI (fun k => if v 8 k = h then 1 else 0) i := by
  show _ + (if v 8 i = h then (1 : Int32) else 0) = _
  rw [if_neg c, Int32.add_zero]
theorem sumo_f {f : Nat → Int32} {i : Nat} (c : f i = 0) : sumI f (i + 1) = sumI f i := by
  show _ + f i = _
  rw [c, Int32.add_zero]
theorem sumo_t {f : Nat → Int32} {i : Nat} (q : f i = 0 ∨ f i = 1) (c : ¬ f i = 0) : sumI f (i + 1) = sumI f i + 1 := by
  show _ + f i = _
  rw [q.resolve_left c]
def fmod (a b : Int32) : Int32 := if (a ^^^ b) < 0 ∧ ¬ a - a / b * b = 0 then a - a / b * b + b else a - a / b * b
theorem fm7 {t : Nat} (ht : t < 2 ^ 30) : fmod (nI t) 7 = nI (t % 7) := by
  unfold fmod
  have e : (nI t) - (nI t) / 7 * 7 = nI (t % 7) := pk_rem (a := t) (d := 7) (by omega) (by decide) (by decide)
  rw [if_neg, e]
  rintro ⟨h, -⟩
  rw [show (nI t ^^^ 7) = nI (t ^^^ 7) from by apply Int32.toBitVec_inj.mp; simp [nI]] at h
  exact nI_pos (Nat.xor_lt_two_pow (by omega) (by decide)) h
theorem would_cls {v : Vw} (hv : Inv v) {c : Nat} (hc : c < 81) : imin (v 0 c) (imax 0 (v 0 c / 2 + 1 - v 1 c)) = would v c := by
  obtain ⟨j, hj, e⟩ := hv.hC c hc
  unfold would
  have h0 : ¬ v 0 c < 0 := by rw [e]; exact nI_pos (by omega)
  generalize v 0 c / 2 + 1 - v 1 c = z
  generalize v 0 c = y at *
  simp only [Int32.lt_iff_toInt_lt, Int32.toInt_zero] at *
  unfold imax imin
  split <;> split <;> (try split) <;> (try split) <;> simp_all [Int32.lt_iff_toInt_lt] <;> first | omega | (apply Int32.toInt_inj.mp; simp; omega)
set_option maxHeartbeats 4000000 in
set_option maxRecDepth 100000 in
theorem c_floorMod (l : Launch) {g : Gm} {en : Key → va_E} (a b : Int32) (hb0 : ¬ b = 0) : MI l yJ9_floorMod_7cf53 cJ9_floorMod_7cf53 3 .int (rm 0 0) g KK en [.int (a), .int (b)] (fmod a b) en := by
  refine met_ofF (by decide +kernel) (Nat.le_of_ble_eq_true rfl) ?_
  intro p e s m below meth c ls hC hr_ hlk hnm hE hP hS hl
  obtain ⟨hx, hb, hml, hown, hG⟩ := id hC
  have hl : lv_has ls 3 [(0, .int (a)), (1, .int (b))] := hl
  refine lv_iload_n hx hb dJ9_floorMod_7cf53_0 rfl (lv_at hl 0 rfl) ?_
  refine lv_iload_n hx hb dJ9_floorMod_7cf53_1 rfl (lv_at hl 1 rfl) ?_
  refine lv_irem hx hb dJ9_floorMod_7cf53_2 (hb0) ?_
  refine lv_istore_n (lv' := [(2, .int (a - a / b * b)), (0, .int (a)), (1, .int (b))]) hx hb dJ9_floorMod_7cf53_3 rfl hl (by decide) rfl (fun ls hl => ?_)
  refine lv_iload_n hx hb dJ9_floorMod_7cf53_4 rfl (lv_at hl 1 rfl) ?_
  refine lv_iload_n hx hb dJ9_floorMod_7cf53_5 rfl (lv_at hl 2 rfl) ?_
  refine lv_ixor hx hb dJ9_floorMod_7cf53_6 ?_
  refine lv_if_ge (tgt := 18) hx hb dJ9_floorMod_7cf53_7 (by decide) (fun c1 => ?_) (fun c1 => ?_)
  · refine lv_iload_n hx hb dJ9_floorMod_7cf53_18 rfl (lv_at hl 0 rfl) ?_
    exact m_iret hC hr_ hlk hS hP rfl (by first | (unfold fmod; rw [if_neg (fun q => absurd q.1 (Int32.not_lt.mpr c1))]; done) | (unfold fmod; rw [if_neg (fun q => q.2 c2)]; done) | (unfold fmod; rw [if_pos ⟨Int32.not_le.mp c1, c2⟩]; done)) dJ9_floorMod_7cf53_19
  · refine lv_iload_n hx hb dJ9_floorMod_7cf53_10 rfl (lv_at hl 0 rfl) ?_
    refine lv_if_eq (tgt := 18) hx hb dJ9_floorMod_7cf53_11 (by decide) (fun c2 => ?_) (fun c2 => ?_)
    · refine lv_iload_n hx hb dJ9_floorMod_7cf53_18 rfl (lv_at hl 0 rfl) ?_
      exact m_iret hC hr_ hlk hS hP rfl (by first | (unfold fmod; rw [if_neg (fun q => absurd q.1 (Int32.not_lt.mpr c1))]; done) | (unfold fmod; rw [if_neg (fun q => q.2 c2)]; done) | (unfold fmod; rw [if_pos ⟨Int32.not_le.mp c1, c2⟩]; done)) dJ9_floorMod_7cf53_19
    · refine lv_iload_n hx hb dJ9_floorMod_7cf53_14 rfl (lv_at hl 0 rfl) ?_
      refine lv_iload_n hx hb dJ9_floorMod_7cf53_15 rfl (lv_at hl 2 rfl) ?_
      refine lv_iadd hx hb dJ9_floorMod_7cf53_16 ?_
      exact m_iret hC hr_ hlk hS hP rfl (by first | (unfold fmod; rw [if_neg (fun q => absurd q.1 (Int32.not_lt.mpr c1))]; done) | (unfold fmod; rw [if_neg (fun q => q.2 c2)]; done) | (unfold fmod; rw [if_pos ⟨Int32.not_le.mp c1, c2⟩]; done)) dJ9_floorMod_7cf53_17
set_option maxHeartbeats 4000000 in
set_option maxRecDepth 100000 in
theorem c_hasHole (l : Launch) {g : Gm} (hI : IJ g KK) {M : Mem} {o : Nat → Int64} {r : Nat} (hr : r < 2) {v : Vw} (x : Int32) : MI l yX1_hasHole cX1_hasHole 2 .boolean (rm 1 22) g KK (ent g (setR M r v) o) [.ref (ad g (3, r, 0)), .int (x)] (b2i (isIn x 0 (v 16 0 - 1))) (ent g (setR M r v) o) := by
  refine met_of (by decide +kernel) (Nat.le_of_ble_eq_true rfl) ?_
  intro p e s m below meth c ls hC hr_ hlk hnm hE hP hS hl
  obtain ⟨hx, hb, hml, hown, hG⟩ := id hC
  have hl : lv_has ls 2 [(0, .ref (ad g (3, r, 0))), (1, .int (x))] := hl
  refine lv_iload_n hx hb dX1_hasHole_0 rfl (lv_at hl 1 rfl) ?_
  refine lv_iconst (v := 0) hx hb dX1_hasHole_1 (by decide) ?_
  refine lv_aload_n hx hb dX1_hasHole_2 rfl (lv_at hl 0 rfl) ?_
  refine m_get hC hE hP (k_3 hr) e_3 rfl u_1 6 (by decide) w_126 rfl rfl dX1_hasHole_3 ?_
  refine lv_iconst (v := 1) hx hb dX1_hasHole_6 (by decide) ?_
  refine lv_isub hx hb dX1_hasHole_7 ?_
  refine on_i (run_SN hC hE hP hS (As := [.int (x), .int ((0 : Int32)), .int ((v 16 0) - (1 : Int32))]) (c_isWithin l x (0 : Int32) ((v 16 0) - (1 : Int32))) cal_X4_isWithin n_438 ⟨Nat.le_of_ble_eq_true rfl, Nat.le_of_ble_eq_true rfl⟩ rfl rfl (Nat.le_of_ble_eq_true rfl) hl.1 ⟨Nat.le_of_ble_eq_true rfl, Nat.le_of_ble_eq_true rfl⟩ dX1_hasHole_8) hS (fun H locs hP hS => ?_)
  exact m_iret hC hr_ hlk hS (hP.castR (rfl)) (by first | rfl | exact nar_b _) (rfl) dX1_hasHole_11
set_option maxHeartbeats 4000000 in
set_option maxRecDepth 100000 in
theorem c_hasSpearer (l : Launch) {g : Gm} (hI : IJ g KK) {M : Mem} {o : Nat → Int64} {r : Nat} (hr : r < 2) {v : Vw} (x : Int32) : MI l yX1_hasSpearer cX1_hasSpearer 2 .boolean (rm 1 22) g KK (ent g (setR M r v) o) [.ref (ad g (3, r, 0)), .int (x)] (b2i (isIn x 0 (v 16 1 - 1))) (ent g (setR M r v) o) := by
  refine met_of (by decide +kernel) (Nat.le_of_ble_eq_true rfl) ?_
  intro p e s m below meth c ls hC hr_ hlk hnm hE hP hS hl
  obtain ⟨hx, hb, hml, hown, hG⟩ := id hC
  have hl : lv_has ls 2 [(0, .ref (ad g (3, r, 0))), (1, .int (x))] := hl
  refine lv_iload_n hx hb dX1_hasSpearer_0 rfl (lv_at hl 1 rfl) ?_
  refine lv_iconst (v := 0) hx hb dX1_hasSpearer_1 (by decide) ?_
  refine lv_aload_n hx hb dX1_hasSpearer_2 rfl (lv_at hl 0 rfl) ?_
  refine m_get hC hE hP (k_3 hr) e_3 rfl u_1 7 (by decide) w_128 rfl rfl dX1_hasSpearer_3 ?_
  refine lv_iconst (v := 1) hx hb dX1_hasSpearer_6 (by decide) ?_
  refine lv_isub hx hb dX1_hasSpearer_7 ?_
  refine on_i (run_SN hC hE hP hS (As := [.int (x), .int ((0 : Int32)), .int ((v 16 1) - (1 : Int32))]) (c_isWithin l x (0 : Int32) ((v 16 1) - (1 : Int32))) cal_X4_isWithin n_438 ⟨Nat.le_of_ble_eq_true rfl, Nat.le_of_ble_eq_true rfl⟩ rfl rfl (Nat.le_of_ble_eq_true rfl) hl.1 ⟨Nat.le_of_ble_eq_true rfl, Nat.le_of_ble_eq_true rfl⟩ dX1_hasSpearer_8) hS (fun H locs hP hS => ?_)
  exact m_iret hC hr_ hlk hS (hP.castR (rfl)) (by first | rfl | exact nar_b _) (rfl) dX1_hasSpearer_11
set_option maxHeartbeats 4000000 in
set_option maxRecDepth 100000 in
theorem c_hasWarden (l : Launch) {g : Gm} (hI : IJ g KK) {M : Mem} {o : Nat → Int64} {r : Nat} (hr : r < 2) {v : Vw} (x : Int32) : MI l yX1_hasWarden cX1_hasWarden 2 .boolean (rm 1 22) g KK (ent g (setR M r v) o) [.ref (ad g (3, r, 0)), .int (x)] (b2i (isIn x 0 (v 16 2 - 1))) (ent g (setR M r v) o) := by
  refine met_of (by decide +kernel) (Nat.le_of_ble_eq_true rfl) ?_
  intro p e s m below meth c ls hC hr_ hlk hnm hE hP hS hl
  obtain ⟨hx, hb, hml, hown, hG⟩ := id hC
  have hl : lv_has ls 2 [(0, .ref (ad g (3, r, 0))), (1, .int (x))] := hl
  refine lv_iload_n hx hb dX1_hasWarden_0 rfl (lv_at hl 1 rfl) ?_
  refine lv_iconst (v := 0) hx hb dX1_hasWarden_1 (by decide) ?_
  refine lv_aload_n hx hb dX1_hasWarden_2 rfl (lv_at hl 0 rfl) ?_
  refine m_get hC hE hP (k_3 hr) e_3 rfl u_1 8 (by decide) w_130 rfl rfl dX1_hasWarden_3 ?_
  refine lv_iconst (v := 1) hx hb dX1_hasWarden_6 (by decide) ?_
  refine lv_isub hx hb dX1_hasWarden_7 ?_
  refine on_i (run_SN hC hE hP hS (As := [.int (x), .int ((0 : Int32)), .int ((v 16 2) - (1 : Int32))]) (c_isWithin l x (0 : Int32) ((v 16 2) - (1 : Int32))) cal_X4_isWithin n_438 ⟨Nat.le_of_ble_eq_true rfl, Nat.le_of_ble_eq_true rfl⟩ rfl rfl (Nat.le_of_ble_eq_true rfl) hl.1 ⟨Nat.le_of_ble_eq_true rfl, Nat.le_of_ble_eq_true rfl⟩ dX1_hasWarden_8) hS (fun H locs hP hS => ?_)
  exact m_iret hC hr_ hlk hS (hP.castR (rfl)) (by first | rfl | exact nar_b _) (rfl) dX1_hasWarden_11
set_option maxHeartbeats 4000000 in
set_option maxRecDepth 100000 in
theorem c_openHoleIn (l : Launch) {g : Gm} (hI : IJ g KK) {M : Mem} {o : Nat → Int64} {r : Nat} (hr : r < 2) {v : Vw} (hv : Inv v) (x y : Int32) : MI l yX1_openHoleIn cX1_openHoleIn 5 .int (rm 0 0) g KK (ent g (setR M r v) o) [.ref (ad g (3, r, 0)), .int (x), .int (y)] (openIn v x y) (ent g (setR M r v) o) := by
  refine met_of (by decide +kernel) (Nat.le_of_ble_eq_true rfl) ?_
  intro p e s m below meth c ls hC hr_ hlk hnm hE hP hS hl
  obtain ⟨hx, hb, hml, hown, hG⟩ := id hC
  have hl : lv_has ls 5 [(0, .ref (ad g (3, r, 0))), (1, .int (x)), (2, .int (y))] := hl
  have qH := hv.lH
  have qS := hv.lS
  have qW := hv.lW
  refine lv_iconst (v := 0) hx hb dX1_openHoleIn_0 (by decide) ?_
  refine lv_istore_n (lv' := [(3, .int ((0 : Int32))), (0, .ref (ad g (3, r, 0))), (1, .int (x)), (2, .int (y))]) hx hb dX1_openHoleIn_1 rfl hl (by decide) rfl (fun ls hl => ?_)
  refine lp_W (i0 := 0) (nH v) (fun i => ent g (setR M r v) o) (fun i => [(3, .int (nI i)), (0, .ref (ad g (3, r, 0))), (1, .int (x)), (2, .int (y))]) (fun i => ∀ j, j < i → opn v x y j = false) (Nat.zero_le _) (hP.castR (rfl)) hS (lv_sub hl [0, 1, 2, 3] rfl) (fun j h => absurd h (Nat.not_lt_zero _)) (fun H locs ls hP hS hl J => ?_) (fun i hi IH H locs ls hP hS hl J => ?_)
  · refine lv_iload_n hx hb dX1_openHoleIn_2 rfl (lv_at hl 0 rfl) ?_
    refine lv_aload_n hx hb dX1_openHoleIn_3 rfl (lv_at hl 1 rfl) ?_
    refine m_get hC hE hP (k_3 hr) e_3 rfl u_1 6 (by decide) w_126 rfl rfl dX1_openHoleIn_4 ?_
    refine m_top (y := nI (nH v)) (hv.eH) ?_
    refine lv_icmp_ge (tgt := 52) hx hb dX1_openHoleIn_7 (by decide) (fun c1 => ?_) (fun c1 => absurd (nI_le (Nat.le_refl _) (by omega)) c1)
    refine lv_iconst (v := (-1)) hx hb dX1_openHoleIn_52 (by decide) ?_
    exact m_iret hC hr_ hlk hS (hP.castR (rfl)) rfl ((fst1_no J).symm) dX1_openHoleIn_53
  · refine lv_iload_n hx hb dX1_openHoleIn_2 rfl (lv_at hl 0 rfl) ?_
    refine lv_aload_n hx hb dX1_openHoleIn_3 rfl (lv_at hl 1 rfl) ?_
    refine m_get hC hE hP (k_3 hr) e_3 rfl u_1 6 (by decide) w_126 rfl rfl dX1_openHoleIn_4 ?_
    refine m_top (y := nI (nH v)) (hv.eH) ?_
    refine lv_icmp_ge (tgt := 52) hx hb dX1_openHoleIn_7 (by decide) (fun c2 => absurd c2 (nI_ge hi (by omega))) (fun c2 => ?_)
    refine lv_aload_n hx hb dX1_openHoleIn_10 rfl (lv_at hl 1 rfl) ?_
    refine m_get hC hE hP (k_3 hr) e_3 rfl u_1 3 (by decide) w_120 rfl rfl dX1_openHoleIn_11 ?_
    refine lv_iload_n hx hb dX1_openHoleIn_14 rfl (lv_at hl 0 rfl) ?_
    refine m_aald hC hE hP (k_5 hr) f_5 rfl i (rfl) (by omega) (by decide) rfl dX1_openHoleIn_15 ?_
    refine lv_astore (lv' := [(4, .ref (ad g (0, r, i))), (3, .int (nI i)), (0, .ref (ad g (3, r, 0))), (1, .int (x)), (2, .int (y))]) hx hb dX1_openHoleIn_16 hl (by decide) rfl (fun ls hl => ?_)
    refine lv_aload hx hb dX1_openHoleIn_18 (lv_at hl 0 rfl) ?_
    refine m_get hC hE hP (k_0 hr (by omega)) e_0 rfl u_0 2 (by decide) w_45 rfl rfl dX1_openHoleIn_20 ?_
    refine lv_if_eq (tgt := 46) hx hb dX1_openHoleIn_23 (by decide) (fun c1 => ?_) (fun c1 => ?_)
    · refine lv_iinc (v := nI (i + 1)) (lv' := [(3, .int (nI (i + 1))), (4, .ref (ad g (0, r, i))), (0, .ref (ad g (3, r, 0))), (1, .int (x)), (2, .int (y))]) hx hb dX1_openHoleIn_46 hl (k := 1) rfl (nI_1 _) (by decide) rfl (fun ls hl => ?_)
      refine lv_goto (tgt := 2) hx hb dX1_openHoleIn_49 (by decide) ?_
      exact IH H locs ls (hP.castR (rfl)) hS (lv_sub hl [0, 2, 3, 4] rfl) (lt_s J (by first | (simp [opn, c1]; done) | (simp [opn, c1, c2]; done) | (simp [opn, c1, c2, c3]; done)))
    · refine lv_aload hx hb dX1_openHoleIn_26 (lv_at hl 0 rfl) ?_
      refine m_get hC hE hP (k_0 hr (by omega)) e_0 rfl u_0 0 (by decide) w_40 rfl rfl dX1_openHoleIn_28 ?_
      refine lv_iload_n hx hb dX1_openHoleIn_31 rfl (lv_at hl 3 rfl) ?_
      refine lv_icmp_ne (tgt := 46) hx hb dX1_openHoleIn_32 (by decide) (fun c2 => ?_) (fun c2 => ?_)
      · refine lv_iinc (v := nI (i + 1)) (lv' := [(3, .int (nI (i + 1))), (4, .ref (ad g (0, r, i))), (0, .ref (ad g (3, r, 0))), (1, .int (x)), (2, .int (y))]) hx hb dX1_openHoleIn_46 hl (k := 1) rfl (nI_1 _) (by decide) rfl (fun ls hl => ?_)
        refine lv_goto (tgt := 2) hx hb dX1_openHoleIn_49 (by decide) ?_
        exact IH H locs ls (hP.castR (rfl)) hS (lv_sub hl [0, 2, 3, 4] rfl) (lt_s J (by first | (simp [opn, c1]; done) | (simp [opn, c1, c2]; done) | (simp [opn, c1, c2, c3]; done)))
      · refine lv_aload hx hb dX1_openHoleIn_35 (lv_at hl 0 rfl) ?_
        refine m_get hC hE hP (k_0 hr (by omega)) e_0 rfl u_0 1 (by decide) w_43 rfl rfl dX1_openHoleIn_37 ?_
        refine lv_iload_n hx hb dX1_openHoleIn_40 rfl (lv_at hl 4 rfl) ?_
        refine lv_icmp_ne (tgt := 46) hx hb dX1_openHoleIn_41 (by decide) (fun c3 => ?_) (fun c3 => ?_)
        · refine lv_iinc (v := nI (i + 1)) (lv' := [(3, .int (nI (i + 1))), (4, .ref (ad g (0, r, i))), (0, .ref (ad g (3, r, 0))), (1, .int (x)), (2, .int (y))]) hx hb dX1_openHoleIn_46 hl (k := 1) rfl (nI_1 _) (by decide) rfl (fun ls hl => ?_)
          refine lv_goto (tgt := 2) hx hb dX1_openHoleIn_49 (by decide) ?_
          exact IH H locs ls (hP.castR (rfl)) hS (lv_sub hl [0, 2, 3, 4] rfl) (lt_s J (by first | (simp [opn, c1]; done) | (simp [opn, c1, c2]; done) | (simp [opn, c1, c2, c3]; done)))
        · refine lv_iload_n hx hb dX1_openHoleIn_44 rfl (lv_at hl 1 rfl) ?_
          exact m_iret hC hr_ hlk hS (hP.castR (rfl)) rfl ((fst1_yes J (by simp [opn, c1, c2, c3]) hi).symm) dX1_openHoleIn_45
set_option maxHeartbeats 4000000 in
set_option maxRecDepth 100000 in
theorem c_frostOf (l : Launch) {g : Gm} (hI : IJ g KK) {M : Mem} {o : Nat → Int64} {r : Nat} (hr : r < 2) {v : Vw} (t : Nat) (ht : t < 2 ^ 30) : MI l yX1_frostOf cX1_frostOf 2 .int (rm 1 22) g KK (ent g (setR M r v) o) [.ref (ad g (3, r, 0)), .int (nI t)] (v 2 (t % 7)) (ent g (setR M r v) o) := by
  refine met_of (by decide +kernel) (Nat.le_of_ble_eq_true rfl) ?_
  intro p e s m below meth c ls hC hr_ hlk hnm hE hP hS hl
  obtain ⟨hx, hb, hml, hown, hG⟩ := id hC
  have hl : lv_has ls 2 [(0, .ref (ad g (3, r, 0))), (1, .int (nI t))] := hl
  refine lv_aload_n hx hb dX1_frostOf_0 rfl (lv_at hl 0 rfl) ?_
  refine m_get hC hE hP (k_3 hr) e_3 rfl u_1 2 (by decide) w_118 rfl rfl dX1_frostOf_1 ?_
  refine lv_iload_n hx hb dX1_frostOf_4 rfl (lv_at hl 1 rfl) ?_
  refine lv_bipush (v := 7) hx hb dX1_frostOf_5 (by decide) ?_
  refine on_i (run_S hC hE hP hS (As := [.int (nI t), .int ((7 : Int32))]) (c_floorMod l (nI t) (7 : Int32) (by decide)) cal_J9_floorMod_7cf53 w_177 ⟨Nat.le_of_ble_eq_true rfl, Nat.le_of_ble_eq_true rfl⟩ rfl rfl (Nat.le_of_ble_eq_true rfl) hl.1 ⟨Nat.le_of_ble_eq_true rfl, Nat.le_of_ble_eq_true rfl⟩ dX1_frostOf_7) hS (fun H locs hP hS => ?_)
  refine m_top (y := nI (t % 7)) (fm7 ht) ?_
  refine m_iald hC hE hP (k_4 hr (by decide)) e_4 (t % 7) (rfl) (show (t % 7) < 7 from Nat.mod_lt _ (by decide)) (by decide) dX1_frostOf_10 ?_
  exact m_iret hC hr_ hlk hS (hP.castR (rfl)) rfl (rfl) dX1_frostOf_11
set_option maxHeartbeats 4000000 in
set_option maxRecDepth 100000 in
theorem c_catchIn (l : Launch) {g : Gm} (hI : IJ g KK) {M : Mem} {o : Nat → Int64} {r : Nat} (hr : r < 2) {v : Vw} (hv : Inv v) (b : Nat) (hb9 : b < 81) : MI l yX1_catchIn cX1_catchIn 3 .int (rm 1 21) g KK (ent g (setR M r v) o) [.ref (ad g (3, r, 0)), .int (nI b)] (would v b) (ent g (setR M r v) o) := by
  refine met_of (by decide +kernel) (Nat.le_of_ble_eq_true rfl) ?_
  intro p e s m below meth c ls hC hr_ hlk hnm hE hP hS hl
  obtain ⟨hx, hb, hml, hown, hG⟩ := id hC
  have hl : lv_has ls 3 [(0, .ref (ad g (3, r, 0))), (1, .int (nI b))] := hl
  refine lv_aload_n hx hb dX1_catchIn_0 rfl (lv_at hl 0 rfl) ?_
  refine m_get hC hE hP (k_3 hr) e_3 rfl u_1 0 (by decide) w_114 rfl rfl dX1_catchIn_1 ?_
  refine lv_iload_n hx hb dX1_catchIn_4 rfl (lv_at hl 1 rfl) ?_
  refine m_iald hC hE hP (k_4 hr (by decide)) e_4 b (rfl) (show b < 81 from by omega) (by decide) dX1_catchIn_5 ?_
  refine lv_iconst (v := 2) hx hb dX1_catchIn_6 (by decide) ?_
  refine lv_idiv hx hb dX1_catchIn_7 (by decide) ?_
  refine lv_iconst (v := 1) hx hb dX1_catchIn_8 (by decide) ?_
  refine lv_iadd hx hb dX1_catchIn_9 ?_
  refine lv_aload_n hx hb dX1_catchIn_10 rfl (lv_at hl 0 rfl) ?_
  refine m_get hC hE hP (k_3 hr) e_3 rfl u_1 1 (by decide) w_116 rfl rfl dX1_catchIn_11 ?_
  refine lv_iload_n hx hb dX1_catchIn_14 rfl (lv_at hl 1 rfl) ?_
  refine m_iald hC hE hP (k_4 hr (by decide)) e_4 b (rfl) (show b < 81 from by omega) (by decide) dX1_catchIn_15 ?_
  refine lv_isub hx hb dX1_catchIn_16 ?_
  refine lv_istore_n (lv' := [(2, .int ((((v 0 b) / (2 : Int32)) + (1 : Int32)) - (v 1 b))), (0, .ref (ad g (3, r, 0))), (1, .int (nI b))]) hx hb dX1_catchIn_17 rfl hl (by decide) rfl (fun ls hl => ?_)
  refine lv_aload_n hx hb dX1_catchIn_18 rfl (lv_at hl 1 rfl) ?_
  refine m_get hC hE hP (k_3 hr) e_3 rfl u_1 0 (by decide) w_114 rfl rfl dX1_catchIn_19 ?_
  refine lv_iload_n hx hb dX1_catchIn_22 rfl (lv_at hl 2 rfl) ?_
  refine m_iald hC hE hP (k_4 hr (by decide)) e_4 b (rfl) (show b < 81 from by omega) (by decide) dX1_catchIn_23 ?_
  refine lv_iconst (v := 0) hx hb dX1_catchIn_24 (by decide) ?_
  refine lv_iload_n hx hb dX1_catchIn_25 rfl (lv_at hl 0 rfl) ?_
  refine m_max hC w_242 w_187 w_14 w_188 hl.1 (by decide) (Nat.le_of_ble_eq_true rfl) (Nat.zero_le _) (Nat.zero_le _) dX1_catchIn_26 ?_
  refine m_top (y := imax (0 : Int32) ((((v 0 b) / (2 : Int32)) + (1 : Int32)) - (v 1 b))) rfl ?_
  refine m_min hC w_243 w_184 w_14 w_185 hl.1 (by decide) (Nat.le_of_ble_eq_true rfl) (Nat.zero_le _) (Nat.zero_le _) dX1_catchIn_29 ?_
  refine m_top (y := imin (v 0 b) (imax (0 : Int32) ((((v 0 b) / (2 : Int32)) + (1 : Int32)) - (v 1 b)))) rfl ?_
  exact m_iret hC hr_ hlk hS (hP.castR (rfl)) rfl (would_cls hv hb9) dX1_catchIn_32
set_option maxHeartbeats 4000000 in
set_option maxRecDepth 100000 in
theorem c_spearersAt (l : Launch) {g : Gm} (hI : IJ g KK) {M : Mem} {o : Nat → Int64} {r : Nat} (hr : r < 2) {v : Vw} (hv : Inv v) (h : Int32) : MI l yX1_spearersAt cX1_spearersAt 4 .int (rm 0 0) g KK (ent g (setR M r v) o) [.ref (ad g (3, r, 0)), .int (h)] (spAt v h) (ent g (setR M r v) o) := by
  refine met_of (by decide +kernel) (Nat.le_of_ble_eq_true rfl) ?_
  intro p e s m below meth c ls hC hr_ hlk hnm hE hP hS hl
  obtain ⟨hx, hb, hml, hown, hG⟩ := id hC
  have hl : lv_has ls 4 [(0, .ref (ad g (3, r, 0))), (1, .int (h))] := hl
  have qH := hv.lH
  have qS := hv.lS
  have qW := hv.lW
  refine lv_iconst (v := 0) hx hb dX1_spearersAt_0 (by decide) ?_
  refine lv_istore_n (lv' := [(2, .int ((0 : Int32))), (0, .ref (ad g (3, r, 0))), (1, .int (h))]) hx hb dX1_spearersAt_1 rfl hl (by decide) rfl (fun ls hl => ?_)
  refine lv_iconst (v := 0) hx hb dX1_spearersAt_2 (by decide) ?_
  refine lv_istore_n (lv' := [(3, .int ((0 : Int32))), (2, .int ((0 : Int32))), (0, .ref (ad g (3, r, 0))), (1, .int (h))]) hx hb dX1_spearersAt_3 rfl hl (by decide) rfl (fun ls hl => ?_)
  refine lp_W (i0 := 0) (nS v) (fun i => ent g (setR M r v) o) (fun i => [(3, .int (nI i)), (2, .int (sumI (fun k => if v 8 k = h then 1 else 0) i)), (0, .ref (ad g (3, r, 0))), (1, .int (h))]) (fun i => True) (Nat.zero_le _) (hP.castR (rfl)) hS (lv_sub hl [0, 1, 2, 3] rfl) (trivial) (fun H locs ls hP hS hl J => ?_) (fun i hi IH H locs ls hP hS hl J => ?_)
  · refine lv_iload_n hx hb dX1_spearersAt_4 rfl (lv_at hl 0 rfl) ?_
    refine lv_aload_n hx hb dX1_spearersAt_5 rfl (lv_at hl 2 rfl) ?_
    refine m_get hC hE hP (k_3 hr) e_3 rfl u_1 7 (by decide) w_128 rfl rfl dX1_spearersAt_6 ?_
    refine m_top (y := nI (nS v)) (hv.eS) ?_
    refine lv_icmp_ge (tgt := 34) hx hb dX1_spearersAt_9 (by decide) (fun c1 => ?_) (fun c1 => absurd (nI_le (Nat.le_refl _) (by omega)) c1)
    refine lv_iload_n hx hb dX1_spearersAt_34 rfl (lv_at hl 1 rfl) ?_
    exact m_iret hC hr_ hlk hS (hP.castR (rfl)) rfl (rfl) dX1_spearersAt_35
  · refine lv_iload_n hx hb dX1_spearersAt_4 rfl (lv_at hl 0 rfl) ?_
    refine lv_aload_n hx hb dX1_spearersAt_5 rfl (lv_at hl 2 rfl) ?_
    refine m_get hC hE hP (k_3 hr) e_3 rfl u_1 7 (by decide) w_128 rfl rfl dX1_spearersAt_6 ?_
    refine m_top (y := nI (nS v)) (hv.eS) ?_
    refine lv_icmp_ge (tgt := 34) hx hb dX1_spearersAt_9 (by decide) (fun c2 => absurd c2 (nI_ge hi (by omega))) (fun c2 => ?_)
    refine lv_aload_n hx hb dX1_spearersAt_12 rfl (lv_at hl 2 rfl) ?_
    refine m_get hC hE hP (k_3 hr) e_3 rfl u_1 4 (by decide) w_122 rfl rfl dX1_spearersAt_13 ?_
    refine lv_iload_n hx hb dX1_spearersAt_16 rfl (lv_at hl 0 rfl) ?_
    refine m_aald hC hE hP (k_6 hr) f_6 rfl i (rfl) (by omega) (by decide) rfl dX1_spearersAt_17 ?_
    refine m_get hC hE hP (k_1 hr (by omega)) e_1 rfl u_2 2 (by decide) w_68 rfl rfl dX1_spearersAt_18 ?_
    refine lv_iload_n hx hb dX1_spearersAt_21 rfl (lv_at hl 3 rfl) ?_
    refine lv_icmp_ne (tgt := 28) hx hb dX1_spearersAt_22 (by decide) (fun c1 => ?_) (fun c1 => ?_)
    · refine lv_iinc (v := nI (i + 1)) (lv' := [(3, .int (nI (i + 1))), (2, .int (sumI (fun k => if v 8 k = h then 1 else 0) i)), (0, .ref (ad g (3, r, 0))), (1, .int (h))]) hx hb dX1_spearersAt_28 hl (k := 0) rfl (nI_1 _) (by decide) rfl (fun ls hl => ?_)
      refine lv_goto (tgt := 4) hx hb dX1_spearersAt_31 (by decide) ?_
      exact IH H locs ls (hP.castR (rfl)) hS (by show lv_has ls _ [(3, .int (nI (i + 1))), (2, .int (sumI (fun k => if v 8 k = h then 1 else 0) (i + 1))), (0, .ref (ad g (3, r, 0))), (1, .int (h))]; rw [show sumI (fun k => if v 8 k = h then 1 else 0) (i + 1) = sumI (fun k => if v 8 k = h then 1 else 0) i from by first | exact sum_t c1 | exact sum_f c1]; exact lv_sub hl [0, 1, 2, 3] rfl) (trivial)
    · refine lv_iinc (v := sumI (fun k => if v 8 k = h then 1 else 0) i + 1) (lv' := [(2, .int (sumI (fun k => if v 8 k = h then 1 else 0) i + 1)), (3, .int (nI i)), (0, .ref (ad g (3, r, 0))), (1, .int (h))]) hx hb dX1_spearersAt_25 hl (k := 1) rfl (rfl) (by decide) rfl (fun ls hl => ?_)
      refine lv_iinc (v := nI (i + 1)) (lv' := [(3, .int (nI (i + 1))), (2, .int (sumI (fun k => if v 8 k = h then 1 else 0) i + 1)), (0, .ref (ad g (3, r, 0))), (1, .int (h))]) hx hb dX1_spearersAt_28 hl (k := 1) rfl (nI_1 _) (by decide) rfl (fun ls hl => ?_)
      refine lv_goto (tgt := 4) hx hb dX1_spearersAt_31 (by decide) ?_
      exact IH H locs ls (hP.castR (rfl)) hS (by show lv_has ls _ [(3, .int (nI (i + 1))), (2, .int (sumI (fun k => if v 8 k = h then 1 else 0) (i + 1))), (0, .ref (ad g (3, r, 0))), (1, .int (h))]; rw [show sumI (fun k => if v 8 k = h then 1 else 0) (i + 1) = sumI (fun k => if v 8 k = h then 1 else 0) i + 1 from by first | exact sum_t c1 | exact sum_f c1]; exact lv_sub hl [0, 1, 2, 3] rfl) (trivial)
set_option maxHeartbeats 4000000 in
set_option maxRecDepth 100000 in
theorem c_nearestWardenTo (l : Launch) {g : Gm} (hI : IJ g KK) {M : Mem} {o : Nat → Int64} {r : Nat} (hr : r < 2) {v : Vw} (hv : Inv v) (h : Nat) (hh : h < 12) : MI l yX1_nearestWardenTo cX1_nearestWardenTo 5 .int (rm 2 44) g KK (ent g (setR M r v) o) [.ref (ad g (3, r, 0)), .ref (ad g (0, r, h))] (near v h) (ent g (setR M r v) o) := by
  refine met_of (by decide +kernel) (Nat.le_of_ble_eq_true rfl) ?_
  intro p e s m below meth c ls hC hr_ hlk hnm hE hP hS hl
  obtain ⟨hx, hb, hml, hown, hG⟩ := id hC
  have hl : lv_has ls 5 [(0, .ref (ad g (3, r, 0))), (1, .ref (ad g (0, r, h)))] := hl
  have qH := hv.lH
  have qS := hv.lS
  have qW := hv.lW
  refine lv_iconst (v := (-1)) hx hb dX1_nearestWardenTo_0 (by decide) ?_
  refine lv_istore_n (lv' := [(2, .int ((-1 : Int32))), (0, .ref (ad g (3, r, 0))), (1, .ref (ad g (0, r, h)))]) hx hb dX1_nearestWardenTo_1 rfl hl (by decide) rfl (fun ls hl => ?_)
  refine lv_iconst (v := 0) hx hb dX1_nearestWardenTo_2 (by decide) ?_
  refine lv_istore_n (lv' := [(3, .int ((0 : Int32))), (2, .int ((-1 : Int32))), (0, .ref (ad g (3, r, 0))), (1, .ref (ad g (0, r, h)))]) hx hb dX1_nearestWardenTo_3 rfl hl (by decide) rfl (fun ls hl => ?_)
  refine lp_W (i0 := 0) (nW v) (fun i => ent g (setR M r v) o) (fun i => [(3, .int (nI i)), (2, .int (it (fun w q => if q = -1 ∨ farW v w h < q then farW v w h else q) i (-1))), (0, .ref (ad g (3, r, 0))), (1, .ref (ad g (0, r, h)))]) (fun i => True) (Nat.zero_le _) (hP.castR (rfl)) hS (lv_sub hl [0, 1, 2, 3] rfl) (trivial) (fun H locs ls hP hS hl J => ?_) (fun i hi IH H locs ls hP hS hl J => ?_)
  · refine lv_iload_n hx hb dX1_nearestWardenTo_4 rfl (lv_at hl 0 rfl) ?_
    refine lv_aload_n hx hb dX1_nearestWardenTo_5 rfl (lv_at hl 2 rfl) ?_
    refine m_get hC hE hP (k_3 hr) e_3 rfl u_1 8 (by decide) w_130 rfl rfl dX1_nearestWardenTo_6 ?_
    refine m_top (y := nI (nW v)) (hv.eW) ?_
    refine lv_icmp_ge (tgt := 63) hx hb dX1_nearestWardenTo_9 (by decide) (fun c1 => ?_) (fun c1 => absurd (nI_le (Nat.le_refl _) (by omega)) c1)
    refine lv_iload_n hx hb dX1_nearestWardenTo_63 rfl (lv_at hl 1 rfl) ?_
    exact m_iret hC hr_ hlk hS (hP.castR (rfl)) rfl (rfl) dX1_nearestWardenTo_64
  · refine lv_iload_n hx hb dX1_nearestWardenTo_4 rfl (lv_at hl 0 rfl) ?_
    refine lv_aload_n hx hb dX1_nearestWardenTo_5 rfl (lv_at hl 2 rfl) ?_
    refine m_get hC hE hP (k_3 hr) e_3 rfl u_1 8 (by decide) w_130 rfl rfl dX1_nearestWardenTo_6 ?_
    refine m_top (y := nI (nW v)) (hv.eW) ?_
    refine lv_icmp_ge (tgt := 63) hx hb dX1_nearestWardenTo_9 (by decide) (fun c2 => absurd c2 (nI_ge hi (by omega))) (fun c2 => ?_)
    refine lv_aload_n hx hb dX1_nearestWardenTo_12 rfl (lv_at hl 2 rfl) ?_
    refine m_get hC hE hP (k_3 hr) e_3 rfl u_1 5 (by decide) w_124 rfl rfl dX1_nearestWardenTo_13 ?_
    refine lv_iload_n hx hb dX1_nearestWardenTo_16 rfl (lv_at hl 0 rfl) ?_
    refine m_aald hC hE hP (k_7 hr) f_7 rfl i (rfl) (by omega) (by decide) rfl dX1_nearestWardenTo_17 ?_
    refine m_get hC hE hP (k_2 hr (by omega)) e_2 rfl u_3 0 (by decide) w_98 rfl rfl dX1_nearestWardenTo_18 ?_
    refine lv_aload_n hx hb dX1_nearestWardenTo_21 rfl (lv_at hl 2 rfl) ?_
    refine m_get hC hE hP (k_3 hr) e_3 rfl u_1 5 (by decide) w_124 rfl rfl dX1_nearestWardenTo_22 ?_
    refine lv_iload_n hx hb dX1_nearestWardenTo_25 rfl (lv_at hl 0 rfl) ?_
    refine m_aald hC hE hP (k_7 hr) f_7 rfl i (rfl) (by omega) (by decide) rfl dX1_nearestWardenTo_26 ?_
    refine m_get hC hE hP (k_2 hr (by omega)) e_2 rfl u_3 1 (by decide) w_100 rfl rfl dX1_nearestWardenTo_27 ?_
    refine lv_aload_n hx hb dX1_nearestWardenTo_30 rfl (lv_at hl 3 rfl) ?_
    refine m_get hC hE hP (k_0 hr (by omega)) e_0 rfl u_0 0 (by decide) w_40 rfl rfl dX1_nearestWardenTo_31 ?_
    refine lv_aload_n hx hb dX1_nearestWardenTo_34 rfl (lv_at hl 3 rfl) ?_
    refine m_get hC hE hP (k_0 hr (by omega)) e_0 rfl u_0 1 (by decide) w_43 rfl rfl dX1_nearestWardenTo_35 ?_
    refine on_i (run_SN hC hE hP hS (As := [.int (v 12 i), .int (v 13 i), .int (v 3 h), .int (v 4 h)]) (c_distance l (v 12 i) (v 13 i) (v 3 h) (v 4 h)) cal_X4_distance n_256 ⟨Nat.le_of_ble_eq_true rfl, Nat.le_of_ble_eq_true rfl⟩ rfl rfl (Nat.le_of_ble_eq_true rfl) hl.1 ⟨Nat.le_of_ble_eq_true rfl, Nat.le_of_ble_eq_true rfl⟩ dX1_nearestWardenTo_38) hS (fun H locs hP hS => ?_)
    refine m_top (y := farW v i h) (rfl) ?_
    refine lv_istore (lv' := [(4, .int (farW v i h)), (3, .int (nI i)), (2, .int (it (fun w q => if q = -1 ∨ farW v w h < q then farW v w h else q) i (-1))), (0, .ref (ad g (3, r, 0))), (1, .ref (ad g (0, r, h)))]) hx hb dX1_nearestWardenTo_41 hl (by decide) rfl (fun ls hl => ?_)
    refine lv_iload_n hx hb dX1_nearestWardenTo_43 rfl (lv_at hl 2 rfl) ?_
    refine lv_iconst (v := (-1)) hx hb dX1_nearestWardenTo_44 (by decide) ?_
    refine lv_icmp_eq (tgt := 54) hx hb dX1_nearestWardenTo_45 (by decide) (fun c1 => ?_) (fun c1 => ?_)
    · refine lv_iload hx hb dX1_nearestWardenTo_54 (lv_at hl 0 rfl) ?_
      refine lv_istore_n (lv' := [(2, .int (farW v i h)), (4, .int (farW v i h)), (3, .int (nI i)), (0, .ref (ad g (3, r, 0))), (1, .ref (ad g (0, r, h)))]) hx hb dX1_nearestWardenTo_56 rfl hl (by decide) rfl (fun ls hl => ?_)
      refine lv_iinc (v := nI (i + 1)) (lv' := [(3, .int (nI (i + 1))), (2, .int (farW v i h)), (4, .int (farW v i h)), (0, .ref (ad g (3, r, 0))), (1, .ref (ad g (0, r, h)))]) hx hb dX1_nearestWardenTo_57 hl (k := 2) rfl (nI_1 _) (by decide) rfl (fun ls hl => ?_)
      refine lv_goto (tgt := 4) hx hb dX1_nearestWardenTo_60 (by decide) ?_
      exact IH H locs ls (hP.castR (rfl)) hS (by show lv_has ls _ [(3, .int (nI (i + 1))), (2, .int (it (fun w q => if q = -1 ∨ farW v w h < q then farW v w h else q) (i + 1) (-1))), (0, .ref (ad g (3, r, 0))), (1, .ref (ad g (0, r, h)))]; rw [show it (fun w q => if q = -1 ∨ farW v w h < q then farW v w h else q) (i + 1) (-1) = farW v i h from by first | exact if_pos (Or.inl c1) | exact if_pos (Or.inr (Int32.not_le.mp c2)) | exact if_neg (fun q => q.elim c1 (fun q => Int32.not_lt.mpr c2 q))]; exact lv_sub hl [0, 1, 3, 4] rfl) (trivial)
    · refine lv_iload hx hb dX1_nearestWardenTo_48 (lv_at hl 0 rfl) ?_
      refine lv_iload_n hx hb dX1_nearestWardenTo_50 rfl (lv_at hl 2 rfl) ?_
      refine lv_icmp_ge (tgt := 57) hx hb dX1_nearestWardenTo_51 (by decide) (fun c2 => ?_) (fun c2 => ?_)
      · refine lv_iinc (v := nI (i + 1)) (lv' := [(3, .int (nI (i + 1))), (4, .int (farW v i h)), (2, .int (it (fun w q => if q = -1 ∨ farW v w h < q then farW v w h else q) i (-1))), (0, .ref (ad g (3, r, 0))), (1, .ref (ad g (0, r, h)))]) hx hb dX1_nearestWardenTo_57 hl (k := 1) rfl (nI_1 _) (by decide) rfl (fun ls hl => ?_)
        refine lv_goto (tgt := 4) hx hb dX1_nearestWardenTo_60 (by decide) ?_
        exact IH H locs ls (hP.castR (rfl)) hS (by show lv_has ls _ [(3, .int (nI (i + 1))), (2, .int (it (fun w q => if q = -1 ∨ farW v w h < q then farW v w h else q) (i + 1) (-1))), (0, .ref (ad g (3, r, 0))), (1, .ref (ad g (0, r, h)))]; rw [show it (fun w q => if q = -1 ∨ farW v w h < q then farW v w h else q) (i + 1) (-1) = it (fun w q => if q = -1 ∨ farW v w h < q then farW v w h else q) i (-1) from by first | exact if_pos (Or.inl c1) | exact if_pos (Or.inr (Int32.not_le.mp c2)) | exact if_neg (fun q => q.elim c1 (fun q => Int32.not_lt.mpr c2 q))]; exact lv_sub hl [0, 2, 3, 4] rfl) (trivial)
      · refine lv_iload hx hb dX1_nearestWardenTo_54 (lv_at hl 0 rfl) ?_
        refine lv_istore_n (lv' := [(2, .int (farW v i h)), (4, .int (farW v i h)), (3, .int (nI i)), (0, .ref (ad g (3, r, 0))), (1, .ref (ad g (0, r, h)))]) hx hb dX1_nearestWardenTo_56 rfl hl (by decide) rfl (fun ls hl => ?_)
        refine lv_iinc (v := nI (i + 1)) (lv' := [(3, .int (nI (i + 1))), (2, .int (farW v i h)), (4, .int (farW v i h)), (0, .ref (ad g (3, r, 0))), (1, .ref (ad g (0, r, h)))]) hx hb dX1_nearestWardenTo_57 hl (k := 2) rfl (nI_1 _) (by decide) rfl (fun ls hl => ?_)
        refine lv_goto (tgt := 4) hx hb dX1_nearestWardenTo_60 (by decide) ?_
        exact IH H locs ls (hP.castR (rfl)) hS (by show lv_has ls _ [(3, .int (nI (i + 1))), (2, .int (it (fun w q => if q = -1 ∨ farW v w h < q then farW v w h else q) (i + 1) (-1))), (0, .ref (ad g (3, r, 0))), (1, .ref (ad g (0, r, h)))]; rw [show it (fun w q => if q = -1 ∨ farW v w h < q then farW v w h else q) (i + 1) (-1) = farW v i h from by first | exact if_pos (Or.inl c1) | exact if_pos (Or.inr (Int32.not_le.mp c2)) | exact if_neg (fun q => q.elim c1 (fun q => Int32.not_lt.mpr c2 q))]; exact lv_sub hl [0, 1, 3, 4] rfl) (trivial)
set_option maxHeartbeats 4000000 in
set_option maxRecDepth 100000 in
theorem c_eelsOfLake (l : Launch) {g : Gm} (hI : IJ g KK) {M : Mem} {o : Nat → Int64} {r : Nat} (hr : r < 2) {v : Vw} (hv : Inv v) : MI l yX1_eelsOfLake cX1_eelsOfLake 3 .int (rm 0 0) g KK (ent g (setR M r v) o) [.ref (ad g (3, r, 0))] (sumI (v 0) 81) (ent g (setR M r v) o) := by
  refine met_of (by decide +kernel) (Nat.le_of_ble_eq_true rfl) ?_
  intro p e s m below meth c ls hC hr_ hlk hnm hE hP hS hl
  obtain ⟨hx, hb, hml, hown, hG⟩ := id hC
  have hl : lv_has ls 3 [(0, .ref (ad g (3, r, 0)))] := hl
  refine lv_iconst (v := 0) hx hb dX1_eelsOfLake_0 (by decide) ?_
  refine lv_istore_n (lv' := [(1, .int ((0 : Int32))), (0, .ref (ad g (3, r, 0)))]) hx hb dX1_eelsOfLake_1 rfl hl (by decide) rfl (fun ls hl => ?_)
  refine lv_iconst (v := 0) hx hb dX1_eelsOfLake_2 (by decide) ?_
  refine lv_istore_n (lv' := [(2, .int ((0 : Int32))), (1, .int ((0 : Int32))), (0, .ref (ad g (3, r, 0)))]) hx hb dX1_eelsOfLake_3 rfl hl (by decide) rfl (fun ls hl => ?_)
  refine lp_W (i0 := 0) 81 (fun i => ent g (setR M r v) o) (fun i => [(2, .int (nI i)), (1, .int (sumI (v 0) i)), (0, .ref (ad g (3, r, 0)))]) (fun i => True) (Nat.zero_le _) (hP.castR (rfl)) hS (lv_sub hl [0, 1, 2] rfl) (trivial) (fun H locs ls hP hS hl J => ?_) (fun i hi IH H locs ls hP hS hl J => ?_)
  · refine lv_iload_n hx hb dX1_eelsOfLake_4 rfl (lv_at hl 0 rfl) ?_
    refine lv_bipush (v := 81) hx hb dX1_eelsOfLake_5 (by decide) ?_
    refine lv_icmp_ge (tgt := 25) hx hb dX1_eelsOfLake_7 (by decide) (fun c1 => ?_) (fun c1 => absurd (by decide) c1)
    refine lv_iload_n hx hb dX1_eelsOfLake_25 rfl (lv_at hl 1 rfl) ?_
    exact m_iret hC hr_ hlk hS (hP.castR (rfl)) rfl (rfl) dX1_eelsOfLake_26
  · refine lv_iload_n hx hb dX1_eelsOfLake_4 rfl (lv_at hl 0 rfl) ?_
    refine lv_bipush (v := 81) hx hb dX1_eelsOfLake_5 (by decide) ?_
    refine lv_icmp_ge (tgt := 25) hx hb dX1_eelsOfLake_7 (by decide) (fun c2 => absurd c2 (nI_ge (b := 81) hi (by decide))) (fun c2 => ?_)
    refine lv_iload_n hx hb dX1_eelsOfLake_10 rfl (lv_at hl 1 rfl) ?_
    refine lv_aload_n hx hb dX1_eelsOfLake_11 rfl (lv_at hl 2 rfl) ?_
    refine m_get hC hE hP (k_3 hr) e_3 rfl u_1 0 (by decide) w_114 rfl rfl dX1_eelsOfLake_12 ?_
    refine lv_iload_n hx hb dX1_eelsOfLake_15 rfl (lv_at hl 0 rfl) ?_
    refine m_iald hC hE hP (k_4 hr (by decide)) e_4 i (rfl) (show i < 81 from by omega) (by decide) dX1_eelsOfLake_16 ?_
    refine lv_iadd hx hb dX1_eelsOfLake_17 ?_
    refine lv_istore_n (lv' := [(1, .int ((sumI (v 0) i) + (v 0 i))), (2, .int (nI i)), (0, .ref (ad g (3, r, 0)))]) hx hb dX1_eelsOfLake_18 rfl hl (by decide) rfl (fun ls hl => ?_)
    refine lv_iinc (v := nI (i + 1)) (lv' := [(2, .int (nI (i + 1))), (1, .int ((sumI (v 0) i) + (v 0 i))), (0, .ref (ad g (3, r, 0)))]) hx hb dX1_eelsOfLake_19 hl (k := 1) rfl (nI_1 _) (by decide) rfl (fun ls hl => ?_)
    refine lv_goto (tgt := 4) hx hb dX1_eelsOfLake_22 (by decide) ?_
    exact IH H locs ls (hP.castR (rfl)) hS (lv_sub hl [0, 1, 2] rfl) (trivial)
set_option maxHeartbeats 4000000 in
set_option maxRecDepth 100000 in
theorem c_openHoles (l : Launch) {g : Gm} (hI : IJ g KK) {M : Mem} {o : Nat → Int64} {r : Nat} (hr : r < 2) {v : Vw} (hv : Inv v) : MI l yX1_openHoles cX1_openHoles 3 .int (rm 0 0) g KK (ent g (setR M r v) o) [.ref (ad g (3, r, 0))] (sumI (v 5) (nH v)) (ent g (setR M r v) o) := by
  refine met_of (by decide +kernel) (Nat.le_of_ble_eq_true rfl) ?_
  intro p e s m below meth c ls hC hr_ hlk hnm hE hP hS hl
  obtain ⟨hx, hb, hml, hown, hG⟩ := id hC
  have hl : lv_has ls 3 [(0, .ref (ad g (3, r, 0)))] := hl
  have qH := hv.lH
  have qS := hv.lS
  have qW := hv.lW
  refine lv_iconst (v := 0) hx hb dX1_openHoles_0 (by decide) ?_
  refine lv_istore_n (lv' := [(1, .int ((0 : Int32))), (0, .ref (ad g (3, r, 0)))]) hx hb dX1_openHoles_1 rfl hl (by decide) rfl (fun ls hl => ?_)
  refine lv_iconst (v := 0) hx hb dX1_openHoles_2 (by decide) ?_
  refine lv_istore_n (lv' := [(2, .int ((0 : Int32))), (1, .int ((0 : Int32))), (0, .ref (ad g (3, r, 0)))]) hx hb dX1_openHoles_3 rfl hl (by decide) rfl (fun ls hl => ?_)
  refine lp_W (i0 := 0) (nH v) (fun i => ent g (setR M r v) o) (fun i => [(2, .int (nI i)), (1, .int (sumI (v 5) i)), (0, .ref (ad g (3, r, 0)))]) (fun i => True) (Nat.zero_le _) (hP.castR (rfl)) hS (lv_sub hl [0, 1, 2] rfl) (trivial) (fun H locs ls hP hS hl J => ?_) (fun i hi IH H locs ls hP hS hl J => ?_)
  · refine lv_iload_n hx hb dX1_openHoles_4 rfl (lv_at hl 0 rfl) ?_
    refine lv_aload_n hx hb dX1_openHoles_5 rfl (lv_at hl 2 rfl) ?_
    refine m_get hC hE hP (k_3 hr) e_3 rfl u_1 6 (by decide) w_126 rfl rfl dX1_openHoles_6 ?_
    refine m_top (y := nI (nH v)) (hv.eH) ?_
    refine lv_icmp_ge (tgt := 33) hx hb dX1_openHoles_9 (by decide) (fun c1 => ?_) (fun c1 => absurd (nI_le (Nat.le_refl _) (by omega)) c1)
    refine lv_iload_n hx hb dX1_openHoles_33 rfl (lv_at hl 1 rfl) ?_
    exact m_iret hC hr_ hlk hS (hP.castR (rfl)) rfl (rfl) dX1_openHoles_34
  · refine lv_iload_n hx hb dX1_openHoles_4 rfl (lv_at hl 0 rfl) ?_
    refine lv_aload_n hx hb dX1_openHoles_5 rfl (lv_at hl 2 rfl) ?_
    refine m_get hC hE hP (k_3 hr) e_3 rfl u_1 6 (by decide) w_126 rfl rfl dX1_openHoles_6 ?_
    refine m_top (y := nI (nH v)) (hv.eH) ?_
    refine lv_icmp_ge (tgt := 33) hx hb dX1_openHoles_9 (by decide) (fun c2 => absurd c2 (nI_ge hi (by omega))) (fun c2 => ?_)
    refine lv_aload_n hx hb dX1_openHoles_12 rfl (lv_at hl 2 rfl) ?_
    refine m_get hC hE hP (k_3 hr) e_3 rfl u_1 3 (by decide) w_120 rfl rfl dX1_openHoles_13 ?_
    refine lv_iload_n hx hb dX1_openHoles_16 rfl (lv_at hl 0 rfl) ?_
    refine m_aald hC hE hP (k_5 hr) f_5 rfl i (rfl) (by omega) (by decide) rfl dX1_openHoles_17 ?_
    refine m_get hC hE hP (k_0 hr (by omega)) e_0 rfl u_0 2 (by decide) w_45 rfl rfl dX1_openHoles_18 ?_
    refine lv_if_eq (tgt := 27) hx hb dX1_openHoles_21 (by decide) (fun c1 => ?_) (fun c1 => ?_)
    · refine lv_iinc (v := nI (i + 1)) (lv' := [(2, .int (nI (i + 1))), (1, .int (sumI (v 5) i)), (0, .ref (ad g (3, r, 0)))]) hx hb dX1_openHoles_27 hl (k := 0) rfl (nI_1 _) (by decide) rfl (fun ls hl => ?_)
      refine lv_goto (tgt := 4) hx hb dX1_openHoles_30 (by decide) ?_
      exact IH H locs ls (hP.castR (rfl)) hS (by show lv_has ls _ [(2, .int (nI (i + 1))), (1, .int (sumI (v 5) (i + 1))), (0, .ref (ad g (3, r, 0)))]; rw [show sumI (v 5) (i + 1) = sumI (v 5) i from by first | exact sumo_f c1 | exact sumo_t (hv.hH i hi).2.2 c1]; exact lv_sub hl [0, 1, 2] rfl) (trivial)
    · refine lv_iinc (v := sumI (v 5) i + 1) (lv' := [(1, .int (sumI (v 5) i + 1)), (2, .int (nI i)), (0, .ref (ad g (3, r, 0)))]) hx hb dX1_openHoles_24 hl (k := 1) rfl (rfl) (by decide) rfl (fun ls hl => ?_)
      refine lv_iinc (v := nI (i + 1)) (lv' := [(2, .int (nI (i + 1))), (1, .int (sumI (v 5) i + 1)), (0, .ref (ad g (3, r, 0)))]) hx hb dX1_openHoles_27 hl (k := 1) rfl (nI_1 _) (by decide) rfl (fun ls hl => ?_)
      refine lv_goto (tgt := 4) hx hb dX1_openHoles_30 (by decide) ?_
      exact IH H locs ls (hP.castR (rfl)) hS (by show lv_has ls _ [(2, .int (nI (i + 1))), (1, .int (sumI (v 5) (i + 1))), (0, .ref (ad g (3, r, 0)))]; rw [show sumI (v 5) (i + 1) = sumI (v 5) i + 1 from by first | exact sumo_f c1 | exact sumo_t (hv.hH i hi).2.2 c1]; exact lv_sub hl [0, 1, 2] rfl) (trivial)
set_option maxHeartbeats 4000000 in
set_option maxRecDepth 100000 in
theorem c_eelsOfSpearers (l : Launch) {g : Gm} (hI : IJ g KK) {M : Mem} {o : Nat → Int64} {r : Nat} (hr : r < 2) {v : Vw} (hv : Inv v) : MI l yX1_eelsOfSpearers cX1_eelsOfSpearers 3 .int (rm 0 0) g KK (ent g (setR M r v) o) [.ref (ad g (3, r, 0))] (sumI (v 10) (nS v)) (ent g (setR M r v) o) := by
  refine met_of (by decide +kernel) (Nat.le_of_ble_eq_true rfl) ?_
  intro p e s m below meth c ls hC hr_ hlk hnm hE hP hS hl
  obtain ⟨hx, hb, hml, hown, hG⟩ := id hC
  have hl : lv_has ls 3 [(0, .ref (ad g (3, r, 0)))] := hl
  have qH := hv.lH
  have qS := hv.lS
  have qW := hv.lW
  refine lv_iconst (v := 0) hx hb dX1_eelsOfSpearers_0 (by decide) ?_
  refine lv_istore_n (lv' := [(1, .int ((0 : Int32))), (0, .ref (ad g (3, r, 0)))]) hx hb dX1_eelsOfSpearers_1 rfl hl (by decide) rfl (fun ls hl => ?_)
  refine lv_iconst (v := 0) hx hb dX1_eelsOfSpearers_2 (by decide) ?_
  refine lv_istore_n (lv' := [(2, .int ((0 : Int32))), (1, .int ((0 : Int32))), (0, .ref (ad g (3, r, 0)))]) hx hb dX1_eelsOfSpearers_3 rfl hl (by decide) rfl (fun ls hl => ?_)
  refine lp_W (i0 := 0) (nS v) (fun i => ent g (setR M r v) o) (fun i => [(2, .int (nI i)), (1, .int (sumI (v 10) i)), (0, .ref (ad g (3, r, 0)))]) (fun i => True) (Nat.zero_le _) (hP.castR (rfl)) hS (lv_sub hl [0, 1, 2] rfl) (trivial) (fun H locs ls hP hS hl J => ?_) (fun i hi IH H locs ls hP hS hl J => ?_)
  · refine lv_iload_n hx hb dX1_eelsOfSpearers_4 rfl (lv_at hl 0 rfl) ?_
    refine lv_aload_n hx hb dX1_eelsOfSpearers_5 rfl (lv_at hl 2 rfl) ?_
    refine m_get hC hE hP (k_3 hr) e_3 rfl u_1 7 (by decide) w_128 rfl rfl dX1_eelsOfSpearers_6 ?_
    refine m_top (y := nI (nS v)) (hv.eS) ?_
    refine lv_icmp_ge (tgt := 30) hx hb dX1_eelsOfSpearers_9 (by decide) (fun c1 => ?_) (fun c1 => absurd (nI_le (Nat.le_refl _) (by omega)) c1)
    refine lv_iload_n hx hb dX1_eelsOfSpearers_30 rfl (lv_at hl 1 rfl) ?_
    exact m_iret hC hr_ hlk hS (hP.castR (rfl)) rfl (rfl) dX1_eelsOfSpearers_31
  · refine lv_iload_n hx hb dX1_eelsOfSpearers_4 rfl (lv_at hl 0 rfl) ?_
    refine lv_aload_n hx hb dX1_eelsOfSpearers_5 rfl (lv_at hl 2 rfl) ?_
    refine m_get hC hE hP (k_3 hr) e_3 rfl u_1 7 (by decide) w_128 rfl rfl dX1_eelsOfSpearers_6 ?_
    refine m_top (y := nI (nS v)) (hv.eS) ?_
    refine lv_icmp_ge (tgt := 30) hx hb dX1_eelsOfSpearers_9 (by decide) (fun c2 => absurd c2 (nI_ge hi (by omega))) (fun c2 => ?_)
    refine lv_iload_n hx hb dX1_eelsOfSpearers_12 rfl (lv_at hl 1 rfl) ?_
    refine lv_aload_n hx hb dX1_eelsOfSpearers_13 rfl (lv_at hl 2 rfl) ?_
    refine m_get hC hE hP (k_3 hr) e_3 rfl u_1 4 (by decide) w_122 rfl rfl dX1_eelsOfSpearers_14 ?_
    refine lv_iload_n hx hb dX1_eelsOfSpearers_17 rfl (lv_at hl 0 rfl) ?_
    refine m_aald hC hE hP (k_6 hr) f_6 rfl i (rfl) (by omega) (by decide) rfl dX1_eelsOfSpearers_18 ?_
    refine m_get hC hE hP (k_1 hr (by omega)) e_1 rfl u_2 4 (by decide) w_73 rfl rfl dX1_eelsOfSpearers_19 ?_
    refine lv_iadd hx hb dX1_eelsOfSpearers_22 ?_
    refine lv_istore_n (lv' := [(1, .int ((sumI (v 10) i) + (v 10 i))), (2, .int (nI i)), (0, .ref (ad g (3, r, 0)))]) hx hb dX1_eelsOfSpearers_23 rfl hl (by decide) rfl (fun ls hl => ?_)
    refine lv_iinc (v := nI (i + 1)) (lv' := [(2, .int (nI (i + 1))), (1, .int ((sumI (v 10) i) + (v 10 i))), (0, .ref (ad g (3, r, 0)))]) hx hb dX1_eelsOfSpearers_24 hl (k := 1) rfl (nI_1 _) (by decide) rfl (fun ls hl => ?_)
    refine lv_goto (tgt := 4) hx hb dX1_eelsOfSpearers_27 (by decide) ?_
    exact IH H locs ls (hP.castR (rfl)) hS (lv_sub hl [0, 1, 2] rfl) (trivial)
set_option maxHeartbeats 4000000 in
set_option maxRecDepth 100000 in
theorem c_finesOfSpearers (l : Launch) {g : Gm} (hI : IJ g KK) {M : Mem} {o : Nat → Int64} {r : Nat} (hr : r < 2) {v : Vw} (hv : Inv v) : MI l yX1_finesOfSpearers cX1_finesOfSpearers 3 .int (rm 0 0) g KK (ent g (setR M r v) o) [.ref (ad g (3, r, 0))] (sumI (v 11) (nS v)) (ent g (setR M r v) o) := by
  refine met_of (by decide +kernel) (Nat.le_of_ble_eq_true rfl) ?_
  intro p e s m below meth c ls hC hr_ hlk hnm hE hP hS hl
  obtain ⟨hx, hb, hml, hown, hG⟩ := id hC
  have hl : lv_has ls 3 [(0, .ref (ad g (3, r, 0)))] := hl
  have qH := hv.lH
  have qS := hv.lS
  have qW := hv.lW
  refine lv_iconst (v := 0) hx hb dX1_finesOfSpearers_0 (by decide) ?_
  refine lv_istore_n (lv' := [(1, .int ((0 : Int32))), (0, .ref (ad g (3, r, 0)))]) hx hb dX1_finesOfSpearers_1 rfl hl (by decide) rfl (fun ls hl => ?_)
  refine lv_iconst (v := 0) hx hb dX1_finesOfSpearers_2 (by decide) ?_
  refine lv_istore_n (lv' := [(2, .int ((0 : Int32))), (1, .int ((0 : Int32))), (0, .ref (ad g (3, r, 0)))]) hx hb dX1_finesOfSpearers_3 rfl hl (by decide) rfl (fun ls hl => ?_)
  refine lp_W (i0 := 0) (nS v) (fun i => ent g (setR M r v) o) (fun i => [(2, .int (nI i)), (1, .int (sumI (v 11) i)), (0, .ref (ad g (3, r, 0)))]) (fun i => True) (Nat.zero_le _) (hP.castR (rfl)) hS (lv_sub hl [0, 1, 2] rfl) (trivial) (fun H locs ls hP hS hl J => ?_) (fun i hi IH H locs ls hP hS hl J => ?_)
  · refine lv_iload_n hx hb dX1_finesOfSpearers_4 rfl (lv_at hl 0 rfl) ?_
    refine lv_aload_n hx hb dX1_finesOfSpearers_5 rfl (lv_at hl 2 rfl) ?_
    refine m_get hC hE hP (k_3 hr) e_3 rfl u_1 7 (by decide) w_128 rfl rfl dX1_finesOfSpearers_6 ?_
    refine m_top (y := nI (nS v)) (hv.eS) ?_
    refine lv_icmp_ge (tgt := 30) hx hb dX1_finesOfSpearers_9 (by decide) (fun c1 => ?_) (fun c1 => absurd (nI_le (Nat.le_refl _) (by omega)) c1)
    refine lv_iload_n hx hb dX1_finesOfSpearers_30 rfl (lv_at hl 1 rfl) ?_
    exact m_iret hC hr_ hlk hS (hP.castR (rfl)) rfl (rfl) dX1_finesOfSpearers_31
  · refine lv_iload_n hx hb dX1_finesOfSpearers_4 rfl (lv_at hl 0 rfl) ?_
    refine lv_aload_n hx hb dX1_finesOfSpearers_5 rfl (lv_at hl 2 rfl) ?_
    refine m_get hC hE hP (k_3 hr) e_3 rfl u_1 7 (by decide) w_128 rfl rfl dX1_finesOfSpearers_6 ?_
    refine m_top (y := nI (nS v)) (hv.eS) ?_
    refine lv_icmp_ge (tgt := 30) hx hb dX1_finesOfSpearers_9 (by decide) (fun c2 => absurd c2 (nI_ge hi (by omega))) (fun c2 => ?_)
    refine lv_iload_n hx hb dX1_finesOfSpearers_12 rfl (lv_at hl 1 rfl) ?_
    refine lv_aload_n hx hb dX1_finesOfSpearers_13 rfl (lv_at hl 2 rfl) ?_
    refine m_get hC hE hP (k_3 hr) e_3 rfl u_1 4 (by decide) w_122 rfl rfl dX1_finesOfSpearers_14 ?_
    refine lv_iload_n hx hb dX1_finesOfSpearers_17 rfl (lv_at hl 0 rfl) ?_
    refine m_aald hC hE hP (k_6 hr) f_6 rfl i (rfl) (by omega) (by decide) rfl dX1_finesOfSpearers_18 ?_
    refine m_get hC hE hP (k_1 hr (by omega)) e_1 rfl u_2 5 (by decide) w_76 rfl rfl dX1_finesOfSpearers_19 ?_
    refine lv_iadd hx hb dX1_finesOfSpearers_22 ?_
    refine lv_istore_n (lv' := [(1, .int ((sumI (v 11) i) + (v 11 i))), (2, .int (nI i)), (0, .ref (ad g (3, r, 0)))]) hx hb dX1_finesOfSpearers_23 rfl hl (by decide) rfl (fun ls hl => ?_)
    refine lv_iinc (v := nI (i + 1)) (lv' := [(2, .int (nI (i + 1))), (1, .int ((sumI (v 11) i) + (v 11 i))), (0, .ref (ad g (3, r, 0)))]) hx hb dX1_finesOfSpearers_24 hl (k := 1) rfl (nI_1 _) (by decide) rfl (fun ls hl => ?_)
    refine lv_goto (tgt := 4) hx hb dX1_finesOfSpearers_27 (by decide) ?_
    exact IH H locs ls (hP.castR (rfl)) hS (lv_sub hl [0, 1, 2] rfl) (trivial)
end
section
/-! the lake: what is told, who comes, a way -/
theorem dX1_cellFact_0 : decode cX1_cellFact 0 = .ok (.iload_n 1, 1) := by decide +kernel
theorem dX1_cellFact_1 : decode cX1_cellFact 1 = .ok (.iload_n 2, 1) := by decide +kernel
theorem dX1_cellFact_2 : decode cX1_cellFact 2 = .ok (.invokestatic 105, 3) := by decide +kernel
theorem dX1_cellFact_5 : decode cX1_cellFact 5 = .ok (.istore 4, 2) := by decide +kernel
theorem dX1_cellFact_7 : decode cX1_cellFact 7 = .ok (.iload_n 3, 1) := by decide +kernel
theorem dX1_cellFact_8 : decode cX1_cellFact 8 = .ok (.tableswitch 51 0 2 #[28, 36, 44], 28) := by decide +kernel
theorem dX1_cellFact_36 : decode cX1_cellFact 36 = .ok (.aload_n 0, 1) := by decide +kernel
theorem dX1_cellFact_37 : decode cX1_cellFact 37 = .ok (.getfield 9, 3) := by decide +kernel
theorem dX1_cellFact_40 : decode cX1_cellFact 40 = .ok (.iload 4, 2) := by decide +kernel
theorem dX1_cellFact_42 : decode cX1_cellFact 42 = .ok (.iaload, 1) := by decide +kernel
theorem dX1_cellFact_43 : decode cX1_cellFact 43 = .ok (.ireturn, 1) := by decide +kernel
theorem dX1_cellFact_44 : decode cX1_cellFact 44 = .ok (.aload_n 0, 1) := by decide +kernel
theorem dX1_cellFact_45 : decode cX1_cellFact 45 = .ok (.getfield 15, 3) := by decide +kernel
theorem dX1_cellFact_48 : decode cX1_cellFact 48 = .ok (.iload 4, 2) := by decide +kernel
theorem dX1_cellFact_50 : decode cX1_cellFact 50 = .ok (.iaload, 1) := by decide +kernel
theorem dX1_cellFact_51 : decode cX1_cellFact 51 = .ok (.ireturn, 1) := by decide +kernel
theorem dX1_cellFact_52 : decode cX1_cellFact 52 = .ok (.aload_n 0, 1) := by decide +kernel
theorem dX1_cellFact_53 : decode cX1_cellFact 53 = .ok (.iload_n 1, 1) := by decide +kernel
theorem dX1_cellFact_54 : decode cX1_cellFact 54 = .ok (.iload_n 2, 1) := by decide +kernel
theorem dX1_cellFact_55 : decode cX1_cellFact 55 = .ok (.invokevirtual 108, 3) := by decide +kernel
theorem dX1_cellFact_58 : decode cX1_cellFact 58 = .ok (.ireturn, 1) := by decide +kernel
theorem dX1_cellFact_59 : decode cX1_cellFact 59 = .ok (.aload_n 0, 1) := by decide +kernel
theorem dX1_cellFact_60 : decode cX1_cellFact 60 = .ok (.iload 4, 2) := by decide +kernel
theorem dX1_cellFact_62 : decode cX1_cellFact 62 = .ok (.invokevirtual 111, 3) := by decide +kernel
theorem dX1_cellFact_65 : decode cX1_cellFact 65 = .ok (.ireturn, 1) := by decide +kernel
theorem dX1_holeFact_0 : decode cX1_holeFact 0 = .ok (.iload_n 2, 1) := by decide +kernel
theorem dX1_holeFact_1 : decode cX1_holeFact 1 = .ok (.tableswitch 75 0 3 #[31, 41, 51, 69], 31) := by decide +kernel
theorem dX1_holeFact_32 : decode cX1_holeFact 32 = .ok (.aload_n 0, 1) := by decide +kernel
theorem dX1_holeFact_33 : decode cX1_holeFact 33 = .ok (.getfield 23, 3) := by decide +kernel
theorem dX1_holeFact_36 : decode cX1_holeFact 36 = .ok (.iload_n 1, 1) := by decide +kernel
theorem dX1_holeFact_37 : decode cX1_holeFact 37 = .ok (.aaload, 1) := by decide +kernel
theorem dX1_holeFact_38 : decode cX1_holeFact 38 = .ok (.getfield 72, 3) := by decide +kernel
theorem dX1_holeFact_41 : decode cX1_holeFact 41 = .ok (.ireturn, 1) := by decide +kernel
theorem dX1_holeFact_42 : decode cX1_holeFact 42 = .ok (.aload_n 0, 1) := by decide +kernel
theorem dX1_holeFact_43 : decode cX1_holeFact 43 = .ok (.getfield 23, 3) := by decide +kernel
theorem dX1_holeFact_46 : decode cX1_holeFact 46 = .ok (.iload_n 1, 1) := by decide +kernel
theorem dX1_holeFact_47 : decode cX1_holeFact 47 = .ok (.aaload, 1) := by decide +kernel
theorem dX1_holeFact_48 : decode cX1_holeFact 48 = .ok (.getfield 75, 3) := by decide +kernel
theorem dX1_holeFact_51 : decode cX1_holeFact 51 = .ok (.ireturn, 1) := by decide +kernel
theorem dX1_holeFact_52 : decode cX1_holeFact 52 = .ok (.aload_n 0, 1) := by decide +kernel
theorem dX1_holeFact_53 : decode cX1_holeFact 53 = .ok (.getfield 23, 3) := by decide +kernel
theorem dX1_holeFact_56 : decode cX1_holeFact 56 = .ok (.iload_n 1, 1) := by decide +kernel
theorem dX1_holeFact_57 : decode cX1_holeFact 57 = .ok (.aaload, 1) := by decide +kernel
theorem dX1_holeFact_58 : decode cX1_holeFact 58 = .ok (.getfield 78, 3) := by decide +kernel
theorem dX1_holeFact_61 : decode cX1_holeFact 61 = .ok (.ifCond .eq 7, 3) := by decide +kernel
theorem dX1_holeFact_64 : decode cX1_holeFact 64 = .ok (.iconst 1, 1) := by decide +kernel
theorem dX1_holeFact_65 : decode cX1_holeFact 65 = .ok (.goto 4, 3) := by decide +kernel
theorem dX1_holeFact_68 : decode cX1_holeFact 68 = .ok (.iconst 0, 1) := by decide +kernel
theorem dX1_holeFact_69 : decode cX1_holeFact 69 = .ok (.ireturn, 1) := by decide +kernel
theorem dX1_holeFact_70 : decode cX1_holeFact 70 = .ok (.aload_n 0, 1) := by decide +kernel
theorem dX1_holeFact_71 : decode cX1_holeFact 71 = .ok (.iload_n 1, 1) := by decide +kernel
theorem dX1_holeFact_72 : decode cX1_holeFact 72 = .ok (.invokevirtual 115, 3) := by decide +kernel
theorem dX1_holeFact_75 : decode cX1_holeFact 75 = .ok (.ireturn, 1) := by decide +kernel
theorem dX1_holeFact_76 : decode cX1_holeFact 76 = .ok (.aload_n 0, 1) := by decide +kernel
theorem dX1_holeFact_77 : decode cX1_holeFact 77 = .ok (.aload_n 0, 1) := by decide +kernel
theorem dX1_holeFact_78 : decode cX1_holeFact 78 = .ok (.getfield 23, 3) := by decide +kernel
theorem dX1_holeFact_81 : decode cX1_holeFact 81 = .ok (.iload_n 1, 1) := by decide +kernel
theorem dX1_holeFact_82 : decode cX1_holeFact 82 = .ok (.aaload, 1) := by decide +kernel
theorem dX1_holeFact_83 : decode cX1_holeFact 83 = .ok (.invokevirtual 118, 3) := by decide +kernel
theorem dX1_holeFact_86 : decode cX1_holeFact 86 = .ok (.ireturn, 1) := by decide +kernel
theorem dX1_fact_0 : decode cX1_fact 0 = .ok (.iload_n 1, 1) := by decide +kernel
theorem dX1_fact_1 : decode cX1_fact 1 = .ok (.tableswitch 98 0 7 #[47, 52, 57, 73, 78, 83, 88, 93], 47) := by decide +kernel
theorem dX1_fact_48 : decode cX1_fact 48 = .ok (.aload_n 0, 1) := by decide +kernel
theorem dX1_fact_49 : decode cX1_fact 49 = .ok (.getfield 65, 3) := by decide +kernel
theorem dX1_fact_52 : decode cX1_fact 52 = .ok (.ireturn, 1) := by decide +kernel
theorem dX1_fact_53 : decode cX1_fact 53 = .ok (.aload_n 0, 1) := by decide +kernel
theorem dX1_fact_54 : decode cX1_fact 54 = .ok (.getfield 42, 3) := by decide +kernel
theorem dX1_fact_57 : decode cX1_fact 57 = .ok (.ireturn, 1) := by decide +kernel
theorem dX1_fact_58 : decode cX1_fact 58 = .ok (.aload_n 0, 1) := by decide +kernel
theorem dX1_fact_59 : decode cX1_fact 59 = .ok (.getfield 42, 3) := by decide +kernel
theorem dX1_fact_62 : decode cX1_fact 62 = .ok (.invokestatic 122, 3) := by decide +kernel
theorem dX1_fact_65 : decode cX1_fact 65 = .ok (.ifCond .eq 7, 3) := by decide +kernel
theorem dX1_fact_68 : decode cX1_fact 68 = .ok (.iconst 1, 1) := by decide +kernel
theorem dX1_fact_69 : decode cX1_fact 69 = .ok (.goto 4, 3) := by decide +kernel
theorem dX1_fact_72 : decode cX1_fact 72 = .ok (.iconst 0, 1) := by decide +kernel
theorem dX1_fact_73 : decode cX1_fact 73 = .ok (.ireturn, 1) := by decide +kernel
theorem dX1_fact_74 : decode cX1_fact 74 = .ok (.aload_n 0, 1) := by decide +kernel
theorem dX1_fact_75 : decode cX1_fact 75 = .ok (.invokevirtual 126, 3) := by decide +kernel
theorem dX1_fact_78 : decode cX1_fact 78 = .ok (.ireturn, 1) := by decide +kernel
theorem dX1_fact_79 : decode cX1_fact 79 = .ok (.aload_n 0, 1) := by decide +kernel
theorem dX1_fact_80 : decode cX1_fact 80 = .ok (.getfield 46, 3) := by decide +kernel
theorem dX1_fact_83 : decode cX1_fact 83 = .ok (.ireturn, 1) := by decide +kernel
theorem dX1_fact_84 : decode cX1_fact 84 = .ok (.aload_n 0, 1) := by decide +kernel
theorem dX1_fact_85 : decode cX1_fact 85 = .ok (.invokevirtual 130, 3) := by decide +kernel
theorem dX1_fact_88 : decode cX1_fact 88 = .ok (.ireturn, 1) := by decide +kernel
theorem dX1_fact_89 : decode cX1_fact 89 = .ok (.aload_n 0, 1) := by decide +kernel
theorem dX1_fact_90 : decode cX1_fact 90 = .ok (.getfield 53, 3) := by decide +kernel
theorem dX1_fact_93 : decode cX1_fact 93 = .ok (.ireturn, 1) := by decide +kernel
theorem dX1_fact_94 : decode cX1_fact 94 = .ok (.aload_n 0, 1) := by decide +kernel
theorem dX1_fact_95 : decode cX1_fact 95 = .ok (.invokevirtual 133, 3) := by decide +kernel
theorem dX1_fact_98 : decode cX1_fact 98 = .ok (.ireturn, 1) := by decide +kernel
theorem dX1_fact_99 : decode cX1_fact 99 = .ok (.aload_n 0, 1) := by decide +kernel
theorem dX1_fact_100 : decode cX1_fact 100 = .ok (.invokevirtual 136, 3) := by decide +kernel
theorem dX1_fact_103 : decode cX1_fact 103 = .ok (.ireturn, 1) := by decide +kernel
theorem dX2_tell_0 : decode cX2_tell 0 = .ok (.iload_n 1, 1) := by decide +kernel
theorem dX2_tell_1 : decode cX2_tell 1 = .ok (.tableswitch 60 0 4 #[35, 40, 45, 50, 55], 35) := by decide +kernel
theorem dX2_tell_36 : decode cX2_tell 36 = .ok (.aload_n 0, 1) := by decide +kernel
theorem dX2_tell_37 : decode cX2_tell 37 = .ok (.getfield 15, 3) := by decide +kernel
theorem dX2_tell_40 : decode cX2_tell 40 = .ok (.ireturn, 1) := by decide +kernel
theorem dX2_tell_41 : decode cX2_tell 41 = .ok (.aload_n 0, 1) := by decide +kernel
theorem dX2_tell_42 : decode cX2_tell 42 = .ok (.getfield 18, 3) := by decide +kernel
theorem dX2_tell_45 : decode cX2_tell 45 = .ok (.ireturn, 1) := by decide +kernel
theorem dX2_tell_46 : decode cX2_tell 46 = .ok (.aload_n 0, 1) := by decide +kernel
theorem dX2_tell_47 : decode cX2_tell 47 = .ok (.getfield 9, 3) := by decide +kernel
theorem dX2_tell_50 : decode cX2_tell 50 = .ok (.ireturn, 1) := by decide +kernel
theorem dX2_tell_51 : decode cX2_tell 51 = .ok (.aload_n 0, 1) := by decide +kernel
theorem dX2_tell_52 : decode cX2_tell 52 = .ok (.getfield 21, 3) := by decide +kernel
theorem dX2_tell_55 : decode cX2_tell 55 = .ok (.ireturn, 1) := by decide +kernel
theorem dX2_tell_56 : decode cX2_tell 56 = .ok (.aload_n 0, 1) := by decide +kernel
theorem dX2_tell_57 : decode cX2_tell 57 = .ok (.getfield 24, 3) := by decide +kernel
theorem dX2_tell_60 : decode cX2_tell 60 = .ok (.ireturn, 1) := by decide +kernel
theorem dX2_tell_61 : decode cX2_tell 61 = .ok (.aload_n 0, 1) := by decide +kernel
theorem dX2_tell_62 : decode cX2_tell 62 = .ok (.getfield 27, 3) := by decide +kernel
theorem dX2_tell_65 : decode cX2_tell 65 = .ok (.ireturn, 1) := by decide +kernel
theorem dX3_tell_0 : decode cX3_tell 0 = .ok (.iload_n 1, 1) := by decide +kernel
theorem dX3_tell_1 : decode cX3_tell 1 = .ok (.tableswitch 42 0 2 #[27, 32, 37], 27) := by decide +kernel
theorem dX3_tell_28 : decode cX3_tell 28 = .ok (.aload_n 0, 1) := by decide +kernel
theorem dX3_tell_29 : decode cX3_tell 29 = .ok (.getfield 7, 3) := by decide +kernel
theorem dX3_tell_32 : decode cX3_tell 32 = .ok (.ireturn, 1) := by decide +kernel
theorem dX3_tell_33 : decode cX3_tell 33 = .ok (.aload_n 0, 1) := by decide +kernel
theorem dX3_tell_34 : decode cX3_tell 34 = .ok (.getfield 13, 3) := by decide +kernel
theorem dX3_tell_37 : decode cX3_tell 37 = .ok (.ireturn, 1) := by decide +kernel
theorem dX3_tell_38 : decode cX3_tell 38 = .ok (.aload_n 0, 1) := by decide +kernel
theorem dX3_tell_39 : decode cX3_tell 39 = .ok (.getfield 16, 3) := by decide +kernel
theorem dX3_tell_42 : decode cX3_tell 42 = .ok (.ireturn, 1) := by decide +kernel
theorem dX3_tell_43 : decode cX3_tell 43 = .ok (.aload_n 0, 1) := by decide +kernel
theorem dX3_tell_44 : decode cX3_tell 44 = .ok (.getfield 19, 3) := by decide +kernel
theorem dX3_tell_47 : decode cX3_tell 47 = .ok (.ireturn, 1) := by decide +kernel
theorem dX2_tookTooMuch_0 : decode cX2_tookTooMuch 0 = .ok (.aload_n 0, 1) := by decide +kernel
theorem dX2_tookTooMuch_1 : decode cX2_tookTooMuch 1 = .ok (.getfield 21, 3) := by decide +kernel
theorem dX2_tookTooMuch_4 : decode cX2_tookTooMuch 4 = .ok (.aload_n 0, 1) := by decide +kernel
theorem dX2_tookTooMuch_5 : decode cX2_tookTooMuch 5 = .ok (.getfield 15, 3) := by decide +kernel
theorem dX2_tookTooMuch_8 : decode cX2_tookTooMuch 8 = .ok (.if_icmp .le 7, 3) := by decide +kernel
theorem dX2_tookTooMuch_11 : decode cX2_tookTooMuch 11 = .ok (.iconst 1, 1) := by decide +kernel
theorem dX2_tookTooMuch_12 : decode cX2_tookTooMuch 12 = .ok (.goto 4, 3) := by decide +kernel
theorem dX2_tookTooMuch_15 : decode cX2_tookTooMuch 15 = .ok (.iconst 0, 1) := by decide +kernel
theorem dX2_tookTooMuch_16 : decode cX2_tookTooMuch 16 = .ok (.ireturn, 1) := by decide +kernel
theorem dX3_goTowards_0 : decode cX3_goTowards 0 = .ok (.iconst 0, 1) := by decide +kernel
theorem dX3_goTowards_1 : decode cX3_goTowards 1 = .ok (.istore_n 2, 1) := by decide +kernel
theorem dX3_goTowards_2 : decode cX3_goTowards 2 = .ok (.iload_n 2, 1) := by decide +kernel
theorem dX3_goTowards_3 : decode cX3_goTowards 3 = .ok (.aload_n 0, 1) := by decide +kernel
theorem dX3_goTowards_4 : decode cX3_goTowards 4 = .ok (.getfield 16, 3) := by decide +kernel
theorem dX3_goTowards_7 : decode cX3_goTowards 7 = .ok (.if_icmp .ge 49, 3) := by decide +kernel
theorem dX3_goTowards_10 : decode cX3_goTowards 10 = .ok (.aload_n 0, 1) := by decide +kernel
theorem dX3_goTowards_11 : decode cX3_goTowards 11 = .ok (.dup, 1) := by decide +kernel
theorem dX3_goTowards_12 : decode cX3_goTowards 12 = .ok (.getfield 7, 3) := by decide +kernel
theorem dX3_goTowards_15 : decode cX3_goTowards 15 = .ok (.aload_n 1, 1) := by decide +kernel
theorem dX3_goTowards_16 : decode cX3_goTowards 16 = .ok (.getfield 22, 3) := by decide +kernel
theorem dX3_goTowards_19 : decode cX3_goTowards 19 = .ok (.aload_n 0, 1) := by decide +kernel
theorem dX3_goTowards_20 : decode cX3_goTowards 20 = .ok (.getfield 7, 3) := by decide +kernel
theorem dX3_goTowards_23 : decode cX3_goTowards 23 = .ok (.invokestatic 25, 3) := by decide +kernel
theorem dX3_goTowards_26 : decode cX3_goTowards 26 = .ok (.iadd, 1) := by decide +kernel
theorem dX3_goTowards_27 : decode cX3_goTowards 27 = .ok (.putfield 7, 3) := by decide +kernel
theorem dX3_goTowards_30 : decode cX3_goTowards 30 = .ok (.aload_n 0, 1) := by decide +kernel
theorem dX3_goTowards_31 : decode cX3_goTowards 31 = .ok (.dup, 1) := by decide +kernel
theorem dX3_goTowards_32 : decode cX3_goTowards 32 = .ok (.getfield 13, 3) := by decide +kernel
theorem dX3_goTowards_35 : decode cX3_goTowards 35 = .ok (.aload_n 1, 1) := by decide +kernel
theorem dX3_goTowards_36 : decode cX3_goTowards 36 = .ok (.getfield 31, 3) := by decide +kernel
theorem dX3_goTowards_39 : decode cX3_goTowards 39 = .ok (.aload_n 0, 1) := by decide +kernel
theorem dX3_goTowards_40 : decode cX3_goTowards 40 = .ok (.getfield 13, 3) := by decide +kernel
theorem dX3_goTowards_43 : decode cX3_goTowards 43 = .ok (.invokestatic 25, 3) := by decide +kernel
theorem dX3_goTowards_46 : decode cX3_goTowards 46 = .ok (.iadd, 1) := by decide +kernel
theorem dX3_goTowards_47 : decode cX3_goTowards 47 = .ok (.putfield 13, 3) := by decide +kernel
theorem dX3_goTowards_50 : decode cX3_goTowards 50 = .ok (.iinc 2 1, 3) := by decide +kernel
theorem dX3_goTowards_53 : decode cX3_goTowards 53 = .ok (.goto (-51), 3) := by decide +kernel
theorem dX3_goTowards_56 : decode cX3_goTowards 56 = .ok (.return_, 1) := by decide +kernel
theorem dX1_addHole_0 : decode cX1_addHole 0 = .ok (.aload_n 0, 1) := by decide +kernel
theorem dX1_addHole_1 : decode cX1_addHole 1 = .ok (.getfield 23, 3) := by decide +kernel
theorem dX1_addHole_4 : decode cX1_addHole 4 = .ok (.aload_n 0, 1) := by decide +kernel
theorem dX1_addHole_5 : decode cX1_addHole 5 = .ok (.getfield 46, 3) := by decide +kernel
theorem dX1_addHole_8 : decode cX1_addHole 8 = .ok (.aaload, 1) := by decide +kernel
theorem dX1_addHole_9 : decode cX1_addHole 9 = .ok (.astore_n 3, 1) := by decide +kernel
theorem dX1_addHole_10 : decode cX1_addHole 10 = .ok (.aload_n 3, 1) := by decide +kernel
theorem dX1_addHole_11 : decode cX1_addHole 11 = .ok (.iload_n 1, 1) := by decide +kernel
theorem dX1_addHole_12 : decode cX1_addHole 12 = .ok (.putfield 72, 3) := by decide +kernel
theorem dX1_addHole_15 : decode cX1_addHole 15 = .ok (.aload_n 3, 1) := by decide +kernel
theorem dX1_addHole_16 : decode cX1_addHole 16 = .ok (.iload_n 2, 1) := by decide +kernel
theorem dX1_addHole_17 : decode cX1_addHole 17 = .ok (.putfield 75, 3) := by decide +kernel
theorem dX1_addHole_20 : decode cX1_addHole 20 = .ok (.aload_n 3, 1) := by decide +kernel
theorem dX1_addHole_21 : decode cX1_addHole 21 = .ok (.iconst 1, 1) := by decide +kernel
theorem dX1_addHole_22 : decode cX1_addHole 22 = .ok (.putfield 78, 3) := by decide +kernel
theorem dX1_addHole_25 : decode cX1_addHole 25 = .ok (.aload_n 0, 1) := by decide +kernel
theorem dX1_addHole_26 : decode cX1_addHole 26 = .ok (.dup, 1) := by decide +kernel
theorem dX1_addHole_27 : decode cX1_addHole 27 = .ok (.getfield 46, 3) := by decide +kernel
theorem dX1_addHole_30 : decode cX1_addHole 30 = .ok (.iconst 1, 1) := by decide +kernel
theorem dX1_addHole_31 : decode cX1_addHole 31 = .ok (.iadd, 1) := by decide +kernel
theorem dX1_addHole_32 : decode cX1_addHole 32 = .ok (.putfield 46, 3) := by decide +kernel
theorem dX1_addHole_35 : decode cX1_addHole 35 = .ok (.aload_n 0, 1) := by decide +kernel
theorem dX1_addHole_36 : decode cX1_addHole 36 = .ok (.getfield 46, 3) := by decide +kernel
theorem dX1_addHole_39 : decode cX1_addHole 39 = .ok (.iconst 1, 1) := by decide +kernel
theorem dX1_addHole_40 : decode cX1_addHole 40 = .ok (.isub, 1) := by decide +kernel
theorem dX1_addHole_41 : decode cX1_addHole 41 = .ok (.ireturn, 1) := by decide +kernel
theorem dX1_addSpearer_0 : decode cX1_addSpearer 0 = .ok (.aload_n 0, 1) := by decide +kernel
theorem dX1_addSpearer_1 : decode cX1_addSpearer 1 = .ok (.getfield 30, 3) := by decide +kernel
theorem dX1_addSpearer_4 : decode cX1_addSpearer 4 = .ok (.aload_n 0, 1) := by decide +kernel
theorem dX1_addSpearer_5 : decode cX1_addSpearer 5 = .ok (.getfield 53, 3) := by decide +kernel
theorem dX1_addSpearer_8 : decode cX1_addSpearer 8 = .ok (.aaload, 1) := by decide +kernel
theorem dX1_addSpearer_9 : decode cX1_addSpearer 9 = .ok (.astore_n 3, 1) := by decide +kernel
theorem dX1_addSpearer_10 : decode cX1_addSpearer 10 = .ok (.aload_n 3, 1) := by decide +kernel
theorem dX1_addSpearer_11 : decode cX1_addSpearer 11 = .ok (.iload_n 1, 1) := by decide +kernel
theorem dX1_addSpearer_12 : decode cX1_addSpearer 12 = .ok (.putfield 82, 3) := by decide +kernel
theorem dX1_addSpearer_15 : decode cX1_addSpearer 15 = .ok (.aload_n 3, 1) := by decide +kernel
theorem dX1_addSpearer_16 : decode cX1_addSpearer 16 = .ok (.iload_n 2, 1) := by decide +kernel
theorem dX1_addSpearer_17 : decode cX1_addSpearer 17 = .ok (.putfield 85, 3) := by decide +kernel
theorem dX1_addSpearer_20 : decode cX1_addSpearer 20 = .ok (.aload_n 0, 1) := by decide +kernel
theorem dX1_addSpearer_21 : decode cX1_addSpearer 21 = .ok (.dup, 1) := by decide +kernel
theorem dX1_addSpearer_22 : decode cX1_addSpearer 22 = .ok (.getfield 53, 3) := by decide +kernel
theorem dX1_addSpearer_25 : decode cX1_addSpearer 25 = .ok (.iconst 1, 1) := by decide +kernel
theorem dX1_addSpearer_26 : decode cX1_addSpearer 26 = .ok (.iadd, 1) := by decide +kernel
theorem dX1_addSpearer_27 : decode cX1_addSpearer 27 = .ok (.putfield 53, 3) := by decide +kernel
theorem dX1_addSpearer_30 : decode cX1_addSpearer 30 = .ok (.aload_n 0, 1) := by decide +kernel
theorem dX1_addSpearer_31 : decode cX1_addSpearer 31 = .ok (.getfield 53, 3) := by decide +kernel
theorem dX1_addSpearer_34 : decode cX1_addSpearer 34 = .ok (.iconst 1, 1) := by decide +kernel
theorem dX1_addSpearer_35 : decode cX1_addSpearer 35 = .ok (.isub, 1) := by decide +kernel
theorem dX1_addSpearer_36 : decode cX1_addSpearer 36 = .ok (.ireturn, 1) := by decide +kernel
theorem dX1_addWarden_0 : decode cX1_addWarden 0 = .ok (.aload_n 0, 1) := by decide +kernel
theorem dX1_addWarden_1 : decode cX1_addWarden 1 = .ok (.getfield 37, 3) := by decide +kernel
theorem dX1_addWarden_4 : decode cX1_addWarden 4 = .ok (.aload_n 0, 1) := by decide +kernel
theorem dX1_addWarden_5 : decode cX1_addWarden 5 = .ok (.getfield 59, 3) := by decide +kernel
theorem dX1_addWarden_8 : decode cX1_addWarden 8 = .ok (.aaload, 1) := by decide +kernel
theorem dX1_addWarden_9 : decode cX1_addWarden 9 = .ok (.astore 4, 2) := by decide +kernel
theorem dX1_addWarden_11 : decode cX1_addWarden 11 = .ok (.aload 4, 2) := by decide +kernel
theorem dX1_addWarden_13 : decode cX1_addWarden 13 = .ok (.iload_n 1, 1) := by decide +kernel
theorem dX1_addWarden_14 : decode cX1_addWarden 14 = .ok (.putfield 88, 3) := by decide +kernel
theorem dX1_addWarden_17 : decode cX1_addWarden 17 = .ok (.aload 4, 2) := by decide +kernel
theorem dX1_addWarden_19 : decode cX1_addWarden 19 = .ok (.iload_n 2, 1) := by decide +kernel
theorem dX1_addWarden_20 : decode cX1_addWarden 20 = .ok (.putfield 89, 3) := by decide +kernel
theorem dX1_addWarden_23 : decode cX1_addWarden 23 = .ok (.aload 4, 2) := by decide +kernel
theorem dX1_addWarden_25 : decode cX1_addWarden 25 = .ok (.iload_n 3, 1) := by decide +kernel
theorem dX1_addWarden_26 : decode cX1_addWarden 26 = .ok (.putfield 90, 3) := by decide +kernel
theorem dX1_addWarden_29 : decode cX1_addWarden 29 = .ok (.aload_n 0, 1) := by decide +kernel
theorem dX1_addWarden_30 : decode cX1_addWarden 30 = .ok (.dup, 1) := by decide +kernel
theorem dX1_addWarden_31 : decode cX1_addWarden 31 = .ok (.getfield 59, 3) := by decide +kernel
theorem dX1_addWarden_34 : decode cX1_addWarden 34 = .ok (.iconst 1, 1) := by decide +kernel
theorem dX1_addWarden_35 : decode cX1_addWarden 35 = .ok (.iadd, 1) := by decide +kernel
theorem dX1_addWarden_36 : decode cX1_addWarden 36 = .ok (.putfield 59, 3) := by decide +kernel
theorem dX1_addWarden_39 : decode cX1_addWarden 39 = .ok (.aload_n 0, 1) := by decide +kernel
theorem dX1_addWarden_40 : decode cX1_addWarden 40 = .ok (.getfield 59, 3) := by decide +kernel
theorem dX1_addWarden_43 : decode cX1_addWarden 43 = .ok (.iconst 1, 1) := by decide +kernel
theorem dX1_addWarden_44 : decode cX1_addWarden 44 = .ok (.isub, 1) := by decide +kernel
theorem dX1_addWarden_45 : decode cX1_addWarden 45 = .ok (.ireturn, 1) := by decide +kernel
theorem sw_3 (x : Int32) : x = 0 ∨ x = 1 ∨ x = 2 ∨ (¬ x = 0 ∧ ¬ x = 1 ∧ ¬ x = 2 ∧ (x.toInt < 0 ∨ 2 < x.toInt)) := by
  by_cases h0 : x = 0
  · exact Or.inl h0
  by_cases h1 : x = 1
  · exact Or.inr (Or.inl h1)
  by_cases h2 : x = 2
  · exact Or.inr (Or.inr (Or.inl h2))
  refine Or.inr (Or.inr (Or.inr (⟨h0, h1, h2, ?_⟩)))
  rcases Int.lt_or_le x.toInt 0 with q | q
  · exact Or.inl q
  rcases Int.lt_or_le 2 x.toInt with q2 | q2
  · exact Or.inr q2
  exfalso
  have z : x.toInt = 0 ∨ x.toInt = 1 ∨ x.toInt = 2 := by omega
  rcases z with z | z | z
  · exact h0 (Int32.toInt_inj.mp z)
  · exact h1 (Int32.toInt_inj.mp z)
  · exact h2 (Int32.toInt_inj.mp z)

theorem sw_4 (x : Int32) : x = 0 ∨ x = 1 ∨ x = 2 ∨ x = 3 ∨ (¬ x = 0 ∧ ¬ x = 1 ∧ ¬ x = 2 ∧ ¬ x = 3 ∧ (x.toInt < 0 ∨ 3 < x.toInt)) := by
  by_cases h0 : x = 0
  · exact Or.inl h0
  by_cases h1 : x = 1
  · exact Or.inr (Or.inl h1)
  by_cases h2 : x = 2
  · exact Or.inr (Or.inr (Or.inl h2))
  by_cases h3 : x = 3
  · exact Or.inr (Or.inr (Or.inr (Or.inl h3)))
  refine Or.inr (Or.inr (Or.inr (Or.inr (⟨h0, h1, h2, h3, ?_⟩))))
  rcases Int.lt_or_le x.toInt 0 with q | q
  · exact Or.inl q
  rcases Int.lt_or_le 3 x.toInt with q2 | q2
  · exact Or.inr q2
  exfalso
  have z : x.toInt = 0 ∨ x.toInt = 1 ∨ x.toInt = 2 ∨ x.toInt = 3 := by omega
  rcases z with z | z | z | z
  · exact h0 (Int32.toInt_inj.mp z)
  · exact h1 (Int32.toInt_inj.mp z)
  · exact h2 (Int32.toInt_inj.mp z)
  · exact h3 (Int32.toInt_inj.mp z)

theorem sw_5 (x : Int32) : x = 0 ∨ x = 1 ∨ x = 2 ∨ x = 3 ∨ x = 4 ∨ (¬ x = 0 ∧ ¬ x = 1 ∧ ¬ x = 2 ∧ ¬ x = 3 ∧ ¬ x = 4 ∧ (x.toInt < 0 ∨ 4 < x.toInt)) := by
  by_cases h0 : x = 0
  · exact Or.inl h0
  by_cases h1 : x = 1
  · exact Or.inr (Or.inl h1)
  by_cases h2 : x = 2
  · exact Or.inr (Or.inr (Or.inl h2))
  by_cases h3 : x = 3
  · exact Or.inr (Or.inr (Or.inr (Or.inl h3)))
  by_cases h4 : x = 4
  · exact Or.inr (Or.inr (Or.inr (Or.inr (Or.inl h4))))
  refine Or.inr (Or.inr (Or.inr (Or.inr (Or.inr (⟨h0, h1, h2, h3, h4, ?_⟩)))))
  rcases Int.lt_or_le x.toInt 0 with q | q
  · exact Or.inl q
  rcases Int.lt_or_le 4 x.toInt with q2 | q2
  · exact Or.inr q2
  exfalso
  have z : x.toInt = 0 ∨ x.toInt = 1 ∨ x.toInt = 2 ∨ x.toInt = 3 ∨ x.toInt = 4 := by omega
  rcases z with z | z | z | z | z
  · exact h0 (Int32.toInt_inj.mp z)
  · exact h1 (Int32.toInt_inj.mp z)
  · exact h2 (Int32.toInt_inj.mp z)
  · exact h3 (Int32.toInt_inj.mp z)
  · exact h4 (Int32.toInt_inj.mp z)

theorem sw_8 (x : Int32) : x = 0 ∨ x = 1 ∨ x = 2 ∨ x = 3 ∨ x = 4 ∨ x = 5 ∨ x = 6 ∨ x = 7 ∨ (¬ x = 0 ∧ ¬ x = 1 ∧ ¬ x = 2 ∧ ¬ x = 3 ∧ ¬ x = 4 ∧ ¬ x = 5 ∧ ¬ x = 6 ∧ ¬ x = 7 ∧ (x.toInt < 0 ∨ 7 < x.toInt)) := by
  by_cases h0 : x = 0
  · exact Or.inl h0
  by_cases h1 : x = 1
  · exact Or.inr (Or.inl h1)
  by_cases h2 : x = 2
  · exact Or.inr (Or.inr (Or.inl h2))
  by_cases h3 : x = 3
  · exact Or.inr (Or.inr (Or.inr (Or.inl h3)))
  by_cases h4 : x = 4
  · exact Or.inr (Or.inr (Or.inr (Or.inr (Or.inl h4))))
  by_cases h5 : x = 5
  · exact Or.inr (Or.inr (Or.inr (Or.inr (Or.inr (Or.inl h5)))))
  by_cases h6 : x = 6
  · exact Or.inr (Or.inr (Or.inr (Or.inr (Or.inr (Or.inr (Or.inl h6))))))
  by_cases h7 : x = 7
  · exact Or.inr (Or.inr (Or.inr (Or.inr (Or.inr (Or.inr (Or.inr (Or.inl h7)))))))
  refine Or.inr (Or.inr (Or.inr (Or.inr (Or.inr (Or.inr (Or.inr (Or.inr (⟨h0, h1, h2, h3, h4, h5, h6, h7, ?_⟩))))))))
  rcases Int.lt_or_le x.toInt 0 with q | q
  · exact Or.inl q
  rcases Int.lt_or_le 7 x.toInt with q2 | q2
  · exact Or.inr q2
  exfalso
  have z : x.toInt = 0 ∨ x.toInt = 1 ∨ x.toInt = 2 ∨ x.toInt = 3 ∨ x.toInt = 4 ∨ x.toInt = 5 ∨ x.toInt = 6 ∨ x.toInt = 7 := by omega
  rcases z with z | z | z | z | z | z | z | z
  · exact h0 (Int32.toInt_inj.mp z)
  · exact h1 (Int32.toInt_inj.mp z)
  · exact h2 (Int32.toInt_inj.mp z)
  · exact h3 (Int32.toInt_inj.mp z)
  · exact h4 (Int32.toInt_inj.mp z)
  · exact h5 (Int32.toInt_inj.mp z)
  · exact h6 (Int32.toInt_inj.mp z)
  · exact h7 (Int32.toInt_inj.mp z)

theorem pace_T (p : Int32) : p ≤ nI p.toNatClampNeg := by
  rw [Int32.le_iff_toInt_le]
  by_cases h : p < 0
  · have h1 : p.toNatClampNeg = 0 := by
      rw [Int32.lt_iff_toInt_lt, Int32.toInt_zero] at h
      show p.toInt.toNat = 0
      omega
    rw [h1, nI_0, Int32.toInt_zero]
    rw [Int32.lt_iff_toInt_lt, Int32.toInt_zero] at h
    omega
  · obtain ⟨j, hj, e⟩ := nI_of h
    rw [e, nI_clamp hj]
    exact Int.le_refl _
theorem pace_F {p : Int32} {i : Nat} (h : i < p.toNatClampNeg) : ¬ p ≤ nI i := by
  by_cases h0 : p < 0
  · have h1 : p.toNatClampNeg = 0 := by
      rw [Int32.lt_iff_toInt_lt, Int32.toInt_zero] at h0
      show p.toInt.toNat = 0
      omega
    omega
  · obtain ⟨j, hj, e⟩ := nI_of h0
    rw [e, nI_clamp hj] at h
    rw [e]
    exact nI_ge h hj
theorem stp_ne {w h : Nat} {v : Vw} {c i : Nat} (h1 : c ≠ 12) (h2 : c ≠ 13) : stp w h v c i = v c i := by simp [stp, up2, h1, h2]
theorem mov_ne {w h : Nat} {v : Vw} {c i : Nat} (h1 : c ≠ 12) (h2 : c ≠ 13) : mov w h v c i = v c i := it_keep (fun _ _ => stp_ne h1 h2) _ _
def addH (v : Vw) (x y : Int32) : Vw := up2 (up2 (up2 (up2 v 3 (nH v) x) 4 (nH v) y) 5 (nH v) 1) 16 0 (nI (nH v + 1))
def addS (v : Vw) (p q : Int32) : Vw := up2 (up2 (up2 v 6 (nS v) p) 7 (nS v) q) 16 1 (nI (nS v + 1))
def addW (v : Vw) (x y z : Int32) : Vw := up2 (up2 (up2 (up2 v 12 (nW v) x) 13 (nW v) y) 14 (nW v) z) 16 2 (nI (nW v + 1))
theorem nI_p (n : Nat) : nI (n + 1) - 1 = nI n := nI_pred n
theorem cell_nI (x y : Nat) : 9 * nI y + nI x = nI (9 * y + x) := by rw [show (9 : Int32) = nI 9 from rfl, pk_mul, nI_add]
set_option maxHeartbeats 4000000 in
set_option maxRecDepth 100000 in
theorem c_cellFact (l : Launch) {g : Gm} (hI : IJ g KK) {M : Mem} {o : Nat → Int64} {r : Nat} (hr : r < 2) {v : Vw} (hv : Inv v) (x y : Nat) (hx9 : x < 9) (hy9 : y < 9) (q : Int32) : MI l yX1_cellFact cX1_cellFact 5 .int (rm 2 43) g KK (ent g (setR M r v) o) [.ref (ad g (3, r, 0)), .int (nI x), .int (nI y), .int (q)] (cellF v x y q) (ent g (setR M r v) o) := by
  refine met_of (by decide +kernel) (Nat.le_of_ble_eq_true rfl) ?_
  intro p e s m below meth c ls hC hr_ hlk hnm hE hP hS hl
  obtain ⟨hx, hb, hml, hown, hG⟩ := id hC
  have hl : lv_has ls 5 [(0, .ref (ad g (3, r, 0))), (1, .int (nI x)), (2, .int (nI y)), (3, .int (q))] := hl
  refine lv_iload_n hx hb dX1_cellFact_0 rfl (lv_at hl 1 rfl) ?_
  refine lv_iload_n hx hb dX1_cellFact_1 rfl (lv_at hl 2 rfl) ?_
  refine on_i (run_SN hC hE hP hS (As := [.int (nI x), .int (nI y)]) (c_cellAt l (nI x) (nI y)) cal_X4_cellAt n_231 ⟨Nat.le_of_ble_eq_true rfl, Nat.le_of_ble_eq_true rfl⟩ rfl rfl (Nat.le_of_ble_eq_true rfl) hl.1 ⟨Nat.le_of_ble_eq_true rfl, Nat.le_of_ble_eq_true rfl⟩ dX1_cellFact_2) hS (fun H locs hP hS => ?_)
  refine m_top (y := nI (9 * y + x)) (cell_nI x y) ?_
  refine lv_istore (lv' := [(4, .int (nI (9 * y + x))), (0, .ref (ad g (3, r, 0))), (1, .int (nI x)), (2, .int (nI y)), (3, .int (q))]) hx hb dX1_cellFact_5 hl (by decide) rfl (fun ls hl => ?_)
  refine lv_iload_n hx hb dX1_cellFact_7 rfl (lv_at hl 4 rfl) ?_
  rcases sw_3 q with e0 | e0 | e0 | ⟨d0, d1, d2, e0⟩
  · refine lv_tableIn (off := 28) (tgt := 36) hx hb dX1_cellFact_8 (by rw [e0]; decide) (by rw [e0]; decide) (by rw [e0]; decide) (by decide) ?_
    refine lv_aload_n hx hb dX1_cellFact_36 rfl (lv_at hl 1 rfl) ?_
    refine m_get hC hE hP (k_3 hr) e_3 rfl u_1 0 (by decide) w_114 rfl rfl dX1_cellFact_37 ?_
    refine lv_iload hx hb dX1_cellFact_40 (lv_at hl 0 rfl) ?_
    refine m_iald hC hE hP (k_4 hr (by decide)) e_4 (9 * y + x) (rfl) (show (9 * y + x) < 81 from by omega) (by decide) dX1_cellFact_42 ?_
    exact m_iret hC hr_ hlk hS (hP.castR (rfl)) rfl ((if_pos e0).symm) dX1_cellFact_43
  · refine lv_tableIn (off := 36) (tgt := 44) hx hb dX1_cellFact_8 (by rw [e0]; decide) (by rw [e0]; decide) (by rw [e0]; decide) (by decide) ?_
    refine lv_aload_n hx hb dX1_cellFact_44 rfl (lv_at hl 1 rfl) ?_
    refine m_get hC hE hP (k_3 hr) e_3 rfl u_1 1 (by decide) w_116 rfl rfl dX1_cellFact_45 ?_
    refine lv_iload hx hb dX1_cellFact_48 (lv_at hl 0 rfl) ?_
    refine m_iald hC hE hP (k_4 hr (by decide)) e_4 (9 * y + x) (rfl) (show (9 * y + x) < 81 from by omega) (by decide) dX1_cellFact_50 ?_
    exact m_iret hC hr_ hlk hS (hP.castR (rfl)) rfl (by unfold cellF; rw [e0]; rfl) dX1_cellFact_51
  · refine lv_tableIn (off := 44) (tgt := 52) hx hb dX1_cellFact_8 (by rw [e0]; decide) (by rw [e0]; decide) (by rw [e0]; decide) (by decide) ?_
    refine lv_aload_n hx hb dX1_cellFact_52 rfl (lv_at hl 1 rfl) ?_
    refine lv_iload_n hx hb dX1_cellFact_53 rfl (lv_at hl 2 rfl) ?_
    refine lv_iload_n hx hb dX1_cellFact_54 rfl (lv_at hl 3 rfl) ?_
    refine on_i (run_V hC hE hP hS (As := [.int (nI x), .int (nI y)]) (c_openHoleIn l hI hr hv (nI x) (nI y)) cal_X1_openHoleIn w_234 ⟨Nat.le_of_ble_eq_true rfl, Nat.le_of_ble_eq_true rfl⟩ (k_3 hr) e_3 rfl rfl rfl (Nat.le_of_ble_eq_true rfl) hl.1 ⟨Nat.le_of_ble_eq_true rfl, Nat.le_of_ble_eq_true rfl⟩ dX1_cellFact_55) hS (fun H locs hP hS => ?_)
    exact m_iret hC hr_ hlk hS (hP.castR (rfl)) rfl (by unfold cellF; rw [e0]; rfl) dX1_cellFact_58
  · refine lv_tableOut (tgt := 59) hx hb dX1_cellFact_8 (e0) (by decide) ?_
    refine lv_aload_n hx hb dX1_cellFact_59 rfl (lv_at hl 1 rfl) ?_
    refine lv_iload hx hb dX1_cellFact_60 (lv_at hl 0 rfl) ?_
    refine on_i (run_V hC hE hP hS (As := [.int (nI (9 * y + x))]) (c_catchIn l hI hr hv (9 * y + x) (by omega)) cal_X1_catchIn w_238 ⟨Nat.le_of_ble_eq_true rfl, Nat.le_of_ble_eq_true rfl⟩ (k_3 hr) e_3 rfl rfl rfl (Nat.le_of_ble_eq_true rfl) hl.1 ⟨Nat.le_of_ble_eq_true rfl, Nat.le_of_ble_eq_true rfl⟩ dX1_cellFact_62) hS (fun H locs hP hS => ?_)
    exact m_iret hC hr_ hlk hS (hP.castR (rfl)) rfl (by unfold cellF; rw [if_neg d0, if_neg d1, if_neg d2]) dX1_cellFact_65
set_option maxHeartbeats 4000000 in
set_option maxRecDepth 100000 in
theorem c_holeFact (l : Launch) {g : Gm} (hI : IJ g KK) {M : Mem} {o : Nat → Int64} {r : Nat} (hr : r < 2) {v : Vw} (hv : Inv v) (h : Nat) (hh : h < nH v) (q : Int32) : MI l yX1_holeFact cX1_holeFact 3 .int (rm 3 68) g KK (ent g (setR M r v) o) [.ref (ad g (3, r, 0)), .int (nI h), .int (q)] (holeF v h q) (ent g (setR M r v) o) := by
  refine met_of (by decide +kernel) (Nat.le_of_ble_eq_true rfl) ?_
  intro p e s m below meth c ls hC hr_ hlk hnm hE hP hS hl
  obtain ⟨hx, hb, hml, hown, hG⟩ := id hC
  have hl : lv_has ls 3 [(0, .ref (ad g (3, r, 0))), (1, .int (nI h)), (2, .int (q))] := hl
  have qH := hv.lH
  have qS := hv.lS
  have qW := hv.lW
  refine lv_iload_n hx hb dX1_holeFact_0 rfl (lv_at hl 2 rfl) ?_
  rcases sw_4 q with e0 | e0 | e0 | e0 | ⟨d0, d1, d2, d3, e0⟩
  · refine lv_tableIn (off := 31) (tgt := 32) hx hb dX1_holeFact_1 (by rw [e0]; decide) (by rw [e0]; decide) (by rw [e0]; decide) (by decide) ?_
    refine lv_aload_n hx hb dX1_holeFact_32 rfl (lv_at hl 0 rfl) ?_
    refine m_get hC hE hP (k_3 hr) e_3 rfl u_1 3 (by decide) w_120 rfl rfl dX1_holeFact_33 ?_
    refine lv_iload_n hx hb dX1_holeFact_36 rfl (lv_at hl 1 rfl) ?_
    refine m_aald hC hE hP (k_5 hr) f_5 rfl h (rfl) (by omega) (by decide) rfl dX1_holeFact_37 ?_
    refine m_get hC hE hP (k_0 hr (by omega)) e_0 rfl u_0 0 (by decide) w_40 rfl rfl dX1_holeFact_38 ?_
    exact m_iret hC hr_ hlk hS (hP.castR (rfl)) rfl (by unfold holeF; rw [e0]; rfl) dX1_holeFact_41
  · refine lv_tableIn (off := 41) (tgt := 42) hx hb dX1_holeFact_1 (by rw [e0]; decide) (by rw [e0]; decide) (by rw [e0]; decide) (by decide) ?_
    refine lv_aload_n hx hb dX1_holeFact_42 rfl (lv_at hl 0 rfl) ?_
    refine m_get hC hE hP (k_3 hr) e_3 rfl u_1 3 (by decide) w_120 rfl rfl dX1_holeFact_43 ?_
    refine lv_iload_n hx hb dX1_holeFact_46 rfl (lv_at hl 1 rfl) ?_
    refine m_aald hC hE hP (k_5 hr) f_5 rfl h (rfl) (by omega) (by decide) rfl dX1_holeFact_47 ?_
    refine m_get hC hE hP (k_0 hr (by omega)) e_0 rfl u_0 1 (by decide) w_43 rfl rfl dX1_holeFact_48 ?_
    exact m_iret hC hr_ hlk hS (hP.castR (rfl)) rfl (by unfold holeF; rw [e0]; rfl) dX1_holeFact_51
  · refine lv_tableIn (off := 51) (tgt := 52) hx hb dX1_holeFact_1 (by rw [e0]; decide) (by rw [e0]; decide) (by rw [e0]; decide) (by decide) ?_
    refine lv_aload_n hx hb dX1_holeFact_52 rfl (lv_at hl 0 rfl) ?_
    refine m_get hC hE hP (k_3 hr) e_3 rfl u_1 3 (by decide) w_120 rfl rfl dX1_holeFact_53 ?_
    refine lv_iload_n hx hb dX1_holeFact_56 rfl (lv_at hl 1 rfl) ?_
    refine m_aald hC hE hP (k_5 hr) f_5 rfl h (rfl) (by omega) (by decide) rfl dX1_holeFact_57 ?_
    refine m_get hC hE hP (k_0 hr (by omega)) e_0 rfl u_0 2 (by decide) w_45 rfl rfl dX1_holeFact_58 ?_
    refine lv_if_eq (tgt := 68) hx hb dX1_holeFact_61 (by decide) (fun c1 => ?_) (fun c1 => ?_)
    · refine lv_iconst (v := 0) hx hb dX1_holeFact_68 (by decide) ?_
      exact m_iret hC hr_ hlk hS (hP.castR (rfl)) rfl (by first | (unfold holeF; rw [e0]; exact ((hv.hH h hh).2.2.resolve_left c1).symm) | (unfold holeF; rw [e0]; exact c1.symm)) dX1_holeFact_69
    · refine lv_iconst (v := 1) hx hb dX1_holeFact_64 (by decide) ?_
      refine lv_goto (tgt := 69) hx hb dX1_holeFact_65 (by decide) ?_
      exact m_iret hC hr_ hlk hS (hP.castR (rfl)) rfl (by first | (unfold holeF; rw [e0]; exact ((hv.hH h hh).2.2.resolve_left c1).symm) | (unfold holeF; rw [e0]; exact c1.symm)) dX1_holeFact_69
  · refine lv_tableIn (off := 69) (tgt := 70) hx hb dX1_holeFact_1 (by rw [e0]; decide) (by rw [e0]; decide) (by rw [e0]; decide) (by decide) ?_
    refine lv_aload_n hx hb dX1_holeFact_70 rfl (lv_at hl 0 rfl) ?_
    refine lv_iload_n hx hb dX1_holeFact_71 rfl (lv_at hl 1 rfl) ?_
    refine on_i (run_V hC hE hP hS (As := [.int (nI h)]) (c_spearersAt l hI hr hv (nI h)) cal_X1_spearersAt w_248 ⟨Nat.le_of_ble_eq_true rfl, Nat.le_of_ble_eq_true rfl⟩ (k_3 hr) e_3 rfl rfl rfl (Nat.le_of_ble_eq_true rfl) hl.1 ⟨Nat.le_of_ble_eq_true rfl, Nat.le_of_ble_eq_true rfl⟩ dX1_holeFact_72) hS (fun H locs hP hS => ?_)
    exact m_iret hC hr_ hlk hS (hP.castR (rfl)) rfl (by unfold holeF; rw [e0]; rfl) dX1_holeFact_75
  · refine lv_tableOut (tgt := 76) hx hb dX1_holeFact_1 (e0) (by decide) ?_
    refine lv_aload_n hx hb dX1_holeFact_76 rfl (lv_at hl 0 rfl) ?_
    refine lv_aload_n hx hb dX1_holeFact_77 rfl (lv_at hl 0 rfl) ?_
    refine m_get hC hE hP (k_3 hr) e_3 rfl u_1 3 (by decide) w_120 rfl rfl dX1_holeFact_78 ?_
    refine lv_iload_n hx hb dX1_holeFact_81 rfl (lv_at hl 1 rfl) ?_
    refine m_aald hC hE hP (k_5 hr) f_5 rfl h (rfl) (by omega) (by decide) rfl dX1_holeFact_82 ?_
    refine on_i (run_V hC hE hP hS (As := [.ref (ad g (0, r, h))]) (c_nearestWardenTo l hI hr hv h (by omega)) cal_X1_nearestWardenTo w_252 ⟨Nat.le_of_ble_eq_true rfl, Nat.le_of_ble_eq_true rfl⟩ (k_3 hr) e_3 rfl rfl rfl (Nat.le_of_ble_eq_true rfl) hl.1 ⟨Nat.le_of_ble_eq_true rfl, Nat.le_of_ble_eq_true rfl⟩ dX1_holeFact_83) hS (fun H locs hP hS => ?_)
    exact m_iret hC hr_ hlk hS (hP.castR (rfl)) rfl (by unfold holeF; rw [if_neg d0, if_neg d1, if_neg d2, if_neg d3]) dX1_holeFact_86
set_option maxHeartbeats 4000000 in
set_option maxRecDepth 100000 in
theorem c_fact (l : Launch) {g : Gm} (hI : IJ g KK) {M : Mem} {o : Nat → Int64} {r : Nat} (hr : r < 2) {v : Vw} (hv : Inv v) (q : Int32) : MI l yX1_fact cX1_fact 2 .int (rm 1 22) g KK (ent g (setR M r v) o) [.ref (ad g (3, r, 0)), .int (q)] (factF v q) (ent g (setR M r v) o) := by
  refine met_of (by decide +kernel) (Nat.le_of_ble_eq_true rfl) ?_
  intro p e s m below meth c ls hC hr_ hlk hnm hE hP hS hl
  obtain ⟨hx, hb, hml, hown, hG⟩ := id hC
  have hl : lv_has ls 2 [(0, .ref (ad g (3, r, 0))), (1, .int (q))] := hl
  refine lv_iload_n hx hb dX1_fact_0 rfl (lv_at hl 1 rfl) ?_
  rcases sw_8 q with e0 | e0 | e0 | e0 | e0 | e0 | e0 | e0 | ⟨d0, d1, d2, d3, d4, d5, d6, d7, e0⟩
  · refine lv_tableIn (off := 47) (tgt := 48) hx hb dX1_fact_1 (by rw [e0]; decide) (by rw [e0]; decide) (by rw [e0]; decide) (by decide) ?_
    refine lv_aload_n hx hb dX1_fact_48 rfl (lv_at hl 0 rfl) ?_
    refine m_get hC hE hP (k_3 hr) e_3 rfl u_1 10 (by decide) w_134 rfl rfl dX1_fact_49 ?_
    exact m_iret hC hr_ hlk hS (hP.castR (rfl)) rfl (by unfold factF; rw [e0]; rfl) dX1_fact_52
  · refine lv_tableIn (off := 52) (tgt := 53) hx hb dX1_fact_1 (by rw [e0]; decide) (by rw [e0]; decide) (by rw [e0]; decide) (by decide) ?_
    refine lv_aload_n hx hb dX1_fact_53 rfl (lv_at hl 0 rfl) ?_
    refine m_get hC hE hP (k_3 hr) e_3 rfl u_1 9 (by decide) w_132 rfl rfl dX1_fact_54 ?_
    exact m_iret hC hr_ hlk hS (hP.castR (rfl)) rfl (by unfold factF; rw [e0]; rfl) dX1_fact_57
  · refine lv_tableIn (off := 57) (tgt := 58) hx hb dX1_fact_1 (by rw [e0]; decide) (by rw [e0]; decide) (by rw [e0]; decide) (by decide) ?_
    refine lv_aload_n hx hb dX1_fact_58 rfl (lv_at hl 0 rfl) ?_
    refine m_get hC hE hP (k_3 hr) e_3 rfl u_1 9 (by decide) w_132 rfl rfl dX1_fact_59 ?_
    refine on_i (run_SN hC hE hP hS (As := [.int (v 16 3)]) (c_iceBears l (v 16 3)) cal_X4_iceBears n_202 ⟨Nat.le_of_ble_eq_true rfl, Nat.le_of_ble_eq_true rfl⟩ rfl rfl (Nat.le_of_ble_eq_true rfl) hl.1 ⟨Nat.le_of_ble_eq_true rfl, Nat.le_of_ble_eq_true rfl⟩ dX1_fact_62) hS (fun H locs hP hS => ?_)
    refine lv_if_eq (tgt := 72) hx hb dX1_fact_65 (by decide) (fun c1 => ?_) (fun c1 => ?_)
    · have c1 := b2i_f c1
      refine lv_iconst (v := 0) hx hb dX1_fact_72 (by decide) ?_
      exact m_iret hC hr_ hlk hS (hP.castR (rfl)) rfl (by unfold factF; rw [e0]; show _ = b2i (bear (v 16 3)); rw [c1]; rfl) dX1_fact_73
    · have c1 := b2i_t c1
      refine lv_iconst (v := 1) hx hb dX1_fact_68 (by decide) ?_
      refine lv_goto (tgt := 73) hx hb dX1_fact_69 (by decide) ?_
      exact m_iret hC hr_ hlk hS (hP.castR (rfl)) rfl (by unfold factF; rw [e0]; show _ = b2i (bear (v 16 3)); rw [c1]; rfl) dX1_fact_73
  · refine lv_tableIn (off := 73) (tgt := 74) hx hb dX1_fact_1 (by rw [e0]; decide) (by rw [e0]; decide) (by rw [e0]; decide) (by decide) ?_
    refine lv_aload_n hx hb dX1_fact_74 rfl (lv_at hl 0 rfl) ?_
    refine on_i (run_V hC hE hP hS (As := []) (c_eelsOfLake l hI hr hv) cal_X1_eelsOfLake w_203 ⟨Nat.le_of_ble_eq_true rfl, Nat.le_of_ble_eq_true rfl⟩ (k_3 hr) e_3 rfl rfl rfl (Nat.le_of_ble_eq_true rfl) hl.1 ⟨Nat.le_of_ble_eq_true rfl, Nat.le_of_ble_eq_true rfl⟩ dX1_fact_75) hS (fun H locs hP hS => ?_)
    exact m_iret hC hr_ hlk hS (hP.castR (rfl)) rfl (by unfold factF; rw [e0]; rfl) dX1_fact_78
  · refine lv_tableIn (off := 78) (tgt := 79) hx hb dX1_fact_1 (by rw [e0]; decide) (by rw [e0]; decide) (by rw [e0]; decide) (by decide) ?_
    refine lv_aload_n hx hb dX1_fact_79 rfl (lv_at hl 0 rfl) ?_
    refine m_get hC hE hP (k_3 hr) e_3 rfl u_1 6 (by decide) w_126 rfl rfl dX1_fact_80 ?_
    exact m_iret hC hr_ hlk hS (hP.castR (rfl)) rfl (by unfold factF; rw [e0]; rfl) dX1_fact_83
  · refine lv_tableIn (off := 83) (tgt := 84) hx hb dX1_fact_1 (by rw [e0]; decide) (by rw [e0]; decide) (by rw [e0]; decide) (by decide) ?_
    refine lv_aload_n hx hb dX1_fact_84 rfl (lv_at hl 0 rfl) ?_
    refine on_i (run_V hC hE hP hS (As := []) (c_openHoles l hI hr hv) cal_X1_openHoles w_207 ⟨Nat.le_of_ble_eq_true rfl, Nat.le_of_ble_eq_true rfl⟩ (k_3 hr) e_3 rfl rfl rfl (Nat.le_of_ble_eq_true rfl) hl.1 ⟨Nat.le_of_ble_eq_true rfl, Nat.le_of_ble_eq_true rfl⟩ dX1_fact_85) hS (fun H locs hP hS => ?_)
    exact m_iret hC hr_ hlk hS (hP.castR (rfl)) rfl (by unfold factF; rw [e0]; rfl) dX1_fact_88
  · refine lv_tableIn (off := 88) (tgt := 89) hx hb dX1_fact_1 (by rw [e0]; decide) (by rw [e0]; decide) (by rw [e0]; decide) (by decide) ?_
    refine lv_aload_n hx hb dX1_fact_89 rfl (lv_at hl 0 rfl) ?_
    refine m_get hC hE hP (k_3 hr) e_3 rfl u_1 7 (by decide) w_128 rfl rfl dX1_fact_90 ?_
    exact m_iret hC hr_ hlk hS (hP.castR (rfl)) rfl (by unfold factF; rw [e0]; rfl) dX1_fact_93
  · refine lv_tableIn (off := 93) (tgt := 94) hx hb dX1_fact_1 (by rw [e0]; decide) (by rw [e0]; decide) (by rw [e0]; decide) (by decide) ?_
    refine lv_aload_n hx hb dX1_fact_94 rfl (lv_at hl 0 rfl) ?_
    refine on_i (run_V hC hE hP hS (As := []) (c_eelsOfSpearers l hI hr hv) cal_X1_eelsOfSpearers w_211 ⟨Nat.le_of_ble_eq_true rfl, Nat.le_of_ble_eq_true rfl⟩ (k_3 hr) e_3 rfl rfl rfl (Nat.le_of_ble_eq_true rfl) hl.1 ⟨Nat.le_of_ble_eq_true rfl, Nat.le_of_ble_eq_true rfl⟩ dX1_fact_95) hS (fun H locs hP hS => ?_)
    exact m_iret hC hr_ hlk hS (hP.castR (rfl)) rfl (by unfold factF; rw [e0]; rfl) dX1_fact_98
  · refine lv_tableOut (tgt := 99) hx hb dX1_fact_1 (e0) (by decide) ?_
    refine lv_aload_n hx hb dX1_fact_99 rfl (lv_at hl 0 rfl) ?_
    refine on_i (run_V hC hE hP hS (As := []) (c_finesOfSpearers l hI hr hv) cal_X1_finesOfSpearers w_215 ⟨Nat.le_of_ble_eq_true rfl, Nat.le_of_ble_eq_true rfl⟩ (k_3 hr) e_3 rfl rfl rfl (Nat.le_of_ble_eq_true rfl) hl.1 ⟨Nat.le_of_ble_eq_true rfl, Nat.le_of_ble_eq_true rfl⟩ dX1_fact_100) hS (fun H locs hP hS => ?_)
    exact m_iret hC hr_ hlk hS (hP.castR (rfl)) rfl (by unfold factF; rw [if_neg d0, if_neg d1, if_neg d2, if_neg d3, if_neg d4, if_neg d5, if_neg d6, if_neg d7]) dX1_fact_103
set_option maxHeartbeats 4000000 in
set_option maxRecDepth 100000 in
theorem c_tellS (l : Launch) {g : Gm} (hI : IJ g KK) {M : Mem} {o : Nat → Int64} {r : Nat} (hr : r < 2) {v : Vw} (k : Nat) (hk8 : k < 8) (q : Int32) : MI l yX2_tell cX2_tell 2 .int (rm 0 0) g KK (ent g (setR M r v) o) [.ref (ad g (1, r, k)), .int (q)] (sprF v k q) (ent g (setR M r v) o) := by
  refine met_of (by decide +kernel) (Nat.le_of_ble_eq_true rfl) ?_
  intro p e s m below meth c ls hC hr_ hlk hnm hE hP hS hl
  obtain ⟨hx, hb, hml, hown, hG⟩ := id hC
  have hl : lv_has ls 2 [(0, .ref (ad g (1, r, k))), (1, .int (q))] := hl
  refine lv_iload_n hx hb dX2_tell_0 rfl (lv_at hl 1 rfl) ?_
  rcases sw_5 q with e0 | e0 | e0 | e0 | e0 | ⟨d0, d1, d2, d3, d4, e0⟩
  · refine lv_tableIn (off := 35) (tgt := 36) hx hb dX2_tell_1 (by rw [e0]; decide) (by rw [e0]; decide) (by rw [e0]; decide) (by decide) ?_
    refine lv_aload_n hx hb dX2_tell_36 rfl (lv_at hl 0 rfl) ?_
    refine m_get hC hE hP (k_1 hr (by omega)) e_1 rfl u_2 0 (by decide) w_62 rfl rfl dX2_tell_37 ?_
    exact m_iret hC hr_ hlk hS (hP.castR (rfl)) rfl (by unfold sprF; rw [e0]; rfl) dX2_tell_40
  · refine lv_tableIn (off := 40) (tgt := 41) hx hb dX2_tell_1 (by rw [e0]; decide) (by rw [e0]; decide) (by rw [e0]; decide) (by decide) ?_
    refine lv_aload_n hx hb dX2_tell_41 rfl (lv_at hl 0 rfl) ?_
    refine m_get hC hE hP (k_1 hr (by omega)) e_1 rfl u_2 1 (by decide) w_64 rfl rfl dX2_tell_42 ?_
    exact m_iret hC hr_ hlk hS (hP.castR (rfl)) rfl (by unfold sprF; rw [e0]; rfl) dX2_tell_45
  · refine lv_tableIn (off := 45) (tgt := 46) hx hb dX2_tell_1 (by rw [e0]; decide) (by rw [e0]; decide) (by rw [e0]; decide) (by decide) ?_
    refine lv_aload_n hx hb dX2_tell_46 rfl (lv_at hl 0 rfl) ?_
    refine m_get hC hE hP (k_1 hr (by omega)) e_1 rfl u_2 2 (by decide) w_66 rfl rfl dX2_tell_47 ?_
    exact m_iret hC hr_ hlk hS (hP.castR (rfl)) rfl (by unfold sprF; rw [e0]; rfl) dX2_tell_50
  · refine lv_tableIn (off := 50) (tgt := 51) hx hb dX2_tell_1 (by rw [e0]; decide) (by rw [e0]; decide) (by rw [e0]; decide) (by decide) ?_
    refine lv_aload_n hx hb dX2_tell_51 rfl (lv_at hl 0 rfl) ?_
    refine m_get hC hE hP (k_1 hr (by omega)) e_1 rfl u_2 3 (by decide) w_69 rfl rfl dX2_tell_52 ?_
    exact m_iret hC hr_ hlk hS (hP.castR (rfl)) rfl (by unfold sprF; rw [e0]; rfl) dX2_tell_55
  · refine lv_tableIn (off := 55) (tgt := 56) hx hb dX2_tell_1 (by rw [e0]; decide) (by rw [e0]; decide) (by rw [e0]; decide) (by decide) ?_
    refine lv_aload_n hx hb dX2_tell_56 rfl (lv_at hl 0 rfl) ?_
    refine m_get hC hE hP (k_1 hr (by omega)) e_1 rfl u_2 4 (by decide) w_72 rfl rfl dX2_tell_57 ?_
    exact m_iret hC hr_ hlk hS (hP.castR (rfl)) rfl (by unfold sprF; rw [e0]; rfl) dX2_tell_60
  · refine lv_tableOut (tgt := 61) hx hb dX2_tell_1 (e0) (by decide) ?_
    refine lv_aload_n hx hb dX2_tell_61 rfl (lv_at hl 0 rfl) ?_
    refine m_get hC hE hP (k_1 hr (by omega)) e_1 rfl u_2 5 (by decide) w_75 rfl rfl dX2_tell_62 ?_
    exact m_iret hC hr_ hlk hS (hP.castR (rfl)) rfl (by unfold sprF; rw [if_neg d0, if_neg d1, if_neg d2, if_neg d3, if_neg d4]) dX2_tell_65
set_option maxHeartbeats 4000000 in
set_option maxRecDepth 100000 in
theorem c_tellW (l : Launch) {g : Gm} (hI : IJ g KK) {M : Mem} {o : Nat → Int64} {r : Nat} (hr : r < 2) {v : Vw} (k : Nat) (hk3 : k < 3) (q : Int32) : MI l yX3_tell cX3_tell 2 .int (rm 0 0) g KK (ent g (setR M r v) o) [.ref (ad g (2, r, k)), .int (q)] (warF v k q) (ent g (setR M r v) o) := by
  refine met_of (by decide +kernel) (Nat.le_of_ble_eq_true rfl) ?_
  intro p e s m below meth c ls hC hr_ hlk hnm hE hP hS hl
  obtain ⟨hx, hb, hml, hown, hG⟩ := id hC
  have hl : lv_has ls 2 [(0, .ref (ad g (2, r, k))), (1, .int (q))] := hl
  refine lv_iload_n hx hb dX3_tell_0 rfl (lv_at hl 1 rfl) ?_
  rcases sw_3 q with e0 | e0 | e0 | ⟨d0, d1, d2, e0⟩
  · refine lv_tableIn (off := 27) (tgt := 28) hx hb dX3_tell_1 (by rw [e0]; decide) (by rw [e0]; decide) (by rw [e0]; decide) (by decide) ?_
    refine lv_aload_n hx hb dX3_tell_28 rfl (lv_at hl 0 rfl) ?_
    refine m_get hC hE hP (k_2 hr (by omega)) e_2 rfl u_3 0 (by decide) w_97 rfl rfl dX3_tell_29 ?_
    exact m_iret hC hr_ hlk hS (hP.castR (rfl)) rfl (by unfold warF; rw [e0]; rfl) dX3_tell_32
  · refine lv_tableIn (off := 32) (tgt := 33) hx hb dX3_tell_1 (by rw [e0]; decide) (by rw [e0]; decide) (by rw [e0]; decide) (by decide) ?_
    refine lv_aload_n hx hb dX3_tell_33 rfl (lv_at hl 0 rfl) ?_
    refine m_get hC hE hP (k_2 hr (by omega)) e_2 rfl u_3 1 (by decide) w_99 rfl rfl dX3_tell_34 ?_
    exact m_iret hC hr_ hlk hS (hP.castR (rfl)) rfl (by unfold warF; rw [e0]; rfl) dX3_tell_37
  · refine lv_tableIn (off := 37) (tgt := 38) hx hb dX3_tell_1 (by rw [e0]; decide) (by rw [e0]; decide) (by rw [e0]; decide) (by decide) ?_
    refine lv_aload_n hx hb dX3_tell_38 rfl (lv_at hl 0 rfl) ?_
    refine m_get hC hE hP (k_2 hr (by omega)) e_2 rfl u_3 2 (by decide) w_101 rfl rfl dX3_tell_39 ?_
    exact m_iret hC hr_ hlk hS (hP.castR (rfl)) rfl (by unfold warF; rw [e0]; rfl) dX3_tell_42
  · refine lv_tableOut (tgt := 43) hx hb dX3_tell_1 (e0) (by decide) ?_
    refine lv_aload_n hx hb dX3_tell_43 rfl (lv_at hl 0 rfl) ?_
    refine m_get hC hE hP (k_2 hr (by omega)) e_2 rfl u_3 3 (by decide) w_103 rfl rfl dX3_tell_44 ?_
    exact m_iret hC hr_ hlk hS (hP.castR (rfl)) rfl (by unfold warF; rw [if_neg d0, if_neg d1, if_neg d2]) dX3_tell_47
set_option maxHeartbeats 4000000 in
set_option maxRecDepth 100000 in
theorem c_tookTooMuch (l : Launch) {g : Gm} (hI : IJ g KK) {M : Mem} {o : Nat → Int64} {r : Nat} (hr : r < 2) {v : Vw} (k : Nat) (hk8 : k < 8) : MI l yX2_tookTooMuch cX2_tookTooMuch 1 .boolean (rm 0 0) g KK (ent g (setR M r v) o) [.ref (ad g (1, r, k))] (b2i (decide (v 6 k < v 9 k))) (ent g (setR M r v) o) := by
  refine met_of (by decide +kernel) (Nat.le_of_ble_eq_true rfl) ?_
  intro p e s m below meth c ls hC hr_ hlk hnm hE hP hS hl
  obtain ⟨hx, hb, hml, hown, hG⟩ := id hC
  have hl : lv_has ls 1 [(0, .ref (ad g (1, r, k)))] := hl
  refine lv_aload_n hx hb dX2_tookTooMuch_0 rfl (lv_at hl 0 rfl) ?_
  refine m_get hC hE hP (k_1 hr (by omega)) e_1 rfl u_2 3 (by decide) w_69 rfl rfl dX2_tookTooMuch_1 ?_
  refine lv_aload_n hx hb dX2_tookTooMuch_4 rfl (lv_at hl 0 rfl) ?_
  refine m_get hC hE hP (k_1 hr (by omega)) e_1 rfl u_2 0 (by decide) w_62 rfl rfl dX2_tookTooMuch_5 ?_
  refine lv_icmp_le (tgt := 15) hx hb dX2_tookTooMuch_8 (by decide) (fun c1 => ?_) (fun c1 => ?_)
  · refine lv_iconst (v := 0) hx hb dX2_tookTooMuch_15 (by decide) ?_
    exact m_iret hC hr_ hlk hS (hP.castR (rfl)) (by first | rfl | exact nar_b _) (by first | (rw [decide_eq_true (Int32.not_le.mp c1)]; rfl) | (rw [decide_eq_false (Int32.not_lt.mpr c1)]; rfl)) dX2_tookTooMuch_16
  · refine lv_iconst (v := 1) hx hb dX2_tookTooMuch_11 (by decide) ?_
    refine lv_goto (tgt := 16) hx hb dX2_tookTooMuch_12 (by decide) ?_
    exact m_iret hC hr_ hlk hS (hP.castR (rfl)) (by first | rfl | exact nar_b _) (by first | (rw [decide_eq_true (Int32.not_le.mp c1)]; rfl) | (rw [decide_eq_false (Int32.not_lt.mpr c1)]; rfl)) dX2_tookTooMuch_16
set_option maxHeartbeats 4000000 in
set_option maxRecDepth 100000 in
theorem c_goTowards (l : Launch) {g : Gm} (hI : IJ g KK) {M : Mem} {o : Nat → Int64} {r : Nat} (hr : r < 2) {v : Vw} (w h : Nat) (hw : w < 3) (hh : h < 12) : MV l yX3_goTowards cX3_goTowards 3 (rm 1 21) g KK (ent g (setR M r v) o) [.ref (ad g (2, r, w)), .ref (ad g (0, r, h))] (ent g (setR M r (mov w h v)) o) := by
  refine met_of (by decide +kernel) (Nat.le_of_ble_eq_true rfl) ?_
  intro p e s m below meth c ls hC hr_ hlk hnm hE hP hS hl
  obtain ⟨hx, hb, hml, hown, hG⟩ := id hC
  have hl : lv_has ls 3 [(0, .ref (ad g (2, r, w))), (1, .ref (ad g (0, r, h)))] := hl
  refine lv_iconst (v := 0) hx hb dX3_goTowards_0 (by decide) ?_
  refine lv_istore_n (lv' := [(2, .int ((0 : Int32))), (0, .ref (ad g (2, r, w))), (1, .ref (ad g (0, r, h)))]) hx hb dX3_goTowards_1 rfl hl (by decide) rfl (fun ls hl => ?_)
  refine lp_W (i0 := 0) ((v 14 w).toNatClampNeg) (fun i => ent g (setR M r (it (fun _ u => stp w h u) i v)) o) (fun i => [(2, .int (nI i)), (0, .ref (ad g (2, r, w))), (1, .ref (ad g (0, r, h)))]) (fun i => True) (Nat.zero_le _) (hP.castR (rfl)) hS (lv_sub hl [0, 1, 2] rfl) (trivial) (fun H locs ls hP hS hl J => ?_) (fun i hi IH H locs ls hP hS hl J => ?_)
  · refine lv_iload_n hx hb dX3_goTowards_2 rfl (lv_at hl 0 rfl) ?_
    refine lv_aload_n hx hb dX3_goTowards_3 rfl (lv_at hl 1 rfl) ?_
    refine m_get hC hE hP (k_2 hr (by omega)) e_2 rfl u_3 2 (by decide) w_101 rfl rfl dX3_goTowards_4 ?_
    refine m_top (y := v 14 w) (it_keep (fun _ _ => stp_ne (by decide) (by decide)) _ _) ?_
    refine lv_icmp_ge (tgt := 56) hx hb dX3_goTowards_7 (by decide) (fun c1 => ?_) (fun c1 => absurd (pace_T _) c1)
    exact m_vret hC hr_ hlk hS (hP.castR (rfl)) dX3_goTowards_56
  · refine lv_iload_n hx hb dX3_goTowards_2 rfl (lv_at hl 0 rfl) ?_
    refine lv_aload_n hx hb dX3_goTowards_3 rfl (lv_at hl 1 rfl) ?_
    refine m_get hC hE hP (k_2 hr (by omega)) e_2 rfl u_3 2 (by decide) w_101 rfl rfl dX3_goTowards_4 ?_
    refine m_top (y := v 14 w) (it_keep (fun _ _ => stp_ne (by decide) (by decide)) _ _) ?_
    refine lv_icmp_ge (tgt := 56) hx hb dX3_goTowards_7 (by decide) (fun c2 => absurd c2 (pace_F hi)) (fun c2 => ?_)
    refine lv_aload_n hx hb dX3_goTowards_10 rfl (lv_at hl 1 rfl) ?_
    refine lv_dup hx hb dX3_goTowards_11 rfl ?_
    refine m_get hC hE hP (k_2 hr (by omega)) e_2 rfl u_3 0 (by decide) w_97 rfl rfl dX3_goTowards_12 ?_
    refine lv_aload_n hx hb dX3_goTowards_15 rfl (lv_at hl 2 rfl) ?_
    refine m_get hC hE hP (k_0 hr (by omega)) e_0 rfl u_0 0 (by decide) w_39 rfl rfl dX3_goTowards_16 ?_
    refine lv_aload_n hx hb dX3_goTowards_19 rfl (lv_at hl 1 rfl) ?_
    refine m_get hC hE hP (k_2 hr (by omega)) e_2 rfl u_3 0 (by decide) w_97 rfl rfl dX3_goTowards_20 ?_
    refine on_i (run_S hC hE hP hS (As := [.int ((it (fun _ u => stp w h u) i v) 3 h), .int ((it (fun _ u => stp w h u) i v) 12 w)]) (c_compare l ((it (fun _ u => stp w h u) i v) 3 h) ((it (fun _ u => stp w h u) i v) 12 w)) cal_J6_compare_7cf53 w_552 ⟨Nat.le_of_ble_eq_true rfl, Nat.le_of_ble_eq_true rfl⟩ rfl rfl (Nat.le_of_ble_eq_true rfl) hl.1 ⟨Nat.le_of_ble_eq_true rfl, Nat.le_of_ble_eq_true rfl⟩ dX3_goTowards_23) hS (fun H locs hP hS => ?_)
    refine lv_iadd hx hb dX3_goTowards_26 ?_
    refine m_put hC hE hI hP hS (k_2 hr (by omega)) e_2 rfl u_3 tyX3_ok nmX3 0 (by decide) w_97 rfl rfl rfl rfl (Nat.le_of_ble_eq_true rfl) p_2_0 (ent_put g M r (it (fun _ u => stp w h u) i v) o 12 w (((it (fun _ u => stp w h u) i v) 12 w) + (cmp3 ((it (fun _ u => stp w h u) i v) 3 h) ((it (fun _ u => stp w h u) i v) 12 w))) (kf_2 hr (by decide) (by decide))) dX3_goTowards_27 (fun H locs hP hS => ?_)
    refine lv_aload_n hx hb dX3_goTowards_30 rfl (lv_at hl 1 rfl) ?_
    refine lv_dup hx hb dX3_goTowards_31 rfl ?_
    refine m_get hC hE hP (k_2 hr (by omega)) e_2 rfl u_3 1 (by decide) w_99 rfl rfl dX3_goTowards_32 ?_
    refine lv_aload_n hx hb dX3_goTowards_35 rfl (lv_at hl 2 rfl) ?_
    refine m_get hC hE hP (k_0 hr (by omega)) e_0 rfl u_0 1 (by decide) w_42 rfl rfl dX3_goTowards_36 ?_
    refine lv_aload_n hx hb dX3_goTowards_39 rfl (lv_at hl 1 rfl) ?_
    refine m_get hC hE hP (k_2 hr (by omega)) e_2 rfl u_3 1 (by decide) w_99 rfl rfl dX3_goTowards_40 ?_
    refine on_i (run_S hC hE hP hS (As := [.int ((up2 (it (fun _ u => stp w h u) i v) 12 w (((it (fun _ u => stp w h u) i v) 12 w) + (cmp3 ((it (fun _ u => stp w h u) i v) 3 h) ((it (fun _ u => stp w h u) i v) 12 w)))) 4 h), .int ((up2 (it (fun _ u => stp w h u) i v) 12 w (((it (fun _ u => stp w h u) i v) 12 w) + (cmp3 ((it (fun _ u => stp w h u) i v) 3 h) ((it (fun _ u => stp w h u) i v) 12 w)))) 13 w)]) (c_compare l ((up2 (it (fun _ u => stp w h u) i v) 12 w (((it (fun _ u => stp w h u) i v) 12 w) + (cmp3 ((it (fun _ u => stp w h u) i v) 3 h) ((it (fun _ u => stp w h u) i v) 12 w)))) 4 h) ((up2 (it (fun _ u => stp w h u) i v) 12 w (((it (fun _ u => stp w h u) i v) 12 w) + (cmp3 ((it (fun _ u => stp w h u) i v) 3 h) ((it (fun _ u => stp w h u) i v) 12 w)))) 13 w)) cal_J6_compare_7cf53 w_552 ⟨Nat.le_of_ble_eq_true rfl, Nat.le_of_ble_eq_true rfl⟩ rfl rfl (Nat.le_of_ble_eq_true rfl) hl.1 ⟨Nat.le_of_ble_eq_true rfl, Nat.le_of_ble_eq_true rfl⟩ dX3_goTowards_43) hS (fun H locs hP hS => ?_)
    refine lv_iadd hx hb dX3_goTowards_46 ?_
    refine m_put hC hE hI hP hS (k_2 hr (by omega)) e_2 rfl u_3 tyX3_ok nmX3 1 (by decide) w_99 rfl rfl rfl rfl (Nat.le_of_ble_eq_true rfl) p_2_1 (ent_put g M r (up2 (it (fun _ u => stp w h u) i v) 12 w (((it (fun _ u => stp w h u) i v) 12 w) + (cmp3 ((it (fun _ u => stp w h u) i v) 3 h) ((it (fun _ u => stp w h u) i v) 12 w)))) o 13 w (((up2 (it (fun _ u => stp w h u) i v) 12 w (((it (fun _ u => stp w h u) i v) 12 w) + (cmp3 ((it (fun _ u => stp w h u) i v) 3 h) ((it (fun _ u => stp w h u) i v) 12 w)))) 13 w) + (cmp3 ((up2 (it (fun _ u => stp w h u) i v) 12 w (((it (fun _ u => stp w h u) i v) 12 w) + (cmp3 ((it (fun _ u => stp w h u) i v) 3 h) ((it (fun _ u => stp w h u) i v) 12 w)))) 4 h) ((up2 (it (fun _ u => stp w h u) i v) 12 w (((it (fun _ u => stp w h u) i v) 12 w) + (cmp3 ((it (fun _ u => stp w h u) i v) 3 h) ((it (fun _ u => stp w h u) i v) 12 w)))) 13 w))) (kf_2 hr (by decide) (by decide))) dX3_goTowards_47 (fun H locs hP hS => ?_)
    refine lv_iinc (v := nI (i + 1)) (lv' := [(2, .int (nI (i + 1))), (0, .ref (ad g (2, r, w))), (1, .ref (ad g (0, r, h)))]) hx hb dX3_goTowards_50 hl (k := 0) rfl (nI_1 _) (by decide) rfl (fun ls hl => ?_)
    refine lv_goto (tgt := 2) hx hb dX3_goTowards_53 (by decide) ?_
    exact IH H locs ls (hP.castR (by show stp w h _ = _; simp [stp, up2])) hS (lv_sub hl [0, 1, 2] rfl) (trivial)
set_option maxHeartbeats 4000000 in
set_option maxRecDepth 100000 in
theorem c_addHole (l : Launch) {g : Gm} (hI : IJ g KK) {M : Mem} {o : Nat → Int64} {r : Nat} (hr : r < 2) {v : Vw} (hv : Inv v) (x y : Int32) (hfree : nH v < 12) : MI l yX1_addHole cX1_addHole 4 .int (rm 0 0) g KK (ent g (setR M r v) o) [.ref (ad g (3, r, 0)), .int (x), .int (y)] (nI (nH v)) (ent g (setR M r (addH v x y)) o) := by
  refine met_of (by decide +kernel) (Nat.le_of_ble_eq_true rfl) ?_
  intro p e s m below meth c ls hC hr_ hlk hnm hE hP hS hl
  obtain ⟨hx, hb, hml, hown, hG⟩ := id hC
  have hl : lv_has ls 4 [(0, .ref (ad g (3, r, 0))), (1, .int (x)), (2, .int (y))] := hl
  have qH := hv.lH
  have qS := hv.lS
  have qW := hv.lW
  refine lv_aload_n hx hb dX1_addHole_0 rfl (lv_at hl 0 rfl) ?_
  refine m_get hC hE hP (k_3 hr) e_3 rfl u_1 3 (by decide) w_120 rfl rfl dX1_addHole_1 ?_
  refine lv_aload_n hx hb dX1_addHole_4 rfl (lv_at hl 0 rfl) ?_
  refine m_get hC hE hP (k_3 hr) e_3 rfl u_1 6 (by decide) w_126 rfl rfl dX1_addHole_5 ?_
  refine m_top (y := nI (nH v)) (hv.eH) ?_
  refine m_aald hC hE hP (k_5 hr) f_5 rfl (nH v) (rfl) (by omega) (by decide) rfl dX1_addHole_8 ?_
  refine lv_astore_n (lv' := [(3, .ref (ad g (0, r, (nH v)))), (0, .ref (ad g (3, r, 0))), (1, .int (x)), (2, .int (y))]) hx hb dX1_addHole_9 rfl hl (by decide) rfl (fun ls hl => ?_)
  refine lv_aload_n hx hb dX1_addHole_10 rfl (lv_at hl 0 rfl) ?_
  refine lv_iload_n hx hb dX1_addHole_11 rfl (lv_at hl 2 rfl) ?_
  refine m_put hC hE hI hP hS (k_0 hr (by omega)) e_0 rfl u_0 tyX0_ok nmX0 0 (by decide) w_40 rfl rfl rfl rfl (Nat.le_of_ble_eq_true rfl) p_0_0 (ent_put g M r v o 3 (nH v) x (kf_0 hr (by decide) (by decide))) dX1_addHole_12 (fun H locs hP hS => ?_)
  refine lv_aload_n hx hb dX1_addHole_15 rfl (lv_at hl 0 rfl) ?_
  refine lv_iload_n hx hb dX1_addHole_16 rfl (lv_at hl 3 rfl) ?_
  refine m_put hC hE hI hP hS (k_0 hr (by omega)) e_0 rfl u_0 tyX0_ok nmX0 1 (by decide) w_43 rfl rfl rfl rfl (Nat.le_of_ble_eq_true rfl) p_0_1 (ent_put g M r (up2 v 3 (nH v) x) o 4 (nH v) y (kf_0 hr (by decide) (by decide))) dX1_addHole_17 (fun H locs hP hS => ?_)
  refine lv_aload_n hx hb dX1_addHole_20 rfl (lv_at hl 0 rfl) ?_
  refine lv_iconst (v := 1) hx hb dX1_addHole_21 (by decide) ?_
  refine m_put hC hE hI hP hS (k_0 hr (by omega)) e_0 rfl u_0 tyX0_ok nmX0 2 (by decide) w_45 rfl rfl (by decide) (by decide) (Nat.le_of_ble_eq_true rfl) p_0_2 (ent_put g M r (up2 (up2 v 3 (nH v) x) 4 (nH v) y) o 5 (nH v) (1 : Int32) (kf_0 hr (by decide) (by decide))) dX1_addHole_22 (fun H locs hP hS => ?_)
  refine lv_aload_n hx hb dX1_addHole_25 rfl (lv_at hl 1 rfl) ?_
  refine lv_dup hx hb dX1_addHole_26 rfl ?_
  refine m_get hC hE hP (k_3 hr) e_3 rfl u_1 6 (by decide) w_126 rfl rfl dX1_addHole_27 ?_
  refine m_top (y := nI (nH v)) (by simp [up2]; exact hv.eH) ?_
  refine lv_iconst (v := 1) hx hb dX1_addHole_30 (by decide) ?_
  refine lv_iadd hx hb dX1_addHole_31 ?_
  refine m_top (y := nI (nH v + 1)) (nI_1 _) ?_
  refine m_put hC hE hI hP hS (k_3 hr) e_3 rfl u_1 tyX1_ok nmX1 6 (by decide) w_126 rfl rfl rfl rfl (Nat.le_of_ble_eq_true rfl) p_3_6 (ent_put g M r (up2 (up2 (up2 v 3 (nH v) x) 4 (nH v) y) 5 (nH v) (1 : Int32)) o 16 0 (nI (nH v + 1)) (kf_3 hr)) dX1_addHole_32 (fun H locs hP hS => ?_)
  refine lv_aload_n hx hb dX1_addHole_35 rfl (lv_at hl 1 rfl) ?_
  refine m_get hC hE hP (k_3 hr) e_3 rfl u_1 6 (by decide) w_126 rfl rfl dX1_addHole_36 ?_
  refine m_top (y := nI (nH v + 1)) (by simp [up2]) ?_
  refine lv_iconst (v := 1) hx hb dX1_addHole_39 (by decide) ?_
  refine lv_isub hx hb dX1_addHole_40 ?_
  exact m_iret hC hr_ hlk hS (hP.castR (rfl)) rfl (nI_p _) dX1_addHole_41
set_option maxHeartbeats 4000000 in
set_option maxRecDepth 100000 in
theorem c_addSpearer (l : Launch) {g : Gm} (hI : IJ g KK) {M : Mem} {o : Nat → Int64} {r : Nat} (hr : r < 2) {v : Vw} (hv : Inv v) (x y : Int32) (hfree : nS v < 8) : MI l yX1_addSpearer cX1_addSpearer 4 .int (rm 0 0) g KK (ent g (setR M r v) o) [.ref (ad g (3, r, 0)), .int (x), .int (y)] (nI (nS v)) (ent g (setR M r (addS v x y)) o) := by
  refine met_of (by decide +kernel) (Nat.le_of_ble_eq_true rfl) ?_
  intro p e s m below meth c ls hC hr_ hlk hnm hE hP hS hl
  obtain ⟨hx, hb, hml, hown, hG⟩ := id hC
  have hl : lv_has ls 4 [(0, .ref (ad g (3, r, 0))), (1, .int (x)), (2, .int (y))] := hl
  have qH := hv.lH
  have qS := hv.lS
  have qW := hv.lW
  refine lv_aload_n hx hb dX1_addSpearer_0 rfl (lv_at hl 0 rfl) ?_
  refine m_get hC hE hP (k_3 hr) e_3 rfl u_1 4 (by decide) w_122 rfl rfl dX1_addSpearer_1 ?_
  refine lv_aload_n hx hb dX1_addSpearer_4 rfl (lv_at hl 0 rfl) ?_
  refine m_get hC hE hP (k_3 hr) e_3 rfl u_1 7 (by decide) w_128 rfl rfl dX1_addSpearer_5 ?_
  refine m_top (y := nI (nS v)) (hv.eS) ?_
  refine m_aald hC hE hP (k_6 hr) f_6 rfl (nS v) (rfl) (by omega) (by decide) rfl dX1_addSpearer_8 ?_
  refine lv_astore_n (lv' := [(3, .ref (ad g (1, r, (nS v)))), (0, .ref (ad g (3, r, 0))), (1, .int (x)), (2, .int (y))]) hx hb dX1_addSpearer_9 rfl hl (by decide) rfl (fun ls hl => ?_)
  refine lv_aload_n hx hb dX1_addSpearer_10 rfl (lv_at hl 0 rfl) ?_
  refine lv_iload_n hx hb dX1_addSpearer_11 rfl (lv_at hl 2 rfl) ?_
  refine m_put hC hE hI hP hS (k_1 hr (by omega)) e_1 rfl u_2 tyX2_ok nmX2 0 (by decide) w_63 rfl rfl rfl rfl (Nat.le_of_ble_eq_true rfl) p_1_0 (ent_put g M r v o 6 (nS v) x (kf_1 hr (by decide) (by decide))) dX1_addSpearer_12 (fun H locs hP hS => ?_)
  refine lv_aload_n hx hb dX1_addSpearer_15 rfl (lv_at hl 0 rfl) ?_
  refine lv_iload_n hx hb dX1_addSpearer_16 rfl (lv_at hl 3 rfl) ?_
  refine m_put hC hE hI hP hS (k_1 hr (by omega)) e_1 rfl u_2 tyX2_ok nmX2 1 (by decide) w_65 rfl rfl rfl rfl (Nat.le_of_ble_eq_true rfl) p_1_1 (ent_put g M r (up2 v 6 (nS v) x) o 7 (nS v) y (kf_1 hr (by decide) (by decide))) dX1_addSpearer_17 (fun H locs hP hS => ?_)
  refine lv_aload_n hx hb dX1_addSpearer_20 rfl (lv_at hl 1 rfl) ?_
  refine lv_dup hx hb dX1_addSpearer_21 rfl ?_
  refine m_get hC hE hP (k_3 hr) e_3 rfl u_1 7 (by decide) w_128 rfl rfl dX1_addSpearer_22 ?_
  refine m_top (y := nI (nS v)) (by simp [up2]; exact hv.eS) ?_
  refine lv_iconst (v := 1) hx hb dX1_addSpearer_25 (by decide) ?_
  refine lv_iadd hx hb dX1_addSpearer_26 ?_
  refine m_top (y := nI (nS v + 1)) (nI_1 _) ?_
  refine m_put hC hE hI hP hS (k_3 hr) e_3 rfl u_1 tyX1_ok nmX1 7 (by decide) w_128 rfl rfl rfl rfl (Nat.le_of_ble_eq_true rfl) p_3_7 (ent_put g M r (up2 (up2 v 6 (nS v) x) 7 (nS v) y) o 16 1 (nI (nS v + 1)) (kf_3 hr)) dX1_addSpearer_27 (fun H locs hP hS => ?_)
  refine lv_aload_n hx hb dX1_addSpearer_30 rfl (lv_at hl 1 rfl) ?_
  refine m_get hC hE hP (k_3 hr) e_3 rfl u_1 7 (by decide) w_128 rfl rfl dX1_addSpearer_31 ?_
  refine m_top (y := nI (nS v + 1)) (by simp [up2]) ?_
  refine lv_iconst (v := 1) hx hb dX1_addSpearer_34 (by decide) ?_
  refine lv_isub hx hb dX1_addSpearer_35 ?_
  exact m_iret hC hr_ hlk hS (hP.castR (rfl)) rfl (nI_p _) dX1_addSpearer_36
set_option maxHeartbeats 4000000 in
set_option maxRecDepth 100000 in
theorem c_addWarden (l : Launch) {g : Gm} (hI : IJ g KK) {M : Mem} {o : Nat → Int64} {r : Nat} (hr : r < 2) {v : Vw} (hv : Inv v) (x y z : Int32) (hfree : nW v < 3) : MI l yX1_addWarden cX1_addWarden 5 .int (rm 0 0) g KK (ent g (setR M r v) o) [.ref (ad g (3, r, 0)), .int (x), .int (y), .int (z)] (nI (nW v)) (ent g (setR M r (addW v x y z)) o) := by
  refine met_of (by decide +kernel) (Nat.le_of_ble_eq_true rfl) ?_
  intro p e s m below meth c ls hC hr_ hlk hnm hE hP hS hl
  obtain ⟨hx, hb, hml, hown, hG⟩ := id hC
  have hl : lv_has ls 5 [(0, .ref (ad g (3, r, 0))), (1, .int (x)), (2, .int (y)), (3, .int (z))] := hl
  have qH := hv.lH
  have qS := hv.lS
  have qW := hv.lW
  refine lv_aload_n hx hb dX1_addWarden_0 rfl (lv_at hl 0 rfl) ?_
  refine m_get hC hE hP (k_3 hr) e_3 rfl u_1 5 (by decide) w_124 rfl rfl dX1_addWarden_1 ?_
  refine lv_aload_n hx hb dX1_addWarden_4 rfl (lv_at hl 0 rfl) ?_
  refine m_get hC hE hP (k_3 hr) e_3 rfl u_1 8 (by decide) w_130 rfl rfl dX1_addWarden_5 ?_
  refine m_top (y := nI (nW v)) (hv.eW) ?_
  refine m_aald hC hE hP (k_7 hr) f_7 rfl (nW v) (rfl) (by omega) (by decide) rfl dX1_addWarden_8 ?_
  refine lv_astore (lv' := [(4, .ref (ad g (2, r, (nW v)))), (0, .ref (ad g (3, r, 0))), (1, .int (x)), (2, .int (y)), (3, .int (z))]) hx hb dX1_addWarden_9 hl (by decide) rfl (fun ls hl => ?_)
  refine lv_aload hx hb dX1_addWarden_11 (lv_at hl 0 rfl) ?_
  refine lv_iload_n hx hb dX1_addWarden_13 rfl (lv_at hl 2 rfl) ?_
  refine m_put hC hE hI hP hS (k_2 hr (by omega)) e_2 rfl u_3 tyX3_ok nmX3 0 (by decide) w_98 rfl rfl rfl rfl (Nat.le_of_ble_eq_true rfl) p_2_0 (ent_put g M r v o 12 (nW v) x (kf_2 hr (by decide) (by decide))) dX1_addWarden_14 (fun H locs hP hS => ?_)
  refine lv_aload hx hb dX1_addWarden_17 (lv_at hl 0 rfl) ?_
  refine lv_iload_n hx hb dX1_addWarden_19 rfl (lv_at hl 3 rfl) ?_
  refine m_put hC hE hI hP hS (k_2 hr (by omega)) e_2 rfl u_3 tyX3_ok nmX3 1 (by decide) w_100 rfl rfl rfl rfl (Nat.le_of_ble_eq_true rfl) p_2_1 (ent_put g M r (up2 v 12 (nW v) x) o 13 (nW v) y (kf_2 hr (by decide) (by decide))) dX1_addWarden_20 (fun H locs hP hS => ?_)
  refine lv_aload hx hb dX1_addWarden_23 (lv_at hl 0 rfl) ?_
  refine lv_iload_n hx hb dX1_addWarden_25 rfl (lv_at hl 4 rfl) ?_
  refine m_put hC hE hI hP hS (k_2 hr (by omega)) e_2 rfl u_3 tyX3_ok nmX3 2 (by decide) w_102 rfl rfl rfl rfl (Nat.le_of_ble_eq_true rfl) p_2_2 (ent_put g M r (up2 (up2 v 12 (nW v) x) 13 (nW v) y) o 14 (nW v) z (kf_2 hr (by decide) (by decide))) dX1_addWarden_26 (fun H locs hP hS => ?_)
  refine lv_aload_n hx hb dX1_addWarden_29 rfl (lv_at hl 1 rfl) ?_
  refine lv_dup hx hb dX1_addWarden_30 rfl ?_
  refine m_get hC hE hP (k_3 hr) e_3 rfl u_1 8 (by decide) w_130 rfl rfl dX1_addWarden_31 ?_
  refine m_top (y := nI (nW v)) (by simp [up2]; exact hv.eW) ?_
  refine lv_iconst (v := 1) hx hb dX1_addWarden_34 (by decide) ?_
  refine lv_iadd hx hb dX1_addWarden_35 ?_
  refine m_top (y := nI (nW v + 1)) (nI_1 _) ?_
  refine m_put hC hE hI hP hS (k_3 hr) e_3 rfl u_1 tyX1_ok nmX1 8 (by decide) w_130 rfl rfl rfl rfl (Nat.le_of_ble_eq_true rfl) p_3_8 (ent_put g M r (up2 (up2 (up2 v 12 (nW v) x) 13 (nW v) y) 14 (nW v) z) o 16 2 (nI (nW v + 1)) (kf_3 hr)) dX1_addWarden_36 (fun H locs hP hS => ?_)
  refine lv_aload_n hx hb dX1_addWarden_39 rfl (lv_at hl 1 rfl) ?_
  refine m_get hC hE hP (k_3 hr) e_3 rfl u_1 8 (by decide) w_130 rfl rfl dX1_addWarden_40 ?_
  refine m_top (y := nI (nW v + 1)) (by simp [up2]) ?_
  refine lv_iconst (v := 1) hx hb dX1_addWarden_43 (by decide) ?_
  refine lv_isub hx hb dX1_addWarden_44 ?_
  exact m_iret hC hr_ hlk hS (hP.castR (rfl)) rfl (nI_p _) dX1_addWarden_45
end
section
/-! a lake becomes another -/
theorem dX0_become_0 : decode cX0_become 0 = .ok (.aload_n 0, 1) := by decide +kernel
theorem dX0_become_1 : decode cX0_become 1 = .ok (.aload_n 1, 1) := by decide +kernel
theorem dX0_become_2 : decode cX0_become 2 = .ok (.getfield 7, 3) := by decide +kernel
theorem dX0_become_5 : decode cX0_become 5 = .ok (.putfield 7, 3) := by decide +kernel
theorem dX0_become_8 : decode cX0_become 8 = .ok (.aload_n 0, 1) := by decide +kernel
theorem dX0_become_9 : decode cX0_become 9 = .ok (.aload_n 1, 1) := by decide +kernel
theorem dX0_become_10 : decode cX0_become 10 = .ok (.getfield 13, 3) := by decide +kernel
theorem dX0_become_13 : decode cX0_become 13 = .ok (.putfield 13, 3) := by decide +kernel
theorem dX0_become_16 : decode cX0_become 16 = .ok (.aload_n 0, 1) := by decide +kernel
theorem dX0_become_17 : decode cX0_become 17 = .ok (.aload_n 1, 1) := by decide +kernel
theorem dX0_become_18 : decode cX0_become 18 = .ok (.getfield 16, 3) := by decide +kernel
theorem dX0_become_21 : decode cX0_become 21 = .ok (.putfield 16, 3) := by decide +kernel
theorem dX0_become_24 : decode cX0_become 24 = .ok (.return_, 1) := by decide +kernel
theorem dX2_become_0 : decode cX2_become 0 = .ok (.aload_n 0, 1) := by decide +kernel
theorem dX2_become_1 : decode cX2_become 1 = .ok (.aload_n 1, 1) := by decide +kernel
theorem dX2_become_2 : decode cX2_become 2 = .ok (.getfield 15, 3) := by decide +kernel
theorem dX2_become_5 : decode cX2_become 5 = .ok (.putfield 15, 3) := by decide +kernel
theorem dX2_become_8 : decode cX2_become 8 = .ok (.aload_n 0, 1) := by decide +kernel
theorem dX2_become_9 : decode cX2_become 9 = .ok (.aload_n 1, 1) := by decide +kernel
theorem dX2_become_10 : decode cX2_become 10 = .ok (.getfield 18, 3) := by decide +kernel
theorem dX2_become_13 : decode cX2_become 13 = .ok (.putfield 18, 3) := by decide +kernel
theorem dX2_become_16 : decode cX2_become 16 = .ok (.aload_n 0, 1) := by decide +kernel
theorem dX2_become_17 : decode cX2_become 17 = .ok (.aload_n 1, 1) := by decide +kernel
theorem dX2_become_18 : decode cX2_become 18 = .ok (.getfield 9, 3) := by decide +kernel
theorem dX2_become_21 : decode cX2_become 21 = .ok (.putfield 9, 3) := by decide +kernel
theorem dX2_become_24 : decode cX2_become 24 = .ok (.aload_n 0, 1) := by decide +kernel
theorem dX2_become_25 : decode cX2_become 25 = .ok (.aload_n 1, 1) := by decide +kernel
theorem dX2_become_26 : decode cX2_become 26 = .ok (.getfield 21, 3) := by decide +kernel
theorem dX2_become_29 : decode cX2_become 29 = .ok (.putfield 21, 3) := by decide +kernel
theorem dX2_become_32 : decode cX2_become 32 = .ok (.aload_n 0, 1) := by decide +kernel
theorem dX2_become_33 : decode cX2_become 33 = .ok (.aload_n 1, 1) := by decide +kernel
theorem dX2_become_34 : decode cX2_become 34 = .ok (.getfield 24, 3) := by decide +kernel
theorem dX2_become_37 : decode cX2_become 37 = .ok (.putfield 24, 3) := by decide +kernel
theorem dX2_become_40 : decode cX2_become 40 = .ok (.aload_n 0, 1) := by decide +kernel
theorem dX2_become_41 : decode cX2_become 41 = .ok (.aload_n 1, 1) := by decide +kernel
theorem dX2_become_42 : decode cX2_become 42 = .ok (.getfield 27, 3) := by decide +kernel
theorem dX2_become_45 : decode cX2_become 45 = .ok (.putfield 27, 3) := by decide +kernel
theorem dX2_become_48 : decode cX2_become 48 = .ok (.return_, 1) := by decide +kernel
theorem dX3_become_0 : decode cX3_become 0 = .ok (.aload_n 0, 1) := by decide +kernel
theorem dX3_become_1 : decode cX3_become 1 = .ok (.aload_n 1, 1) := by decide +kernel
theorem dX3_become_2 : decode cX3_become 2 = .ok (.getfield 7, 3) := by decide +kernel
theorem dX3_become_5 : decode cX3_become 5 = .ok (.putfield 7, 3) := by decide +kernel
theorem dX3_become_8 : decode cX3_become 8 = .ok (.aload_n 0, 1) := by decide +kernel
theorem dX3_become_9 : decode cX3_become 9 = .ok (.aload_n 1, 1) := by decide +kernel
theorem dX3_become_10 : decode cX3_become 10 = .ok (.getfield 13, 3) := by decide +kernel
theorem dX3_become_13 : decode cX3_become 13 = .ok (.putfield 13, 3) := by decide +kernel
theorem dX3_become_16 : decode cX3_become 16 = .ok (.aload_n 0, 1) := by decide +kernel
theorem dX3_become_17 : decode cX3_become 17 = .ok (.aload_n 1, 1) := by decide +kernel
theorem dX3_become_18 : decode cX3_become 18 = .ok (.getfield 16, 3) := by decide +kernel
theorem dX3_become_21 : decode cX3_become 21 = .ok (.putfield 16, 3) := by decide +kernel
theorem dX3_become_24 : decode cX3_become 24 = .ok (.aload_n 0, 1) := by decide +kernel
theorem dX3_become_25 : decode cX3_become 25 = .ok (.aload_n 1, 1) := by decide +kernel
theorem dX3_become_26 : decode cX3_become 26 = .ok (.getfield 19, 3) := by decide +kernel
theorem dX3_become_29 : decode cX3_become 29 = .ok (.putfield 19, 3) := by decide +kernel
theorem dX3_become_32 : decode cX3_become 32 = .ok (.return_, 1) := by decide +kernel
theorem dX1_become_0 : decode cX1_become 0 = .ok (.iconst 0, 1) := by decide +kernel
theorem dX1_become_1 : decode cX1_become 1 = .ok (.istore_n 2, 1) := by decide +kernel
theorem dX1_become_2 : decode cX1_become 2 = .ok (.iload_n 2, 1) := by decide +kernel
theorem dX1_become_3 : decode cX1_become 3 = .ok (.bipush 81, 2) := by decide +kernel
theorem dX1_become_5 : decode cX1_become 5 = .ok (.if_icmp .ge 33, 3) := by decide +kernel
theorem dX1_become_8 : decode cX1_become 8 = .ok (.aload_n 0, 1) := by decide +kernel
theorem dX1_become_9 : decode cX1_become 9 = .ok (.getfield 9, 3) := by decide +kernel
theorem dX1_become_12 : decode cX1_become 12 = .ok (.iload_n 2, 1) := by decide +kernel
theorem dX1_become_13 : decode cX1_become 13 = .ok (.aload_n 1, 1) := by decide +kernel
theorem dX1_become_14 : decode cX1_become 14 = .ok (.getfield 9, 3) := by decide +kernel
theorem dX1_become_17 : decode cX1_become 17 = .ok (.iload_n 2, 1) := by decide +kernel
theorem dX1_become_18 : decode cX1_become 18 = .ok (.iaload, 1) := by decide +kernel
theorem dX1_become_19 : decode cX1_become 19 = .ok (.iastore, 1) := by decide +kernel
theorem dX1_become_20 : decode cX1_become 20 = .ok (.aload_n 0, 1) := by decide +kernel
theorem dX1_become_21 : decode cX1_become 21 = .ok (.getfield 15, 3) := by decide +kernel
theorem dX1_become_24 : decode cX1_become 24 = .ok (.iload_n 2, 1) := by decide +kernel
theorem dX1_become_25 : decode cX1_become 25 = .ok (.aload_n 1, 1) := by decide +kernel
theorem dX1_become_26 : decode cX1_become 26 = .ok (.getfield 15, 3) := by decide +kernel
theorem dX1_become_29 : decode cX1_become 29 = .ok (.iload_n 2, 1) := by decide +kernel
theorem dX1_become_30 : decode cX1_become 30 = .ok (.iaload, 1) := by decide +kernel
theorem dX1_become_31 : decode cX1_become 31 = .ok (.iastore, 1) := by decide +kernel
theorem dX1_become_32 : decode cX1_become 32 = .ok (.iinc 2 1, 3) := by decide +kernel
theorem dX1_become_35 : decode cX1_become 35 = .ok (.goto (-33), 3) := by decide +kernel
theorem dX1_become_38 : decode cX1_become 38 = .ok (.iconst 0, 1) := by decide +kernel
theorem dX1_become_39 : decode cX1_become 39 = .ok (.istore_n 2, 1) := by decide +kernel
theorem dX1_become_40 : decode cX1_become 40 = .ok (.iload_n 2, 1) := by decide +kernel
theorem dX1_become_41 : decode cX1_become 41 = .ok (.bipush 7, 2) := by decide +kernel
theorem dX1_become_43 : decode cX1_become 43 = .ok (.if_icmp .ge 21, 3) := by decide +kernel
theorem dX1_become_46 : decode cX1_become 46 = .ok (.aload_n 0, 1) := by decide +kernel
theorem dX1_become_47 : decode cX1_become 47 = .ok (.getfield 18, 3) := by decide +kernel
theorem dX1_become_50 : decode cX1_become 50 = .ok (.iload_n 2, 1) := by decide +kernel
theorem dX1_become_51 : decode cX1_become 51 = .ok (.aload_n 1, 1) := by decide +kernel
theorem dX1_become_52 : decode cX1_become 52 = .ok (.getfield 18, 3) := by decide +kernel
theorem dX1_become_55 : decode cX1_become 55 = .ok (.iload_n 2, 1) := by decide +kernel
theorem dX1_become_56 : decode cX1_become 56 = .ok (.iaload, 1) := by decide +kernel
theorem dX1_become_57 : decode cX1_become 57 = .ok (.iastore, 1) := by decide +kernel
theorem dX1_become_58 : decode cX1_become 58 = .ok (.iinc 2 1, 3) := by decide +kernel
theorem dX1_become_61 : decode cX1_become 61 = .ok (.goto (-21), 3) := by decide +kernel
theorem dX1_become_64 : decode cX1_become 64 = .ok (.aload_n 0, 1) := by decide +kernel
theorem dX1_become_65 : decode cX1_become 65 = .ok (.aload_n 1, 1) := by decide +kernel
theorem dX1_become_66 : decode cX1_become 66 = .ok (.getfield 46, 3) := by decide +kernel
theorem dX1_become_69 : decode cX1_become 69 = .ok (.putfield 46, 3) := by decide +kernel
theorem dX1_become_72 : decode cX1_become 72 = .ok (.iconst 0, 1) := by decide +kernel
theorem dX1_become_73 : decode cX1_become 73 = .ok (.istore_n 2, 1) := by decide +kernel
theorem dX1_become_74 : decode cX1_become 74 = .ok (.iload_n 2, 1) := by decide +kernel
theorem dX1_become_75 : decode cX1_become 75 = .ok (.aload_n 0, 1) := by decide +kernel
theorem dX1_become_76 : decode cX1_become 76 = .ok (.getfield 46, 3) := by decide +kernel
theorem dX1_become_79 : decode cX1_become 79 = .ok (.if_icmp .ge 24, 3) := by decide +kernel
theorem dX1_become_82 : decode cX1_become 82 = .ok (.aload_n 0, 1) := by decide +kernel
theorem dX1_become_83 : decode cX1_become 83 = .ok (.getfield 23, 3) := by decide +kernel
theorem dX1_become_86 : decode cX1_become 86 = .ok (.iload_n 2, 1) := by decide +kernel
theorem dX1_become_87 : decode cX1_become 87 = .ok (.aaload, 1) := by decide +kernel
theorem dX1_become_88 : decode cX1_become 88 = .ok (.aload_n 1, 1) := by decide +kernel
theorem dX1_become_89 : decode cX1_become 89 = .ok (.getfield 23, 3) := by decide +kernel
theorem dX1_become_92 : decode cX1_become 92 = .ok (.iload_n 2, 1) := by decide +kernel
theorem dX1_become_93 : decode cX1_become 93 = .ok (.aaload, 1) := by decide +kernel
theorem dX1_become_94 : decode cX1_become 94 = .ok (.invokevirtual 49, 3) := by decide +kernel
theorem dX1_become_97 : decode cX1_become 97 = .ok (.iinc 2 1, 3) := by decide +kernel
theorem dX1_become_100 : decode cX1_become 100 = .ok (.goto (-26), 3) := by decide +kernel
theorem dX1_become_103 : decode cX1_become 103 = .ok (.aload_n 0, 1) := by decide +kernel
theorem dX1_become_104 : decode cX1_become 104 = .ok (.aload_n 1, 1) := by decide +kernel
theorem dX1_become_105 : decode cX1_become 105 = .ok (.getfield 53, 3) := by decide +kernel
theorem dX1_become_108 : decode cX1_become 108 = .ok (.putfield 53, 3) := by decide +kernel
theorem dX1_become_111 : decode cX1_become 111 = .ok (.iconst 0, 1) := by decide +kernel
theorem dX1_become_112 : decode cX1_become 112 = .ok (.istore_n 2, 1) := by decide +kernel
theorem dX1_become_113 : decode cX1_become 113 = .ok (.iload_n 2, 1) := by decide +kernel
theorem dX1_become_114 : decode cX1_become 114 = .ok (.aload_n 0, 1) := by decide +kernel
theorem dX1_become_115 : decode cX1_become 115 = .ok (.getfield 53, 3) := by decide +kernel
theorem dX1_become_118 : decode cX1_become 118 = .ok (.if_icmp .ge 24, 3) := by decide +kernel
theorem dX1_become_121 : decode cX1_become 121 = .ok (.aload_n 0, 1) := by decide +kernel
theorem dX1_become_122 : decode cX1_become 122 = .ok (.getfield 30, 3) := by decide +kernel
theorem dX1_become_125 : decode cX1_become 125 = .ok (.iload_n 2, 1) := by decide +kernel
theorem dX1_become_126 : decode cX1_become 126 = .ok (.aaload, 1) := by decide +kernel
theorem dX1_become_127 : decode cX1_become 127 = .ok (.aload_n 1, 1) := by decide +kernel
theorem dX1_become_128 : decode cX1_become 128 = .ok (.getfield 30, 3) := by decide +kernel
theorem dX1_become_131 : decode cX1_become 131 = .ok (.iload_n 2, 1) := by decide +kernel
theorem dX1_become_132 : decode cX1_become 132 = .ok (.aaload, 1) := by decide +kernel
theorem dX1_become_133 : decode cX1_become 133 = .ok (.invokevirtual 56, 3) := by decide +kernel
theorem dX1_become_136 : decode cX1_become 136 = .ok (.iinc 2 1, 3) := by decide +kernel
theorem dX1_become_139 : decode cX1_become 139 = .ok (.goto (-26), 3) := by decide +kernel
theorem dX1_become_142 : decode cX1_become 142 = .ok (.aload_n 0, 1) := by decide +kernel
theorem dX1_become_143 : decode cX1_become 143 = .ok (.aload_n 1, 1) := by decide +kernel
theorem dX1_become_144 : decode cX1_become 144 = .ok (.getfield 59, 3) := by decide +kernel
theorem dX1_become_147 : decode cX1_become 147 = .ok (.putfield 59, 3) := by decide +kernel
theorem dX1_become_150 : decode cX1_become 150 = .ok (.iconst 0, 1) := by decide +kernel
theorem dX1_become_151 : decode cX1_become 151 = .ok (.istore_n 2, 1) := by decide +kernel
theorem dX1_become_152 : decode cX1_become 152 = .ok (.iload_n 2, 1) := by decide +kernel
theorem dX1_become_153 : decode cX1_become 153 = .ok (.aload_n 0, 1) := by decide +kernel
theorem dX1_become_154 : decode cX1_become 154 = .ok (.getfield 59, 3) := by decide +kernel
theorem dX1_become_157 : decode cX1_become 157 = .ok (.if_icmp .ge 24, 3) := by decide +kernel
theorem dX1_become_160 : decode cX1_become 160 = .ok (.aload_n 0, 1) := by decide +kernel
theorem dX1_become_161 : decode cX1_become 161 = .ok (.getfield 37, 3) := by decide +kernel
theorem dX1_become_164 : decode cX1_become 164 = .ok (.iload_n 2, 1) := by decide +kernel
theorem dX1_become_165 : decode cX1_become 165 = .ok (.aaload, 1) := by decide +kernel
theorem dX1_become_166 : decode cX1_become 166 = .ok (.aload_n 1, 1) := by decide +kernel
theorem dX1_become_167 : decode cX1_become 167 = .ok (.getfield 37, 3) := by decide +kernel
theorem dX1_become_170 : decode cX1_become 170 = .ok (.iload_n 2, 1) := by decide +kernel
theorem dX1_become_171 : decode cX1_become 171 = .ok (.aaload, 1) := by decide +kernel
theorem dX1_become_172 : decode cX1_become 172 = .ok (.invokevirtual 62, 3) := by decide +kernel
theorem dX1_become_175 : decode cX1_become 175 = .ok (.iinc 2 1, 3) := by decide +kernel
theorem dX1_become_178 : decode cX1_become 178 = .ok (.goto (-26), 3) := by decide +kernel
theorem dX1_become_181 : decode cX1_become 181 = .ok (.aload_n 0, 1) := by decide +kernel
theorem dX1_become_182 : decode cX1_become 182 = .ok (.aload_n 1, 1) := by decide +kernel
theorem dX1_become_183 : decode cX1_become 183 = .ok (.getfield 42, 3) := by decide +kernel
theorem dX1_become_186 : decode cX1_become 186 = .ok (.putfield 42, 3) := by decide +kernel
theorem dX1_become_189 : decode cX1_become 189 = .ok (.aload_n 0, 1) := by decide +kernel
theorem dX1_become_190 : decode cX1_become 190 = .ok (.aload_n 1, 1) := by decide +kernel
theorem dX1_become_191 : decode cX1_become 191 = .ok (.getfield 65, 3) := by decide +kernel
theorem dX1_become_194 : decode cX1_become 194 = .ok (.putfield 65, 3) := by decide +kernel
theorem dX1_become_197 : decode cX1_become 197 = .ok (.return_, 1) := by decide +kernel
def b1 (s : Vw) (k : Nat) (u : Vw) : Vw := up2 (up2 u 0 k (s 0 k)) 1 k (s 1 k)
def b2 (s : Vw) (k : Nat) (u : Vw) : Vw := up2 u 2 k (s 2 k)
def b3 (s : Vw) (k : Nat) (u : Vw) : Vw := up2 (up2 (up2 u 3 k (s 3 k)) 4 k (s 4 k)) 5 k (s 5 k)
def b4 (s : Vw) (k : Nat) (u : Vw) : Vw := up2 (up2 (up2 (up2 (up2 (up2 u 6 k (s 6 k)) 7 k (s 7 k)) 8 k (s 8 k)) 9 k (s 9 k)) 10 k (s 10 k)) 11 k (s 11 k)
def b5 (s : Vw) (k : Nat) (u : Vw) : Vw := up2 (up2 (up2 (up2 u 12 k (s 12 k)) 13 k (s 13 k)) 14 k (s 14 k)) 15 k (s 15 k)
def bcA (s v : Vw) : Vw := up2 (it (b2 s) 7 (it (b1 s) 81 v)) 16 0 (s 16 0)
def bcB (s v : Vw) : Vw := up2 (it (b3 s) (nH s) (bcA s v)) 16 1 (s 16 1)
def bcC (s v : Vw) : Vw := up2 (it (b4 s) (nS s) (bcB s v)) 16 2 (s 16 2)
def bec (s v : Vw) : Vw := up2 (up2 (it (b5 s) (nW s) (bcC s v)) 16 3 (s 16 3)) 16 4 (s 16 4)
theorem nar01 {x : Int32} (h : x = 0 ∨ x = 1) : narrow .boolean (.int x) = .int x := by rcases h with rfl | rfl <;> rfl
theorem fit01 {x : Int32} (h : x = 0 ∨ x = 1) : fits .boolean (.int x) = true := by rcases h with rfl | rfl <;> rfl
theorem b1_ne {s u : Vw} {k c i : Nat} (h : 2 ≤ c) : b1 s k u c i = u c i := by simp [b1, up2, show c ≠ 0 by omega, show c ≠ 1 by omega]
theorem b2_ne {s u : Vw} {k c i : Nat} (h : c ≠ 2) : b2 s k u c i = u c i := by simp [b2, up2, h]
theorem b3_ne {s u : Vw} {k c i : Nat} (h : c < 3 ∨ 6 ≤ c) : b3 s k u c i = u c i := by simp [b3, up2, show c ≠ 3 by omega, show c ≠ 4 by omega, show c ≠ 5 by omega]
theorem b4_ne {s u : Vw} {k c i : Nat} (h : c < 6 ∨ 12 ≤ c) : b4 s k u c i = u c i := by simp [b4, up2, show c ≠ 6 by omega, show c ≠ 7 by omega, show c ≠ 8 by omega, show c ≠ 9 by omega, show c ≠ 10 by omega, show c ≠ 11 by omega]
theorem b5_ne {s u : Vw} {k c i : Nat} (h : c < 12 ∨ 16 ≤ c) : b5 s k u c i = u c i := by simp [b5, up2, show c ≠ 12 by omega, show c ≠ 13 by omega, show c ≠ 14 by omega, show c ≠ 15 by omega]
set_option maxHeartbeats 4000000 in
set_option maxRecDepth 100000 in
theorem c_becomeH (l : Launch) {g : Gm} (hI : IJ g KK) {M : Mem} {o : Nat → Int64} {r q : Nat} (hr : r < 2) (hq : q < 2) (hne : q ≠ r) {v : Vw} (k : Nat) (hk9 : k < 12) (hob : M q 5 k = 0 ∨ M q 5 k = 1) : MV l yX0_become cX0_become 2 (rm 0 0) g KK (ent g (setR M r v) o) [.ref (ad g (0, r, k)), .ref (ad g (0, q, k))] (ent g (setR M r (b3 (M q) k v)) o) := by
  refine met_of (by decide +kernel) (Nat.le_of_ble_eq_true rfl) ?_
  intro p e s m below meth c ls hC hr_ hlk hnm hE hP hS hl
  obtain ⟨hx, hb, hml, hown, hG⟩ := id hC
  have hl : lv_has ls 2 [(0, .ref (ad g (0, r, k))), (1, .ref (ad g (0, q, k)))] := hl
  refine lv_aload_n hx hb dX0_become_0 rfl (lv_at hl 0 rfl) ?_
  refine lv_aload_n hx hb dX0_become_1 rfl (lv_at hl 1 rfl) ?_
  refine m_get hC hE hP (k_0 hq (by omega)) f_0 rfl u_0 0 (by decide) w_38 rfl rfl dX0_become_2 ?_
  refine m_top (y := M q 3 k) (by rw [setR_ne _ _ hne]) ?_
  refine m_put hC hE hI hP hS (k_0 hr (by omega)) e_0 rfl u_0 tyX0_ok nmX0 0 (by decide) w_38 rfl rfl rfl rfl (Nat.le_of_ble_eq_true rfl) p_0_0 (ent_put g M r v o 3 k (M q 3 k) (kf_0 hr (by decide) (by decide))) dX0_become_5 (fun H locs hP hS => ?_)
  refine lv_aload_n hx hb dX0_become_8 rfl (lv_at hl 0 rfl) ?_
  refine lv_aload_n hx hb dX0_become_9 rfl (lv_at hl 1 rfl) ?_
  refine m_get hC hE hP (k_0 hq (by omega)) f_0 rfl u_0 1 (by decide) w_41 rfl rfl dX0_become_10 ?_
  refine m_top (y := M q 4 k) (by rw [setR_ne _ _ hne]) ?_
  refine m_put hC hE hI hP hS (k_0 hr (by omega)) e_0 rfl u_0 tyX0_ok nmX0 1 (by decide) w_41 rfl rfl rfl rfl (Nat.le_of_ble_eq_true rfl) p_0_1 (ent_put g M r (up2 v 3 k (M q 3 k)) o 4 k (M q 4 k) (kf_0 hr (by decide) (by decide))) dX0_become_13 (fun H locs hP hS => ?_)
  refine lv_aload_n hx hb dX0_become_16 rfl (lv_at hl 0 rfl) ?_
  refine lv_aload_n hx hb dX0_become_17 rfl (lv_at hl 1 rfl) ?_
  refine m_get hC hE hP (k_0 hq (by omega)) f_0 rfl u_0 2 (by decide) w_44 rfl rfl dX0_become_18 ?_
  refine m_top (y := M q 5 k) (by rw [setR_ne _ _ hne]) ?_
  refine m_put hC hE hI hP hS (k_0 hr (by omega)) e_0 rfl u_0 tyX0_ok nmX0 2 (by decide) w_44 rfl rfl (nar01 hob) (fit01 hob) (Nat.le_of_ble_eq_true rfl) p_0_2 (ent_put g M r (up2 (up2 v 3 k (M q 3 k)) 4 k (M q 4 k)) o 5 k (M q 5 k) (kf_0 hr (by decide) (by decide))) dX0_become_21 (fun H locs hP hS => ?_)
  exact m_vret hC hr_ hlk hS (hP.castR (rfl)) dX0_become_24
set_option maxHeartbeats 4000000 in
set_option maxRecDepth 100000 in
theorem c_becomeS (l : Launch) {g : Gm} (hI : IJ g KK) {M : Mem} {o : Nat → Int64} {r q : Nat} (hr : r < 2) (hq : q < 2) (hne : q ≠ r) {v : Vw} (k : Nat) (hk9 : k < 8) : MV l yX2_become cX2_become 2 (rm 0 0) g KK (ent g (setR M r v) o) [.ref (ad g (1, r, k)), .ref (ad g (1, q, k))] (ent g (setR M r (b4 (M q) k v)) o) := by
  refine met_of (by decide +kernel) (Nat.le_of_ble_eq_true rfl) ?_
  intro p e s m below meth c ls hC hr_ hlk hnm hE hP hS hl
  obtain ⟨hx, hb, hml, hown, hG⟩ := id hC
  have hl : lv_has ls 2 [(0, .ref (ad g (1, r, k))), (1, .ref (ad g (1, q, k)))] := hl
  refine lv_aload_n hx hb dX2_become_0 rfl (lv_at hl 0 rfl) ?_
  refine lv_aload_n hx hb dX2_become_1 rfl (lv_at hl 1 rfl) ?_
  refine m_get hC hE hP (k_1 hq (by omega)) f_1 rfl u_2 0 (by decide) w_62 rfl rfl dX2_become_2 ?_
  refine m_top (y := M q 6 k) (by rw [setR_ne _ _ hne]) ?_
  refine m_put hC hE hI hP hS (k_1 hr (by omega)) e_1 rfl u_2 tyX2_ok nmX2 0 (by decide) w_62 rfl rfl rfl rfl (Nat.le_of_ble_eq_true rfl) p_1_0 (ent_put g M r v o 6 k (M q 6 k) (kf_1 hr (by decide) (by decide))) dX2_become_5 (fun H locs hP hS => ?_)
  refine lv_aload_n hx hb dX2_become_8 rfl (lv_at hl 0 rfl) ?_
  refine lv_aload_n hx hb dX2_become_9 rfl (lv_at hl 1 rfl) ?_
  refine m_get hC hE hP (k_1 hq (by omega)) f_1 rfl u_2 1 (by decide) w_64 rfl rfl dX2_become_10 ?_
  refine m_top (y := M q 7 k) (by rw [setR_ne _ _ hne]) ?_
  refine m_put hC hE hI hP hS (k_1 hr (by omega)) e_1 rfl u_2 tyX2_ok nmX2 1 (by decide) w_64 rfl rfl rfl rfl (Nat.le_of_ble_eq_true rfl) p_1_1 (ent_put g M r (up2 v 6 k (M q 6 k)) o 7 k (M q 7 k) (kf_1 hr (by decide) (by decide))) dX2_become_13 (fun H locs hP hS => ?_)
  refine lv_aload_n hx hb dX2_become_16 rfl (lv_at hl 0 rfl) ?_
  refine lv_aload_n hx hb dX2_become_17 rfl (lv_at hl 1 rfl) ?_
  refine m_get hC hE hP (k_1 hq (by omega)) f_1 rfl u_2 2 (by decide) w_66 rfl rfl dX2_become_18 ?_
  refine m_top (y := M q 8 k) (by rw [setR_ne _ _ hne]) ?_
  refine m_put hC hE hI hP hS (k_1 hr (by omega)) e_1 rfl u_2 tyX2_ok nmX2 2 (by decide) w_66 rfl rfl rfl rfl (Nat.le_of_ble_eq_true rfl) p_1_2 (ent_put g M r (up2 (up2 v 6 k (M q 6 k)) 7 k (M q 7 k)) o 8 k (M q 8 k) (kf_1 hr (by decide) (by decide))) dX2_become_21 (fun H locs hP hS => ?_)
  refine lv_aload_n hx hb dX2_become_24 rfl (lv_at hl 0 rfl) ?_
  refine lv_aload_n hx hb dX2_become_25 rfl (lv_at hl 1 rfl) ?_
  refine m_get hC hE hP (k_1 hq (by omega)) f_1 rfl u_2 3 (by decide) w_69 rfl rfl dX2_become_26 ?_
  refine m_top (y := M q 9 k) (by rw [setR_ne _ _ hne]) ?_
  refine m_put hC hE hI hP hS (k_1 hr (by omega)) e_1 rfl u_2 tyX2_ok nmX2 3 (by decide) w_69 rfl rfl rfl rfl (Nat.le_of_ble_eq_true rfl) p_1_3 (ent_put g M r (up2 (up2 (up2 v 6 k (M q 6 k)) 7 k (M q 7 k)) 8 k (M q 8 k)) o 9 k (M q 9 k) (kf_1 hr (by decide) (by decide))) dX2_become_29 (fun H locs hP hS => ?_)
  refine lv_aload_n hx hb dX2_become_32 rfl (lv_at hl 0 rfl) ?_
  refine lv_aload_n hx hb dX2_become_33 rfl (lv_at hl 1 rfl) ?_
  refine m_get hC hE hP (k_1 hq (by omega)) f_1 rfl u_2 4 (by decide) w_72 rfl rfl dX2_become_34 ?_
  refine m_top (y := M q 10 k) (by rw [setR_ne _ _ hne]) ?_
  refine m_put hC hE hI hP hS (k_1 hr (by omega)) e_1 rfl u_2 tyX2_ok nmX2 4 (by decide) w_72 rfl rfl rfl rfl (Nat.le_of_ble_eq_true rfl) p_1_4 (ent_put g M r (up2 (up2 (up2 (up2 v 6 k (M q 6 k)) 7 k (M q 7 k)) 8 k (M q 8 k)) 9 k (M q 9 k)) o 10 k (M q 10 k) (kf_1 hr (by decide) (by decide))) dX2_become_37 (fun H locs hP hS => ?_)
  refine lv_aload_n hx hb dX2_become_40 rfl (lv_at hl 0 rfl) ?_
  refine lv_aload_n hx hb dX2_become_41 rfl (lv_at hl 1 rfl) ?_
  refine m_get hC hE hP (k_1 hq (by omega)) f_1 rfl u_2 5 (by decide) w_75 rfl rfl dX2_become_42 ?_
  refine m_top (y := M q 11 k) (by rw [setR_ne _ _ hne]) ?_
  refine m_put hC hE hI hP hS (k_1 hr (by omega)) e_1 rfl u_2 tyX2_ok nmX2 5 (by decide) w_75 rfl rfl rfl rfl (Nat.le_of_ble_eq_true rfl) p_1_5 (ent_put g M r (up2 (up2 (up2 (up2 (up2 v 6 k (M q 6 k)) 7 k (M q 7 k)) 8 k (M q 8 k)) 9 k (M q 9 k)) 10 k (M q 10 k)) o 11 k (M q 11 k) (kf_1 hr (by decide) (by decide))) dX2_become_45 (fun H locs hP hS => ?_)
  exact m_vret hC hr_ hlk hS (hP.castR (rfl)) dX2_become_48
set_option maxHeartbeats 4000000 in
set_option maxRecDepth 100000 in
theorem c_becomeW (l : Launch) {g : Gm} (hI : IJ g KK) {M : Mem} {o : Nat → Int64} {r q : Nat} (hr : r < 2) (hq : q < 2) (hne : q ≠ r) {v : Vw} (k : Nat) (hk9 : k < 3) : MV l yX3_become cX3_become 2 (rm 0 0) g KK (ent g (setR M r v) o) [.ref (ad g (2, r, k)), .ref (ad g (2, q, k))] (ent g (setR M r (b5 (M q) k v)) o) := by
  refine met_of (by decide +kernel) (Nat.le_of_ble_eq_true rfl) ?_
  intro p e s m below meth c ls hC hr_ hlk hnm hE hP hS hl
  obtain ⟨hx, hb, hml, hown, hG⟩ := id hC
  have hl : lv_has ls 2 [(0, .ref (ad g (2, r, k))), (1, .ref (ad g (2, q, k)))] := hl
  refine lv_aload_n hx hb dX3_become_0 rfl (lv_at hl 0 rfl) ?_
  refine lv_aload_n hx hb dX3_become_1 rfl (lv_at hl 1 rfl) ?_
  refine m_get hC hE hP (k_2 hq (by omega)) f_2 rfl u_3 0 (by decide) w_97 rfl rfl dX3_become_2 ?_
  refine m_top (y := M q 12 k) (by rw [setR_ne _ _ hne]) ?_
  refine m_put hC hE hI hP hS (k_2 hr (by omega)) e_2 rfl u_3 tyX3_ok nmX3 0 (by decide) w_97 rfl rfl rfl rfl (Nat.le_of_ble_eq_true rfl) p_2_0 (ent_put g M r v o 12 k (M q 12 k) (kf_2 hr (by decide) (by decide))) dX3_become_5 (fun H locs hP hS => ?_)
  refine lv_aload_n hx hb dX3_become_8 rfl (lv_at hl 0 rfl) ?_
  refine lv_aload_n hx hb dX3_become_9 rfl (lv_at hl 1 rfl) ?_
  refine m_get hC hE hP (k_2 hq (by omega)) f_2 rfl u_3 1 (by decide) w_99 rfl rfl dX3_become_10 ?_
  refine m_top (y := M q 13 k) (by rw [setR_ne _ _ hne]) ?_
  refine m_put hC hE hI hP hS (k_2 hr (by omega)) e_2 rfl u_3 tyX3_ok nmX3 1 (by decide) w_99 rfl rfl rfl rfl (Nat.le_of_ble_eq_true rfl) p_2_1 (ent_put g M r (up2 v 12 k (M q 12 k)) o 13 k (M q 13 k) (kf_2 hr (by decide) (by decide))) dX3_become_13 (fun H locs hP hS => ?_)
  refine lv_aload_n hx hb dX3_become_16 rfl (lv_at hl 0 rfl) ?_
  refine lv_aload_n hx hb dX3_become_17 rfl (lv_at hl 1 rfl) ?_
  refine m_get hC hE hP (k_2 hq (by omega)) f_2 rfl u_3 2 (by decide) w_101 rfl rfl dX3_become_18 ?_
  refine m_top (y := M q 14 k) (by rw [setR_ne _ _ hne]) ?_
  refine m_put hC hE hI hP hS (k_2 hr (by omega)) e_2 rfl u_3 tyX3_ok nmX3 2 (by decide) w_101 rfl rfl rfl rfl (Nat.le_of_ble_eq_true rfl) p_2_2 (ent_put g M r (up2 (up2 v 12 k (M q 12 k)) 13 k (M q 13 k)) o 14 k (M q 14 k) (kf_2 hr (by decide) (by decide))) dX3_become_21 (fun H locs hP hS => ?_)
  refine lv_aload_n hx hb dX3_become_24 rfl (lv_at hl 0 rfl) ?_
  refine lv_aload_n hx hb dX3_become_25 rfl (lv_at hl 1 rfl) ?_
  refine m_get hC hE hP (k_2 hq (by omega)) f_2 rfl u_3 3 (by decide) w_103 rfl rfl dX3_become_26 ?_
  refine m_top (y := M q 15 k) (by rw [setR_ne _ _ hne]) ?_
  refine m_put hC hE hI hP hS (k_2 hr (by omega)) e_2 rfl u_3 tyX3_ok nmX3 3 (by decide) w_103 rfl rfl rfl rfl (Nat.le_of_ble_eq_true rfl) p_2_3 (ent_put g M r (up2 (up2 (up2 v 12 k (M q 12 k)) 13 k (M q 13 k)) 14 k (M q 14 k)) o 15 k (M q 15 k) (kf_2 hr (by decide) (by decide))) dX3_become_29 (fun H locs hP hS => ?_)
  exact m_vret hC hr_ hlk hS (hP.castR (rfl)) dX3_become_32
set_option maxHeartbeats 4000000 in
set_option maxRecDepth 100000 in
theorem c_becomeL (l : Launch) {g : Gm} (hI : IJ g KK) {M : Mem} {o : Nat → Int64} {r q : Nat} (hr : r < 2) (hq : q < 2) (hne : q ≠ r) {v : Vw} (hvq : Inv (M q)) : MV l yX1_become cX1_become 3 (rm 1 21) g KK (ent g (setR M r v) o) [.ref (ad g (3, r, 0)), .ref (ad g (3, q, 0))] (ent g (setR M r (bec (M q) v)) o) := by
  refine met_of (by decide +kernel) (Nat.le_of_ble_eq_true rfl) ?_
  intro p e s m below meth c ls hC hr_ hlk hnm hE hP hS hl
  obtain ⟨hx, hb, hml, hown, hG⟩ := id hC
  have hl : lv_has ls 3 [(0, .ref (ad g (3, r, 0))), (1, .ref (ad g (3, q, 0)))] := hl
  have qH := hvq.lH
  have qS := hvq.lS
  have qW := hvq.lW
  refine lv_iconst (v := 0) hx hb dX1_become_0 (by decide) ?_
  refine lv_istore_n (lv' := [(2, .int ((0 : Int32))), (0, .ref (ad g (3, r, 0))), (1, .ref (ad g (3, q, 0)))]) hx hb dX1_become_1 rfl hl (by decide) rfl (fun ls hl => ?_)
  refine lp_W (i0 := 0) 81 (fun i => ent g (setR M r (it (b1 (M q)) i v)) o) (fun i => [(2, .int (nI i)), (0, .ref (ad g (3, r, 0))), (1, .ref (ad g (3, q, 0)))]) (fun i => True) (Nat.zero_le _) (hP.castR (rfl)) hS (lv_sub hl [0, 1, 2] rfl) (trivial) (fun H locs ls hP hS hl J => ?_) (fun i hi IH H locs ls hP hS hl J => ?_)
  · refine lv_iload_n hx hb dX1_become_2 rfl (lv_at hl 0 rfl) ?_
    refine lv_bipush (v := 81) hx hb dX1_become_3 (by decide) ?_
    refine lv_icmp_ge (tgt := 38) hx hb dX1_become_5 (by decide) (fun c1 => ?_) (fun c1 => absurd (by decide) c1)
    refine lv_iconst (v := 0) hx hb dX1_become_38 (by decide) ?_
    refine lv_istore_n (lv' := [(2, .int ((0 : Int32))), (0, .ref (ad g (3, r, 0))), (1, .ref (ad g (3, q, 0)))]) hx hb dX1_become_39 rfl hl (by decide) rfl (fun ls hl => ?_)
    refine lp_W (i0 := 0) 7 (fun i => ent g (setR M r (it (b2 (M q)) i (it (b1 (M q)) 81 v))) o) (fun i => [(2, .int (nI i)), (0, .ref (ad g (3, r, 0))), (1, .ref (ad g (3, q, 0)))]) (fun i => True) (Nat.zero_le _) (hP.castR (rfl)) hS (lv_sub hl [0, 1, 2] rfl) (trivial) (fun H locs ls hP hS hl J => ?_) (fun i hi IH H locs ls hP hS hl J => ?_)
    · refine lv_iload_n hx hb dX1_become_40 rfl (lv_at hl 0 rfl) ?_
      refine lv_bipush (v := 7) hx hb dX1_become_41 (by decide) ?_
      refine lv_icmp_ge (tgt := 64) hx hb dX1_become_43 (by decide) (fun c2 => ?_) (fun c2 => absurd (by decide) c2)
      refine lv_aload_n hx hb dX1_become_64 rfl (lv_at hl 1 rfl) ?_
      refine lv_aload_n hx hb dX1_become_65 rfl (lv_at hl 2 rfl) ?_
      refine m_get hC hE hP (k_3 hq) f_3 rfl u_1 6 (by decide) w_126 rfl rfl dX1_become_66 ?_
      refine m_top (y := M q 16 0) (by rw [setR_ne _ _ hne]) ?_
      refine m_put hC hE hI hP hS (k_3 hr) e_3 rfl u_1 tyX1_ok nmX1 6 (by decide) w_126 rfl rfl rfl rfl (Nat.le_of_ble_eq_true rfl) p_3_6 (ent_put g M r (it (b2 (M q)) 7 (it (b1 (M q)) 81 v)) o 16 0 (M q 16 0) (kf_3 hr)) dX1_become_69 (fun H locs hP hS => ?_)
      refine lv_iconst (v := 0) hx hb dX1_become_72 (by decide) ?_
      refine lv_istore_n (lv' := [(2, .int ((0 : Int32))), (0, .ref (ad g (3, r, 0))), (1, .ref (ad g (3, q, 0)))]) hx hb dX1_become_73 rfl hl (by decide) rfl (fun ls hl => ?_)
      refine lp_W (i0 := 0) (nH (M q)) (fun i => ent g (setR M r (it (b3 (M q)) i (bcA (M q) v))) o) (fun i => [(2, .int (nI i)), (0, .ref (ad g (3, r, 0))), (1, .ref (ad g (3, q, 0)))]) (fun i => True) (Nat.zero_le _) (hP.castR (rfl)) hS (lv_sub hl [0, 1, 2] rfl) (trivial) (fun H locs ls hP hS hl J => ?_) (fun i hi IH H locs ls hP hS hl J => ?_)
      · refine lv_iload_n hx hb dX1_become_74 rfl (lv_at hl 0 rfl) ?_
        refine lv_aload_n hx hb dX1_become_75 rfl (lv_at hl 1 rfl) ?_
        refine m_get hC hE hP (k_3 hr) e_3 rfl u_1 6 (by decide) w_126 rfl rfl dX1_become_76 ?_
        refine m_top (y := nI (nH (M q))) (((it_keep (fun _ _ => b3_ne (by decide)) _ _).trans (by simp [bcA, up2])).trans hvq.eH) ?_
        refine lv_icmp_ge (tgt := 103) hx hb dX1_become_79 (by decide) (fun c3 => ?_) (fun c3 => absurd (nI_le (Nat.le_refl _) (by omega)) c3)
        refine lv_aload_n hx hb dX1_become_103 rfl (lv_at hl 1 rfl) ?_
        refine lv_aload_n hx hb dX1_become_104 rfl (lv_at hl 2 rfl) ?_
        refine m_get hC hE hP (k_3 hq) f_3 rfl u_1 7 (by decide) w_128 rfl rfl dX1_become_105 ?_
        refine m_top (y := M q 16 1) (by rw [setR_ne _ _ hne]) ?_
        refine m_put hC hE hI hP hS (k_3 hr) e_3 rfl u_1 tyX1_ok nmX1 7 (by decide) w_128 rfl rfl rfl rfl (Nat.le_of_ble_eq_true rfl) p_3_7 (ent_put g M r (it (b3 (M q)) (nH (M q)) (bcA (M q) v)) o 16 1 (M q 16 1) (kf_3 hr)) dX1_become_108 (fun H locs hP hS => ?_)
        refine lv_iconst (v := 0) hx hb dX1_become_111 (by decide) ?_
        refine lv_istore_n (lv' := [(2, .int ((0 : Int32))), (0, .ref (ad g (3, r, 0))), (1, .ref (ad g (3, q, 0)))]) hx hb dX1_become_112 rfl hl (by decide) rfl (fun ls hl => ?_)
        refine lp_W (i0 := 0) (nS (M q)) (fun i => ent g (setR M r (it (b4 (M q)) i (bcB (M q) v))) o) (fun i => [(2, .int (nI i)), (0, .ref (ad g (3, r, 0))), (1, .ref (ad g (3, q, 0)))]) (fun i => True) (Nat.zero_le _) (hP.castR (rfl)) hS (lv_sub hl [0, 1, 2] rfl) (trivial) (fun H locs ls hP hS hl J => ?_) (fun i hi IH H locs ls hP hS hl J => ?_)
        · refine lv_iload_n hx hb dX1_become_113 rfl (lv_at hl 0 rfl) ?_
          refine lv_aload_n hx hb dX1_become_114 rfl (lv_at hl 1 rfl) ?_
          refine m_get hC hE hP (k_3 hr) e_3 rfl u_1 7 (by decide) w_128 rfl rfl dX1_become_115 ?_
          refine m_top (y := nI (nS (M q))) (((it_keep (fun _ _ => b4_ne (by decide)) _ _).trans (by simp [bcB, up2])).trans hvq.eS) ?_
          refine lv_icmp_ge (tgt := 142) hx hb dX1_become_118 (by decide) (fun c4 => ?_) (fun c4 => absurd (nI_le (Nat.le_refl _) (by omega)) c4)
          refine lv_aload_n hx hb dX1_become_142 rfl (lv_at hl 1 rfl) ?_
          refine lv_aload_n hx hb dX1_become_143 rfl (lv_at hl 2 rfl) ?_
          refine m_get hC hE hP (k_3 hq) f_3 rfl u_1 8 (by decide) w_130 rfl rfl dX1_become_144 ?_
          refine m_top (y := M q 16 2) (by rw [setR_ne _ _ hne]) ?_
          refine m_put hC hE hI hP hS (k_3 hr) e_3 rfl u_1 tyX1_ok nmX1 8 (by decide) w_130 rfl rfl rfl rfl (Nat.le_of_ble_eq_true rfl) p_3_8 (ent_put g M r (it (b4 (M q)) (nS (M q)) (bcB (M q) v)) o 16 2 (M q 16 2) (kf_3 hr)) dX1_become_147 (fun H locs hP hS => ?_)
          refine lv_iconst (v := 0) hx hb dX1_become_150 (by decide) ?_
          refine lv_istore_n (lv' := [(2, .int ((0 : Int32))), (0, .ref (ad g (3, r, 0))), (1, .ref (ad g (3, q, 0)))]) hx hb dX1_become_151 rfl hl (by decide) rfl (fun ls hl => ?_)
          refine lp_W (i0 := 0) (nW (M q)) (fun i => ent g (setR M r (it (b5 (M q)) i (bcC (M q) v))) o) (fun i => [(2, .int (nI i)), (0, .ref (ad g (3, r, 0))), (1, .ref (ad g (3, q, 0)))]) (fun i => True) (Nat.zero_le _) (hP.castR (rfl)) hS (lv_sub hl [0, 1, 2] rfl) (trivial) (fun H locs ls hP hS hl J => ?_) (fun i hi IH H locs ls hP hS hl J => ?_)
          · refine lv_iload_n hx hb dX1_become_152 rfl (lv_at hl 0 rfl) ?_
            refine lv_aload_n hx hb dX1_become_153 rfl (lv_at hl 1 rfl) ?_
            refine m_get hC hE hP (k_3 hr) e_3 rfl u_1 8 (by decide) w_130 rfl rfl dX1_become_154 ?_
            refine m_top (y := nI (nW (M q))) (((it_keep (fun _ _ => b5_ne (by decide)) _ _).trans (by simp [bcC, up2])).trans hvq.eW) ?_
            refine lv_icmp_ge (tgt := 181) hx hb dX1_become_157 (by decide) (fun c5 => ?_) (fun c5 => absurd (nI_le (Nat.le_refl _) (by omega)) c5)
            refine lv_aload_n hx hb dX1_become_181 rfl (lv_at hl 1 rfl) ?_
            refine lv_aload_n hx hb dX1_become_182 rfl (lv_at hl 2 rfl) ?_
            refine m_get hC hE hP (k_3 hq) f_3 rfl u_1 9 (by decide) w_132 rfl rfl dX1_become_183 ?_
            refine m_top (y := M q 16 3) (by rw [setR_ne _ _ hne]) ?_
            refine m_put hC hE hI hP hS (k_3 hr) e_3 rfl u_1 tyX1_ok nmX1 9 (by decide) w_132 rfl rfl rfl rfl (Nat.le_of_ble_eq_true rfl) p_3_9 (ent_put g M r (it (b5 (M q)) (nW (M q)) (bcC (M q) v)) o 16 3 (M q 16 3) (kf_3 hr)) dX1_become_186 (fun H locs hP hS => ?_)
            refine lv_aload_n hx hb dX1_become_189 rfl (lv_at hl 1 rfl) ?_
            refine lv_aload_n hx hb dX1_become_190 rfl (lv_at hl 2 rfl) ?_
            refine m_get hC hE hP (k_3 hq) f_3 rfl u_1 10 (by decide) w_134 rfl rfl dX1_become_191 ?_
            refine m_top (y := M q 16 4) (by rw [setR_ne _ _ hne]) ?_
            refine m_put hC hE hI hP hS (k_3 hr) e_3 rfl u_1 tyX1_ok nmX1 10 (by decide) w_134 rfl rfl rfl rfl (Nat.le_of_ble_eq_true rfl) p_3_10 (ent_put g M r (up2 (it (b5 (M q)) (nW (M q)) (bcC (M q) v)) 16 3 (M q 16 3)) o 16 4 (M q 16 4) (kf_3 hr)) dX1_become_194 (fun H locs hP hS => ?_)
            exact m_vret hC hr_ hlk hS (hP.castR (rfl)) dX1_become_197
          · refine lv_iload_n hx hb dX1_become_152 rfl (lv_at hl 0 rfl) ?_
            refine lv_aload_n hx hb dX1_become_153 rfl (lv_at hl 1 rfl) ?_
            refine m_get hC hE hP (k_3 hr) e_3 rfl u_1 8 (by decide) w_130 rfl rfl dX1_become_154 ?_
            refine m_top (y := nI (nW (M q))) (((it_keep (fun _ _ => b5_ne (by decide)) _ _).trans (by simp [bcC, up2])).trans hvq.eW) ?_
            refine lv_icmp_ge (tgt := 181) hx hb dX1_become_157 (by decide) (fun c6 => absurd c6 (nI_ge hi (by omega))) (fun c6 => ?_)
            refine lv_aload_n hx hb dX1_become_160 rfl (lv_at hl 1 rfl) ?_
            refine m_get hC hE hP (k_3 hr) e_3 rfl u_1 5 (by decide) w_124 rfl rfl dX1_become_161 ?_
            refine lv_iload_n hx hb dX1_become_164 rfl (lv_at hl 0 rfl) ?_
            refine m_aald hC hE hP (k_7 hr) f_7 rfl i (rfl) (by omega) (by decide) rfl dX1_become_165 ?_
            refine lv_aload_n hx hb dX1_become_166 rfl (lv_at hl 2 rfl) ?_
            refine m_get hC hE hP (k_3 hq) f_3 rfl u_1 5 (by decide) w_124 rfl rfl dX1_become_167 ?_
            refine lv_iload_n hx hb dX1_become_170 rfl (lv_at hl 0 rfl) ?_
            refine m_aald hC hE hP (k_7 hq) f_7 rfl i (rfl) (by omega) (by decide) rfl dX1_become_171 ?_
            refine on_v (run_V hC hE hP hS (As := [.ref (ad g (2, q, i))]) (c_becomeW l hI hr hq hne (v := it (b5 (M q)) i (bcC (M q) v)) i (by omega)) cal_X3_become w_604 ⟨Nat.le_of_ble_eq_true rfl, Nat.le_of_ble_eq_true rfl⟩ (k_2 hr (by omega)) e_2 rfl rfl rfl (Nat.le_of_ble_eq_true rfl) hl.1 ⟨Nat.le_of_ble_eq_true rfl, Nat.le_of_ble_eq_true rfl⟩ dX1_become_172) hS (fun H locs hP hS => ?_)
            refine lv_iinc (v := nI (i + 1)) (lv' := [(2, .int (nI (i + 1))), (0, .ref (ad g (3, r, 0))), (1, .ref (ad g (3, q, 0)))]) hx hb dX1_become_175 hl (k := 0) rfl (nI_1 _) (by decide) rfl (fun ls hl => ?_)
            refine lv_goto (tgt := 152) hx hb dX1_become_178 (by decide) ?_
            exact IH H locs ls (hP.castR (rfl)) hS (lv_sub hl [0, 1, 2] rfl) (trivial)
        · refine lv_iload_n hx hb dX1_become_113 rfl (lv_at hl 0 rfl) ?_
          refine lv_aload_n hx hb dX1_become_114 rfl (lv_at hl 1 rfl) ?_
          refine m_get hC hE hP (k_3 hr) e_3 rfl u_1 7 (by decide) w_128 rfl rfl dX1_become_115 ?_
          refine m_top (y := nI (nS (M q))) (((it_keep (fun _ _ => b4_ne (by decide)) _ _).trans (by simp [bcB, up2])).trans hvq.eS) ?_
          refine lv_icmp_ge (tgt := 142) hx hb dX1_become_118 (by decide) (fun c7 => absurd c7 (nI_ge hi (by omega))) (fun c7 => ?_)
          refine lv_aload_n hx hb dX1_become_121 rfl (lv_at hl 1 rfl) ?_
          refine m_get hC hE hP (k_3 hr) e_3 rfl u_1 4 (by decide) w_122 rfl rfl dX1_become_122 ?_
          refine lv_iload_n hx hb dX1_become_125 rfl (lv_at hl 0 rfl) ?_
          refine m_aald hC hE hP (k_6 hr) f_6 rfl i (rfl) (by omega) (by decide) rfl dX1_become_126 ?_
          refine lv_aload_n hx hb dX1_become_127 rfl (lv_at hl 2 rfl) ?_
          refine m_get hC hE hP (k_3 hq) f_3 rfl u_1 4 (by decide) w_122 rfl rfl dX1_become_128 ?_
          refine lv_iload_n hx hb dX1_become_131 rfl (lv_at hl 0 rfl) ?_
          refine m_aald hC hE hP (k_6 hq) f_6 rfl i (rfl) (by omega) (by decide) rfl dX1_become_132 ?_
          refine on_v (run_V hC hE hP hS (As := [.ref (ad g (1, q, i))]) (c_becomeS l hI hr hq hne (v := it (b4 (M q)) i (bcB (M q) v)) i (by omega)) cal_X2_become w_600 ⟨Nat.le_of_ble_eq_true rfl, Nat.le_of_ble_eq_true rfl⟩ (k_1 hr (by omega)) e_1 rfl rfl rfl (Nat.le_of_ble_eq_true rfl) hl.1 ⟨Nat.le_of_ble_eq_true rfl, Nat.le_of_ble_eq_true rfl⟩ dX1_become_133) hS (fun H locs hP hS => ?_)
          refine lv_iinc (v := nI (i + 1)) (lv' := [(2, .int (nI (i + 1))), (0, .ref (ad g (3, r, 0))), (1, .ref (ad g (3, q, 0)))]) hx hb dX1_become_136 hl (k := 0) rfl (nI_1 _) (by decide) rfl (fun ls hl => ?_)
          refine lv_goto (tgt := 113) hx hb dX1_become_139 (by decide) ?_
          exact IH H locs ls (hP.castR (rfl)) hS (lv_sub hl [0, 1, 2] rfl) (trivial)
      · refine lv_iload_n hx hb dX1_become_74 rfl (lv_at hl 0 rfl) ?_
        refine lv_aload_n hx hb dX1_become_75 rfl (lv_at hl 1 rfl) ?_
        refine m_get hC hE hP (k_3 hr) e_3 rfl u_1 6 (by decide) w_126 rfl rfl dX1_become_76 ?_
        refine m_top (y := nI (nH (M q))) (((it_keep (fun _ _ => b3_ne (by decide)) _ _).trans (by simp [bcA, up2])).trans hvq.eH) ?_
        refine lv_icmp_ge (tgt := 103) hx hb dX1_become_79 (by decide) (fun c8 => absurd c8 (nI_ge hi (by omega))) (fun c8 => ?_)
        refine lv_aload_n hx hb dX1_become_82 rfl (lv_at hl 1 rfl) ?_
        refine m_get hC hE hP (k_3 hr) e_3 rfl u_1 3 (by decide) w_120 rfl rfl dX1_become_83 ?_
        refine lv_iload_n hx hb dX1_become_86 rfl (lv_at hl 0 rfl) ?_
        refine m_aald hC hE hP (k_5 hr) f_5 rfl i (rfl) (by omega) (by decide) rfl dX1_become_87 ?_
        refine lv_aload_n hx hb dX1_become_88 rfl (lv_at hl 2 rfl) ?_
        refine m_get hC hE hP (k_3 hq) f_3 rfl u_1 3 (by decide) w_120 rfl rfl dX1_become_89 ?_
        refine lv_iload_n hx hb dX1_become_92 rfl (lv_at hl 0 rfl) ?_
        refine m_aald hC hE hP (k_5 hq) f_5 rfl i (rfl) (by omega) (by decide) rfl dX1_become_93 ?_
        refine on_v (run_V hC hE hP hS (As := [.ref (ad g (0, q, i))]) (c_becomeH l hI hr hq hne (v := it (b3 (M q)) i (bcA (M q) v)) i (by omega) (hvq.hH _ (by omega)).2.2) cal_X0_become w_596 ⟨Nat.le_of_ble_eq_true rfl, Nat.le_of_ble_eq_true rfl⟩ (k_0 hr (by omega)) e_0 rfl rfl rfl (Nat.le_of_ble_eq_true rfl) hl.1 ⟨Nat.le_of_ble_eq_true rfl, Nat.le_of_ble_eq_true rfl⟩ dX1_become_94) hS (fun H locs hP hS => ?_)
        refine lv_iinc (v := nI (i + 1)) (lv' := [(2, .int (nI (i + 1))), (0, .ref (ad g (3, r, 0))), (1, .ref (ad g (3, q, 0)))]) hx hb dX1_become_97 hl (k := 0) rfl (nI_1 _) (by decide) rfl (fun ls hl => ?_)
        refine lv_goto (tgt := 74) hx hb dX1_become_100 (by decide) ?_
        exact IH H locs ls (hP.castR (rfl)) hS (lv_sub hl [0, 1, 2] rfl) (trivial)
    · refine lv_iload_n hx hb dX1_become_40 rfl (lv_at hl 0 rfl) ?_
      refine lv_bipush (v := 7) hx hb dX1_become_41 (by decide) ?_
      refine lv_icmp_ge (tgt := 64) hx hb dX1_become_43 (by decide) (fun c9 => absurd c9 (nI_ge (b := 7) hi (by decide))) (fun c9 => ?_)
      refine lv_aload_n hx hb dX1_become_46 rfl (lv_at hl 1 rfl) ?_
      refine m_get hC hE hP (k_3 hr) e_3 rfl u_1 2 (by decide) w_118 rfl rfl dX1_become_47 ?_
      refine lv_iload_n hx hb dX1_become_50 rfl (lv_at hl 0 rfl) ?_
      refine lv_aload_n hx hb dX1_become_51 rfl (lv_at hl 2 rfl) ?_
      refine m_get hC hE hP (k_3 hq) f_3 rfl u_1 2 (by decide) w_118 rfl rfl dX1_become_52 ?_
      refine lv_iload_n hx hb dX1_become_55 rfl (lv_at hl 0 rfl) ?_
      refine m_iald hC hE hP (k_4 hq (by decide)) f_4 i (rfl) (show i < 7 from by omega) (by decide) dX1_become_56 ?_
      refine m_top (y := M q 2 i) (by rw [setR_ne _ _ hne]) ?_
      refine m_iast hC hE hI hP hS (k_4 hr (by decide)) e_4 i (rfl) (show i < 7 from by omega) (by decide) p_4 (ent_put g M r (it (b2 (M q)) i (it (b1 (M q)) 81 v)) o 2 i (M q 2 i) (kf_4 hr (by decide))) dX1_become_57 (fun H locs hP hS => ?_)
      refine lv_iinc (v := nI (i + 1)) (lv' := [(2, .int (nI (i + 1))), (0, .ref (ad g (3, r, 0))), (1, .ref (ad g (3, q, 0)))]) hx hb dX1_become_58 hl (k := 0) rfl (nI_1 _) (by decide) rfl (fun ls hl => ?_)
      refine lv_goto (tgt := 40) hx hb dX1_become_61 (by decide) ?_
      exact IH H locs ls (hP.castR (rfl)) hS (lv_sub hl [0, 1, 2] rfl) (trivial)
  · refine lv_iload_n hx hb dX1_become_2 rfl (lv_at hl 0 rfl) ?_
    refine lv_bipush (v := 81) hx hb dX1_become_3 (by decide) ?_
    refine lv_icmp_ge (tgt := 38) hx hb dX1_become_5 (by decide) (fun c10 => absurd c10 (nI_ge (b := 81) hi (by decide))) (fun c10 => ?_)
    refine lv_aload_n hx hb dX1_become_8 rfl (lv_at hl 1 rfl) ?_
    refine m_get hC hE hP (k_3 hr) e_3 rfl u_1 0 (by decide) w_114 rfl rfl dX1_become_9 ?_
    refine lv_iload_n hx hb dX1_become_12 rfl (lv_at hl 0 rfl) ?_
    refine lv_aload_n hx hb dX1_become_13 rfl (lv_at hl 2 rfl) ?_
    refine m_get hC hE hP (k_3 hq) f_3 rfl u_1 0 (by decide) w_114 rfl rfl dX1_become_14 ?_
    refine lv_iload_n hx hb dX1_become_17 rfl (lv_at hl 0 rfl) ?_
    refine m_iald hC hE hP (k_4 hq (by decide)) f_4 i (rfl) (show i < 81 from by omega) (by decide) dX1_become_18 ?_
    refine m_top (y := M q 0 i) (by rw [setR_ne _ _ hne]) ?_
    refine m_iast hC hE hI hP hS (k_4 hr (by decide)) e_4 i (rfl) (show i < 81 from by omega) (by decide) p_4 (ent_put g M r (it (b1 (M q)) i v) o 0 i (M q 0 i) (kf_4 hr (by decide))) dX1_become_19 (fun H locs hP hS => ?_)
    refine lv_aload_n hx hb dX1_become_20 rfl (lv_at hl 1 rfl) ?_
    refine m_get hC hE hP (k_3 hr) e_3 rfl u_1 1 (by decide) w_116 rfl rfl dX1_become_21 ?_
    refine lv_iload_n hx hb dX1_become_24 rfl (lv_at hl 0 rfl) ?_
    refine lv_aload_n hx hb dX1_become_25 rfl (lv_at hl 2 rfl) ?_
    refine m_get hC hE hP (k_3 hq) f_3 rfl u_1 1 (by decide) w_116 rfl rfl dX1_become_26 ?_
    refine lv_iload_n hx hb dX1_become_29 rfl (lv_at hl 0 rfl) ?_
    refine m_iald hC hE hP (k_4 hq (by decide)) f_4 i (rfl) (show i < 81 from by omega) (by decide) dX1_become_30 ?_
    refine m_top (y := M q 1 i) (by rw [setR_ne _ _ hne]) ?_
    refine m_iast hC hE hI hP hS (k_4 hr (by decide)) e_4 i (rfl) (show i < 81 from by omega) (by decide) p_4 (ent_put g M r (up2 (it (b1 (M q)) i v) 0 i (M q 0 i)) o 1 i (M q 1 i) (kf_4 hr (by decide))) dX1_become_31 (fun H locs hP hS => ?_)
    refine lv_iinc (v := nI (i + 1)) (lv' := [(2, .int (nI (i + 1))), (0, .ref (ad g (3, r, 0))), (1, .ref (ad g (3, q, 0)))]) hx hb dX1_become_32 hl (k := 0) rfl (nI_1 _) (by decide) rfl (fun ls hl => ?_)
    refine lv_goto (tgt := 2) hx hb dX1_become_35 (by decide) ?_
    exact IH H locs ls (hP.castR (rfl)) hS (lv_sub hl [0, 1, 2] rfl) (trivial)
end
section
/-! What a night leaves alone, and that a lake stays one. Pure. -/
theorem imin_nI {a b : Nat} (ha : a < 2 ^ 31) (hb : b < 2 ^ 31) : imin (nI a) (nI b) = nI (min a b) := by
  unfold imin
  by_cases h : b < a
  · rw [if_pos ((nI_ltI hb ha).mpr h), Nat.min_eq_right (by omega)]
  · rw [if_neg (fun q => h ((nI_ltI hb ha).mp q)), Nat.min_eq_left (by omega)]
theorem imax_nI {a b : Nat} (ha : a < 2 ^ 31) (hb : b < 2 ^ 31) : imax (nI a) (nI b) = nI (max a b) := by
  unfold imax
  by_cases h : a < b
  · rw [if_pos ((nI_ltI ha hb).mpr h), Nat.max_eq_right (by omega)]
  · rw [if_neg (fun q => h ((nI_ltI ha hb).mp q)), Nat.max_eq_left (by omega)]
def dst (a b : Nat) : Nat := (a - b) + (b - a)
theorem iabs_nI {a b : Nat} (ha : a < 2 ^ 30) (hb : b < 2 ^ 30) : iabs (nI a - nI b) = nI (dst a b) := by
  unfold iabs dst
  by_cases h : b ≤ a
  · rw [pk_sub h, if_pos (nI_pos' (by omega))]
    congr 1; omega
  · rw [if_neg, show (0 : Int32) - (nI a - nI b) = nI b - nI a from by rw [Int32.zero_sub, Int32.neg_sub], pk_sub (by omega)]
    · congr 1; omega
    · rw [Int32.le_iff_toInt_le, Int32.toInt_zero, pk_sub_toInt ha hb]; omega
theorem far_nI {a b x y : Nat} (ha : a < 2 ^ 30) (hb : b < 2 ^ 30) (hx : x < 2 ^ 30) (hy : y < 2 ^ 30) : far (nI a) (nI b) (nI x) (nI y) = nI (max (dst a x) (dst b y)) := by
  unfold far
  rw [iabs_nI ha hx, iabs_nI hb hy, imax_nI (by unfold dst; omega) (by unfold dst; omega)]
theorem imin_assoc (x y z : Int32) : imin x (imin y z) = imin (imin x y) z := by
  unfold imin
  by_cases h1 : z < y <;> by_cases h2 : y < x <;> by_cases h3 : z < x <;> simp only [h1, h2, h3, if_true, if_false] <;> (simp only [Int32.lt_iff_toInt_lt] at h1 h2 h3; exfalso; omega)
theorem mvc_ne {c own : Nat} {v : Vw} {k i : Nat} (h : k ≠ 0) : mvc c own v k i = v k i := by simp [mvc, up2, h]
theorem lurC_ne {own : Nat} {x y lt : Int32} {c : Nat} {v : Vw} {k i : Nat} (h : k ≠ 0) : lurC own x y lt c v k i = v k i := by
  unfold lurC
  split
  · rfl
  · exact mvc_ne h
theorem lurA_ne {q : Nat} {lt : Int32} {v : Vw} {k i : Nat} (h : k ≠ 0) : lurA q lt v k i = v k i := it_keep (fun _ _ => lurC_ne h) _ _
theorem lur_ne {s : Nat} {v : Vw} {k i : Nat} (h : k ≠ 0) : lur s v k i = v k i := by
  unfold lur
  split
  · rfl
  · exact lurA_ne h
theorem spr_ne {s : Nat} {v : Vw} {k i : Nat} (h : k ≠ 0) (h9 : k ≠ 9) : spr s v k i = v k i := by
  unfold spr
  split <;> simp [up2, h, h9]
theorem fin1_ne {w h c s : Nat} {v : Vw} {k i : Nat} (h0 : k ≠ 0) (h9 : k ≠ 9) (h11 : k ≠ 11) (h15 : k ≠ 15) : fin1 w h c s v k i = v k i := by
  unfold fin1
  split
  · simp [up2, h0, h9, h11, h15]
  · rfl
theorem finA_ne {w h : Nat} {v : Vw} {k i : Nat} (h0 : k ≠ 0) (h9 : k ≠ 9) (h11 : k ≠ 11) (h15 : k ≠ 15) : finA w h v k i = v k i := it_keep (fun _ _ => fin1_ne h0 h9 h11 h15) _ _
theorem gua_ne {w : Nat} {v : Vw} {k i : Nat} (h0 : k ≠ 0) (h9 : k ≠ 9) (h11 : k ≠ 11) (h12 : k ≠ 12) (h13 : k ≠ 13) (h15 : k ≠ 15) : gua w v k i = v k i := by
  unfold gua
  split
  · rfl
  · split
    · exact mov_ne h12 h13
    · exact (finA_ne h0 h9 h11 h15).trans (mov_ne h12 h13)
theorem kep_ne {s : Nat} {v : Vw} {k i : Nat} (h : k ≠ 10) : kep s v k i = v k i := by simp [kep, up2, h]
theorem bre_ne {s : Nat} {v : Vw} {k i : Nat} (h : k ≠ 0) : bre s v k i = v k i := by
  unfold bre
  split
  · simp [up2, h]
  · rfl
theorem frz_ne {v : Vw} {k i : Nat} (h5 : k ≠ 5) (h8 : k ≠ 8) (h16 : ¬ (k = 16 ∧ i = 3)) : frz v k i = v k i := by simp [frz, h5, h8, h16]
theorem lam_ne {v : Vw} {k i : Nat} (h : k ≠ 0) : lam v k i = v k i := it_keep (fun _ _ => lur_ne h) _ _
theorem spe_ne {v : Vw} {k i : Nat} (h : k ≠ 0) (h9 : k ≠ 9) : spe v k i = v k i := it_keep (fun _ _ => spr_ne h h9) _ _
theorem sen_ne {v : Vw} {k i : Nat} (h0 : k ≠ 0) (h9 : k ≠ 9) (h11 : k ≠ 11) (h12 : k ≠ 12) (h13 : k ≠ 13) (h15 : k ≠ 15) : sen v k i = v k i := it_keep (fun _ _ => gua_ne h0 h9 h11 h12 h13 h15) _ _
theorem kepA_ne {v : Vw} {k i : Nat} (h : k ≠ 10) : kepA v k i = v k i := it_keep (fun _ _ => kep_ne h) _ _
theorem breA_ne {v : Vw} {k i : Nat} (h : k ≠ 0) : breA v k i = v k i := it_keep (fun _ _ => bre_ne h) _ _
theorem Inv.step {v u : Vw} (hv : Inv v) (h0 : u 16 0 = v 16 0) (h1 : u 16 1 = v 16 1) (h2 : u 16 2 = v 16 2) (h3 : ∀ i, u 3 i = v 3 i) (h4 : ∀ i, u 4 i = v 4 i) (h5 : ∀ i, i < nH v → u 5 i = v 5 i ∨ u 5 i = 0) (h6 : ∀ i, u 6 i = v 6 i) (h7 : ∀ i, u 7 i = v 7 i) (h8 : ∀ k, k < nS v → u 8 k = v 8 k ∨ u 8 k = -1) (h9 : ∀ k, k < nS v → ∃ j : Nat, j ≤ 60 ∧ u 9 k = nI j) (hw : ∀ w, w < nW v → IW u w) (hc : ∀ c, c < 81 → IC u c) : Inv u := by
  have eH : nH u = nH v := by unfold nH; rw [h0]
  have eS : nS u = nS v := by unfold nS; rw [h1]
  have eW : nW u = nW v := by unfold nW; rw [h2]
  refine ⟨⟨by rw [h0, eH]; exact hv.eH, by rw [eH]; exact hv.lH⟩, ⟨by rw [h1, eS]; exact hv.eS, by rw [eS]; exact hv.lS⟩, ⟨by rw [h2, eW]; exact hv.eW, by rw [eW]; exact hv.lW⟩, ?_, ?_, ?_, hc⟩
  · intro i hi
    rw [eH] at hi
    obtain ⟨a, b, c⟩ := hv.hH i hi
    refine ⟨by rw [h3]; exact a, by rw [h4]; exact b, ?_⟩
    rcases h5 i hi with q | q
    · rw [q]; exact c
    · exact Or.inl q
  · intro k hk
    rw [eS] at hk
    obtain ⟨a, b, c, d⟩ := hv.hS k hk
    refine ⟨?_, by rw [h7]; exact b, by rw [h6]; exact c, h9 k hk⟩
    rw [eH]
    rcases h8 k hk with q | q
    · rw [q]; exact a
    · exact Or.inl q
  · intro w h
    rw [eW] at h
    exact hw w h
/-- only the eels of cells change -/
theorem Inv.eels {v u : Vw} (hv : Inv v) (h : ∀ c i, c ≠ 0 → u c i = v c i) (hc : ∀ c, c < 81 → IC u c) : Inv u :=
  hv.step (h _ _ (by decide)) (h _ _ (by decide)) (h _ _ (by decide)) (fun _ => h _ _ (by decide)) (fun _ => h _ _ (by decide)) (fun _ _ => Or.inl (h _ _ (by decide))) (fun _ => h _ _ (by decide)) (fun _ => h _ _ (by decide)) (fun _ _ => Or.inl (h _ _ (by decide))) (fun k hk => by rw [h _ _ (by decide)]; exact (hv.hS k hk).2.2.2) (fun w hw => ⟨by rw [h _ _ (by decide)]; exact (hv.hW w hw).1, by rw [h _ _ (by decide)]; exact (hv.hW w hw).2⟩) hc
theorem come_nI {v : Vw} {c own a b : Nat} (ha : a ≤ 60) (hb : b ≤ 60) (ea : v 0 c = nI a) (eb : v 0 own = nI b) : come v c own = nI (min (min 2 a) (60 - b)) := by
  unfold come
  rw [ea, eb, show (2 : Int32) = nI 2 from rfl, show (60 : Int32) = nI 60 from rfl, pk_sub hb, imin_nI (by decide) (by omega), imin_nI (by omega) (by omega)]
theorem mvc_IC {v : Vw} {c own : Nat} (hne : c ≠ own) (hc : IC v c) (ho : IC v own) : ∀ i, IC v i → IC (mvc c own v) i := by
  intro i hi
  obtain ⟨a, ha, ea⟩ := hc
  obtain ⟨b, hb, eb⟩ := ho
  have e := come_nI ha hb ea eb
  unfold IC mvc
  by_cases h1 : i = own
  · subst h1
    rw [up2_same, up2_i (Ne.symm hne), e, eb, nI_add]
    exact ⟨_, by omega, rfl⟩
  · rw [up2_i h1]
    by_cases h2 : i = c
    · subst h2
      rw [up2_same, e, ea, pk_sub (by omega)]
      exact ⟨_, by omega, rfl⟩
    · rw [up2_i h2]; exact hi
theorem lurC_inv {own : Nat} (ho : own < 81) {x y lt : Int32} {c : Nat} {v : Vw} (hc : c < 81) (hv : Inv v) : Inv (lurC own x y lt c v) := by
  refine hv.eels (fun k i h => lurC_ne h) (fun i hi => ?_)
  unfold lurC
  split
  · exact hv.hC i hi
  · rename_i h
    exact mvc_IC (fun q => h (Or.inl q)) (hv.hC c hc) (hv.hC own ho) i (hv.hC i hi)
theorem cl_lt {v : Vw} (hv : Inv v) {h : Nat} (hh : h < nH v) : cl v h < 81 := by
  have a := lt9_cl (hv.hH h hh).1
  have b := lt9_cl (hv.hH h hh).2.1
  unfold cl
  omega
theorem cl_eq {v : Vw} (hv : Inv v) {h : Nat} (hh : h < nH v) : 9 * v 4 h + v 3 h = nI (cl v h) := by
  have a := lt9_cl (hv.hH h hh).1
  have b := lt9_cl (hv.hH h hh).2.1
  unfold cl
  rw [a.1, b.1, nI_clamp (by omega), nI_clamp (by omega)]
  exact cell_nI _ _
theorem lurI_inv {v : Vw} {own : Nat} (ho : own < 81) {x y lt : Int32} (hv : Inv v) : ∀ n, n ≤ 81 → Inv (it (lurC own x y lt) n v) := fun n hn => it_inv (P := Inv) (fun _ _ hk h => lurC_inv ho hk h) n v hn hv
theorem lurA_inv {v : Vw} (hv : Inv v) {h : Nat} (hh : h < nH v) {lt : Int32} : Inv (lurA h lt v) := lurI_inv (cl_lt hv hh) hv 81 (Nat.le_refl _)
theorem m1_ne (n : Nat) (hn : n < 2 ^ 31) : ¬ nI n = -1 := by
  intro h
  have := congrArg Int32.toInt h
  rw [nI_toInt hn] at this
  have e : (-1 : Int32).toInt = -1 := by decide
  rw [e] at this
  omega
/-- where a spearer is: nowhere, or at the hole of that number -/
theorem hol_of {v : Vw} (hv : Inv v) {k : Nat} (hk : k < nS v) (h : ¬ v 8 k = -1) : v 8 k = nI (hol v k) ∧ hol v k < nH v := by
  rcases (hv.hS k hk).1 with q | ⟨j, hj, q⟩
  · exact absurd q h
  · unfold hol
    have := hv.lH
    rw [q, nI_clamp (by omega)]
    exact ⟨rfl, hj⟩
theorem has_t {v : Vw} (hv : Inv v) {h : Nat} (hh : h < nH v) : isIn (nI h) 0 (v 16 0 - 1) = true := by
  have := hv.lH
  rw [hv.eH, isIn_iff, Int32.toInt_zero, nI_toInt (by omega)]
  rw [show nI (nH v) - 1 = nI (nH v - 1) from by rw [show (1 : Int32) = nI 1 from rfl]; exact pk_sub (by omega), nI_toInt (by omega)]
  omega
theorem has_f {x hi : Int32} (h : x = -1) : isIn x 0 hi = false := by
  rw [h]; rfl
theorem has_iff {v : Vw} (hv : Inv v) {k : Nat} (hk : k < nS v) (h : isIn (v 8 k) 0 (v 16 0 - 1) = true) : ¬ v 8 k = -1 := fun q => by rw [has_f q] at h; cases h
theorem has_no {v : Vw} (hv : Inv v) {k : Nat} (hk : k < nS v) (h : isIn (v 8 k) 0 (v 16 0 - 1) = false) : v 8 k = -1 := by
  by_cases q : v 8 k = -1
  · exact q
  · have z := hol_of hv hk q
    rw [z.1, has_t hv z.2] at h
    cases h
theorem lur_inv {v : Vw} {k : Nat} (hk : k < nS v) (hv : Inv v) : Inv (lur k v) := by
  unfold lur
  split
  · exact hv
  · rename_i h
    exact lurA_inv hv (hol_of hv hk h).2
theorem nS_lur {k : Nat} {v : Vw} : nS (lur k v) = nS v := by unfold nS; rw [lur_ne (by decide)]
theorem lamI_inv {v : Vw} (hv : Inv v) : ∀ n, n ≤ nS v → Inv (it lur n v) ∧ nS (it lur n v) = nS v := fun n hn => it_inv (P := fun u => Inv u ∧ nS u = nS v) (fun k u hk h => ⟨lur_inv (by rw [h.2]; exact hk) h.1, nS_lur.trans h.2⟩) n v hn ⟨hv, rfl⟩
theorem lam_inv {v : Vw} (hv : Inv v) : Inv (lam v) := (lamI_inv hv _ (Nat.le_refl _)).1
theorem would_le {v : Vw} {c a : Nat} (ha : a ≤ 60) (e : v 0 c = nI a) : ∃ j : Nat, j ≤ a ∧ would v c = nI j := by
  unfold would
  rw [e]
  generalize nI a / 2 + 1 - v 1 c = z
  unfold imax imin
  by_cases h : z < nI a
  · rw [if_pos h]
    by_cases h0 : (0 : Int32) < z
    · rw [if_pos h0]
      obtain ⟨j, hj, rfl⟩ := nI_of (x := z) (by rw [Int32.lt_iff_toInt_lt] at h0 ⊢; omega)
      exact ⟨j, by have := (nI_ltI hj (by omega)).mp h; omega, rfl⟩
    · rw [if_neg h0]; exact ⟨0, by omega, rfl⟩
  · rw [if_neg h]
    split
    · exact ⟨a, Nat.le_refl _, rfl⟩
    · exact ⟨0, by omega, rfl⟩
theorem spr_inv {v : Vw} {k : Nat} (hk : k < nS v) (hv : Inv v) : Inv (spr k v) := by
  have hS := hv.lS
  have hIC : ∀ c, c < 81 → IC (spr k v) c := by
    intro c hc
    unfold spr
    split
    · unfold IC; rw [up2_c (by decide)]; exact hv.hC c hc
    · rename_i h
      have hh := (hol_of hv hk h).2
      obtain ⟨a, ha, ea⟩ := hv.hC _ (cl_lt hv hh)
      obtain ⟨j, hj, ej⟩ := would_le ha ea
      unfold IC
      by_cases hcc : c = cl v (hol v k)
      · subst hcc
        rw [up2_same, ea, ej, pk_sub hj]
        exact ⟨_, by omega, rfl⟩
      · rw [up2_i hcc, up2_c (by decide), up2_c (by decide)]
        exact hv.hC c hc
  have h9 : ∀ i, i < nS v → ∃ j : Nat, j ≤ 60 ∧ spr k v 9 i = nI j := by
    intro i hi
    unfold spr
    split
    · by_cases hik : i = k
      · subst hik; rw [up2_same]; exact ⟨0, by omega, rfl⟩
      · rw [up2_i hik]; exact (hv.hS i hi).2.2.2
    · rename_i h
      have hh := (hol_of hv hk h).2
      obtain ⟨a, ha, ea⟩ := hv.hC _ (cl_lt hv hh)
      obtain ⟨j, hj, ej⟩ := would_le ha ea
      rw [up2_c (by decide)]
      by_cases hik : i = k
      · subst hik; rw [up2_same]; exact ⟨j, by omega, ej⟩
      · rw [up2_i hik, up2_i hik]; exact (hv.hS i hi).2.2.2
  exact hv.step (spr_ne (by decide) (by decide)) (spr_ne (by decide) (by decide)) (spr_ne (by decide) (by decide)) (fun _ => spr_ne (by decide) (by decide)) (fun _ => spr_ne (by decide) (by decide)) (fun _ _ => Or.inl (spr_ne (by decide) (by decide))) (fun _ => spr_ne (by decide) (by decide)) (fun _ => spr_ne (by decide) (by decide)) (fun _ _ => Or.inl (spr_ne (by decide) (by decide))) h9 (fun w hw => ⟨by rw [spr_ne (by decide) (by decide)]; exact (hv.hW w hw).1, by rw [spr_ne (by decide) (by decide)]; exact (hv.hW w hw).2⟩) hIC
theorem nS_spr {k : Nat} {v : Vw} : nS (spr k v) = nS v := by unfold nS; rw [spr_ne (by decide) (by decide)]
theorem speI_inv {v : Vw} (hv : Inv v) : ∀ n, n ≤ nS v → Inv (it spr n v) ∧ nS (it spr n v) = nS v := fun n hn => it_inv (P := fun u => Inv u ∧ nS u = nS v) (fun k u hk h => ⟨spr_inv (by rw [h.2]; exact hk) h.1, nS_spr.trans h.2⟩) n v hn ⟨hv, rfl⟩
theorem spe_inv {v : Vw} (hv : Inv v) : Inv (spe v) := (speI_inv hv _ (Nat.le_refl _)).1
theorem cmp_lt9 {x y : Int32} (hx : lt9 x) (hy : lt9 y) : lt9 (x + cmp3 y x) := by
  obtain ⟨a, ha, rfl⟩ := hx
  obtain ⟨b, hb, rfl⟩ := hy
  unfold cmp3
  by_cases h : nI b < nI a
  · rw [if_pos h]
    have := (nI_ltI (by omega) (by omega)).mp h
    refine ⟨a - 1, by omega, ?_⟩
    rw [show nI a = nI (a - 1 + 1) from by congr 1; omega]
    exact pk_m1 _
  · rw [if_neg h]
    have h1 : a ≤ b := by rcases Nat.lt_or_ge b a with q | q; exact absurd ((nI_ltI (by omega) (by omega)).mpr q) h; exact q
    by_cases h2 : nI b = nI a
    · rw [if_pos h2, Int32.add_zero]; exact ⟨a, ha, rfl⟩
    · rw [if_neg h2]
      have h3 : a ≠ b := fun q => h2 (by rw [q])
      exact ⟨a + 1, by omega, nI_1 a⟩
theorem stp_inv {w h : Nat} {v : Vw} (hh : h < nH v) (hv : Inv v) : Inv (stp w h v) := by
  have e : ∀ c i, c ≠ 12 → c ≠ 13 → stp w h v c i = v c i := fun c i a b => stp_ne a b
  refine hv.step (e _ _ (by decide) (by decide)) (e _ _ (by decide) (by decide)) (e _ _ (by decide) (by decide)) (fun _ => e _ _ (by decide) (by decide)) (fun _ => e _ _ (by decide) (by decide)) (fun _ _ => Or.inl (e _ _ (by decide) (by decide))) (fun _ => e _ _ (by decide) (by decide)) (fun _ => e _ _ (by decide) (by decide)) (fun _ _ => Or.inl (e _ _ (by decide) (by decide))) (fun k hk => by rw [e _ _ (by decide) (by decide)]; exact (hv.hS k hk).2.2.2) (fun u hu => ?_) (fun c hc => by unfold IC; rw [e _ _ (by decide) (by decide)]; exact hv.hC c hc)
  have a := hv.hW u hu
  have b := hv.hH h hh
  unfold IW stp
  by_cases huw : u = w
  · subst huw
    rw [up2_c (by decide), up2_same, up2_same]
    exact ⟨cmp_lt9 a.1 b.1, cmp_lt9 a.2 b.2.1⟩
  · rw [up2_c (by decide), up2_i huw, up2_i huw, up2_c (by decide)]
    exact a
theorem nH_stp {w h : Nat} {v : Vw} : nH (stp w h v) = nH v := by unfold nH; rw [stp_ne (by decide) (by decide)]
theorem mov_inv {w h : Nat} {v : Vw} (hh : h < nH v) (hv : Inv v) : Inv (mov w h v) := (it_inv (N := (v 14 w).toNatClampNeg) (P := fun u => Inv u ∧ nH u = nH v) (fun k u _ q => ⟨stp_inv (by rw [q.2]; exact hh) q.1, nH_stp.trans q.2⟩) _ v (Nat.le_refl _) ⟨hv, rfl⟩).1
theorem nH_mov {w h : Nat} {v : Vw} : nH (mov w h v) = nH v := by unfold nH; rw [mov_ne (by decide) (by decide)]
theorem nS_mov {w h : Nat} {v : Vw} : nS (mov w h v) = nS v := by unfold nS; rw [mov_ne (by decide) (by decide)]
theorem fin1_inv {w h c k : Nat} {v : Vw} (hk : k < nS v) (hc : c < 81) (hv : Inv v) : Inv (fin1 w h c k v) := by
  have e : ∀ i j, i ≠ 0 → i ≠ 9 → i ≠ 11 → i ≠ 15 → fin1 w h c k v i j = v i j := fun i j a b c d => fin1_ne a b c d
  have hIC : ∀ i, i < 81 → IC (fin1 w h c k v) i := by
    intro i hi
    unfold fin1
    split
    · rename_i ho
      unfold IC
      rw [up2_c (by decide), up2_c (by decide), up2_c (by decide)]
      by_cases hic : i = c
      · subst hic
        rw [up2_same]
        obtain ⟨a, ha, ea⟩ := hv.hC i hi
        obtain ⟨p, hp, ep⟩ := (hv.hS k hk).2.2.1
        obtain ⟨q, hq, eq⟩ := (hv.hS k hk).2.2.2
        have hlt : p < q := by
          have h2 : v 6 k < v 9 k := by
            unfold ovr at ho
            rw [Bool.and_eq_true, decide_eq_true_eq, decide_eq_true_eq] at ho
            exact ho.2
          rw [ep, eq] at h2
          exact (nI_ltI (by omega) (by omega)).mp h2
        rw [ea, ep, eq, nI_add, pk_sub (by omega), show (60 : Int32) = nI 60 from rfl, imin_nI (by decide) (by omega)]
        exact ⟨_, by omega, rfl⟩
      · rw [up2_i hic]; exact hv.hC i hi
    · exact hv.hC i hi
  have h9 : ∀ i, i < nS v → ∃ j : Nat, j ≤ 60 ∧ fin1 w h c k v 9 i = nI j := by
    intro i hi
    unfold fin1
    split
    · rw [up2_c (by decide), up2_c (by decide)]
      by_cases hik : i = k
      · subst hik
        rw [up2_same]
        obtain ⟨p, hp, ep⟩ := (hv.hS i hk).2.2.1
        exact ⟨p, by omega, ep⟩
      · rw [up2_i hik, up2_c (by decide)]; exact (hv.hS i hi).2.2.2
    · exact (hv.hS i hi).2.2.2
  exact hv.step (e _ _ (by decide) (by decide) (by decide) (by decide)) (e _ _ (by decide) (by decide) (by decide) (by decide)) (e _ _ (by decide) (by decide) (by decide) (by decide)) (fun _ => e _ _ (by decide) (by decide) (by decide) (by decide)) (fun _ => e _ _ (by decide) (by decide) (by decide) (by decide)) (fun _ _ => Or.inl (e _ _ (by decide) (by decide) (by decide) (by decide))) (fun _ => e _ _ (by decide) (by decide) (by decide) (by decide)) (fun _ => e _ _ (by decide) (by decide) (by decide) (by decide)) (fun _ _ => Or.inl (e _ _ (by decide) (by decide) (by decide) (by decide))) h9 (fun w hw => ⟨by rw [e _ _ (by decide) (by decide) (by decide) (by decide)]; exact (hv.hW w hw).1, by rw [e _ _ (by decide) (by decide) (by decide) (by decide)]; exact (hv.hW w hw).2⟩) hIC
theorem nS_fin1 {w h c k : Nat} {v : Vw} : nS (fin1 w h c k v) = nS v := by unfold nS; rw [fin1_ne (by decide) (by decide) (by decide) (by decide)]
theorem finI_inv {w h c : Nat} {v : Vw} (hc : c < 81) (hv : Inv v) : ∀ n, n ≤ nS v → Inv (it (fin1 w h c) n v) ∧ nS (it (fin1 w h c) n v) = nS v := fun n hn => it_inv (P := fun u => Inv u ∧ nS u = nS v) (fun k u hk q => ⟨fin1_inv (by rw [q.2]; exact hk) hc q.1, nS_fin1.trans q.2⟩) n v hn ⟨hv, rfl⟩
theorem finA_inv {w h : Nat} {v : Vw} (hh : h < nH v) (hv : Inv v) : Inv (finA w h v) := (finI_inv (cl_lt hv hh) hv _ (Nat.le_refl _)).1
theorem golI {v : Vw} {w : Nat} : ∀ n, (it (golS v w) n (-1, 9)).1 = -1 ∨ ∃ h, h < n ∧ (it (golS v w) n (-1, 9)).1 = nI h
  | 0 => Or.inl rfl
  | n + 1 => by
    show (golS v w n (it (golS v w) n (-1, 9))).1 = -1 ∨ ∃ h, h < n + 1 ∧ (golS v w n (it (golS v w) n (-1, 9))).1 = nI h
    unfold golS
    split
    · exact Or.inr ⟨n, by omega, rfl⟩
    · rcases golI (v := v) (w := w) n with q | ⟨h, hh, q⟩
      · exact Or.inl q
      · exact Or.inr ⟨h, by omega, q⟩
theorem gol_of {v : Vw} (hv : Inv v) {w : Nat} (h : ¬ gol v w = -1) : gol v w = nI (gol v w).toNatClampNeg ∧ (gol v w).toNatClampNeg < nH v := by
  rcases golI (v := v) (w := w) (nH v) with q | ⟨j, hj, q⟩
  · exact absurd q h
  · have := hv.lH
    have q : gol v w = nI j := q
    rw [q, nI_clamp (by omega)]
    exact ⟨rfl, hj⟩
theorem gol_t {v : Vw} (hv : Inv v) {w : Nat} (h : isIn (gol v w) 0 (v 16 0 - 1) = true) : ¬ gol v w = -1 := fun q => by rw [has_f q] at h; cases h
theorem gol_f {v : Vw} (hv : Inv v) {w : Nat} (h : isIn (gol v w) 0 (v 16 0 - 1) = false) : gol v w = -1 := by
  by_cases q : gol v w = -1
  · exact q
  · have z := gol_of hv q
    rw [z.1, has_t hv z.2] at h
    cases h
theorem gua_inv {w : Nat} {v : Vw} (hv : Inv v) : Inv (gua w v) := by
  unfold gua
  split
  · exact hv
  · rename_i h
    have z := (gol_of hv h).2
    split
    · exact mov_inv z hv
    · exact finA_inv (by rw [nH_mov]; exact z) (mov_inv z hv)
theorem nW_gua {w : Nat} {v : Vw} : nW (gua w v) = nW v := by unfold nW; rw [gua_ne (by decide) (by decide) (by decide) (by decide) (by decide) (by decide)]
theorem senI_inv {v : Vw} (hv : Inv v) : ∀ n, n ≤ nW v → Inv (it gua n v) := fun n hn => it_inv (P := Inv) (fun k u _ q => gua_inv q) n v hn hv
theorem sen_inv {v : Vw} (hv : Inv v) : Inv (sen v) := senI_inv hv _ (Nat.le_refl _)
theorem kep_inv {k : Nat} {v : Vw} (hv : Inv v) : Inv (kep k v) := by
  have e : ∀ c i, c ≠ 10 → kep k v c i = v c i := fun c i h => kep_ne h
  exact hv.step (e _ _ (by decide)) (e _ _ (by decide)) (e _ _ (by decide)) (fun _ => e _ _ (by decide)) (fun _ => e _ _ (by decide)) (fun _ _ => Or.inl (e _ _ (by decide))) (fun _ => e _ _ (by decide)) (fun _ => e _ _ (by decide)) (fun _ _ => Or.inl (e _ _ (by decide))) (fun k hk => by rw [e _ _ (by decide)]; exact (hv.hS k hk).2.2.2) (fun w hw => ⟨by rw [e _ _ (by decide)]; exact (hv.hW w hw).1, by rw [e _ _ (by decide)]; exact (hv.hW w hw).2⟩) (fun c hc => by unfold IC; rw [e _ _ (by decide)]; exact hv.hC c hc)
theorem kepA_inv {v : Vw} (hv : Inv v) : Inv (kepA v) := it_inv (N := nS v) (P := Inv) (fun k u _ q => kep_inv q) _ v (Nat.le_refl _) hv
theorem bre_inv {k : Nat} (hk : k < 81) {v : Vw} (hv : Inv v) : Inv (bre k v) := by
  refine hv.eels (fun c i h => bre_ne h) (fun c hc => ?_)
  unfold bre
  split
  · rename_i h
    unfold IC
    by_cases hck : c = k
    · subst hck
      rw [up2_same]
      obtain ⟨a, ha, ea⟩ := hv.hC c hc
      rw [isIn_iff, ea, nI_toInt (by omega)] at h
      have h1 : (40 : Int32).toInt = 40 := by decide
      rw [h1] at h
      rw [ea, show (10 : Int32) = nI 10 from rfl, pk_div (by omega) (by decide) (by decide), nI_1, nI_add]
      exact ⟨_, by omega, rfl⟩
    · rw [up2_i hck]; exact hv.hC c hc
  · exact hv.hC c hc
theorem breI_inv {v : Vw} (hv : Inv v) : ∀ n, n ≤ 81 → Inv (it bre n v) := fun n hn => it_inv (P := Inv) (fun k u hk q => bre_inv hk q) n v hn hv
theorem breA_inv {v : Vw} (hv : Inv v) : Inv (breA v) := breI_inv hv 81 (Nat.le_refl _)
theorem frz_inv {v : Vw} (hv : Inv v) : Inv (frz v) := by
  have e : ∀ c i, c ≠ 5 → c ≠ 8 → ¬ (c = 16 ∧ i = 3) → frz v c i = v c i := fun c i a b d => frz_ne a b d
  refine hv.step (e _ _ (by decide) (by decide) (by decide)) (e _ _ (by decide) (by decide) (by decide)) (e _ _ (by decide) (by decide) (by decide)) (fun _ => e _ _ (by decide) (by decide) (by omega)) (fun _ => e _ _ (by decide) (by decide) (by omega)) (fun i _ => ?_) (fun _ => e _ _ (by decide) (by decide) (by omega)) (fun _ => e _ _ (by decide) (by decide) (by omega)) (fun k _ => ?_) (fun k hk => by rw [e _ _ (by decide) (by decide) (by omega)]; exact (hv.hS k hk).2.2.2) (fun w hw => ⟨by rw [e _ _ (by decide) (by decide) (by omega)]; exact (hv.hW w hw).1, by rw [e _ _ (by decide) (by decide) (by omega)]; exact (hv.hW w hw).2⟩) (fun c hc => by unfold IC; rw [e _ _ (by decide) (by decide) (by omega)]; exact hv.hC c hc)
  · unfold frz
    rw [if_neg (by omega)]
    split
    · exact Or.inr rfl
    · rw [if_neg (by omega)]; exact Or.inl rfl
  · unfold frz
    rw [if_neg (by omega), if_neg (by omega)]
    split
    · exact Or.inr rfl
    · exact Or.inl rfl
theorem nig_inv {v : Vw} (hv : Inv v) : Inv (nig v) := by
  have e : ∀ c i, ¬ (c = 16 ∧ i = 4) → nig v c i = v c i := fun c i h => by simp [nig, up2]; intro a b; exact absurd ⟨a, b⟩ h
  exact hv.step (e _ _ (by decide)) (e _ _ (by decide)) (e _ _ (by decide)) (fun _ => e _ _ (by omega)) (fun _ => e _ _ (by omega)) (fun _ _ => Or.inl (e _ _ (by omega))) (fun _ => e _ _ (by omega)) (fun _ => e _ _ (by omega)) (fun _ _ => Or.inl (e _ _ (by omega))) (fun k hk => by rw [e _ _ (by omega)]; exact (hv.hS k hk).2.2.2) (fun w hw => ⟨by rw [e _ _ (by omega)]; exact (hv.hW w hw).1, by rw [e _ _ (by omega)]; exact (hv.hW w hw).2⟩) (fun c hc => by unfold IC; rw [e _ _ (by omega)]; exact hv.hC c hc)
theorem pre1_inv {v : Vw} (hv : Inv v) : Inv (pre1 v) := sen_inv (spe_inv (lam_inv hv))
theorem day_inv {v : Vw} (hv : Inv v) : Inv (day v) := nig_inv (frz_inv (breA_inv (kepA_inv (pre1_inv hv))))
theorem days_inv {v : Vw} (hv : Inv v) (n : Nat) : Inv (days n v) := it_inv (N := n) (P := Inv) (fun _ _ _ q => day_inv q) n v (Nat.le_refl _) hv
def Nt (n : Nat) (v : Vw) : Prop := v 16 4 = nI (tt v) ∧ tt v + n < 2 ^ 30
theorem day_night {v : Vw} : day v 16 4 = v 16 4 + 1 := by
  unfold day nig
  rw [up2_same, frz_ne (by decide) (by decide) (by decide), breA_ne (by decide), kepA_ne (by decide)]
  unfold pre1
  rw [sen_ne (by decide) (by decide) (by decide) (by decide) (by decide) (by decide), spe_ne (by decide) (by decide), lam_ne (by decide)]
theorem day_Nt {n : Nat} {v : Vw} (h : Nt (n + 1) v) : Nt n (day v) := by
  obtain ⟨a, b⟩ := h
  have e : tt (day v) = tt v + 1 := by
    show (day v 16 4).toNatClampNeg = _
    rw [day_night, a, nI_1, nI_clamp (by omega)]
  refine ⟨?_, by rw [e]; omega⟩
  rw [day_night, e, a]
  exact nI_1 _
theorem days_Nt {v : Vw} : ∀ {m n : Nat}, Nt (m + n) v → Nt n (days m v)
  | 0, n, h => by rw [Nat.zero_add] at h; exact h
  | m + 1, n, h => day_Nt (days_Nt (m := m) (n := n + 1) (by rw [show m + (n + 1) = m + 1 + n from by omega]; exact h))
end
section
/-! the lake: the lamps -/
theorem dX1_moveEels_0 : decode cX1_moveEels 0 = .ok (.bipush 60, 2) := by decide +kernel
theorem dX1_moveEels_2 : decode cX1_moveEels 2 = .ok (.aload_n 0, 1) := by decide +kernel
theorem dX1_moveEels_3 : decode cX1_moveEels 3 = .ok (.getfield 9, 3) := by decide +kernel
theorem dX1_moveEels_6 : decode cX1_moveEels 6 = .ok (.iload_n 2, 1) := by decide +kernel
theorem dX1_moveEels_7 : decode cX1_moveEels 7 = .ok (.iaload, 1) := by decide +kernel
theorem dX1_moveEels_8 : decode cX1_moveEels 8 = .ok (.isub, 1) := by decide +kernel
theorem dX1_moveEels_9 : decode cX1_moveEels 9 = .ok (.istore_n 3, 1) := by decide +kernel
theorem dX1_moveEels_10 : decode cX1_moveEels 10 = .ok (.iconst 2, 1) := by decide +kernel
theorem dX1_moveEels_11 : decode cX1_moveEels 11 = .ok (.aload_n 0, 1) := by decide +kernel
theorem dX1_moveEels_12 : decode cX1_moveEels 12 = .ok (.getfield 9, 3) := by decide +kernel
theorem dX1_moveEels_15 : decode cX1_moveEels 15 = .ok (.iload_n 1, 1) := by decide +kernel
theorem dX1_moveEels_16 : decode cX1_moveEels 16 = .ok (.iaload, 1) := by decide +kernel
theorem dX1_moveEels_17 : decode cX1_moveEels 17 = .ok (.iload_n 3, 1) := by decide +kernel
theorem dX1_moveEels_18 : decode cX1_moveEels 18 = .ok (.invokestatic 102, 3) := by decide +kernel
theorem dX1_moveEels_21 : decode cX1_moveEels 21 = .ok (.invokestatic 102, 3) := by decide +kernel
theorem dX1_moveEels_24 : decode cX1_moveEels 24 = .ok (.istore 4, 2) := by decide +kernel
theorem dX1_moveEels_26 : decode cX1_moveEels 26 = .ok (.aload_n 0, 1) := by decide +kernel
theorem dX1_moveEels_27 : decode cX1_moveEels 27 = .ok (.getfield 9, 3) := by decide +kernel
theorem dX1_moveEels_30 : decode cX1_moveEels 30 = .ok (.iload_n 1, 1) := by decide +kernel
theorem dX1_moveEels_31 : decode cX1_moveEels 31 = .ok (.dup2, 1) := by decide +kernel
theorem dX1_moveEels_32 : decode cX1_moveEels 32 = .ok (.iaload, 1) := by decide +kernel
theorem dX1_moveEels_33 : decode cX1_moveEels 33 = .ok (.iload 4, 2) := by decide +kernel
theorem dX1_moveEels_35 : decode cX1_moveEels 35 = .ok (.isub, 1) := by decide +kernel
theorem dX1_moveEels_36 : decode cX1_moveEels 36 = .ok (.iastore, 1) := by decide +kernel
theorem dX1_moveEels_37 : decode cX1_moveEels 37 = .ok (.aload_n 0, 1) := by decide +kernel
theorem dX1_moveEels_38 : decode cX1_moveEels 38 = .ok (.getfield 9, 3) := by decide +kernel
theorem dX1_moveEels_41 : decode cX1_moveEels 41 = .ok (.iload_n 2, 1) := by decide +kernel
theorem dX1_moveEels_42 : decode cX1_moveEels 42 = .ok (.dup2, 1) := by decide +kernel
theorem dX1_moveEels_43 : decode cX1_moveEels 43 = .ok (.iaload, 1) := by decide +kernel
theorem dX1_moveEels_44 : decode cX1_moveEels 44 = .ok (.iload 4, 2) := by decide +kernel
theorem dX1_moveEels_46 : decode cX1_moveEels 46 = .ok (.iadd, 1) := by decide +kernel
theorem dX1_moveEels_47 : decode cX1_moveEels 47 = .ok (.iastore, 1) := by decide +kernel
theorem dX1_moveEels_48 : decode cX1_moveEels 48 = .ok (.return_, 1) := by decide +kernel
theorem dX1_lure_0 : decode cX1_lure 0 = .ok (.aload_n 1, 1) := by decide +kernel
theorem dX1_lure_1 : decode cX1_lure 1 = .ok (.getfield 72, 3) := by decide +kernel
theorem dX1_lure_4 : decode cX1_lure 4 = .ok (.aload_n 1, 1) := by decide +kernel
theorem dX1_lure_5 : decode cX1_lure 5 = .ok (.getfield 75, 3) := by decide +kernel
theorem dX1_lure_8 : decode cX1_lure 8 = .ok (.invokestatic 105, 3) := by decide +kernel
theorem dX1_lure_11 : decode cX1_lure 11 = .ok (.istore_n 3, 1) := by decide +kernel
theorem dX1_lure_12 : decode cX1_lure 12 = .ok (.iconst 0, 1) := by decide +kernel
theorem dX1_lure_13 : decode cX1_lure 13 = .ok (.aload_n 1, 1) := by decide +kernel
theorem dX1_lure_14 : decode cX1_lure 14 = .ok (.getfield 72, 3) := by decide +kernel
theorem dX1_lure_17 : decode cX1_lure 17 = .ok (.iload_n 2, 1) := by decide +kernel
theorem dX1_lure_18 : decode cX1_lure 18 = .ok (.isub, 1) := by decide +kernel
theorem dX1_lure_19 : decode cX1_lure 19 = .ok (.invokestatic 99, 3) := by decide +kernel
theorem dX1_lure_22 : decode cX1_lure 22 = .ok (.istore 4, 2) := by decide +kernel
theorem dX1_lure_24 : decode cX1_lure 24 = .ok (.bipush 8, 2) := by decide +kernel
theorem dX1_lure_26 : decode cX1_lure 26 = .ok (.aload_n 1, 1) := by decide +kernel
theorem dX1_lure_27 : decode cX1_lure 27 = .ok (.getfield 72, 3) := by decide +kernel
theorem dX1_lure_30 : decode cX1_lure 30 = .ok (.iload_n 2, 1) := by decide +kernel
theorem dX1_lure_31 : decode cX1_lure 31 = .ok (.iadd, 1) := by decide +kernel
theorem dX1_lure_32 : decode cX1_lure 32 = .ok (.invokestatic 102, 3) := by decide +kernel
theorem dX1_lure_35 : decode cX1_lure 35 = .ok (.istore 5, 2) := by decide +kernel
theorem dX1_lure_37 : decode cX1_lure 37 = .ok (.iconst 0, 1) := by decide +kernel
theorem dX1_lure_38 : decode cX1_lure 38 = .ok (.aload_n 1, 1) := by decide +kernel
theorem dX1_lure_39 : decode cX1_lure 39 = .ok (.getfield 75, 3) := by decide +kernel
theorem dX1_lure_42 : decode cX1_lure 42 = .ok (.iload_n 2, 1) := by decide +kernel
theorem dX1_lure_43 : decode cX1_lure 43 = .ok (.isub, 1) := by decide +kernel
theorem dX1_lure_44 : decode cX1_lure 44 = .ok (.invokestatic 99, 3) := by decide +kernel
theorem dX1_lure_47 : decode cX1_lure 47 = .ok (.istore 6, 2) := by decide +kernel
theorem dX1_lure_49 : decode cX1_lure 49 = .ok (.bipush 8, 2) := by decide +kernel
theorem dX1_lure_51 : decode cX1_lure 51 = .ok (.aload_n 1, 1) := by decide +kernel
theorem dX1_lure_52 : decode cX1_lure 52 = .ok (.getfield 75, 3) := by decide +kernel
theorem dX1_lure_55 : decode cX1_lure 55 = .ok (.iload_n 2, 1) := by decide +kernel
theorem dX1_lure_56 : decode cX1_lure 56 = .ok (.iadd, 1) := by decide +kernel
theorem dX1_lure_57 : decode cX1_lure 57 = .ok (.invokestatic 102, 3) := by decide +kernel
theorem dX1_lure_60 : decode cX1_lure 60 = .ok (.istore 7, 2) := by decide +kernel
theorem dX1_lure_62 : decode cX1_lure 62 = .ok (.iload 6, 2) := by decide +kernel
theorem dX1_lure_64 : decode cX1_lure 64 = .ok (.istore 8, 2) := by decide +kernel
theorem dX1_lure_66 : decode cX1_lure 66 = .ok (.iload 8, 2) := by decide +kernel
theorem dX1_lure_68 : decode cX1_lure 68 = .ok (.iload 7, 2) := by decide +kernel
theorem dX1_lure_70 : decode cX1_lure 70 = .ok (.if_icmp .gt 49, 3) := by decide +kernel
theorem dX1_lure_73 : decode cX1_lure 73 = .ok (.iload 4, 2) := by decide +kernel
theorem dX1_lure_75 : decode cX1_lure 75 = .ok (.istore 9, 2) := by decide +kernel
theorem dX1_lure_77 : decode cX1_lure 77 = .ok (.iload 9, 2) := by decide +kernel
theorem dX1_lure_79 : decode cX1_lure 79 = .ok (.iload 5, 2) := by decide +kernel
theorem dX1_lure_81 : decode cX1_lure 81 = .ok (.if_icmp .gt 32, 3) := by decide +kernel
theorem dX1_lure_84 : decode cX1_lure 84 = .ok (.iload 9, 2) := by decide +kernel
theorem dX1_lure_86 : decode cX1_lure 86 = .ok (.iload 8, 2) := by decide +kernel
theorem dX1_lure_88 : decode cX1_lure 88 = .ok (.invokestatic 105, 3) := by decide +kernel
theorem dX1_lure_91 : decode cX1_lure 91 = .ok (.iload_n 3, 1) := by decide +kernel
theorem dX1_lure_92 : decode cX1_lure 92 = .ok (.if_icmp .eq 15, 3) := by decide +kernel
theorem dX1_lure_95 : decode cX1_lure 95 = .ok (.aload_n 0, 1) := by decide +kernel
theorem dX1_lure_96 : decode cX1_lure 96 = .ok (.iload 9, 2) := by decide +kernel
theorem dX1_lure_98 : decode cX1_lure 98 = .ok (.iload 8, 2) := by decide +kernel
theorem dX1_lure_100 : decode cX1_lure 100 = .ok (.invokestatic 105, 3) := by decide +kernel
theorem dX1_lure_103 : decode cX1_lure 103 = .ok (.iload_n 3, 1) := by decide +kernel
theorem dX1_lure_104 : decode cX1_lure 104 = .ok (.invokevirtual 176, 3) := by decide +kernel
theorem dX1_lure_107 : decode cX1_lure 107 = .ok (.iinc 9 1, 3) := by decide +kernel
theorem dX1_lure_110 : decode cX1_lure 110 = .ok (.goto (-33), 3) := by decide +kernel
theorem dX1_lure_113 : decode cX1_lure 113 = .ok (.iinc 8 1, 3) := by decide +kernel
theorem dX1_lure_116 : decode cX1_lure 116 = .ok (.goto (-50), 3) := by decide +kernel
theorem dX1_lure_119 : decode cX1_lure 119 = .ok (.return_, 1) := by decide +kernel
theorem dX1_lightLamps_0 : decode cX1_lightLamps 0 = .ok (.iconst 0, 1) := by decide +kernel
theorem dX1_lightLamps_1 : decode cX1_lightLamps 1 = .ok (.istore_n 1, 1) := by decide +kernel
theorem dX1_lightLamps_2 : decode cX1_lightLamps 2 = .ok (.iload_n 1, 1) := by decide +kernel
theorem dX1_lightLamps_3 : decode cX1_lightLamps 3 = .ok (.aload_n 0, 1) := by decide +kernel
theorem dX1_lightLamps_4 : decode cX1_lightLamps 4 = .ok (.getfield 53, 3) := by decide +kernel
theorem dX1_lightLamps_7 : decode cX1_lightLamps 7 = .ok (.if_icmp .ge 44, 3) := by decide +kernel
theorem dX1_lightLamps_10 : decode cX1_lightLamps 10 = .ok (.aload_n 0, 1) := by decide +kernel
theorem dX1_lightLamps_11 : decode cX1_lightLamps 11 = .ok (.getfield 30, 3) := by decide +kernel
theorem dX1_lightLamps_14 : decode cX1_lightLamps 14 = .ok (.iload_n 1, 1) := by decide +kernel
theorem dX1_lightLamps_15 : decode cX1_lightLamps 15 = .ok (.aaload, 1) := by decide +kernel
theorem dX1_lightLamps_16 : decode cX1_lightLamps 16 = .ok (.astore_n 2, 1) := by decide +kernel
theorem dX1_lightLamps_17 : decode cX1_lightLamps 17 = .ok (.aload_n 0, 1) := by decide +kernel
theorem dX1_lightLamps_18 : decode cX1_lightLamps 18 = .ok (.aload_n 2, 1) := by decide +kernel
theorem dX1_lightLamps_19 : decode cX1_lightLamps 19 = .ok (.getfield 139, 3) := by decide +kernel
theorem dX1_lightLamps_22 : decode cX1_lightLamps 22 = .ok (.invokevirtual 169, 3) := by decide +kernel
theorem dX1_lightLamps_25 : decode cX1_lightLamps 25 = .ok (.ifCond .eq 20, 3) := by decide +kernel
theorem dX1_lightLamps_28 : decode cX1_lightLamps 28 = .ok (.aload_n 0, 1) := by decide +kernel
theorem dX1_lightLamps_29 : decode cX1_lightLamps 29 = .ok (.aload_n 0, 1) := by decide +kernel
theorem dX1_lightLamps_30 : decode cX1_lightLamps 30 = .ok (.getfield 23, 3) := by decide +kernel
theorem dX1_lightLamps_33 : decode cX1_lightLamps 33 = .ok (.aload_n 2, 1) := by decide +kernel
theorem dX1_lightLamps_34 : decode cX1_lightLamps 34 = .ok (.getfield 139, 3) := by decide +kernel
theorem dX1_lightLamps_37 : decode cX1_lightLamps 37 = .ok (.aaload, 1) := by decide +kernel
theorem dX1_lightLamps_38 : decode cX1_lightLamps 38 = .ok (.aload_n 2, 1) := by decide +kernel
theorem dX1_lightLamps_39 : decode cX1_lightLamps 39 = .ok (.getfield 85, 3) := by decide +kernel
theorem dX1_lightLamps_42 : decode cX1_lightLamps 42 = .ok (.invokevirtual 172, 3) := by decide +kernel
theorem dX1_lightLamps_45 : decode cX1_lightLamps 45 = .ok (.iinc 1 1, 3) := by decide +kernel
theorem dX1_lightLamps_48 : decode cX1_lightLamps 48 = .ok (.goto (-46), 3) := by decide +kernel
theorem dX1_lightLamps_51 : decode cX1_lightLamps 51 = .ok (.return_, 1) := by decide +kernel
theorem dX1_spearEels_0 : decode cX1_spearEels 0 = .ok (.iconst 0, 1) := by decide +kernel
theorem dX1_spearEels_1 : decode cX1_spearEels 1 = .ok (.istore_n 1, 1) := by decide +kernel
theorem dX1_spearEels_2 : decode cX1_spearEels 2 = .ok (.iload_n 1, 1) := by decide +kernel
theorem dX1_spearEels_3 : decode cX1_spearEels 3 = .ok (.aload_n 0, 1) := by decide +kernel
theorem dX1_spearEels_4 : decode cX1_spearEels 4 = .ok (.getfield 53, 3) := by decide +kernel
theorem dX1_spearEels_7 : decode cX1_spearEels 7 = .ok (.if_icmp .ge 79, 3) := by decide +kernel
theorem dX1_spearEels_10 : decode cX1_spearEels 10 = .ok (.aload_n 0, 1) := by decide +kernel
theorem dX1_spearEels_11 : decode cX1_spearEels 11 = .ok (.getfield 30, 3) := by decide +kernel
theorem dX1_spearEels_14 : decode cX1_spearEels 14 = .ok (.iload_n 1, 1) := by decide +kernel
theorem dX1_spearEels_15 : decode cX1_spearEels 15 = .ok (.aaload, 1) := by decide +kernel
theorem dX1_spearEels_16 : decode cX1_spearEels 16 = .ok (.astore_n 2, 1) := by decide +kernel
theorem dX1_spearEels_17 : decode cX1_spearEels 17 = .ok (.aload_n 2, 1) := by decide +kernel
theorem dX1_spearEels_18 : decode cX1_spearEels 18 = .ok (.iconst 0, 1) := by decide +kernel
theorem dX1_spearEels_19 : decode cX1_spearEels 19 = .ok (.putfield 180, 3) := by decide +kernel
theorem dX1_spearEels_22 : decode cX1_spearEels 22 = .ok (.aload_n 0, 1) := by decide +kernel
theorem dX1_spearEels_23 : decode cX1_spearEels 23 = .ok (.aload_n 2, 1) := by decide +kernel
theorem dX1_spearEels_24 : decode cX1_spearEels 24 = .ok (.getfield 139, 3) := by decide +kernel
theorem dX1_spearEels_27 : decode cX1_spearEels 27 = .ok (.invokevirtual 169, 3) := by decide +kernel
theorem dX1_spearEels_30 : decode cX1_spearEels 30 = .ok (.ifCond .eq 50, 3) := by decide +kernel
theorem dX1_spearEels_33 : decode cX1_spearEels 33 = .ok (.aload_n 0, 1) := by decide +kernel
theorem dX1_spearEels_34 : decode cX1_spearEels 34 = .ok (.getfield 23, 3) := by decide +kernel
theorem dX1_spearEels_37 : decode cX1_spearEels 37 = .ok (.aload_n 2, 1) := by decide +kernel
theorem dX1_spearEels_38 : decode cX1_spearEels 38 = .ok (.getfield 139, 3) := by decide +kernel
theorem dX1_spearEels_41 : decode cX1_spearEels 41 = .ok (.aaload, 1) := by decide +kernel
theorem dX1_spearEels_42 : decode cX1_spearEels 42 = .ok (.astore_n 3, 1) := by decide +kernel
theorem dX1_spearEels_43 : decode cX1_spearEels 43 = .ok (.aload_n 3, 1) := by decide +kernel
theorem dX1_spearEels_44 : decode cX1_spearEels 44 = .ok (.getfield 72, 3) := by decide +kernel
theorem dX1_spearEels_47 : decode cX1_spearEels 47 = .ok (.aload_n 3, 1) := by decide +kernel
theorem dX1_spearEels_48 : decode cX1_spearEels 48 = .ok (.getfield 75, 3) := by decide +kernel
theorem dX1_spearEels_51 : decode cX1_spearEels 51 = .ok (.invokestatic 105, 3) := by decide +kernel
theorem dX1_spearEels_54 : decode cX1_spearEels 54 = .ok (.istore 4, 2) := by decide +kernel
theorem dX1_spearEels_56 : decode cX1_spearEels 56 = .ok (.aload_n 2, 1) := by decide +kernel
theorem dX1_spearEels_57 : decode cX1_spearEels 57 = .ok (.aload_n 0, 1) := by decide +kernel
theorem dX1_spearEels_58 : decode cX1_spearEels 58 = .ok (.iload 4, 2) := by decide +kernel
theorem dX1_spearEels_60 : decode cX1_spearEels 60 = .ok (.invokevirtual 111, 3) := by decide +kernel
theorem dX1_spearEels_63 : decode cX1_spearEels 63 = .ok (.putfield 180, 3) := by decide +kernel
theorem dX1_spearEels_66 : decode cX1_spearEels 66 = .ok (.aload_n 0, 1) := by decide +kernel
theorem dX1_spearEels_67 : decode cX1_spearEels 67 = .ok (.getfield 9, 3) := by decide +kernel
theorem dX1_spearEels_70 : decode cX1_spearEels 70 = .ok (.iload 4, 2) := by decide +kernel
theorem dX1_spearEels_72 : decode cX1_spearEels 72 = .ok (.dup2, 1) := by decide +kernel
theorem dX1_spearEels_73 : decode cX1_spearEels 73 = .ok (.iaload, 1) := by decide +kernel
theorem dX1_spearEels_74 : decode cX1_spearEels 74 = .ok (.aload_n 2, 1) := by decide +kernel
theorem dX1_spearEels_75 : decode cX1_spearEels 75 = .ok (.getfield 180, 3) := by decide +kernel
theorem dX1_spearEels_78 : decode cX1_spearEels 78 = .ok (.isub, 1) := by decide +kernel
theorem dX1_spearEels_79 : decode cX1_spearEels 79 = .ok (.iastore, 1) := by decide +kernel
theorem dX1_spearEels_80 : decode cX1_spearEels 80 = .ok (.iinc 1 1, 3) := by decide +kernel
theorem dX1_spearEels_83 : decode cX1_spearEels 83 = .ok (.goto (-81), 3) := by decide +kernel
theorem dX1_spearEels_86 : decode cX1_spearEels 86 = .ok (.return_, 1) := by decide +kernel
theorem dX1_hasOffender_0 : decode cX1_hasOffender 0 = .ok (.iconst 0, 1) := by decide +kernel
theorem dX1_hasOffender_1 : decode cX1_hasOffender 1 = .ok (.istore_n 2, 1) := by decide +kernel
theorem dX1_hasOffender_2 : decode cX1_hasOffender 2 = .ok (.iload_n 2, 1) := by decide +kernel
theorem dX1_hasOffender_3 : decode cX1_hasOffender 3 = .ok (.aload_n 0, 1) := by decide +kernel
theorem dX1_hasOffender_4 : decode cX1_hasOffender 4 = .ok (.getfield 53, 3) := by decide +kernel
theorem dX1_hasOffender_7 : decode cX1_hasOffender 7 = .ok (.if_icmp .ge 36, 3) := by decide +kernel
theorem dX1_hasOffender_10 : decode cX1_hasOffender 10 = .ok (.aload_n 0, 1) := by decide +kernel
theorem dX1_hasOffender_11 : decode cX1_hasOffender 11 = .ok (.getfield 30, 3) := by decide +kernel
theorem dX1_hasOffender_14 : decode cX1_hasOffender 14 = .ok (.iload_n 2, 1) := by decide +kernel
theorem dX1_hasOffender_15 : decode cX1_hasOffender 15 = .ok (.aaload, 1) := by decide +kernel
theorem dX1_hasOffender_16 : decode cX1_hasOffender 16 = .ok (.getfield 139, 3) := by decide +kernel
theorem dX1_hasOffender_19 : decode cX1_hasOffender 19 = .ok (.iload_n 1, 1) := by decide +kernel
theorem dX1_hasOffender_20 : decode cX1_hasOffender 20 = .ok (.if_icmp .ne 17, 3) := by decide +kernel
theorem dX1_hasOffender_23 : decode cX1_hasOffender 23 = .ok (.aload_n 0, 1) := by decide +kernel
theorem dX1_hasOffender_24 : decode cX1_hasOffender 24 = .ok (.getfield 30, 3) := by decide +kernel
theorem dX1_hasOffender_27 : decode cX1_hasOffender 27 = .ok (.iload_n 2, 1) := by decide +kernel
theorem dX1_hasOffender_28 : decode cX1_hasOffender 28 = .ok (.aaload, 1) := by decide +kernel
theorem dX1_hasOffender_29 : decode cX1_hasOffender 29 = .ok (.invokevirtual 197, 3) := by decide +kernel
theorem dX1_hasOffender_32 : decode cX1_hasOffender 32 = .ok (.ifCond .eq 5, 3) := by decide +kernel
theorem dX1_hasOffender_35 : decode cX1_hasOffender 35 = .ok (.iconst 1, 1) := by decide +kernel
theorem dX1_hasOffender_36 : decode cX1_hasOffender 36 = .ok (.ireturn, 1) := by decide +kernel
theorem dX1_hasOffender_37 : decode cX1_hasOffender 37 = .ok (.iinc 2 1, 3) := by decide +kernel
theorem dX1_hasOffender_40 : decode cX1_hasOffender 40 = .ok (.goto (-38), 3) := by decide +kernel
theorem dX1_hasOffender_43 : decode cX1_hasOffender 43 = .ok (.iconst 0, 1) := by decide +kernel
theorem dX1_hasOffender_44 : decode cX1_hasOffender 44 = .ok (.ireturn, 1) := by decide +kernel
theorem dX1_nearestOffence_0 : decode cX1_nearestOffence 0 = .ok (.iconst (-1), 1) := by decide +kernel
theorem dX1_nearestOffence_1 : decode cX1_nearestOffence 1 = .ok (.istore_n 2, 1) := by decide +kernel
theorem dX1_nearestOffence_2 : decode cX1_nearestOffence 2 = .ok (.bipush 9, 2) := by decide +kernel
theorem dX1_nearestOffence_4 : decode cX1_nearestOffence 4 = .ok (.istore_n 3, 1) := by decide +kernel
theorem dX1_nearestOffence_5 : decode cX1_nearestOffence 5 = .ok (.iconst 0, 1) := by decide +kernel
theorem dX1_nearestOffence_6 : decode cX1_nearestOffence 6 = .ok (.istore 4, 2) := by decide +kernel
theorem dX1_nearestOffence_8 : decode cX1_nearestOffence 8 = .ok (.iload 4, 2) := by decide +kernel
theorem dX1_nearestOffence_10 : decode cX1_nearestOffence 10 = .ok (.aload_n 0, 1) := by decide +kernel
theorem dX1_nearestOffence_11 : decode cX1_nearestOffence 11 = .ok (.getfield 46, 3) := by decide +kernel
theorem dX1_nearestOffence_14 : decode cX1_nearestOffence 14 = .ok (.if_icmp .ge 63, 3) := by decide +kernel
theorem dX1_nearestOffence_17 : decode cX1_nearestOffence 17 = .ok (.aload_n 1, 1) := by decide +kernel
theorem dX1_nearestOffence_18 : decode cX1_nearestOffence 18 = .ok (.getfield 88, 3) := by decide +kernel
theorem dX1_nearestOffence_21 : decode cX1_nearestOffence 21 = .ok (.aload_n 1, 1) := by decide +kernel
theorem dX1_nearestOffence_22 : decode cX1_nearestOffence 22 = .ok (.getfield 89, 3) := by decide +kernel
theorem dX1_nearestOffence_25 : decode cX1_nearestOffence 25 = .ok (.aload_n 0, 1) := by decide +kernel
theorem dX1_nearestOffence_26 : decode cX1_nearestOffence 26 = .ok (.getfield 23, 3) := by decide +kernel
theorem dX1_nearestOffence_29 : decode cX1_nearestOffence 29 = .ok (.iload 4, 2) := by decide +kernel
theorem dX1_nearestOffence_31 : decode cX1_nearestOffence 31 = .ok (.aaload, 1) := by decide +kernel
theorem dX1_nearestOffence_32 : decode cX1_nearestOffence 32 = .ok (.getfield 72, 3) := by decide +kernel
theorem dX1_nearestOffence_35 : decode cX1_nearestOffence 35 = .ok (.aload_n 0, 1) := by decide +kernel
theorem dX1_nearestOffence_36 : decode cX1_nearestOffence 36 = .ok (.getfield 23, 3) := by decide +kernel
theorem dX1_nearestOffence_39 : decode cX1_nearestOffence 39 = .ok (.iload 4, 2) := by decide +kernel
theorem dX1_nearestOffence_41 : decode cX1_nearestOffence 41 = .ok (.aaload, 1) := by decide +kernel
theorem dX1_nearestOffence_42 : decode cX1_nearestOffence 42 = .ok (.getfield 75, 3) := by decide +kernel
theorem dX1_nearestOffence_45 : decode cX1_nearestOffence 45 = .ok (.invokestatic 142, 3) := by decide +kernel
theorem dX1_nearestOffence_48 : decode cX1_nearestOffence 48 = .ok (.istore 5, 2) := by decide +kernel
theorem dX1_nearestOffence_50 : decode cX1_nearestOffence 50 = .ok (.iload 5, 2) := by decide +kernel
theorem dX1_nearestOffence_52 : decode cX1_nearestOffence 52 = .ok (.iload_n 3, 1) := by decide +kernel
theorem dX1_nearestOffence_53 : decode cX1_nearestOffence 53 = .ok (.if_icmp .ge 18, 3) := by decide +kernel
theorem dX1_nearestOffence_56 : decode cX1_nearestOffence 56 = .ok (.aload_n 0, 1) := by decide +kernel
theorem dX1_nearestOffence_57 : decode cX1_nearestOffence 57 = .ok (.iload 4, 2) := by decide +kernel
theorem dX1_nearestOffence_59 : decode cX1_nearestOffence 59 = .ok (.invokevirtual 194, 3) := by decide +kernel
theorem dX1_nearestOffence_62 : decode cX1_nearestOffence 62 = .ok (.ifCond .eq 9, 3) := by decide +kernel
theorem dX1_nearestOffence_65 : decode cX1_nearestOffence 65 = .ok (.iload 5, 2) := by decide +kernel
theorem dX1_nearestOffence_67 : decode cX1_nearestOffence 67 = .ok (.istore_n 3, 1) := by decide +kernel
theorem dX1_nearestOffence_68 : decode cX1_nearestOffence 68 = .ok (.iload 4, 2) := by decide +kernel
theorem dX1_nearestOffence_70 : decode cX1_nearestOffence 70 = .ok (.istore_n 2, 1) := by decide +kernel
theorem dX1_nearestOffence_71 : decode cX1_nearestOffence 71 = .ok (.iinc 4 1, 3) := by decide +kernel
theorem dX1_nearestOffence_74 : decode cX1_nearestOffence 74 = .ok (.goto (-66), 3) := by decide +kernel
theorem dX1_nearestOffence_77 : decode cX1_nearestOffence 77 = .ok (.iload_n 2, 1) := by decide +kernel
theorem dX1_nearestOffence_78 : decode cX1_nearestOffence 78 = .ok (.ireturn, 1) := by decide +kernel
theorem far_box {a b x y L : Nat} (ha : a < 9) (hb : b < 9) (hx : x < 9) (hy : y < 9) (hL : L < 5) : nI L < far (nI a) (nI b) (nI x) (nI y) ↔ ¬ (x - L ≤ a ∧ a ≤ x + L ∧ y - L ≤ b ∧ b ≤ y + L) := by
  rw [far_nI (by omega) (by omega) (by omega) (by omega), nI_ltI (by omega) (by unfold dst; omega)]
  unfold dst
  omega
theorem it_skip {f : Nat → Vw → Vw} {v : Vw} {m : Nat} : ∀ {n : Nat}, m ≤ n → (∀ c u, m ≤ c → c < n → f c u = u) → it f n v = it f m v
  | 0, h, _ => by rw [show m = 0 by omega]
  | n + 1, h, q => by
    rcases Nat.lt_or_ge n m with z | z
    · rw [show m = n + 1 by omega]
    · rw [it_s, q n _ z (by omega)]
      exact it_skip z (fun c u a b => q c u a (by omega))
theorem sub_max {x L : Nat} (hx : x < 9) (hL : L < 5) : imax 0 (nI x - nI L) = nI (x - L) := by
  by_cases h : L ≤ x
  · rw [pk_sub h, show (0 : Int32) = nI 0 from rfl, imax_nI (by decide) (by omega)]
    congr 1 <;> omega
  · unfold imax
    rw [if_neg, show x - L = 0 by omega]
    · rfl
    · rw [Int32.lt_iff_toInt_lt, Int32.toInt_zero, pk_sub_toInt (by omega) (by omega)]; omega
theorem add_min {x L : Nat} (hx : x < 9) (hL : L < 5) : imin 8 (nI x + nI L) = nI (min 8 (x + L)) := by
  rw [nI_add, show (8 : Int32) = nI 8 from rfl, imin_nI (by decide) (by omega)]
/-- the step of a cell: outside the box, or the own one: nothing; else eels come -/
theorem lurC_out {own : Nat} {x y L c : Nat} {v : Vw} (hx : x < 9) (hy : y < 9) (hL : L < 5) (hc : c < 81) (h : ¬ (x - L ≤ c % 9 ∧ c % 9 ≤ x + L ∧ y - L ≤ c / 9 ∧ c / 9 ≤ y + L)) : lurC own (nI x) (nI y) (nI L) c v = v := by
  unfold lurC
  rw [if_pos (Or.inr ((far_box (by omega) (by omega) hx hy hL).mpr h))]
theorem lurC_own {own : Nat} {x y lt : Int32} {c : Nat} {v : Vw} (h : c = own) : lurC own x y lt c v = v := by
  unfold lurC
  rw [if_pos (Or.inl h)]
theorem lurC_in {own : Nat} {x y L a b : Nat} {v : Vw} (hx : x < 9) (hy : y < 9) (hL : L < 5) (ha : a < 9) (hb : b < 9) (hne : ¬ 9 * b + a = own) (h : x - L ≤ a ∧ a ≤ x + L ∧ y - L ≤ b ∧ b ≤ y + L) : lurC own (nI x) (nI y) (nI L) (9 * b + a) v = mvc (9 * b + a) own v := by
  unfold lurC
  rw [if_neg]
  rintro (q | q)
  · exact hne q
  · rw [show (9 * b + a) % 9 = a by omega, show (9 * b + a) / 9 = b by omega] at q
    exact (far_box ha hb hx hy hL).mp q h
theorem up2_comm {v : Vw} {c i d j : Nat} {x y : Int32} (h : c ≠ d) : up2 (up2 v c i x) d j y = up2 (up2 v d j y) c i x := by
  funext a b
  unfold up2
  by_cases h1 : a = c ∧ b = i <;> by_cases h2 : a = d ∧ b = j <;> first | (exact absurd (h1.1.symm.trans h2.1) h) | simp [h1, h2, h, Ne.symm h]
set_option maxHeartbeats 4000000 in
set_option maxRecDepth 100000 in
theorem c_moveEels (l : Launch) {g : Gm} (hI : IJ g KK) {M : Mem} {o : Nat → Int64} {r : Nat} (hr : r < 2) {v : Vw} (a b : Nat) (ha : a < 81) (hb9 : b < 81) (hne : ¬ a = b) : MV l yX1_moveEels cX1_moveEels 5 (rm 1 21) g KK (ent g (setR M r v) o) [.ref (ad g (3, r, 0)), .int (nI a), .int (nI b)] (ent g (setR M r (mvc a b v)) o) := by
  refine met_of (by decide +kernel) (Nat.le_of_ble_eq_true rfl) ?_
  intro p e s m below meth c ls hC hr_ hlk hnm hE hP hS hl
  obtain ⟨hx, hb, hml, hown, hG⟩ := id hC
  have hl : lv_has ls 5 [(0, .ref (ad g (3, r, 0))), (1, .int (nI a)), (2, .int (nI b))] := hl
  refine lv_bipush (v := 60) hx hb dX1_moveEels_0 (by decide) ?_
  refine lv_aload_n hx hb dX1_moveEels_2 rfl (lv_at hl 0 rfl) ?_
  refine m_get hC hE hP (k_3 hr) e_3 rfl u_1 0 (by decide) w_114 rfl rfl dX1_moveEels_3 ?_
  refine lv_iload_n hx hb dX1_moveEels_6 rfl (lv_at hl 2 rfl) ?_
  refine m_iald hC hE hP (k_4 hr (by decide)) e_4 b (rfl) (show b < 81 from by omega) (by decide) dX1_moveEels_7 ?_
  refine lv_isub hx hb dX1_moveEels_8 ?_
  refine lv_istore_n (lv' := [(3, .int ((60 : Int32) - (v 0 b))), (0, .ref (ad g (3, r, 0))), (1, .int (nI a)), (2, .int (nI b))]) hx hb dX1_moveEels_9 rfl hl (by decide) rfl (fun ls hl => ?_)
  refine lv_iconst (v := 2) hx hb dX1_moveEels_10 (by decide) ?_
  refine lv_aload_n hx hb dX1_moveEels_11 rfl (lv_at hl 1 rfl) ?_
  refine m_get hC hE hP (k_3 hr) e_3 rfl u_1 0 (by decide) w_114 rfl rfl dX1_moveEels_12 ?_
  refine lv_iload_n hx hb dX1_moveEels_15 rfl (lv_at hl 2 rfl) ?_
  refine m_iald hC hE hP (k_4 hr (by decide)) e_4 a (rfl) (show a < 81 from by omega) (by decide) dX1_moveEels_16 ?_
  refine lv_iload_n hx hb dX1_moveEels_17 rfl (lv_at hl 0 rfl) ?_
  refine m_min hC w_243 w_184 w_14 w_185 hl.1 (by decide) (Nat.le_of_ble_eq_true rfl) (Nat.zero_le _) (Nat.zero_le _) dX1_moveEels_18 ?_
  refine m_top (y := imin (v 0 a) ((60 : Int32) - (v 0 b))) rfl ?_
  refine m_min hC w_243 w_184 w_14 w_185 hl.1 (by decide) (Nat.le_of_ble_eq_true rfl) (Nat.zero_le _) (Nat.zero_le _) dX1_moveEels_21 ?_
  refine m_top (y := imin (2 : Int32) (imin (v 0 a) ((60 : Int32) - (v 0 b)))) rfl ?_
  refine m_top (y := come v a b) (imin_assoc _ _ _) ?_
  refine lv_istore (lv' := [(4, .int (come v a b)), (3, .int ((60 : Int32) - (v 0 b))), (0, .ref (ad g (3, r, 0))), (1, .int (nI a)), (2, .int (nI b))]) hx hb dX1_moveEels_24 hl (by decide) rfl (fun ls hl => ?_)
  refine lv_aload_n hx hb dX1_moveEels_26 rfl (lv_at hl 2 rfl) ?_
  refine m_get hC hE hP (k_3 hr) e_3 rfl u_1 0 (by decide) w_114 rfl rfl dX1_moveEels_27 ?_
  refine lv_iload_n hx hb dX1_moveEels_30 rfl (lv_at hl 3 rfl) ?_
  refine lv_dup2_11 hx hb dX1_moveEels_31 rfl rfl ?_
  refine m_iald hC hE hP (k_4 hr (by decide)) e_4 a (rfl) (show a < 81 from by omega) (by decide) dX1_moveEels_32 ?_
  refine lv_iload hx hb dX1_moveEels_33 (lv_at hl 0 rfl) ?_
  refine lv_isub hx hb dX1_moveEels_35 ?_
  refine m_iast hC hE hI hP hS (k_4 hr (by decide)) e_4 a (rfl) (show a < 81 from by omega) (by decide) p_4 (ent_put g M r v o 0 a ((v 0 a) - (come v a b)) (kf_4 hr (by decide))) dX1_moveEels_36 (fun H locs hP hS => ?_)
  refine lv_aload_n hx hb dX1_moveEels_37 rfl (lv_at hl 2 rfl) ?_
  refine m_get hC hE hP (k_3 hr) e_3 rfl u_1 0 (by decide) w_114 rfl rfl dX1_moveEels_38 ?_
  refine lv_iload_n hx hb dX1_moveEels_41 rfl (lv_at hl 4 rfl) ?_
  refine lv_dup2_11 hx hb dX1_moveEels_42 rfl rfl ?_
  refine m_iald hC hE hP (k_4 hr (by decide)) e_4 b (rfl) (show b < 81 from by omega) (by decide) dX1_moveEels_43 ?_
  refine lv_iload hx hb dX1_moveEels_44 (lv_at hl 0 rfl) ?_
  refine lv_iadd hx hb dX1_moveEels_46 ?_
  refine m_iast hC hE hI hP hS (k_4 hr (by decide)) e_4 b (rfl) (show b < 81 from by omega) (by decide) p_4 (ent_put g M r (up2 v 0 a ((v 0 a) - (come v a b))) o 0 b (((up2 v 0 a ((v 0 a) - (come v a b))) 0 b) + (come v a b)) (kf_4 hr (by decide))) dX1_moveEels_47 (fun H locs hP hS => ?_)
  exact m_vret hC hr_ hlk hS (hP.castR (by unfold mvc; rfl)) dX1_moveEels_48
set_option maxHeartbeats 4000000 in
set_option maxRecDepth 100000 in
theorem c_lure (l : Launch) {g : Gm} (hI : IJ g KK) {M : Mem} {o : Nat → Int64} {r : Nat} (hr : r < 2) {v : Vw} (hv : Inv v) (h X Y L : Nat) (hh : h < nH v) (hX9 : X < 9) (hY9 : Y < 9) (hL5 : L < 5) (eX : v 3 h = nI X) (eY : v 4 h = nI Y) : MV l yX1_lure cX1_lure 10 (rm 2 45) g KK (ent g (setR M r v) o) [.ref (ad g (3, r, 0)), .ref (ad g (0, r, h)), .int (nI L)] (ent g (setR M r (lurA h (nI L) v)) o) := by
  refine met_of (by decide +kernel) (Nat.le_of_ble_eq_true rfl) ?_
  intro p e s m below meth c ls hC hr_ hlk hnm hE hP hS hl
  obtain ⟨hx, hb, hml, hown, hG⟩ := id hC
  have hl : lv_has ls 10 [(0, .ref (ad g (3, r, 0))), (1, .ref (ad g (0, r, h))), (2, .int (nI L))] := hl
  have qH := hv.lH
  have qS := hv.lS
  have qW := hv.lW
  have hh9 : h < 12 := by omega
  have hcl := cl_lt hv hh
  have ecl : cl v h = 9 * Y + X := by unfold cl; rw [eX, eY, nI_clamp (by omega), nI_clamp (by omega)]
  refine lv_aload_n hx hb dX1_lure_0 rfl (lv_at hl 1 rfl) ?_
  refine m_get hC hE hP (k_0 hr (by omega)) e_0 rfl u_0 0 (by decide) w_40 rfl rfl dX1_lure_1 ?_
  refine m_top (y := nI X) (eX) ?_
  refine lv_aload_n hx hb dX1_lure_4 rfl (lv_at hl 1 rfl) ?_
  refine m_get hC hE hP (k_0 hr (by omega)) e_0 rfl u_0 1 (by decide) w_43 rfl rfl dX1_lure_5 ?_
  refine m_top (y := nI Y) (eY) ?_
  refine on_i (run_SN hC hE hP hS (As := [.int (nI X), .int (nI Y)]) (c_cellAt l (nI X) (nI Y)) cal_X4_cellAt n_231 ⟨Nat.le_of_ble_eq_true rfl, Nat.le_of_ble_eq_true rfl⟩ rfl rfl (Nat.le_of_ble_eq_true rfl) hl.1 ⟨Nat.le_of_ble_eq_true rfl, Nat.le_of_ble_eq_true rfl⟩ dX1_lure_8) hS (fun H locs hP hS => ?_)
  refine m_top (y := nI (cl v h)) (by rw [ecl]; exact cell_nI _ _) ?_
  refine lv_istore_n (lv' := [(3, .int (nI (cl v h))), (0, .ref (ad g (3, r, 0))), (1, .ref (ad g (0, r, h))), (2, .int (nI L))]) hx hb dX1_lure_11 rfl hl (by decide) rfl (fun ls hl => ?_)
  refine lv_iconst (v := 0) hx hb dX1_lure_12 (by decide) ?_
  refine lv_aload_n hx hb dX1_lure_13 rfl (lv_at hl 2 rfl) ?_
  refine m_get hC hE hP (k_0 hr (by omega)) e_0 rfl u_0 0 (by decide) w_40 rfl rfl dX1_lure_14 ?_
  refine m_top (y := nI X) (eX) ?_
  refine lv_iload_n hx hb dX1_lure_17 rfl (lv_at hl 3 rfl) ?_
  refine lv_isub hx hb dX1_lure_18 ?_
  refine m_max hC w_242 w_187 w_14 w_188 hl.1 (by decide) (Nat.le_of_ble_eq_true rfl) (Nat.zero_le _) (Nat.zero_le _) dX1_lure_19 ?_
  refine m_top (y := imax (0 : Int32) ((nI X) - (nI L))) rfl ?_
  refine m_top (y := nI (X - L)) (sub_max hX9 hL5) ?_
  refine lv_istore (lv' := [(4, .int (nI (X - L))), (3, .int (nI (cl v h))), (0, .ref (ad g (3, r, 0))), (1, .ref (ad g (0, r, h))), (2, .int (nI L))]) hx hb dX1_lure_22 hl (by decide) rfl (fun ls hl => ?_)
  refine lv_bipush (v := 8) hx hb dX1_lure_24 (by decide) ?_
  refine lv_aload_n hx hb dX1_lure_26 rfl (lv_at hl 3 rfl) ?_
  refine m_get hC hE hP (k_0 hr (by omega)) e_0 rfl u_0 0 (by decide) w_40 rfl rfl dX1_lure_27 ?_
  refine m_top (y := nI X) (eX) ?_
  refine lv_iload_n hx hb dX1_lure_30 rfl (lv_at hl 4 rfl) ?_
  refine lv_iadd hx hb dX1_lure_31 ?_
  refine m_min hC w_243 w_184 w_14 w_185 hl.1 (by decide) (Nat.le_of_ble_eq_true rfl) (Nat.zero_le _) (Nat.zero_le _) dX1_lure_32 ?_
  refine m_top (y := imin (8 : Int32) ((nI X) + (nI L))) rfl ?_
  refine m_top (y := nI (min 8 (X + L))) (add_min hX9 hL5) ?_
  refine lv_istore (lv' := [(5, .int (nI (min 8 (X + L)))), (4, .int (nI (X - L))), (3, .int (nI (cl v h))), (0, .ref (ad g (3, r, 0))), (1, .ref (ad g (0, r, h))), (2, .int (nI L))]) hx hb dX1_lure_35 hl (by decide) rfl (fun ls hl => ?_)
  refine lv_iconst (v := 0) hx hb dX1_lure_37 (by decide) ?_
  refine lv_aload_n hx hb dX1_lure_38 rfl (lv_at hl 4 rfl) ?_
  refine m_get hC hE hP (k_0 hr (by omega)) e_0 rfl u_0 1 (by decide) w_43 rfl rfl dX1_lure_39 ?_
  refine m_top (y := nI Y) (eY) ?_
  refine lv_iload_n hx hb dX1_lure_42 rfl (lv_at hl 5 rfl) ?_
  refine lv_isub hx hb dX1_lure_43 ?_
  refine m_max hC w_242 w_187 w_14 w_188 hl.1 (by decide) (Nat.le_of_ble_eq_true rfl) (Nat.zero_le _) (Nat.zero_le _) dX1_lure_44 ?_
  refine m_top (y := imax (0 : Int32) ((nI Y) - (nI L))) rfl ?_
  refine m_top (y := nI (Y - L)) (sub_max hY9 hL5) ?_
  refine lv_istore (lv' := [(6, .int (nI (Y - L))), (5, .int (nI (min 8 (X + L)))), (4, .int (nI (X - L))), (3, .int (nI (cl v h))), (0, .ref (ad g (3, r, 0))), (1, .ref (ad g (0, r, h))), (2, .int (nI L))]) hx hb dX1_lure_47 hl (by decide) rfl (fun ls hl => ?_)
  refine lv_bipush (v := 8) hx hb dX1_lure_49 (by decide) ?_
  refine lv_aload_n hx hb dX1_lure_51 rfl (lv_at hl 5 rfl) ?_
  refine m_get hC hE hP (k_0 hr (by omega)) e_0 rfl u_0 1 (by decide) w_43 rfl rfl dX1_lure_52 ?_
  refine m_top (y := nI Y) (eY) ?_
  refine lv_iload_n hx hb dX1_lure_55 rfl (lv_at hl 6 rfl) ?_
  refine lv_iadd hx hb dX1_lure_56 ?_
  refine m_min hC w_243 w_184 w_14 w_185 hl.1 (by decide) (Nat.le_of_ble_eq_true rfl) (Nat.zero_le _) (Nat.zero_le _) dX1_lure_57 ?_
  refine m_top (y := imin (8 : Int32) ((nI Y) + (nI L))) rfl ?_
  refine m_top (y := nI (min 8 (Y + L))) (add_min hY9 hL5) ?_
  refine lv_istore (lv' := [(7, .int (nI (min 8 (Y + L)))), (6, .int (nI (Y - L))), (5, .int (nI (min 8 (X + L)))), (4, .int (nI (X - L))), (3, .int (nI (cl v h))), (0, .ref (ad g (3, r, 0))), (1, .ref (ad g (0, r, h))), (2, .int (nI L))]) hx hb dX1_lure_60 hl (by decide) rfl (fun ls hl => ?_)
  refine lv_iload hx hb dX1_lure_62 (lv_at hl 1 rfl) ?_
  refine lv_istore (lv' := [(8, .int (nI (Y - L))), (7, .int (nI (min 8 (Y + L)))), (6, .int (nI (Y - L))), (5, .int (nI (min 8 (X + L)))), (4, .int (nI (X - L))), (3, .int (nI (cl v h))), (0, .ref (ad g (3, r, 0))), (1, .ref (ad g (0, r, h))), (2, .int (nI L))]) hx hb dX1_lure_64 hl (by decide) rfl (fun ls hl => ?_)
  refine lp_W (i0 := (Y - L)) (min 8 (Y + L) + 1) (fun i => ent g (setR M r (it (lurC (cl v h) (nI X) (nI Y) (nI L)) (9 * i) v)) o) (fun i => [(8, .int (nI i)), (7, .int (nI (min 8 (Y + L)))), (6, .int (nI (Y - L))), (5, .int (nI (min 8 (X + L)))), (4, .int (nI (X - L))), (3, .int (nI (cl v h))), (0, .ref (ad g (3, r, 0))), (1, .ref (ad g (0, r, h))), (2, .int (nI L))]) (fun i => Y - L ≤ i) (by omega) (hP.castR ((it_skip (m := 0) (Nat.zero_le _) (fun c u _ hc => lurC_out hX9 hY9 hL5 (by omega) (by omega))))) hS (lv_sub hl [0, 1, 2, 3, 4, 5, 6, 7, 8] rfl) (Nat.le_refl _) (fun H locs ls hP hS hl J => ?_) (fun i hi IH H locs ls hP hS hl J => ?_)
  · refine lv_iload hx hb dX1_lure_66 (lv_at hl 0 rfl) ?_
    refine lv_iload hx hb dX1_lure_68 (lv_at hl 1 rfl) ?_
    refine lv_icmp_gt (tgt := 119) hx hb dX1_lure_70 (by decide) (fun c1 => ?_) (fun c1 => absurd (nI_lt (by omega) (by omega)) c1)
    exact m_vret hC hr_ hlk hS (hP.castR (by unfold lurA; rw [eX, eY]; exact it_skip (m := 9 * (min 8 (Y + L) + 1)) (by omega) (fun c u hc1 hc => lurC_out hX9 hY9 hL5 (by omega) (by omega)))) dX1_lure_119
  · refine lv_iload hx hb dX1_lure_66 (lv_at hl 0 rfl) ?_
    refine lv_iload hx hb dX1_lure_68 (lv_at hl 1 rfl) ?_
    refine lv_icmp_gt (tgt := 119) hx hb dX1_lure_70 (by decide) (fun c2 => absurd c2 (nI_nlt (by omega) (by omega))) (fun c2 => ?_)
    refine lv_iload hx hb dX1_lure_73 (lv_at hl 4 rfl) ?_
    refine lv_istore (lv' := [(9, .int (nI (X - L))), (8, .int (nI i)), (7, .int (nI (min 8 (Y + L)))), (6, .int (nI (Y - L))), (5, .int (nI (min 8 (X + L)))), (4, .int (nI (X - L))), (3, .int (nI (cl v h))), (0, .ref (ad g (3, r, 0))), (1, .ref (ad g (0, r, h))), (2, .int (nI L))]) hx hb dX1_lure_75 hl (by decide) rfl (fun ls hl => ?_)
    refine lp_W (i0 := (X - L)) (min 8 (X + L) + 1) (fun j => ent g (setR M r (it (lurC (cl v h) (nI X) (nI Y) (nI L)) (9 * i + j) v)) o) (fun j => [(9, .int (nI j)), (8, .int (nI i)), (7, .int (nI (min 8 (Y + L)))), (6, .int (nI (Y - L))), (5, .int (nI (min 8 (X + L)))), (4, .int (nI (X - L))), (3, .int (nI (cl v h))), (0, .ref (ad g (3, r, 0))), (1, .ref (ad g (0, r, h))), (2, .int (nI L))]) (fun j => X - L ≤ j) (by omega) (hP.castR ((it_skip (m := 9 * i) (by omega) (fun c u hc1 hc => lurC_out hX9 hY9 hL5 (by omega) (by omega))))) hS (lv_sub hl [0, 1, 2, 3, 4, 5, 6, 7, 8, 9] rfl) (Nat.le_refl _) (fun H locs ls hP hS hl J => ?_) (fun j hj IH2 H locs ls hP hS hl J => ?_)
    · refine lv_iload hx hb dX1_lure_77 (lv_at hl 0 rfl) ?_
      refine lv_iload hx hb dX1_lure_79 (lv_at hl 4 rfl) ?_
      refine lv_icmp_gt (tgt := 113) hx hb dX1_lure_81 (by decide) (fun c3 => ?_) (fun c3 => absurd (nI_lt (by omega) (by omega)) c3)
      refine lv_iinc (v := nI (i + 1)) (lv' := [(8, .int (nI (i + 1))), (9, .int (nI (min 8 (X + L) + 1))), (7, .int (nI (min 8 (Y + L)))), (6, .int (nI (Y - L))), (5, .int (nI (min 8 (X + L)))), (4, .int (nI (X - L))), (3, .int (nI (cl v h))), (0, .ref (ad g (3, r, 0))), (1, .ref (ad g (0, r, h))), (2, .int (nI L))]) hx hb dX1_lure_113 hl (k := 1) rfl (nI_1 _) (by decide) rfl (fun ls hl => ?_)
      refine lv_goto (tgt := 66) hx hb dX1_lure_116 (by decide) ?_
      exact IH H locs ls (hP.castR ((it_skip (m := 9 * i + (min 8 (X + L) + 1)) (by omega) (fun c u hc1 hc => lurC_out hX9 hY9 hL5 (by omega) (by omega))))) hS (lv_sub hl [0, 2, 3, 4, 5, 6, 7, 8, 9] rfl) (by omega)
    · refine lv_iload hx hb dX1_lure_77 (lv_at hl 0 rfl) ?_
      refine lv_iload hx hb dX1_lure_79 (lv_at hl 4 rfl) ?_
      refine lv_icmp_gt (tgt := 113) hx hb dX1_lure_81 (by decide) (fun c4 => absurd c4 (nI_nlt (by omega) (by omega))) (fun c4 => ?_)
      refine lv_iload hx hb dX1_lure_84 (lv_at hl 0 rfl) ?_
      refine lv_iload hx hb dX1_lure_86 (lv_at hl 1 rfl) ?_
      refine on_i (run_SN hC hE hP hS (As := [.int (nI j), .int (nI i)]) (c_cellAt l (nI j) (nI i)) cal_X4_cellAt n_231 ⟨Nat.le_of_ble_eq_true rfl, Nat.le_of_ble_eq_true rfl⟩ rfl rfl (Nat.le_of_ble_eq_true rfl) hl.1 ⟨Nat.le_of_ble_eq_true rfl, Nat.le_of_ble_eq_true rfl⟩ dX1_lure_88) hS (fun H locs hP hS => ?_)
      refine m_top (y := nI (9 * i + j)) (cell_nI _ _) ?_
      refine lv_iload_n hx hb dX1_lure_91 rfl (lv_at hl 6 rfl) ?_
      refine lv_icmp_eq (tgt := 107) hx hb dX1_lure_92 (by decide) (fun c1 => ?_) (fun c1 => ?_)
      · have c1 := (nI_eq (by omega) (by omega)).mp c1
        refine lv_iinc (v := nI (j + 1)) (lv' := [(9, .int (nI (j + 1))), (8, .int (nI i)), (7, .int (nI (min 8 (Y + L)))), (6, .int (nI (Y - L))), (5, .int (nI (min 8 (X + L)))), (4, .int (nI (X - L))), (3, .int (nI (cl v h))), (0, .ref (ad g (3, r, 0))), (1, .ref (ad g (0, r, h))), (2, .int (nI L))]) hx hb dX1_lure_107 hl (k := 0) rfl (nI_1 _) (by decide) rfl (fun ls hl => ?_)
        refine lv_goto (tgt := 77) hx hb dX1_lure_110 (by decide) ?_
        exact IH2 H locs ls (hP.castR (lurC_own c1)) hS (lv_sub hl [0, 1, 2, 3, 4, 5, 6, 7, 8, 9] rfl) (by omega)
      · have c1 : ¬ 9 * i + j = cl v h := fun q => c1 (by rw [q])
        refine lv_aload_n hx hb dX1_lure_95 rfl (lv_at hl 7 rfl) ?_
        refine lv_iload hx hb dX1_lure_96 (lv_at hl 0 rfl) ?_
        refine lv_iload hx hb dX1_lure_98 (lv_at hl 1 rfl) ?_
        refine on_i (run_SN hC hE hP hS (As := [.int (nI j), .int (nI i)]) (c_cellAt l (nI j) (nI i)) cal_X4_cellAt n_231 ⟨Nat.le_of_ble_eq_true rfl, Nat.le_of_ble_eq_true rfl⟩ rfl rfl (Nat.le_of_ble_eq_true rfl) hl.1 ⟨Nat.le_of_ble_eq_true rfl, Nat.le_of_ble_eq_true rfl⟩ dX1_lure_100) hS (fun H locs hP hS => ?_)
        refine m_top (y := nI (9 * i + j)) (cell_nI _ _) ?_
        refine lv_iload_n hx hb dX1_lure_103 rfl (lv_at hl 6 rfl) ?_
        refine on_v (run_V hC hE hP hS (As := [.int (nI (9 * i + j)), .int (nI (cl v h))]) (c_moveEels l hI hr (v := it (lurC (cl v h) (nI X) (nI Y) (nI L)) (9 * i + j) v) (9 * i + j) (cl v h) (by omega) (by omega) c1) cal_X1_moveEels w_524 ⟨Nat.le_of_ble_eq_true rfl, Nat.le_of_ble_eq_true rfl⟩ (k_3 hr) e_3 rfl rfl rfl (Nat.le_of_ble_eq_true rfl) hl.1 ⟨Nat.le_of_ble_eq_true rfl, Nat.le_of_ble_eq_true rfl⟩ dX1_lure_104) hS (fun H locs hP hS => ?_)
        refine lv_iinc (v := nI (j + 1)) (lv' := [(9, .int (nI (j + 1))), (8, .int (nI i)), (7, .int (nI (min 8 (Y + L)))), (6, .int (nI (Y - L))), (5, .int (nI (min 8 (X + L)))), (4, .int (nI (X - L))), (3, .int (nI (cl v h))), (0, .ref (ad g (3, r, 0))), (1, .ref (ad g (0, r, h))), (2, .int (nI L))]) hx hb dX1_lure_107 hl (k := 0) rfl (nI_1 _) (by decide) rfl (fun ls hl => ?_)
        refine lv_goto (tgt := 77) hx hb dX1_lure_110 (by decide) ?_
        exact IH2 H locs ls (hP.castR (lurC_in hX9 hY9 hL5 (by omega) (by omega) c1 (by omega))) hS (lv_sub hl [0, 1, 2, 3, 4, 5, 6, 7, 8, 9] rfl) (by omega)
theorem lure_at {l : Launch} {g : Gm} (hI : IJ g KK) {M : Mem} {o : Nat → Int64} {r : Nat} (hr : r < 2) {v : Vw} (hv : Inv v) {k : Nat} (hk : k < nS v) {h : Nat} (hh : h < nH v) : MV l yX1_lure cX1_lure 10 (rm 2 45) g KK (ent g (setR M r v) o) [.ref (ad g (3, r, 0)), .ref (ad g (0, r, h)), .int (v 7 k)] (ent g (setR M r (lurA h (v 7 k) v)) o) := by
  obtain ⟨L, hL, eL⟩ := (hv.hS k hk).2.1
  obtain ⟨X, hX, eX⟩ := (hv.hH h hh).1
  obtain ⟨Y, hY, eY⟩ := (hv.hH h hh).2.1
  rw [eL]
  exact c_lure l hI hr hv h X Y L hh hX hY hL eX eY
set_option maxHeartbeats 4000000 in
set_option maxRecDepth 100000 in
theorem c_lightLamps (l : Launch) {g : Gm} (hI : IJ g KK) {M : Mem} {o : Nat → Int64} {r : Nat} (hr : r < 2) {v : Vw} (hv : Inv v) : MV l yX1_lightLamps cX1_lightLamps 3 (rm 3 74) g KK (ent g (setR M r v) o) [.ref (ad g (3, r, 0))] (ent g (setR M r (lam v)) o) := by
  refine met_of (by decide +kernel) (Nat.le_of_ble_eq_true rfl) ?_
  intro p e s m below meth c ls hC hr_ hlk hnm hE hP hS hl
  obtain ⟨hx, hb, hml, hown, hG⟩ := id hC
  have hl : lv_has ls 3 [(0, .ref (ad g (3, r, 0)))] := hl
  have qH := hv.lH
  have qS := hv.lS
  have qW := hv.lW
  refine lv_iconst (v := 0) hx hb dX1_lightLamps_0 (by decide) ?_
  refine lv_istore_n (lv' := [(1, .int ((0 : Int32))), (0, .ref (ad g (3, r, 0)))]) hx hb dX1_lightLamps_1 rfl hl (by decide) rfl (fun ls hl => ?_)
  refine lp_W (i0 := 0) (nS v) (fun i => ent g (setR M r (it lur i v)) o) (fun i => [(1, .int (nI i)), (0, .ref (ad g (3, r, 0)))]) (fun i => True) (Nat.zero_le _) (hP.castR (rfl)) hS (lv_sub hl [0, 1] rfl) (trivial) (fun H locs ls hP hS hl J => ?_) (fun i hi IH H locs ls hP hS hl J => ?_)
  · refine lv_iload_n hx hb dX1_lightLamps_2 rfl (lv_at hl 0 rfl) ?_
    refine lv_aload_n hx hb dX1_lightLamps_3 rfl (lv_at hl 1 rfl) ?_
    refine m_get hC hE hP (k_3 hr) e_3 rfl u_1 7 (by decide) w_128 rfl rfl dX1_lightLamps_4 ?_
    refine m_top (y := nI (nS v)) ((it_keep (fun _ _ => lur_ne (by decide)) _ _).trans hv.eS) ?_
    refine lv_icmp_ge (tgt := 51) hx hb dX1_lightLamps_7 (by decide) (fun c1 => ?_) (fun c1 => absurd (nI_le (Nat.le_refl _) (by omega)) c1)
    exact m_vret hC hr_ hlk hS (hP.castR (rfl)) dX1_lightLamps_51
  · have hi1 : Inv (it lur i v) := (lamI_inv hv i (by omega)).1
    have hk1 : i < nS (it lur i v) := by rw [(lamI_inv hv i (by omega)).2]; exact hi
    have qH1 := hi1.lH
    refine lv_iload_n hx hb dX1_lightLamps_2 rfl (lv_at hl 0 rfl) ?_
    refine lv_aload_n hx hb dX1_lightLamps_3 rfl (lv_at hl 1 rfl) ?_
    refine m_get hC hE hP (k_3 hr) e_3 rfl u_1 7 (by decide) w_128 rfl rfl dX1_lightLamps_4 ?_
    refine m_top (y := nI (nS v)) ((it_keep (fun _ _ => lur_ne (by decide)) _ _).trans hv.eS) ?_
    refine lv_icmp_ge (tgt := 51) hx hb dX1_lightLamps_7 (by decide) (fun c2 => absurd c2 (nI_ge hi (by omega))) (fun c2 => ?_)
    refine lv_aload_n hx hb dX1_lightLamps_10 rfl (lv_at hl 1 rfl) ?_
    refine m_get hC hE hP (k_3 hr) e_3 rfl u_1 4 (by decide) w_122 rfl rfl dX1_lightLamps_11 ?_
    refine lv_iload_n hx hb dX1_lightLamps_14 rfl (lv_at hl 0 rfl) ?_
    refine m_aald hC hE hP (k_6 hr) f_6 rfl i (rfl) (by omega) (by decide) rfl dX1_lightLamps_15 ?_
    refine lv_astore_n (lv' := [(2, .ref (ad g (1, r, i))), (1, .int (nI i)), (0, .ref (ad g (3, r, 0)))]) hx hb dX1_lightLamps_16 rfl hl (by decide) rfl (fun ls hl => ?_)
    refine lv_aload_n hx hb dX1_lightLamps_17 rfl (lv_at hl 2 rfl) ?_
    refine lv_aload_n hx hb dX1_lightLamps_18 rfl (lv_at hl 0 rfl) ?_
    refine m_get hC hE hP (k_1 hr (by omega)) e_1 rfl u_2 2 (by decide) w_68 rfl rfl dX1_lightLamps_19 ?_
    refine on_i (run_V hC hE hP hS (As := [.int ((it lur i v) 8 i)]) (c_hasHole l hI hr (v := it lur i v) ((it lur i v) 8 i)) cal_X1_hasHole w_519 ⟨Nat.le_of_ble_eq_true rfl, Nat.le_of_ble_eq_true rfl⟩ (k_3 hr) e_3 rfl rfl rfl (Nat.le_of_ble_eq_true rfl) hl.1 ⟨Nat.le_of_ble_eq_true rfl, Nat.le_of_ble_eq_true rfl⟩ dX1_lightLamps_22) hS (fun H locs hP hS => ?_)
    refine lv_if_eq (tgt := 45) hx hb dX1_lightLamps_25 (by decide) (fun c1 => ?_) (fun c1 => ?_)
    · have c1 := b2i_f c1
      have hn := has_no hi1 hk1 c1
      refine lv_iinc (v := nI (i + 1)) (lv' := [(1, .int (nI (i + 1))), (2, .ref (ad g (1, r, i))), (0, .ref (ad g (3, r, 0)))]) hx hb dX1_lightLamps_45 hl (k := 1) rfl (nI_1 _) (by decide) rfl (fun ls hl => ?_)
      refine lv_goto (tgt := 2) hx hb dX1_lightLamps_48 (by decide) ?_
      exact IH H locs ls (hP.castR (if_pos hn)) hS (lv_sub hl [0, 2] rfl) (trivial)
    · have c1 := b2i_t c1
      have hn := has_iff hi1 hk1 c1
      have hz := hol_of hi1 hk1 hn
      refine lv_aload_n hx hb dX1_lightLamps_28 rfl (lv_at hl 2 rfl) ?_
      refine lv_aload_n hx hb dX1_lightLamps_29 rfl (lv_at hl 2 rfl) ?_
      refine m_get hC hE hP (k_3 hr) e_3 rfl u_1 3 (by decide) w_120 rfl rfl dX1_lightLamps_30 ?_
      refine lv_aload_n hx hb dX1_lightLamps_33 rfl (lv_at hl 0 rfl) ?_
      refine m_get hC hE hP (k_1 hr (by omega)) e_1 rfl u_2 2 (by decide) w_68 rfl rfl dX1_lightLamps_34 ?_
      refine m_aald hC hE hP (k_5 hr) f_5 rfl (hol (it lur i v) i) (hz.1) (by omega) (by decide) rfl dX1_lightLamps_37 ?_
      refine lv_aload_n hx hb dX1_lightLamps_38 rfl (lv_at hl 0 rfl) ?_
      refine m_get hC hE hP (k_1 hr (by omega)) e_1 rfl u_2 1 (by decide) w_65 rfl rfl dX1_lightLamps_39 ?_
      refine on_v (run_V hC hE hP hS (As := [.ref (ad g (0, r, (hol (it lur i v) i))), .int ((it lur i v) 7 i)]) (lure_at (l := l) hI hr hi1 (k := i) hk1 hz.2) cal_X1_lure w_520 ⟨Nat.le_of_ble_eq_true rfl, Nat.le_of_ble_eq_true rfl⟩ (k_3 hr) e_3 rfl rfl rfl (Nat.le_of_ble_eq_true rfl) hl.1 ⟨Nat.le_of_ble_eq_true rfl, Nat.le_of_ble_eq_true rfl⟩ dX1_lightLamps_42) hS (fun H locs hP hS => ?_)
      refine lv_iinc (v := nI (i + 1)) (lv' := [(1, .int (nI (i + 1))), (2, .ref (ad g (1, r, i))), (0, .ref (ad g (3, r, 0)))]) hx hb dX1_lightLamps_45 hl (k := 1) rfl (nI_1 _) (by decide) rfl (fun ls hl => ?_)
      refine lv_goto (tgt := 2) hx hb dX1_lightLamps_48 (by decide) ?_
      exact IH H locs ls (hP.castR (if_neg hn)) hS (lv_sub hl [0, 2] rfl) (trivial)
theorem spr0_inv {v : Vw} {k : Nat} (hv : Inv v) : Inv (up2 v 9 k 0) := by
  refine hv.step (up2_c (by decide)) (up2_c (by decide)) (up2_c (by decide)) (fun _ => up2_c (by decide)) (fun _ => up2_c (by decide)) (fun _ _ => Or.inl (up2_c (by decide))) (fun _ => up2_c (by decide)) (fun _ => up2_c (by decide)) (fun _ _ => Or.inl (up2_c (by decide))) (fun i hi => ?_) (fun w hw => ⟨by rw [up2_c (by decide)]; exact (hv.hW w hw).1, by rw [up2_c (by decide)]; exact (hv.hW w hw).2⟩) (fun c hc => by unfold IC; rw [up2_c (by decide)]; exact hv.hC c hc)
  by_cases h : i = k
  · subst h; rw [up2_same]; exact ⟨0, by omega, rfl⟩
  · rw [up2_i h]; exact (hv.hS i hi).2.2.2
set_option maxHeartbeats 4000000 in
set_option maxRecDepth 100000 in
theorem c_spearEels (l : Launch) {g : Gm} (hI : IJ g KK) {M : Mem} {o : Nat → Int64} {r : Nat} (hr : r < 2) {v : Vw} (hv : Inv v) : MV l yX1_spearEels cX1_spearEels 5 (rm 2 43) g KK (ent g (setR M r v) o) [.ref (ad g (3, r, 0))] (ent g (setR M r (spe v)) o) := by
  refine met_of (by decide +kernel) (Nat.le_of_ble_eq_true rfl) ?_
  intro p e s m below meth c ls hC hr_ hlk hnm hE hP hS hl
  obtain ⟨hx, hb, hml, hown, hG⟩ := id hC
  have hl : lv_has ls 5 [(0, .ref (ad g (3, r, 0)))] := hl
  have qH := hv.lH
  have qS := hv.lS
  have qW := hv.lW
  refine lv_iconst (v := 0) hx hb dX1_spearEels_0 (by decide) ?_
  refine lv_istore_n (lv' := [(1, .int ((0 : Int32))), (0, .ref (ad g (3, r, 0)))]) hx hb dX1_spearEels_1 rfl hl (by decide) rfl (fun ls hl => ?_)
  refine lp_W (i0 := 0) (nS v) (fun i => ent g (setR M r (it spr i v)) o) (fun i => [(1, .int (nI i)), (0, .ref (ad g (3, r, 0)))]) (fun i => True) (Nat.zero_le _) (hP.castR (rfl)) hS (lv_sub hl [0, 1] rfl) (trivial) (fun H locs ls hP hS hl J => ?_) (fun i hi IH H locs ls hP hS hl J => ?_)
  · refine lv_iload_n hx hb dX1_spearEels_2 rfl (lv_at hl 0 rfl) ?_
    refine lv_aload_n hx hb dX1_spearEels_3 rfl (lv_at hl 1 rfl) ?_
    refine m_get hC hE hP (k_3 hr) e_3 rfl u_1 7 (by decide) w_128 rfl rfl dX1_spearEels_4 ?_
    refine m_top (y := nI (nS v)) ((it_keep (fun _ _ => spr_ne (by decide) (by decide)) _ _).trans hv.eS) ?_
    refine lv_icmp_ge (tgt := 86) hx hb dX1_spearEels_7 (by decide) (fun c1 => ?_) (fun c1 => absurd (nI_le (Nat.le_refl _) (by omega)) c1)
    exact m_vret hC hr_ hlk hS (hP.castR (rfl)) dX1_spearEels_86
  · have hi1 : Inv (it spr i v) := (speI_inv hv i (by omega)).1
    have hk1 : i < nS (it spr i v) := by rw [(speI_inv hv i (by omega)).2]; exact hi
    have qH1 := hi1.lH
    refine lv_iload_n hx hb dX1_spearEels_2 rfl (lv_at hl 0 rfl) ?_
    refine lv_aload_n hx hb dX1_spearEels_3 rfl (lv_at hl 1 rfl) ?_
    refine m_get hC hE hP (k_3 hr) e_3 rfl u_1 7 (by decide) w_128 rfl rfl dX1_spearEels_4 ?_
    refine m_top (y := nI (nS v)) ((it_keep (fun _ _ => spr_ne (by decide) (by decide)) _ _).trans hv.eS) ?_
    refine lv_icmp_ge (tgt := 86) hx hb dX1_spearEels_7 (by decide) (fun c2 => absurd c2 (nI_ge hi (by omega))) (fun c2 => ?_)
    refine lv_aload_n hx hb dX1_spearEels_10 rfl (lv_at hl 1 rfl) ?_
    refine m_get hC hE hP (k_3 hr) e_3 rfl u_1 4 (by decide) w_122 rfl rfl dX1_spearEels_11 ?_
    refine lv_iload_n hx hb dX1_spearEels_14 rfl (lv_at hl 0 rfl) ?_
    refine m_aald hC hE hP (k_6 hr) f_6 rfl i (rfl) (by omega) (by decide) rfl dX1_spearEels_15 ?_
    refine lv_astore_n (lv' := [(2, .ref (ad g (1, r, i))), (1, .int (nI i)), (0, .ref (ad g (3, r, 0)))]) hx hb dX1_spearEels_16 rfl hl (by decide) rfl (fun ls hl => ?_)
    refine lv_aload_n hx hb dX1_spearEels_17 rfl (lv_at hl 0 rfl) ?_
    refine lv_iconst (v := 0) hx hb dX1_spearEels_18 (by decide) ?_
    refine m_put hC hE hI hP hS (k_1 hr (by omega)) e_1 rfl u_2 tyX2_ok nmX2 3 (by decide) w_71 rfl rfl rfl rfl (Nat.le_of_ble_eq_true rfl) p_1_3 (ent_put g M r (it spr i v) o 9 i (0 : Int32) (kf_1 hr (by decide) (by decide))) dX1_spearEels_19 (fun H locs hP hS => ?_)
    refine lv_aload_n hx hb dX1_spearEels_22 rfl (lv_at hl 2 rfl) ?_
    refine lv_aload_n hx hb dX1_spearEels_23 rfl (lv_at hl 0 rfl) ?_
    refine m_get hC hE hP (k_1 hr (by omega)) e_1 rfl u_2 2 (by decide) w_68 rfl rfl dX1_spearEels_24 ?_
    refine m_top (y := it spr i v 8 i) (by simp [up2]) ?_
    refine on_i (run_V hC hE hP hS (As := [.int (it spr i v 8 i)]) (c_hasHole l hI hr (v := up2 (it spr i v) 9 i (0 : Int32)) (it spr i v 8 i)) cal_X1_hasHole w_519 ⟨Nat.le_of_ble_eq_true rfl, Nat.le_of_ble_eq_true rfl⟩ (k_3 hr) e_3 rfl rfl rfl (Nat.le_of_ble_eq_true rfl) hl.1 ⟨Nat.le_of_ble_eq_true rfl, Nat.le_of_ble_eq_true rfl⟩ dX1_spearEels_27) hS (fun H locs hP hS => ?_)
    refine m_top (y := b2i (isIn (it spr i v 8 i) 0 (it spr i v 16 0 - 1))) (by simp [up2]) ?_
    refine lv_if_eq (tgt := 80) hx hb dX1_spearEels_30 (by decide) (fun c1 => ?_) (fun c1 => ?_)
    · have c1 := b2i_f c1
      have hn := has_no hi1 hk1 c1
      refine lv_iinc (v := nI (i + 1)) (lv' := [(1, .int (nI (i + 1))), (2, .ref (ad g (1, r, i))), (0, .ref (ad g (3, r, 0)))]) hx hb dX1_spearEels_80 hl (k := 1) rfl (nI_1 _) (by decide) rfl (fun ls hl => ?_)
      refine lv_goto (tgt := 2) hx hb dX1_spearEels_83 (by decide) ?_
      exact IH H locs ls (hP.castR (if_pos hn)) hS (lv_sub hl [0, 2] rfl) (trivial)
    · have c1 := b2i_t c1
      have hn := has_iff hi1 hk1 c1
      have hz := hol_of hi1 hk1 hn
      have hcl := cl_lt hi1 hz.2
      have hi2 : Inv (up2 (it spr i v) 9 i 0) := spr0_inv hi1
      refine lv_aload_n hx hb dX1_spearEels_33 rfl (lv_at hl 2 rfl) ?_
      refine m_get hC hE hP (k_3 hr) e_3 rfl u_1 3 (by decide) w_120 rfl rfl dX1_spearEels_34 ?_
      refine lv_aload_n hx hb dX1_spearEels_37 rfl (lv_at hl 0 rfl) ?_
      refine m_get hC hE hP (k_1 hr (by omega)) e_1 rfl u_2 2 (by decide) w_68 rfl rfl dX1_spearEels_38 ?_
      refine m_top (y := it spr i v 8 i) (by simp [up2]) ?_
      refine m_aald hC hE hP (k_5 hr) f_5 rfl (hol (it spr i v) i) (hz.1) (by omega) (by decide) rfl dX1_spearEels_41 ?_
      refine lv_astore_n (lv' := [(3, .ref (ad g (0, r, (hol (it spr i v) i)))), (2, .ref (ad g (1, r, i))), (1, .int (nI i)), (0, .ref (ad g (3, r, 0)))]) hx hb dX1_spearEels_42 rfl hl (by decide) rfl (fun ls hl => ?_)
      refine lv_aload_n hx hb dX1_spearEels_43 rfl (lv_at hl 0 rfl) ?_
      refine m_get hC hE hP (k_0 hr (by omega)) e_0 rfl u_0 0 (by decide) w_40 rfl rfl dX1_spearEels_44 ?_
      refine lv_aload_n hx hb dX1_spearEels_47 rfl (lv_at hl 0 rfl) ?_
      refine m_get hC hE hP (k_0 hr (by omega)) e_0 rfl u_0 1 (by decide) w_43 rfl rfl dX1_spearEels_48 ?_
      refine on_i (run_SN hC hE hP hS (As := [.int ((up2 (it spr i v) 9 i (0 : Int32)) 3 (hol (it spr i v) i)), .int ((up2 (it spr i v) 9 i (0 : Int32)) 4 (hol (it spr i v) i))]) (c_cellAt l ((up2 (it spr i v) 9 i (0 : Int32)) 3 (hol (it spr i v) i)) ((up2 (it spr i v) 9 i (0 : Int32)) 4 (hol (it spr i v) i))) cal_X4_cellAt n_231 ⟨Nat.le_of_ble_eq_true rfl, Nat.le_of_ble_eq_true rfl⟩ rfl rfl (Nat.le_of_ble_eq_true rfl) hl.1 ⟨Nat.le_of_ble_eq_true rfl, Nat.le_of_ble_eq_true rfl⟩ dX1_spearEels_51) hS (fun H locs hP hS => ?_)
      refine m_top (y := nI (cl (it spr i v) (hol (it spr i v) i))) (by simp only [up2_c (show (4:Nat) ≠ 9 by decide), up2_c (show (3:Nat) ≠ 9 by decide)]; exact cl_eq hi1 hz.2) ?_
      refine lv_istore (lv' := [(4, .int (nI (cl (it spr i v) (hol (it spr i v) i)))), (3, .ref (ad g (0, r, (hol (it spr i v) i)))), (2, .ref (ad g (1, r, i))), (1, .int (nI i)), (0, .ref (ad g (3, r, 0)))]) hx hb dX1_spearEels_54 hl (by decide) rfl (fun ls hl => ?_)
      refine lv_aload_n hx hb dX1_spearEels_56 rfl (lv_at hl 2 rfl) ?_
      refine lv_aload_n hx hb dX1_spearEels_57 rfl (lv_at hl 4 rfl) ?_
      refine lv_iload hx hb dX1_spearEels_58 (lv_at hl 0 rfl) ?_
      refine on_i (run_V hC hE hP hS (As := [.int (nI (cl (it spr i v) (hol (it spr i v) i)))]) (c_catchIn l hI hr hi2 (cl (it spr i v) (hol (it spr i v) i)) (by omega)) cal_X1_catchIn w_238 ⟨Nat.le_of_ble_eq_true rfl, Nat.le_of_ble_eq_true rfl⟩ (k_3 hr) e_3 rfl rfl rfl (Nat.le_of_ble_eq_true rfl) hl.1 ⟨Nat.le_of_ble_eq_true rfl, Nat.le_of_ble_eq_true rfl⟩ dX1_spearEels_60) hS (fun H locs hP hS => ?_)
      refine m_top (y := would (it spr i v) (cl (it spr i v) (hol (it spr i v) i))) (by simp [would, up2]) ?_
      refine m_put hC hE hI hP hS (k_1 hr (by omega)) e_1 rfl u_2 tyX2_ok nmX2 3 (by decide) w_71 rfl rfl rfl rfl (Nat.le_of_ble_eq_true rfl) p_1_3 (ent_put g M r (up2 (it spr i v) 9 i (0 : Int32)) o 9 i (would (it spr i v) (cl (it spr i v) (hol (it spr i v) i))) (kf_1 hr (by decide) (by decide))) dX1_spearEels_63 (fun H locs hP hS => ?_)
      refine lv_aload_n hx hb dX1_spearEels_66 rfl (lv_at hl 4 rfl) ?_
      refine m_get hC hE hP (k_3 hr) e_3 rfl u_1 0 (by decide) w_114 rfl rfl dX1_spearEels_67 ?_
      refine lv_iload hx hb dX1_spearEels_70 (lv_at hl 0 rfl) ?_
      refine lv_dup2_11 hx hb dX1_spearEels_72 rfl rfl ?_
      refine m_iald hC hE hP (k_4 hr (by decide)) e_4 (cl (it spr i v) (hol (it spr i v) i)) (rfl) (show (cl (it spr i v) (hol (it spr i v) i)) < 81 from by omega) (by decide) dX1_spearEels_73 ?_
      refine lv_aload_n hx hb dX1_spearEels_74 rfl (lv_at hl 2 rfl) ?_
      refine m_get hC hE hP (k_1 hr (by omega)) e_1 rfl u_2 3 (by decide) w_71 rfl rfl dX1_spearEels_75 ?_
      refine lv_isub hx hb dX1_spearEels_78 ?_
      refine m_iast hC hE hI hP hS (k_4 hr (by decide)) e_4 (cl (it spr i v) (hol (it spr i v) i)) (rfl) (show (cl (it spr i v) (hol (it spr i v) i)) < 81 from by omega) (by decide) p_4 (ent_put g M r (up2 (up2 (it spr i v) 9 i (0 : Int32)) 9 i (would (it spr i v) (cl (it spr i v) (hol (it spr i v) i)))) o 0 (cl (it spr i v) (hol (it spr i v) i)) (((up2 (up2 (it spr i v) 9 i (0 : Int32)) 9 i (would (it spr i v) (cl (it spr i v) (hol (it spr i v) i)))) 0 (cl (it spr i v) (hol (it spr i v) i))) - ((up2 (up2 (it spr i v) 9 i (0 : Int32)) 9 i (would (it spr i v) (cl (it spr i v) (hol (it spr i v) i)))) 9 i)) (kf_4 hr (by decide))) dX1_spearEels_79 (fun H locs hP hS => ?_)
      refine lv_iinc (v := nI (i + 1)) (lv' := [(1, .int (nI (i + 1))), (4, .int (nI (cl (it spr i v) (hol (it spr i v) i)))), (3, .ref (ad g (0, r, (hol (it spr i v) i)))), (2, .ref (ad g (1, r, i))), (0, .ref (ad g (3, r, 0)))]) hx hb dX1_spearEels_80 hl (k := 3) rfl (nI_1 _) (by decide) rfl (fun ls hl => ?_)
      refine lv_goto (tgt := 2) hx hb dX1_spearEels_83 (by decide) ?_
      exact IH H locs ls (hP.castR ((if_neg hn).trans (by simp [up2, would]))) hS (lv_sub hl [0, 4] rfl) (trivial)
set_option maxHeartbeats 4000000 in
set_option maxRecDepth 100000 in
theorem c_hasOffender (l : Launch) {g : Gm} (hI : IJ g KK) {M : Mem} {o : Nat → Int64} {r : Nat} (hr : r < 2) {v : Vw} (hv : Inv v) (h : Nat) : MI l yX1_hasOffender cX1_hasOffender 3 .boolean (rm 1 20) g KK (ent g (setR M r v) o) [.ref (ad g (3, r, 0)), .int (nI h)] (b2i (anyB (ovr v h) (nS v))) (ent g (setR M r v) o) := by
  refine met_of (by decide +kernel) (Nat.le_of_ble_eq_true rfl) ?_
  intro p e s m below meth c ls hC hr_ hlk hnm hE hP hS hl
  obtain ⟨hx, hb, hml, hown, hG⟩ := id hC
  have hl : lv_has ls 3 [(0, .ref (ad g (3, r, 0))), (1, .int (nI h))] := hl
  have qH := hv.lH
  have qS := hv.lS
  have qW := hv.lW
  refine lv_iconst (v := 0) hx hb dX1_hasOffender_0 (by decide) ?_
  refine lv_istore_n (lv' := [(2, .int ((0 : Int32))), (0, .ref (ad g (3, r, 0))), (1, .int (nI h))]) hx hb dX1_hasOffender_1 rfl hl (by decide) rfl (fun ls hl => ?_)
  refine lp_W (i0 := 0) (nS v) (fun i => ent g (setR M r v) o) (fun i => [(2, .int (nI i)), (0, .ref (ad g (3, r, 0))), (1, .int (nI h))]) (fun i => ∀ j, j < i → ovr v h j = false) (Nat.zero_le _) (hP.castR (rfl)) hS (lv_sub hl [0, 1, 2] rfl) (fun j h => absurd h (Nat.not_lt_zero _)) (fun H locs ls hP hS hl J => ?_) (fun i hi IH H locs ls hP hS hl J => ?_)
  · refine lv_iload_n hx hb dX1_hasOffender_2 rfl (lv_at hl 0 rfl) ?_
    refine lv_aload_n hx hb dX1_hasOffender_3 rfl (lv_at hl 1 rfl) ?_
    refine m_get hC hE hP (k_3 hr) e_3 rfl u_1 7 (by decide) w_128 rfl rfl dX1_hasOffender_4 ?_
    refine m_top (y := nI (nS v)) (hv.eS) ?_
    refine lv_icmp_ge (tgt := 43) hx hb dX1_hasOffender_7 (by decide) (fun c1 => ?_) (fun c1 => absurd (nI_le (Nat.le_refl _) (by omega)) c1)
    refine lv_iconst (v := 0) hx hb dX1_hasOffender_43 (by decide) ?_
    exact m_iret hC hr_ hlk hS (hP.castR (rfl)) (by first | rfl | exact nar_b _) (by rw [anyB_no J]; rfl) dX1_hasOffender_44
  · refine lv_iload_n hx hb dX1_hasOffender_2 rfl (lv_at hl 0 rfl) ?_
    refine lv_aload_n hx hb dX1_hasOffender_3 rfl (lv_at hl 1 rfl) ?_
    refine m_get hC hE hP (k_3 hr) e_3 rfl u_1 7 (by decide) w_128 rfl rfl dX1_hasOffender_4 ?_
    refine m_top (y := nI (nS v)) (hv.eS) ?_
    refine lv_icmp_ge (tgt := 43) hx hb dX1_hasOffender_7 (by decide) (fun c2 => absurd c2 (nI_ge hi (by omega))) (fun c2 => ?_)
    refine lv_aload_n hx hb dX1_hasOffender_10 rfl (lv_at hl 1 rfl) ?_
    refine m_get hC hE hP (k_3 hr) e_3 rfl u_1 4 (by decide) w_122 rfl rfl dX1_hasOffender_11 ?_
    refine lv_iload_n hx hb dX1_hasOffender_14 rfl (lv_at hl 0 rfl) ?_
    refine m_aald hC hE hP (k_6 hr) f_6 rfl i (rfl) (by omega) (by decide) rfl dX1_hasOffender_15 ?_
    refine m_get hC hE hP (k_1 hr (by omega)) e_1 rfl u_2 2 (by decide) w_68 rfl rfl dX1_hasOffender_16 ?_
    refine lv_iload_n hx hb dX1_hasOffender_19 rfl (lv_at hl 2 rfl) ?_
    refine lv_icmp_ne (tgt := 37) hx hb dX1_hasOffender_20 (by decide) (fun c1 => ?_) (fun c1 => ?_)
    · refine lv_iinc (v := nI (i + 1)) (lv' := [(2, .int (nI (i + 1))), (0, .ref (ad g (3, r, 0))), (1, .int (nI h))]) hx hb dX1_hasOffender_37 hl (k := 0) rfl (nI_1 _) (by decide) rfl (fun ls hl => ?_)
      refine lv_goto (tgt := 2) hx hb dX1_hasOffender_40 (by decide) ?_
      exact IH H locs ls (hP.castR (rfl)) hS (lv_sub hl [0, 1, 2] rfl) (lt_s J (by first | (simp [ovr, c1]; done) | (unfold ovr; rw [c2, Bool.and_false]; done)))
    · refine lv_aload_n hx hb dX1_hasOffender_23 rfl (lv_at hl 1 rfl) ?_
      refine m_get hC hE hP (k_3 hr) e_3 rfl u_1 4 (by decide) w_122 rfl rfl dX1_hasOffender_24 ?_
      refine lv_iload_n hx hb dX1_hasOffender_27 rfl (lv_at hl 0 rfl) ?_
      refine m_aald hC hE hP (k_6 hr) f_6 rfl i (rfl) (by omega) (by decide) rfl dX1_hasOffender_28 ?_
      refine on_i (run_V hC hE hP hS (As := []) (c_tookTooMuch l hI hr (v := v) i (by omega)) cal_X2_tookTooMuch w_544 ⟨Nat.le_of_ble_eq_true rfl, Nat.le_of_ble_eq_true rfl⟩ (k_1 hr (by omega)) e_1 rfl rfl rfl (Nat.le_of_ble_eq_true rfl) hl.1 ⟨Nat.le_of_ble_eq_true rfl, Nat.le_of_ble_eq_true rfl⟩ dX1_hasOffender_29) hS (fun H locs hP hS => ?_)
      refine lv_if_eq (tgt := 37) hx hb dX1_hasOffender_32 (by decide) (fun c2 => ?_) (fun c2 => ?_)
      · have c2 := b2i_f c2
        refine lv_iinc (v := nI (i + 1)) (lv' := [(2, .int (nI (i + 1))), (0, .ref (ad g (3, r, 0))), (1, .int (nI h))]) hx hb dX1_hasOffender_37 hl (k := 0) rfl (nI_1 _) (by decide) rfl (fun ls hl => ?_)
        refine lv_goto (tgt := 2) hx hb dX1_hasOffender_40 (by decide) ?_
        exact IH H locs ls (hP.castR (rfl)) hS (lv_sub hl [0, 1, 2] rfl) (lt_s J (by first | (simp [ovr, c1]; done) | (unfold ovr; rw [c2, Bool.and_false]; done)))
      · have c2 := b2i_t c2
        refine lv_iconst (v := 1) hx hb dX1_hasOffender_35 (by decide) ?_
        exact m_iret hC hr_ hlk hS (hP.castR (rfl)) (by first | rfl | exact nar_b _) (by rw [anyB_yes hi (show ovr v h i = true from by unfold ovr; rw [c2, decide_eq_true c1]; rfl)]; rfl) dX1_hasOffender_36
set_option maxHeartbeats 4000000 in
set_option maxRecDepth 100000 in
theorem c_nearestOffence (l : Launch) {g : Gm} (hI : IJ g KK) {M : Mem} {o : Nat → Int64} {r : Nat} (hr : r < 2) {v : Vw} (hv : Inv v) (w : Nat) (hw : w < 3) : MI l yX1_nearestOffence cX1_nearestOffence 6 .int (rm 2 44) g KK (ent g (setR M r v) o) [.ref (ad g (3, r, 0)), .ref (ad g (2, r, w))] (gol v w) (ent g (setR M r v) o) := by
  refine met_of (by decide +kernel) (Nat.le_of_ble_eq_true rfl) ?_
  intro p e s m below meth c ls hC hr_ hlk hnm hE hP hS hl
  obtain ⟨hx, hb, hml, hown, hG⟩ := id hC
  have hl : lv_has ls 6 [(0, .ref (ad g (3, r, 0))), (1, .ref (ad g (2, r, w)))] := hl
  have qH := hv.lH
  have qS := hv.lS
  have qW := hv.lW
  refine lv_iconst (v := (-1)) hx hb dX1_nearestOffence_0 (by decide) ?_
  refine lv_istore_n (lv' := [(2, .int ((-1 : Int32))), (0, .ref (ad g (3, r, 0))), (1, .ref (ad g (2, r, w)))]) hx hb dX1_nearestOffence_1 rfl hl (by decide) rfl (fun ls hl => ?_)
  refine lv_bipush (v := 9) hx hb dX1_nearestOffence_2 (by decide) ?_
  refine lv_istore_n (lv' := [(3, .int ((9 : Int32))), (2, .int ((-1 : Int32))), (0, .ref (ad g (3, r, 0))), (1, .ref (ad g (2, r, w)))]) hx hb dX1_nearestOffence_4 rfl hl (by decide) rfl (fun ls hl => ?_)
  refine lv_iconst (v := 0) hx hb dX1_nearestOffence_5 (by decide) ?_
  refine lv_istore (lv' := [(4, .int ((0 : Int32))), (3, .int ((9 : Int32))), (2, .int ((-1 : Int32))), (0, .ref (ad g (3, r, 0))), (1, .ref (ad g (2, r, w)))]) hx hb dX1_nearestOffence_6 hl (by decide) rfl (fun ls hl => ?_)
  refine lp_W (i0 := 0) (nH v) (fun i => ent g (setR M r v) o) (fun i => [(4, .int (nI i)), (3, .int ((it (golS v w) i (-1, 9)).2)), (2, .int ((it (golS v w) i (-1, 9)).1)), (0, .ref (ad g (3, r, 0))), (1, .ref (ad g (2, r, w)))]) (fun i => True) (Nat.zero_le _) (hP.castR (rfl)) hS (lv_sub hl [0, 1, 2, 3, 4] rfl) (trivial) (fun H locs ls hP hS hl J => ?_) (fun i hi IH H locs ls hP hS hl J => ?_)
  · refine lv_iload hx hb dX1_nearestOffence_8 (lv_at hl 0 rfl) ?_
    refine lv_aload_n hx hb dX1_nearestOffence_10 rfl (lv_at hl 3 rfl) ?_
    refine m_get hC hE hP (k_3 hr) e_3 rfl u_1 6 (by decide) w_126 rfl rfl dX1_nearestOffence_11 ?_
    refine m_top (y := nI (nH v)) (hv.eH) ?_
    refine lv_icmp_ge (tgt := 77) hx hb dX1_nearestOffence_14 (by decide) (fun c1 => ?_) (fun c1 => absurd (nI_le (Nat.le_refl _) (by omega)) c1)
    refine lv_iload_n hx hb dX1_nearestOffence_77 rfl (lv_at hl 2 rfl) ?_
    exact m_iret hC hr_ hlk hS (hP.castR (rfl)) rfl (rfl) dX1_nearestOffence_78
  · refine lv_iload hx hb dX1_nearestOffence_8 (lv_at hl 0 rfl) ?_
    refine lv_aload_n hx hb dX1_nearestOffence_10 rfl (lv_at hl 3 rfl) ?_
    refine m_get hC hE hP (k_3 hr) e_3 rfl u_1 6 (by decide) w_126 rfl rfl dX1_nearestOffence_11 ?_
    refine m_top (y := nI (nH v)) (hv.eH) ?_
    refine lv_icmp_ge (tgt := 77) hx hb dX1_nearestOffence_14 (by decide) (fun c2 => absurd c2 (nI_ge hi (by omega))) (fun c2 => ?_)
    refine lv_aload_n hx hb dX1_nearestOffence_17 rfl (lv_at hl 4 rfl) ?_
    refine m_get hC hE hP (k_2 hr (by omega)) e_2 rfl u_3 0 (by decide) w_98 rfl rfl dX1_nearestOffence_18 ?_
    refine lv_aload_n hx hb dX1_nearestOffence_21 rfl (lv_at hl 4 rfl) ?_
    refine m_get hC hE hP (k_2 hr (by omega)) e_2 rfl u_3 1 (by decide) w_100 rfl rfl dX1_nearestOffence_22 ?_
    refine lv_aload_n hx hb dX1_nearestOffence_25 rfl (lv_at hl 3 rfl) ?_
    refine m_get hC hE hP (k_3 hr) e_3 rfl u_1 3 (by decide) w_120 rfl rfl dX1_nearestOffence_26 ?_
    refine lv_iload hx hb dX1_nearestOffence_29 (lv_at hl 0 rfl) ?_
    refine m_aald hC hE hP (k_5 hr) f_5 rfl i (rfl) (by omega) (by decide) rfl dX1_nearestOffence_31 ?_
    refine m_get hC hE hP (k_0 hr (by omega)) e_0 rfl u_0 0 (by decide) w_40 rfl rfl dX1_nearestOffence_32 ?_
    refine lv_aload_n hx hb dX1_nearestOffence_35 rfl (lv_at hl 3 rfl) ?_
    refine m_get hC hE hP (k_3 hr) e_3 rfl u_1 3 (by decide) w_120 rfl rfl dX1_nearestOffence_36 ?_
    refine lv_iload hx hb dX1_nearestOffence_39 (lv_at hl 0 rfl) ?_
    refine m_aald hC hE hP (k_5 hr) f_5 rfl i (rfl) (by omega) (by decide) rfl dX1_nearestOffence_41 ?_
    refine m_get hC hE hP (k_0 hr (by omega)) e_0 rfl u_0 1 (by decide) w_43 rfl rfl dX1_nearestOffence_42 ?_
    refine on_i (run_SN hC hE hP hS (As := [.int (v 12 w), .int (v 13 w), .int (v 3 i), .int (v 4 i)]) (c_distance l (v 12 w) (v 13 w) (v 3 i) (v 4 i)) cal_X4_distance n_256 ⟨Nat.le_of_ble_eq_true rfl, Nat.le_of_ble_eq_true rfl⟩ rfl rfl (Nat.le_of_ble_eq_true rfl) hl.1 ⟨Nat.le_of_ble_eq_true rfl, Nat.le_of_ble_eq_true rfl⟩ dX1_nearestOffence_45) hS (fun H locs hP hS => ?_)
    refine m_top (y := farW v w i) (rfl) ?_
    refine lv_istore (lv' := [(5, .int (farW v w i)), (4, .int (nI i)), (3, .int ((it (golS v w) i (-1, 9)).2)), (2, .int ((it (golS v w) i (-1, 9)).1)), (0, .ref (ad g (3, r, 0))), (1, .ref (ad g (2, r, w)))]) hx hb dX1_nearestOffence_48 hl (by decide) rfl (fun ls hl => ?_)
    refine lv_iload hx hb dX1_nearestOffence_50 (lv_at hl 0 rfl) ?_
    refine lv_iload_n hx hb dX1_nearestOffence_52 rfl (lv_at hl 2 rfl) ?_
    refine lv_icmp_ge (tgt := 71) hx hb dX1_nearestOffence_53 (by decide) (fun c1 => ?_) (fun c1 => ?_)
    · refine lv_iinc (v := nI (i + 1)) (lv' := [(4, .int (nI (i + 1))), (5, .int (farW v w i)), (3, .int ((it (golS v w) i (-1, 9)).2)), (2, .int ((it (golS v w) i (-1, 9)).1)), (0, .ref (ad g (3, r, 0))), (1, .ref (ad g (2, r, w)))]) hx hb dX1_nearestOffence_71 hl (k := 1) rfl (nI_1 _) (by decide) rfl (fun ls hl => ?_)
      refine lv_goto (tgt := 8) hx hb dX1_nearestOffence_74 (by decide) ?_
      exact IH H locs ls (hP.castR (rfl)) hS (by show lv_has ls _ [(4, .int (nI (i + 1))), (3, .int ((it (golS v w) (i + 1) (-1, 9)).2)), (2, .int ((it (golS v w) (i + 1) (-1, 9)).1)), (0, .ref (ad g (3, r, 0))), (1, .ref (ad g (2, r, w)))]; rw [show (it (golS v w) (i + 1) (-1, 9)).2 = (it (golS v w) i (-1, 9)).2 from by first | (rw [it_s]; exact congrArg Prod.snd (if_neg (fun q => Int32.not_lt.mpr c1 q.2))) | (rw [it_s]; exact congrArg Prod.snd (if_neg (fun q => by rw [c2] at q; exact absurd q.1 (by decide)))) | (rw [it_s]; exact congrArg Prod.snd (if_pos ⟨c2, Int32.not_le.mp c1⟩)), show (it (golS v w) (i + 1) (-1, 9)).1 = (it (golS v w) i (-1, 9)).1 from by first | (rw [it_s]; exact congrArg Prod.fst (if_neg (fun q => Int32.not_lt.mpr c1 q.2))) | (rw [it_s]; exact congrArg Prod.fst (if_neg (fun q => by rw [c2] at q; exact absurd q.1 (by decide)))) | (rw [it_s]; exact congrArg Prod.fst (if_pos ⟨c2, Int32.not_le.mp c1⟩))]; exact lv_sub hl [0, 2, 3, 4, 5] rfl) (trivial)
    · refine lv_aload_n hx hb dX1_nearestOffence_56 rfl (lv_at hl 4 rfl) ?_
      refine lv_iload hx hb dX1_nearestOffence_57 (lv_at hl 1 rfl) ?_
      refine on_i (run_V hC hE hP hS (As := [.int (nI i)]) (c_hasOffender l hI hr hv i) cal_X1_hasOffender w_540 ⟨Nat.le_of_ble_eq_true rfl, Nat.le_of_ble_eq_true rfl⟩ (k_3 hr) e_3 rfl rfl rfl (Nat.le_of_ble_eq_true rfl) hl.1 ⟨Nat.le_of_ble_eq_true rfl, Nat.le_of_ble_eq_true rfl⟩ dX1_nearestOffence_59) hS (fun H locs hP hS => ?_)
      refine lv_if_eq (tgt := 71) hx hb dX1_nearestOffence_62 (by decide) (fun c2 => ?_) (fun c2 => ?_)
      · have c2 := b2i_f c2
        refine lv_iinc (v := nI (i + 1)) (lv' := [(4, .int (nI (i + 1))), (5, .int (farW v w i)), (3, .int ((it (golS v w) i (-1, 9)).2)), (2, .int ((it (golS v w) i (-1, 9)).1)), (0, .ref (ad g (3, r, 0))), (1, .ref (ad g (2, r, w)))]) hx hb dX1_nearestOffence_71 hl (k := 1) rfl (nI_1 _) (by decide) rfl (fun ls hl => ?_)
        refine lv_goto (tgt := 8) hx hb dX1_nearestOffence_74 (by decide) ?_
        exact IH H locs ls (hP.castR (rfl)) hS (by show lv_has ls _ [(4, .int (nI (i + 1))), (3, .int ((it (golS v w) (i + 1) (-1, 9)).2)), (2, .int ((it (golS v w) (i + 1) (-1, 9)).1)), (0, .ref (ad g (3, r, 0))), (1, .ref (ad g (2, r, w)))]; rw [show (it (golS v w) (i + 1) (-1, 9)).2 = (it (golS v w) i (-1, 9)).2 from by first | (rw [it_s]; exact congrArg Prod.snd (if_neg (fun q => Int32.not_lt.mpr c1 q.2))) | (rw [it_s]; exact congrArg Prod.snd (if_neg (fun q => by rw [c2] at q; exact absurd q.1 (by decide)))) | (rw [it_s]; exact congrArg Prod.snd (if_pos ⟨c2, Int32.not_le.mp c1⟩)), show (it (golS v w) (i + 1) (-1, 9)).1 = (it (golS v w) i (-1, 9)).1 from by first | (rw [it_s]; exact congrArg Prod.fst (if_neg (fun q => Int32.not_lt.mpr c1 q.2))) | (rw [it_s]; exact congrArg Prod.fst (if_neg (fun q => by rw [c2] at q; exact absurd q.1 (by decide)))) | (rw [it_s]; exact congrArg Prod.fst (if_pos ⟨c2, Int32.not_le.mp c1⟩))]; exact lv_sub hl [0, 2, 3, 4, 5] rfl) (trivial)
      · have c2 := b2i_t c2
        refine lv_iload hx hb dX1_nearestOffence_65 (lv_at hl 0 rfl) ?_
        refine lv_istore_n (lv' := [(3, .int (farW v w i)), (5, .int (farW v w i)), (4, .int (nI i)), (2, .int ((it (golS v w) i (-1, 9)).1)), (0, .ref (ad g (3, r, 0))), (1, .ref (ad g (2, r, w)))]) hx hb dX1_nearestOffence_67 rfl hl (by decide) rfl (fun ls hl => ?_)
        refine lv_iload hx hb dX1_nearestOffence_68 (lv_at hl 2 rfl) ?_
        refine lv_istore_n (lv' := [(2, .int (nI i)), (3, .int (farW v w i)), (5, .int (farW v w i)), (4, .int (nI i)), (0, .ref (ad g (3, r, 0))), (1, .ref (ad g (2, r, w)))]) hx hb dX1_nearestOffence_70 rfl hl (by decide) rfl (fun ls hl => ?_)
        refine lv_iinc (v := nI (i + 1)) (lv' := [(4, .int (nI (i + 1))), (2, .int (nI i)), (3, .int (farW v w i)), (5, .int (farW v w i)), (0, .ref (ad g (3, r, 0))), (1, .ref (ad g (2, r, w)))]) hx hb dX1_nearestOffence_71 hl (k := 3) rfl (nI_1 _) (by decide) rfl (fun ls hl => ?_)
        refine lv_goto (tgt := 8) hx hb dX1_nearestOffence_74 (by decide) ?_
        exact IH H locs ls (hP.castR (rfl)) hS (by show lv_has ls _ [(4, .int (nI (i + 1))), (3, .int ((it (golS v w) (i + 1) (-1, 9)).2)), (2, .int ((it (golS v w) (i + 1) (-1, 9)).1)), (0, .ref (ad g (3, r, 0))), (1, .ref (ad g (2, r, w)))]; rw [show (it (golS v w) (i + 1) (-1, 9)).2 = farW v w i from by first | (rw [it_s]; exact congrArg Prod.snd (if_neg (fun q => Int32.not_lt.mpr c1 q.2))) | (rw [it_s]; exact congrArg Prod.snd (if_neg (fun q => by rw [c2] at q; exact absurd q.1 (by decide)))) | (rw [it_s]; exact congrArg Prod.snd (if_pos ⟨c2, Int32.not_le.mp c1⟩)), show (it (golS v w) (i + 1) (-1, 9)).1 = nI i from by first | (rw [it_s]; exact congrArg Prod.fst (if_neg (fun q => Int32.not_lt.mpr c1 q.2))) | (rw [it_s]; exact congrArg Prod.fst (if_neg (fun q => by rw [c2] at q; exact absurd q.1 (by decide)))) | (rw [it_s]; exact congrArg Prod.fst (if_pos ⟨c2, Int32.not_le.mp c1⟩))]; exact lv_sub hl [0, 2, 1, 4, 5] rfl) (trivial)
end
section
/-! the lake: wardens, keeping, breeding, freezing, nights -/
theorem dX1_fineAllAt_0 : decode cX1_fineAllAt 0 = .ok (.aload_n 0, 1) := by decide +kernel
theorem dX1_fineAllAt_1 : decode cX1_fineAllAt 1 = .ok (.getfield 23, 3) := by decide +kernel
theorem dX1_fineAllAt_4 : decode cX1_fineAllAt 4 = .ok (.iload_n 1, 1) := by decide +kernel
theorem dX1_fineAllAt_5 : decode cX1_fineAllAt 5 = .ok (.aaload, 1) := by decide +kernel
theorem dX1_fineAllAt_6 : decode cX1_fineAllAt 6 = .ok (.getfield 72, 3) := by decide +kernel
theorem dX1_fineAllAt_9 : decode cX1_fineAllAt 9 = .ok (.aload_n 0, 1) := by decide +kernel
theorem dX1_fineAllAt_10 : decode cX1_fineAllAt 10 = .ok (.getfield 23, 3) := by decide +kernel
theorem dX1_fineAllAt_13 : decode cX1_fineAllAt 13 = .ok (.iload_n 1, 1) := by decide +kernel
theorem dX1_fineAllAt_14 : decode cX1_fineAllAt 14 = .ok (.aaload, 1) := by decide +kernel
theorem dX1_fineAllAt_15 : decode cX1_fineAllAt 15 = .ok (.getfield 75, 3) := by decide +kernel
theorem dX1_fineAllAt_18 : decode cX1_fineAllAt 18 = .ok (.invokestatic 105, 3) := by decide +kernel
theorem dX1_fineAllAt_21 : decode cX1_fineAllAt 21 = .ok (.istore_n 3, 1) := by decide +kernel
theorem dX1_fineAllAt_22 : decode cX1_fineAllAt 22 = .ok (.iconst 0, 1) := by decide +kernel
theorem dX1_fineAllAt_23 : decode cX1_fineAllAt 23 = .ok (.istore 4, 2) := by decide +kernel
theorem dX1_fineAllAt_25 : decode cX1_fineAllAt 25 = .ok (.iload 4, 2) := by decide +kernel
theorem dX1_fineAllAt_27 : decode cX1_fineAllAt 27 = .ok (.aload_n 0, 1) := by decide +kernel
theorem dX1_fineAllAt_28 : decode cX1_fineAllAt 28 = .ok (.getfield 53, 3) := by decide +kernel
theorem dX1_fineAllAt_31 : decode cX1_fineAllAt 31 = .ok (.if_icmp .ge 99, 3) := by decide +kernel
theorem dX1_fineAllAt_34 : decode cX1_fineAllAt 34 = .ok (.aload_n 0, 1) := by decide +kernel
theorem dX1_fineAllAt_35 : decode cX1_fineAllAt 35 = .ok (.getfield 30, 3) := by decide +kernel
theorem dX1_fineAllAt_38 : decode cX1_fineAllAt 38 = .ok (.iload 4, 2) := by decide +kernel
theorem dX1_fineAllAt_40 : decode cX1_fineAllAt 40 = .ok (.aaload, 1) := by decide +kernel
theorem dX1_fineAllAt_41 : decode cX1_fineAllAt 41 = .ok (.astore 5, 2) := by decide +kernel
theorem dX1_fineAllAt_43 : decode cX1_fineAllAt 43 = .ok (.aload 5, 2) := by decide +kernel
theorem dX1_fineAllAt_45 : decode cX1_fineAllAt 45 = .ok (.getfield 139, 3) := by decide +kernel
theorem dX1_fineAllAt_48 : decode cX1_fineAllAt 48 = .ok (.iload_n 1, 1) := by decide +kernel
theorem dX1_fineAllAt_49 : decode cX1_fineAllAt 49 = .ok (.if_icmp .ne 75, 3) := by decide +kernel
theorem dX1_fineAllAt_52 : decode cX1_fineAllAt 52 = .ok (.aload 5, 2) := by decide +kernel
theorem dX1_fineAllAt_54 : decode cX1_fineAllAt 54 = .ok (.invokevirtual 197, 3) := by decide +kernel
theorem dX1_fineAllAt_57 : decode cX1_fineAllAt 57 = .ok (.ifCond .eq 67, 3) := by decide +kernel
theorem dX1_fineAllAt_60 : decode cX1_fineAllAt 60 = .ok (.aload 5, 2) := by decide +kernel
theorem dX1_fineAllAt_62 : decode cX1_fineAllAt 62 = .ok (.getfield 180, 3) := by decide +kernel
theorem dX1_fineAllAt_65 : decode cX1_fineAllAt 65 = .ok (.aload 5, 2) := by decide +kernel
theorem dX1_fineAllAt_67 : decode cX1_fineAllAt 67 = .ok (.getfield 82, 3) := by decide +kernel
theorem dX1_fineAllAt_70 : decode cX1_fineAllAt 70 = .ok (.isub, 1) := by decide +kernel
theorem dX1_fineAllAt_71 : decode cX1_fineAllAt 71 = .ok (.istore 6, 2) := by decide +kernel
theorem dX1_fineAllAt_73 : decode cX1_fineAllAt 73 = .ok (.aload 5, 2) := by decide +kernel
theorem dX1_fineAllAt_75 : decode cX1_fineAllAt 75 = .ok (.aload 5, 2) := by decide +kernel
theorem dX1_fineAllAt_77 : decode cX1_fineAllAt 77 = .ok (.getfield 82, 3) := by decide +kernel
theorem dX1_fineAllAt_80 : decode cX1_fineAllAt 80 = .ok (.putfield 180, 3) := by decide +kernel
theorem dX1_fineAllAt_83 : decode cX1_fineAllAt 83 = .ok (.aload 5, 2) := by decide +kernel
theorem dX1_fineAllAt_85 : decode cX1_fineAllAt 85 = .ok (.dup, 1) := by decide +kernel
theorem dX1_fineAllAt_86 : decode cX1_fineAllAt 86 = .ok (.getfield 148, 3) := by decide +kernel
theorem dX1_fineAllAt_89 : decode cX1_fineAllAt 89 = .ok (.iconst 1, 1) := by decide +kernel
theorem dX1_fineAllAt_90 : decode cX1_fineAllAt 90 = .ok (.iadd, 1) := by decide +kernel
theorem dX1_fineAllAt_91 : decode cX1_fineAllAt 91 = .ok (.putfield 148, 3) := by decide +kernel
theorem dX1_fineAllAt_94 : decode cX1_fineAllAt 94 = .ok (.aload_n 2, 1) := by decide +kernel
theorem dX1_fineAllAt_95 : decode cX1_fineAllAt 95 = .ok (.dup, 1) := by decide +kernel
theorem dX1_fineAllAt_96 : decode cX1_fineAllAt 96 = .ok (.getfield 201, 3) := by decide +kernel
theorem dX1_fineAllAt_99 : decode cX1_fineAllAt 99 = .ok (.iconst 1, 1) := by decide +kernel
theorem dX1_fineAllAt_100 : decode cX1_fineAllAt 100 = .ok (.iadd, 1) := by decide +kernel
theorem dX1_fineAllAt_101 : decode cX1_fineAllAt 101 = .ok (.putfield 201, 3) := by decide +kernel
theorem dX1_fineAllAt_104 : decode cX1_fineAllAt 104 = .ok (.aload_n 0, 1) := by decide +kernel
theorem dX1_fineAllAt_105 : decode cX1_fineAllAt 105 = .ok (.getfield 9, 3) := by decide +kernel
theorem dX1_fineAllAt_108 : decode cX1_fineAllAt 108 = .ok (.iload_n 3, 1) := by decide +kernel
theorem dX1_fineAllAt_109 : decode cX1_fineAllAt 109 = .ok (.bipush 60, 2) := by decide +kernel
theorem dX1_fineAllAt_111 : decode cX1_fineAllAt 111 = .ok (.aload_n 0, 1) := by decide +kernel
theorem dX1_fineAllAt_112 : decode cX1_fineAllAt 112 = .ok (.getfield 9, 3) := by decide +kernel
theorem dX1_fineAllAt_115 : decode cX1_fineAllAt 115 = .ok (.iload_n 3, 1) := by decide +kernel
theorem dX1_fineAllAt_116 : decode cX1_fineAllAt 116 = .ok (.iaload, 1) := by decide +kernel
theorem dX1_fineAllAt_117 : decode cX1_fineAllAt 117 = .ok (.iload 6, 2) := by decide +kernel
theorem dX1_fineAllAt_119 : decode cX1_fineAllAt 119 = .ok (.iadd, 1) := by decide +kernel
theorem dX1_fineAllAt_120 : decode cX1_fineAllAt 120 = .ok (.invokestatic 102, 3) := by decide +kernel
theorem dX1_fineAllAt_123 : decode cX1_fineAllAt 123 = .ok (.iastore, 1) := by decide +kernel
theorem dX1_fineAllAt_124 : decode cX1_fineAllAt 124 = .ok (.iinc 4 1, 3) := by decide +kernel
theorem dX1_fineAllAt_127 : decode cX1_fineAllAt 127 = .ok (.goto (-102), 3) := by decide +kernel
theorem dX1_fineAllAt_130 : decode cX1_fineAllAt 130 = .ok (.return_, 1) := by decide +kernel
theorem dX1_sendWardens_0 : decode cX1_sendWardens 0 = .ok (.iconst 0, 1) := by decide +kernel
theorem dX1_sendWardens_1 : decode cX1_sendWardens 1 = .ok (.istore_n 1, 1) := by decide +kernel
theorem dX1_sendWardens_2 : decode cX1_sendWardens 2 = .ok (.iload_n 1, 1) := by decide +kernel
theorem dX1_sendWardens_3 : decode cX1_sendWardens 3 = .ok (.aload_n 0, 1) := by decide +kernel
theorem dX1_sendWardens_4 : decode cX1_sendWardens 4 = .ok (.getfield 59, 3) := by decide +kernel
theorem dX1_sendWardens_7 : decode cX1_sendWardens 7 = .ok (.if_icmp .ge 74, 3) := by decide +kernel
theorem dX1_sendWardens_10 : decode cX1_sendWardens 10 = .ok (.aload_n 0, 1) := by decide +kernel
theorem dX1_sendWardens_11 : decode cX1_sendWardens 11 = .ok (.getfield 37, 3) := by decide +kernel
theorem dX1_sendWardens_14 : decode cX1_sendWardens 14 = .ok (.iload_n 1, 1) := by decide +kernel
theorem dX1_sendWardens_15 : decode cX1_sendWardens 15 = .ok (.aaload, 1) := by decide +kernel
theorem dX1_sendWardens_16 : decode cX1_sendWardens 16 = .ok (.astore_n 2, 1) := by decide +kernel
theorem dX1_sendWardens_17 : decode cX1_sendWardens 17 = .ok (.aload_n 0, 1) := by decide +kernel
theorem dX1_sendWardens_18 : decode cX1_sendWardens 18 = .ok (.aload_n 2, 1) := by decide +kernel
theorem dX1_sendWardens_19 : decode cX1_sendWardens 19 = .ok (.invokevirtual 183, 3) := by decide +kernel
theorem dX1_sendWardens_22 : decode cX1_sendWardens 22 = .ok (.istore_n 3, 1) := by decide +kernel
theorem dX1_sendWardens_23 : decode cX1_sendWardens 23 = .ok (.aload_n 0, 1) := by decide +kernel
theorem dX1_sendWardens_24 : decode cX1_sendWardens 24 = .ok (.iload_n 3, 1) := by decide +kernel
theorem dX1_sendWardens_25 : decode cX1_sendWardens 25 = .ok (.invokevirtual 169, 3) := by decide +kernel
theorem dX1_sendWardens_28 : decode cX1_sendWardens 28 = .ok (.ifCond .eq 47, 3) := by decide +kernel
theorem dX1_sendWardens_31 : decode cX1_sendWardens 31 = .ok (.aload_n 0, 1) := by decide +kernel
theorem dX1_sendWardens_32 : decode cX1_sendWardens 32 = .ok (.getfield 23, 3) := by decide +kernel
theorem dX1_sendWardens_35 : decode cX1_sendWardens 35 = .ok (.iload_n 3, 1) := by decide +kernel
theorem dX1_sendWardens_36 : decode cX1_sendWardens 36 = .ok (.aaload, 1) := by decide +kernel
theorem dX1_sendWardens_37 : decode cX1_sendWardens 37 = .ok (.astore 4, 2) := by decide +kernel
theorem dX1_sendWardens_39 : decode cX1_sendWardens 39 = .ok (.aload_n 2, 1) := by decide +kernel
theorem dX1_sendWardens_40 : decode cX1_sendWardens 40 = .ok (.aload 4, 2) := by decide +kernel
theorem dX1_sendWardens_42 : decode cX1_sendWardens 42 = .ok (.invokevirtual 187, 3) := by decide +kernel
theorem dX1_sendWardens_45 : decode cX1_sendWardens 45 = .ok (.aload_n 2, 1) := by decide +kernel
theorem dX1_sendWardens_46 : decode cX1_sendWardens 46 = .ok (.getfield 88, 3) := by decide +kernel
theorem dX1_sendWardens_49 : decode cX1_sendWardens 49 = .ok (.aload 4, 2) := by decide +kernel
theorem dX1_sendWardens_51 : decode cX1_sendWardens 51 = .ok (.getfield 72, 3) := by decide +kernel
theorem dX1_sendWardens_54 : decode cX1_sendWardens 54 = .ok (.if_icmp .ne 21, 3) := by decide +kernel
theorem dX1_sendWardens_57 : decode cX1_sendWardens 57 = .ok (.aload_n 2, 1) := by decide +kernel
theorem dX1_sendWardens_58 : decode cX1_sendWardens 58 = .ok (.getfield 89, 3) := by decide +kernel
theorem dX1_sendWardens_61 : decode cX1_sendWardens 61 = .ok (.aload 4, 2) := by decide +kernel
theorem dX1_sendWardens_63 : decode cX1_sendWardens 63 = .ok (.getfield 75, 3) := by decide +kernel
theorem dX1_sendWardens_66 : decode cX1_sendWardens 66 = .ok (.if_icmp .ne 9, 3) := by decide +kernel
theorem dX1_sendWardens_69 : decode cX1_sendWardens 69 = .ok (.aload_n 0, 1) := by decide +kernel
theorem dX1_sendWardens_70 : decode cX1_sendWardens 70 = .ok (.iload_n 3, 1) := by decide +kernel
theorem dX1_sendWardens_71 : decode cX1_sendWardens 71 = .ok (.aload_n 2, 1) := by decide +kernel
theorem dX1_sendWardens_72 : decode cX1_sendWardens 72 = .ok (.invokevirtual 190, 3) := by decide +kernel
theorem dX1_sendWardens_75 : decode cX1_sendWardens 75 = .ok (.iinc 1 1, 3) := by decide +kernel
theorem dX1_sendWardens_78 : decode cX1_sendWardens 78 = .ok (.goto (-76), 3) := by decide +kernel
theorem dX1_sendWardens_81 : decode cX1_sendWardens 81 = .ok (.return_, 1) := by decide +kernel
theorem dX1_keepCatches_0 : decode cX1_keepCatches 0 = .ok (.iconst 0, 1) := by decide +kernel
theorem dX1_keepCatches_1 : decode cX1_keepCatches 1 = .ok (.istore_n 1, 1) := by decide +kernel
theorem dX1_keepCatches_2 : decode cX1_keepCatches 2 = .ok (.iconst 0, 1) := by decide +kernel
theorem dX1_keepCatches_3 : decode cX1_keepCatches 3 = .ok (.istore_n 2, 1) := by decide +kernel
theorem dX1_keepCatches_4 : decode cX1_keepCatches 4 = .ok (.iload_n 2, 1) := by decide +kernel
theorem dX1_keepCatches_5 : decode cX1_keepCatches 5 = .ok (.aload_n 0, 1) := by decide +kernel
theorem dX1_keepCatches_6 : decode cX1_keepCatches 6 = .ok (.getfield 53, 3) := by decide +kernel
theorem dX1_keepCatches_9 : decode cX1_keepCatches 9 = .ok (.if_icmp .ge 44, 3) := by decide +kernel
theorem dX1_keepCatches_12 : decode cX1_keepCatches 12 = .ok (.aload_n 0, 1) := by decide +kernel
theorem dX1_keepCatches_13 : decode cX1_keepCatches 13 = .ok (.getfield 30, 3) := by decide +kernel
theorem dX1_keepCatches_16 : decode cX1_keepCatches 16 = .ok (.iload_n 2, 1) := by decide +kernel
theorem dX1_keepCatches_17 : decode cX1_keepCatches 17 = .ok (.aaload, 1) := by decide +kernel
theorem dX1_keepCatches_18 : decode cX1_keepCatches 18 = .ok (.dup, 1) := by decide +kernel
theorem dX1_keepCatches_19 : decode cX1_keepCatches 19 = .ok (.getfield 146, 3) := by decide +kernel
theorem dX1_keepCatches_22 : decode cX1_keepCatches 22 = .ok (.aload_n 0, 1) := by decide +kernel
theorem dX1_keepCatches_23 : decode cX1_keepCatches 23 = .ok (.getfield 30, 3) := by decide +kernel
theorem dX1_keepCatches_26 : decode cX1_keepCatches 26 = .ok (.iload_n 2, 1) := by decide +kernel
theorem dX1_keepCatches_27 : decode cX1_keepCatches 27 = .ok (.aaload, 1) := by decide +kernel
theorem dX1_keepCatches_28 : decode cX1_keepCatches 28 = .ok (.getfield 180, 3) := by decide +kernel
theorem dX1_keepCatches_31 : decode cX1_keepCatches 31 = .ok (.iadd, 1) := by decide +kernel
theorem dX1_keepCatches_32 : decode cX1_keepCatches 32 = .ok (.putfield 146, 3) := by decide +kernel
theorem dX1_keepCatches_35 : decode cX1_keepCatches 35 = .ok (.iload_n 1, 1) := by decide +kernel
theorem dX1_keepCatches_36 : decode cX1_keepCatches 36 = .ok (.aload_n 0, 1) := by decide +kernel
theorem dX1_keepCatches_37 : decode cX1_keepCatches 37 = .ok (.getfield 30, 3) := by decide +kernel
theorem dX1_keepCatches_40 : decode cX1_keepCatches 40 = .ok (.iload_n 2, 1) := by decide +kernel
theorem dX1_keepCatches_41 : decode cX1_keepCatches 41 = .ok (.aaload, 1) := by decide +kernel
theorem dX1_keepCatches_42 : decode cX1_keepCatches 42 = .ok (.getfield 180, 3) := by decide +kernel
theorem dX1_keepCatches_45 : decode cX1_keepCatches 45 = .ok (.iadd, 1) := by decide +kernel
theorem dX1_keepCatches_46 : decode cX1_keepCatches 46 = .ok (.istore_n 1, 1) := by decide +kernel
theorem dX1_keepCatches_47 : decode cX1_keepCatches 47 = .ok (.iinc 2 1, 3) := by decide +kernel
theorem dX1_keepCatches_50 : decode cX1_keepCatches 50 = .ok (.goto (-46), 3) := by decide +kernel
theorem dX1_keepCatches_53 : decode cX1_keepCatches 53 = .ok (.iload_n 1, 1) := by decide +kernel
theorem dX1_keepCatches_54 : decode cX1_keepCatches 54 = .ok (.ireturn, 1) := by decide +kernel
theorem dX1_breedEels_0 : decode cX1_breedEels 0 = .ok (.iconst 0, 1) := by decide +kernel
theorem dX1_breedEels_1 : decode cX1_breedEels 1 = .ok (.istore_n 1, 1) := by decide +kernel
theorem dX1_breedEels_2 : decode cX1_breedEels 2 = .ok (.iload_n 1, 1) := by decide +kernel
theorem dX1_breedEels_3 : decode cX1_breedEels 3 = .ok (.bipush 81, 2) := by decide +kernel
theorem dX1_breedEels_5 : decode cX1_breedEels 5 = .ok (.if_icmp .ge 44, 3) := by decide +kernel
theorem dX1_breedEels_8 : decode cX1_breedEels 8 = .ok (.aload_n 0, 1) := by decide +kernel
theorem dX1_breedEels_9 : decode cX1_breedEels 9 = .ok (.getfield 9, 3) := by decide +kernel
theorem dX1_breedEels_12 : decode cX1_breedEels 12 = .ok (.iload_n 1, 1) := by decide +kernel
theorem dX1_breedEels_13 : decode cX1_breedEels 13 = .ok (.iaload, 1) := by decide +kernel
theorem dX1_breedEels_14 : decode cX1_breedEels 14 = .ok (.iconst 1, 1) := by decide +kernel
theorem dX1_breedEels_15 : decode cX1_breedEels 15 = .ok (.bipush 40, 2) := by decide +kernel
theorem dX1_breedEels_17 : decode cX1_breedEels 17 = .ok (.invokestatic 68, 3) := by decide +kernel
theorem dX1_breedEels_20 : decode cX1_breedEels 20 = .ok (.ifCond .eq 23, 3) := by decide +kernel
theorem dX1_breedEels_23 : decode cX1_breedEels 23 = .ok (.aload_n 0, 1) := by decide +kernel
theorem dX1_breedEels_24 : decode cX1_breedEels 24 = .ok (.getfield 9, 3) := by decide +kernel
theorem dX1_breedEels_27 : decode cX1_breedEels 27 = .ok (.iload_n 1, 1) := by decide +kernel
theorem dX1_breedEels_28 : decode cX1_breedEels 28 = .ok (.dup2, 1) := by decide +kernel
theorem dX1_breedEels_29 : decode cX1_breedEels 29 = .ok (.iaload, 1) := by decide +kernel
theorem dX1_breedEels_30 : decode cX1_breedEels 30 = .ok (.aload_n 0, 1) := by decide +kernel
theorem dX1_breedEels_31 : decode cX1_breedEels 31 = .ok (.getfield 9, 3) := by decide +kernel
theorem dX1_breedEels_34 : decode cX1_breedEels 34 = .ok (.iload_n 1, 1) := by decide +kernel
theorem dX1_breedEels_35 : decode cX1_breedEels 35 = .ok (.iaload, 1) := by decide +kernel
theorem dX1_breedEels_36 : decode cX1_breedEels 36 = .ok (.bipush 10, 2) := by decide +kernel
theorem dX1_breedEels_38 : decode cX1_breedEels 38 = .ok (.idiv, 1) := by decide +kernel
theorem dX1_breedEels_39 : decode cX1_breedEels 39 = .ok (.iconst 1, 1) := by decide +kernel
theorem dX1_breedEels_40 : decode cX1_breedEels 40 = .ok (.iadd, 1) := by decide +kernel
theorem dX1_breedEels_41 : decode cX1_breedEels 41 = .ok (.iadd, 1) := by decide +kernel
theorem dX1_breedEels_42 : decode cX1_breedEels 42 = .ok (.iastore, 1) := by decide +kernel
theorem dX1_breedEels_43 : decode cX1_breedEels 43 = .ok (.iinc 1 1, 3) := by decide +kernel
theorem dX1_breedEels_46 : decode cX1_breedEels 46 = .ok (.goto (-44), 3) := by decide +kernel
theorem dX1_breedEels_49 : decode cX1_breedEels 49 = .ok (.return_, 1) := by decide +kernel
theorem dX1_closeAllHoles_0 : decode cX1_closeAllHoles 0 = .ok (.iconst 0, 1) := by decide +kernel
theorem dX1_closeAllHoles_1 : decode cX1_closeAllHoles 1 = .ok (.istore_n 1, 1) := by decide +kernel
theorem dX1_closeAllHoles_2 : decode cX1_closeAllHoles 2 = .ok (.iload_n 1, 1) := by decide +kernel
theorem dX1_closeAllHoles_3 : decode cX1_closeAllHoles 3 = .ok (.aload_n 0, 1) := by decide +kernel
theorem dX1_closeAllHoles_4 : decode cX1_closeAllHoles 4 = .ok (.getfield 46, 3) := by decide +kernel
theorem dX1_closeAllHoles_7 : decode cX1_closeAllHoles 7 = .ok (.if_icmp .ge 19, 3) := by decide +kernel
theorem dX1_closeAllHoles_10 : decode cX1_closeAllHoles 10 = .ok (.aload_n 0, 1) := by decide +kernel
theorem dX1_closeAllHoles_11 : decode cX1_closeAllHoles 11 = .ok (.getfield 23, 3) := by decide +kernel
theorem dX1_closeAllHoles_14 : decode cX1_closeAllHoles 14 = .ok (.iload_n 1, 1) := by decide +kernel
theorem dX1_closeAllHoles_15 : decode cX1_closeAllHoles 15 = .ok (.aaload, 1) := by decide +kernel
theorem dX1_closeAllHoles_16 : decode cX1_closeAllHoles 16 = .ok (.iconst 0, 1) := by decide +kernel
theorem dX1_closeAllHoles_17 : decode cX1_closeAllHoles 17 = .ok (.putfield 78, 3) := by decide +kernel
theorem dX1_closeAllHoles_20 : decode cX1_closeAllHoles 20 = .ok (.iinc 1 1, 3) := by decide +kernel
theorem dX1_closeAllHoles_23 : decode cX1_closeAllHoles 23 = .ok (.goto (-21), 3) := by decide +kernel
theorem dX1_closeAllHoles_26 : decode cX1_closeAllHoles 26 = .ok (.iconst 0, 1) := by decide +kernel
theorem dX1_closeAllHoles_27 : decode cX1_closeAllHoles 27 = .ok (.istore_n 1, 1) := by decide +kernel
theorem dX1_closeAllHoles_28 : decode cX1_closeAllHoles 28 = .ok (.iload_n 1, 1) := by decide +kernel
theorem dX1_closeAllHoles_29 : decode cX1_closeAllHoles 29 = .ok (.aload_n 0, 1) := by decide +kernel
theorem dX1_closeAllHoles_30 : decode cX1_closeAllHoles 30 = .ok (.getfield 53, 3) := by decide +kernel
theorem dX1_closeAllHoles_33 : decode cX1_closeAllHoles 33 = .ok (.if_icmp .ge 19, 3) := by decide +kernel
theorem dX1_closeAllHoles_36 : decode cX1_closeAllHoles 36 = .ok (.aload_n 0, 1) := by decide +kernel
theorem dX1_closeAllHoles_37 : decode cX1_closeAllHoles 37 = .ok (.getfield 30, 3) := by decide +kernel
theorem dX1_closeAllHoles_40 : decode cX1_closeAllHoles 40 = .ok (.iload_n 1, 1) := by decide +kernel
theorem dX1_closeAllHoles_41 : decode cX1_closeAllHoles 41 = .ok (.aaload, 1) := by decide +kernel
theorem dX1_closeAllHoles_42 : decode cX1_closeAllHoles 42 = .ok (.iconst (-1), 1) := by decide +kernel
theorem dX1_closeAllHoles_43 : decode cX1_closeAllHoles 43 = .ok (.putfield 139, 3) := by decide +kernel
theorem dX1_closeAllHoles_46 : decode cX1_closeAllHoles 46 = .ok (.iinc 1 1, 3) := by decide +kernel
theorem dX1_closeAllHoles_49 : decode cX1_closeAllHoles 49 = .ok (.goto (-21), 3) := by decide +kernel
theorem dX1_closeAllHoles_52 : decode cX1_closeAllHoles 52 = .ok (.return_, 1) := by decide +kernel
theorem dX1_closeEmptyHoles_0 : decode cX1_closeEmptyHoles 0 = .ok (.iconst 0, 1) := by decide +kernel
theorem dX1_closeEmptyHoles_1 : decode cX1_closeEmptyHoles 1 = .ok (.istore_n 1, 1) := by decide +kernel
theorem dX1_closeEmptyHoles_2 : decode cX1_closeEmptyHoles 2 = .ok (.iload_n 1, 1) := by decide +kernel
theorem dX1_closeEmptyHoles_3 : decode cX1_closeEmptyHoles 3 = .ok (.aload_n 0, 1) := by decide +kernel
theorem dX1_closeEmptyHoles_4 : decode cX1_closeEmptyHoles 4 = .ok (.getfield 46, 3) := by decide +kernel
theorem dX1_closeEmptyHoles_7 : decode cX1_closeEmptyHoles 7 = .ok (.if_icmp .ge 27, 3) := by decide +kernel
theorem dX1_closeEmptyHoles_10 : decode cX1_closeEmptyHoles 10 = .ok (.aload_n 0, 1) := by decide +kernel
theorem dX1_closeEmptyHoles_11 : decode cX1_closeEmptyHoles 11 = .ok (.iload_n 1, 1) := by decide +kernel
theorem dX1_closeEmptyHoles_12 : decode cX1_closeEmptyHoles 12 = .ok (.invokevirtual 115, 3) := by decide +kernel
theorem dX1_closeEmptyHoles_15 : decode cX1_closeEmptyHoles 15 = .ok (.ifCond .ne 13, 3) := by decide +kernel
theorem dX1_closeEmptyHoles_18 : decode cX1_closeEmptyHoles 18 = .ok (.aload_n 0, 1) := by decide +kernel
theorem dX1_closeEmptyHoles_19 : decode cX1_closeEmptyHoles 19 = .ok (.getfield 23, 3) := by decide +kernel
theorem dX1_closeEmptyHoles_22 : decode cX1_closeEmptyHoles 22 = .ok (.iload_n 1, 1) := by decide +kernel
theorem dX1_closeEmptyHoles_23 : decode cX1_closeEmptyHoles 23 = .ok (.aaload, 1) := by decide +kernel
theorem dX1_closeEmptyHoles_24 : decode cX1_closeEmptyHoles 24 = .ok (.iconst 0, 1) := by decide +kernel
theorem dX1_closeEmptyHoles_25 : decode cX1_closeEmptyHoles 25 = .ok (.putfield 78, 3) := by decide +kernel
theorem dX1_closeEmptyHoles_28 : decode cX1_closeEmptyHoles 28 = .ok (.iinc 1 1, 3) := by decide +kernel
theorem dX1_closeEmptyHoles_31 : decode cX1_closeEmptyHoles 31 = .ok (.goto (-29), 3) := by decide +kernel
theorem dX1_closeEmptyHoles_34 : decode cX1_closeEmptyHoles 34 = .ok (.return_, 1) := by decide +kernel
theorem dX1_freeze_0 : decode cX1_freeze 0 = .ok (.aload_n 0, 1) := by decide +kernel
theorem dX1_freeze_1 : decode cX1_freeze 1 = .ok (.aload_n 0, 1) := by decide +kernel
theorem dX1_freeze_2 : decode cX1_freeze 2 = .ok (.getfield 65, 3) := by decide +kernel
theorem dX1_freeze_5 : decode cX1_freeze 5 = .ok (.invokevirtual 202, 3) := by decide +kernel
theorem dX1_freeze_8 : decode cX1_freeze 8 = .ok (.istore_n 1, 1) := by decide +kernel
theorem dX1_freeze_9 : decode cX1_freeze 9 = .ok (.aload_n 0, 1) := by decide +kernel
theorem dX1_freeze_10 : decode cX1_freeze 10 = .ok (.aload_n 0, 1) := by decide +kernel
theorem dX1_freeze_11 : decode cX1_freeze 11 = .ok (.getfield 42, 3) := by decide +kernel
theorem dX1_freeze_14 : decode cX1_freeze 14 = .ok (.iload_n 1, 1) := by decide +kernel
theorem dX1_freeze_15 : decode cX1_freeze 15 = .ok (.invokestatic 205, 3) := by decide +kernel
theorem dX1_freeze_18 : decode cX1_freeze 18 = .ok (.putfield 42, 3) := by decide +kernel
theorem dX1_freeze_21 : decode cX1_freeze 21 = .ok (.aload_n 0, 1) := by decide +kernel
theorem dX1_freeze_22 : decode cX1_freeze 22 = .ok (.getfield 42, 3) := by decide +kernel
theorem dX1_freeze_25 : decode cX1_freeze 25 = .ok (.invokestatic 122, 3) := by decide +kernel
theorem dX1_freeze_28 : decode cX1_freeze 28 = .ok (.ifCond .ne 7, 3) := by decide +kernel
theorem dX1_freeze_31 : decode cX1_freeze 31 = .ok (.aload_n 0, 1) := by decide +kernel
theorem dX1_freeze_32 : decode cX1_freeze 32 = .ok (.invokevirtual 208, 3) := by decide +kernel
theorem dX1_freeze_35 : decode cX1_freeze 35 = .ok (.iload_n 1, 1) := by decide +kernel
theorem dX1_freeze_36 : decode cX1_freeze 36 = .ok (.ifCond .le 7, 3) := by decide +kernel
theorem dX1_freeze_39 : decode cX1_freeze 39 = .ok (.aload_n 0, 1) := by decide +kernel
theorem dX1_freeze_40 : decode cX1_freeze 40 = .ok (.invokevirtual 211, 3) := by decide +kernel
theorem dX1_freeze_43 : decode cX1_freeze 43 = .ok (.return_, 1) := by decide +kernel
theorem dX1_letNightsGo_0 : decode cX1_letNightsGo 0 = .ok (.iconst 0, 1) := by decide +kernel
theorem dX1_letNightsGo_1 : decode cX1_letNightsGo 1 = .ok (.istore_n 2, 1) := by decide +kernel
theorem dX1_letNightsGo_2 : decode cX1_letNightsGo 2 = .ok (.iconst 0, 1) := by decide +kernel
theorem dX1_letNightsGo_3 : decode cX1_letNightsGo 3 = .ok (.istore_n 3, 1) := by decide +kernel
theorem dX1_letNightsGo_4 : decode cX1_letNightsGo 4 = .ok (.iload_n 3, 1) := by decide +kernel
theorem dX1_letNightsGo_5 : decode cX1_letNightsGo 5 = .ok (.iload_n 1, 1) := by decide +kernel
theorem dX1_letNightsGo_6 : decode cX1_letNightsGo 6 = .ok (.if_icmp .ge 46, 3) := by decide +kernel
theorem dX1_letNightsGo_9 : decode cX1_letNightsGo 9 = .ok (.aload_n 0, 1) := by decide +kernel
theorem dX1_letNightsGo_10 : decode cX1_letNightsGo 10 = .ok (.invokevirtual 151, 3) := by decide +kernel
theorem dX1_letNightsGo_13 : decode cX1_letNightsGo 13 = .ok (.aload_n 0, 1) := by decide +kernel
theorem dX1_letNightsGo_14 : decode cX1_letNightsGo 14 = .ok (.invokevirtual 154, 3) := by decide +kernel
theorem dX1_letNightsGo_17 : decode cX1_letNightsGo 17 = .ok (.aload_n 0, 1) := by decide +kernel
theorem dX1_letNightsGo_18 : decode cX1_letNightsGo 18 = .ok (.invokevirtual 157, 3) := by decide +kernel
theorem dX1_letNightsGo_21 : decode cX1_letNightsGo 21 = .ok (.iload_n 2, 1) := by decide +kernel
theorem dX1_letNightsGo_22 : decode cX1_letNightsGo 22 = .ok (.aload_n 0, 1) := by decide +kernel
theorem dX1_letNightsGo_23 : decode cX1_letNightsGo 23 = .ok (.invokevirtual 160, 3) := by decide +kernel
theorem dX1_letNightsGo_26 : decode cX1_letNightsGo 26 = .ok (.iadd, 1) := by decide +kernel
theorem dX1_letNightsGo_27 : decode cX1_letNightsGo 27 = .ok (.istore_n 2, 1) := by decide +kernel
theorem dX1_letNightsGo_28 : decode cX1_letNightsGo 28 = .ok (.aload_n 0, 1) := by decide +kernel
theorem dX1_letNightsGo_29 : decode cX1_letNightsGo 29 = .ok (.invokevirtual 163, 3) := by decide +kernel
theorem dX1_letNightsGo_32 : decode cX1_letNightsGo 32 = .ok (.aload_n 0, 1) := by decide +kernel
theorem dX1_letNightsGo_33 : decode cX1_letNightsGo 33 = .ok (.invokevirtual 166, 3) := by decide +kernel
theorem dX1_letNightsGo_36 : decode cX1_letNightsGo 36 = .ok (.aload_n 0, 1) := by decide +kernel
theorem dX1_letNightsGo_37 : decode cX1_letNightsGo 37 = .ok (.dup, 1) := by decide +kernel
theorem dX1_letNightsGo_38 : decode cX1_letNightsGo 38 = .ok (.getfield 65, 3) := by decide +kernel
theorem dX1_letNightsGo_41 : decode cX1_letNightsGo 41 = .ok (.iconst 1, 1) := by decide +kernel
theorem dX1_letNightsGo_42 : decode cX1_letNightsGo 42 = .ok (.iadd, 1) := by decide +kernel
theorem dX1_letNightsGo_43 : decode cX1_letNightsGo 43 = .ok (.putfield 65, 3) := by decide +kernel
theorem dX1_letNightsGo_46 : decode cX1_letNightsGo 46 = .ok (.iinc 3 1, 3) := by decide +kernel
theorem dX1_letNightsGo_49 : decode cX1_letNightsGo 49 = .ok (.goto (-45), 3) := by decide +kernel
theorem dX1_letNightsGo_52 : decode cX1_letNightsGo 52 = .ok (.iload_n 2, 1) := by decide +kernel
theorem dX1_letNightsGo_53 : decode cX1_letNightsGo 53 = .ok (.ireturn, 1) := by decide +kernel
theorem far0 {u : Vw} (hv : Inv u) {w h : Nat} (hw : w < nW u) (hh : h < nH u) : 0 < farW u w h ↔ ¬ (u 12 w = u 3 h ∧ u 13 w = u 4 h) := by
  obtain ⟨a, ha, ea⟩ := (hv.hW w hw).1
  obtain ⟨b, hb, eb⟩ := (hv.hW w hw).2
  obtain ⟨x, hx, ex⟩ := (hv.hH h hh).1
  obtain ⟨y, hy, ey⟩ := (hv.hH h hh).2.1
  unfold farW
  rw [ea, eb, ex, ey, far_nI (by omega) (by omega) (by omega) (by omega), show (0 : Int32) = nI 0 from rfl, nI_ltI (by decide) (by unfold dst; omega), nI_eq (by omega) (by omega), nI_eq (by omega) (by omega)]
  unfold dst
  omega
theorem fin_cls {V : Vw} {w h c k : Nat} (ho : ovr V h k = true) {e p f g : Int32} (he : imin 60 (V 0 c + V 9 k - V 6 k) = e) (hp : V 6 k = p) (hf : V 11 k + 1 = f) (hg : V 15 w + 1 = g) : fin1 w h c k V = up2 (up2 (up2 (up2 V 9 k p) 11 k f) 15 w g) 0 c e := by
  refine (if_pos ho).trans ?_
  rw [up2_comm (show 0 ≠ 9 by decide), up2_comm (show 0 ≠ 11 by decide), up2_comm (show 0 ≠ 15 by decide), he, hp, hf, hg]
theorem it_set {C : Nat} {x : Int32} : ∀ (n : Nat) (v : Vw) (c j : Nat), it (fun h u => up2 u C h x) n v c j = if c = C ∧ j < n then x else v c j
  | 0, v, c, j => by rw [if_neg (by omega)]; rfl
  | n + 1, v, c, j => by
    show (if c = C ∧ j = n then x else it (fun h u => up2 u C h x) n v c j) = _
    rw [it_set n v c j]
    by_cases h1 : c = C
    · by_cases h2 : j = n
      · rw [if_pos ⟨h1, h2⟩, if_pos ⟨h1, by omega⟩]
      · rw [if_neg (fun q => h2 q.2)]
        by_cases h3 : j < n
        · rw [if_pos ⟨h1, h3⟩, if_pos ⟨h1, by omega⟩]
        · rw [if_neg (fun q => h3 q.2), if_neg (fun q => by omega)]
    · rw [if_neg (fun q => h1 q.1), if_neg (fun q => h1 q.1), if_neg (fun q => h1 q.1)]
def clA (v : Vw) : Vw := it (fun k u => up2 u 8 k (-1)) (nS v) (it (fun h u => up2 u 5 h 0) (nH v) v)
def clEs (h : Nat) (u : Vw) : Vw := if spAt u (nI h) = 0 then up2 u 5 h 0 else u
def clE (v : Vw) : Vw := it clEs (nH v) v
theorem clA_eq (v : Vw) (c j : Nat) : clA v c j = if c = 8 ∧ j < nS v then -1 else if c = 5 ∧ j < nH v then 0 else v c j := by
  unfold clA
  rw [it_set, it_set]
theorem spAt_congr {u v : Vw} (h8 : ∀ k, u 8 k = v 8 k) (hn : u 16 1 = v 16 1) (x : Int32) : spAt u x = spAt v x := by
  unfold spAt nS
  rw [hn]
  exact sumI_congr fun j _ => by rw [h8]
theorem clEs_ne {h : Nat} {u : Vw} {c j : Nat} (hc : c ≠ 5) : clEs h u c j = u c j := by
  unfold clEs
  split
  · exact up2_c hc
  · rfl
theorem clEI_eq (v : Vw) : ∀ (n c j : Nat), it clEs n v c j = if c = 5 ∧ j < n ∧ spAt v (nI j) = 0 then 0 else v c j
  | 0, c, j => by rw [if_neg (by omega)]; rfl
  | n + 1, c, j => by
    have e : spAt (it clEs n v) (nI n) = spAt v (nI n) := spAt_congr (fun k => it_keep (fun _ _ => clEs_ne (by decide)) _ _) (it_keep (fun _ _ => clEs_ne (by decide)) _ _) _
    show (if spAt (it clEs n v) (nI n) = 0 then up2 (it clEs n v) 5 n 0 else it clEs n v) c j = _
    rw [e]
    by_cases h0 : spAt v (nI n) = 0
    · rw [if_pos h0]
      show (if c = 5 ∧ j = n then (0 : Int32) else it clEs n v c j) = _
      by_cases h1 : c = 5 ∧ j = n
      · rw [if_pos h1, if_pos ⟨h1.1, by omega, by rw [h1.2]; exact h0⟩]
      · rw [if_neg h1, clEI_eq v n c j]
        by_cases h2 : c = 5 ∧ j < n ∧ spAt v (nI j) = 0
        · rw [if_pos h2, if_pos ⟨h2.1, by omega, h2.2.2⟩]
        · rw [if_neg h2, if_neg (fun q => h2 ⟨q.1, by have := q.2.1; have := fun z => h1 ⟨q.1, z⟩; omega, q.2.2⟩)]
    · rw [if_neg h0, clEI_eq v n c j]
      by_cases h2 : c = 5 ∧ j < n ∧ spAt v (nI j) = 0
      · rw [if_pos h2, if_pos ⟨h2.1, by omega, h2.2.2⟩]
      · rw [if_neg h2, if_neg]
        rintro ⟨q1, q2, q3⟩
        rcases Nat.lt_or_ge j n with z | z
        · exact h2 ⟨q1, z, q3⟩
        · have : j = n := by omega
          subst this
          exact h0 q3
theorem clE_eq (v : Vw) (c j : Nat) : clE v c j = if c = 5 ∧ j < nH v ∧ spAt v (nI j) = 0 then 0 else v c j := clEI_eq v _ c j
theorem clEI_inv {v : Vw} (hv : Inv v) (n : Nat) : Inv (it clEs n v) := by
  have e : ∀ c i, c ≠ 5 → it clEs n v c i = v c i := fun c i h => it_keep (fun _ _ => clEs_ne h) _ _
  refine hv.step (e _ _ (by decide)) (e _ _ (by decide)) (e _ _ (by decide)) (fun _ => e _ _ (by decide)) (fun _ => e _ _ (by decide)) (fun i _ => ?_) (fun _ => e _ _ (by decide)) (fun _ => e _ _ (by decide)) (fun _ _ => Or.inl (e _ _ (by decide))) (fun k hk => by rw [e _ _ (by decide)]; exact (hv.hS k hk).2.2.2) (fun w hw => ⟨by rw [e _ _ (by decide)]; exact (hv.hW w hw).1, by rw [e _ _ (by decide)]; exact (hv.hW w hw).2⟩) (fun c hc => by unfold IC; rw [e _ _ (by decide)]; exact hv.hC c hc)
  rw [clEI_eq]
  split
  · exact Or.inr rfl
  · exact Or.inl rfl
theorem clA_inv {v : Vw} (hv : Inv v) : Inv (clA v) := by
  have e : ∀ c i, c ≠ 5 → c ≠ 8 → clA v c i = v c i := fun c i a b => by rw [clA_eq, if_neg (fun q => b q.1), if_neg (fun q => a q.1)]
  refine hv.step (e _ _ (by decide) (by decide)) (e _ _ (by decide) (by decide)) (e _ _ (by decide) (by decide)) (fun _ => e _ _ (by decide) (by decide)) (fun _ => e _ _ (by decide) (by decide)) (fun i _ => ?_) (fun _ => e _ _ (by decide) (by decide)) (fun _ => e _ _ (by decide) (by decide)) (fun i _ => ?_) (fun k hk => by rw [e _ _ (by decide) (by decide)]; exact (hv.hS k hk).2.2.2) (fun w hw => ⟨by rw [e _ _ (by decide) (by decide)]; exact (hv.hW w hw).1, by rw [e _ _ (by decide) (by decide)]; exact (hv.hW w hw).2⟩) (fun c hc => by unfold IC; rw [e _ _ (by decide) (by decide)]; exact hv.hC c hc)
  · rw [clA_eq, if_neg (by omega)]
    split
    · exact Or.inr rfl
    · exact Or.inl rfl
  · rw [clA_eq]
    split
    · exact Or.inr rfl
    · rw [if_neg (by omega)]; exact Or.inl rfl
theorem ice_inv {v : Vw} (hv : Inv v) (x : Int32) : Inv (up2 v 16 3 x) := by
  have e : ∀ c i, ¬ (c = 16 ∧ i = 3) → up2 v 16 3 x c i = v c i := fun c i h => by unfold up2; rw [if_neg h]
  exact hv.step (e _ _ (by decide)) (e _ _ (by decide)) (e _ _ (by decide)) (fun _ => e _ _ (by omega)) (fun _ => e _ _ (by omega)) (fun _ _ => Or.inl (e _ _ (by omega))) (fun _ => e _ _ (by omega)) (fun _ => e _ _ (by omega)) (fun _ _ => Or.inl (e _ _ (by omega))) (fun k hk => by rw [e _ _ (by omega)]; exact (hv.hS k hk).2.2.2) (fun w hw => ⟨by rw [e _ _ (by omega)]; exact (hv.hW w hw).1, by rw [e _ _ (by omega)]; exact (hv.hW w hw).2⟩) (fun c hc => by unfold IC; rw [e _ _ (by omega)]; exact hv.hC c hc)
theorem bear_f {x : Int32} (h : bear x = false) : x < 5 := by unfold bear at h; simpa using h
theorem bear_t {x : Int32} (h : bear x = true) : ¬ x < 5 := by unfold bear at h; simpa using h
theorem nH_ice {v : Vw} {x : Int32} : nH (up2 v 16 3 x) = nH v := by unfold nH; rw [up2_i (by decide)]
theorem nS_ice {v : Vw} {x : Int32} : nS (up2 v 16 3 x) = nS v := by unfold nS; rw [up2_i (by decide)]
theorem spAt_0 {v : Vw} (h : ∀ k, k < nS v → v 8 k = -1) {j : Nat} (hj : j < 2 ^ 31) : spAt v (nI j) = 0 := by
  unfold spAt
  have : ∀ n, n ≤ nS v → sumI (fun k => if v 8 k = nI j then (1 : Int32) else 0) n = 0 := by
    intro n
    induction n with
    | zero => intro _; rfl
    | succ n ih =>
      intro hn
      show _ + (if v 8 n = nI j then (1 : Int32) else 0) = 0
      rw [ih (by omega), if_neg (fun q => m1_ne j hj (by rw [← q]; exact h n (by omega)))]
      rfl
  exact this _ (Nat.le_refl _)
theorem fz_1 {v : Vw} (c1 : bear (iceN v) = true) (c2 : frostN v ≤ 0) : frz v = up2 v 16 3 (iceN v) := by
  funext c j
  unfold frz up2
  by_cases h1 : c = 16 ∧ j = 3
  · rw [if_pos h1, if_pos h1]
  · rw [if_neg h1, if_neg h1, if_neg (fun q => q.2.2.elim (bear_t c1) (fun q => Int32.not_lt.mpr c2 q.1)), if_neg (fun q => bear_t c1 q.2.2)]
theorem fz_2 {v : Vw} (c1 : bear (iceN v) = true) (c2 : ¬ frostN v ≤ 0) : frz v = clE (up2 v 16 3 (iceN v)) := by
  funext c j
  rw [clE_eq, nH_ice, spAt_congr (v := v) (fun k => up2_c (by decide)) (up2_i (by decide))]
  unfold frz up2
  by_cases h1 : c = 16 ∧ j = 3
  · rw [if_pos h1, if_neg (by omega), if_pos h1]
  · rw [if_neg h1, if_neg h1]
    by_cases h2 : c = 5 ∧ j < nH v ∧ spAt v (nI j) = 0
    · rw [if_pos h2, if_pos ⟨h2.1, h2.2.1, Or.inr ⟨Int32.not_le.mp c2, h2.2.2⟩⟩]
    · rw [if_neg h2, if_neg (fun q => h2 ⟨q.1, q.2.1, (q.2.2.resolve_left (bear_t c1)).2⟩), if_neg (fun q => bear_t c1 q.2.2)]
theorem fz_3 {v : Vw} (c1 : bear (iceN v) = false) : frz v = clA (up2 v 16 3 (iceN v)) := by
  funext c j
  rw [clA_eq, nH_ice, nS_ice]
  unfold frz up2
  have hb := bear_f c1
  by_cases h1 : c = 16 ∧ j = 3
  · rw [if_pos h1, if_neg (by omega), if_neg (by omega), if_pos h1]
  · rw [if_neg h1, if_neg h1]
    by_cases h2 : c = 5 ∧ j < nH v
    · rw [if_pos ⟨h2.1, h2.2, Or.inl hb⟩, if_neg (by omega), if_pos h2]
    · rw [if_neg (fun q => h2 ⟨q.1, q.2.1⟩)]
      by_cases h3 : c = 8 ∧ j < nS v
      · rw [if_pos ⟨h3.1, h3.2, hb⟩, if_pos h3]
      · rw [if_neg (fun q => h3 ⟨q.1, q.2.1⟩), if_neg h3, if_neg h2]
theorem fz_4 {v : Vw} (hl : nH v ≤ 12) (c1 : bear (iceN v) = false) : frz v = clE (clA (up2 v 16 3 (iceN v))) := by
  rw [fz_3 c1]
  funext c j
  rw [clE_eq]
  split
  · rename_i h
    have h2 : j < nH (up2 v 16 3 (iceN v)) := by
      have := h.2.1
      unfold nH at *
      rw [clA_eq, if_neg (by omega), if_neg (by omega)] at this
      exact this
    rw [clA_eq, if_neg (by omega), if_pos ⟨h.1, h2⟩]
  · rfl
theorem nS_pre1 {v : Vw} : nS (sen (spe (lam v))) = nS v := by unfold nS; rw [sen_ne (by decide) (by decide) (by decide) (by decide) (by decide) (by decide), spe_ne (by decide) (by decide), lam_ne (by decide)]
theorem gots_s {v : Vw} {i : Nat} : gots (i + 1) v = gots i v + sumI (sen (spe (lam (days i v))) 9) (nS (sen (spe (lam (days i v))))) := by
  show gots i v + got1 (days i v) = _
  rw [nS_pre1]
  rfl
theorem tt_pre {v : Vw} {n : Nat} (h : Nt (n + 1) v) : Nt 0 (breA (kepA (sen (spe (lam v))))) := by
  have e : breA (kepA (sen (spe (lam v)))) 16 4 = v 16 4 := by rw [breA_ne (by decide), kepA_ne (by decide), sen_ne (by decide) (by decide) (by decide) (by decide) (by decide) (by decide), spe_ne (by decide) (by decide), lam_ne (by decide)]
  have e2 : tt (breA (kepA (sen (spe (lam v))))) = tt v := by unfold tt; rw [e]
  exact ⟨by rw [e, e2]; exact h.1, by rw [e2]; have := h.2; omega⟩
set_option maxHeartbeats 4000000 in
set_option maxRecDepth 100000 in
theorem c_fineAllAt (l : Launch) {g : Gm} (hI : IJ g KK) {M : Mem} {o : Nat → Int64} {r : Nat} (hr : r < 2) {v : Vw} (hv : Inv v) (h w : Nat) (hh : h < nH v) (hw : w < 3) : MV l yX1_fineAllAt cX1_fineAllAt 7 (rm 1 21) g KK (ent g (setR M r v) o) [.ref (ad g (3, r, 0)), .int (nI h), .ref (ad g (2, r, w))] (ent g (setR M r (finA w h v)) o) := by
  refine met_of (by decide +kernel) (Nat.le_of_ble_eq_true rfl) ?_
  intro p e s m below meth c ls hC hr_ hlk hnm hE hP hS hl
  obtain ⟨hx, hb, hml, hown, hG⟩ := id hC
  have hl : lv_has ls 7 [(0, .ref (ad g (3, r, 0))), (1, .int (nI h)), (2, .ref (ad g (2, r, w)))] := hl
  have qH := hv.lH
  have qS := hv.lS
  have qW := hv.lW
  have hcl := cl_lt hv hh
  refine lv_aload_n hx hb dX1_fineAllAt_0 rfl (lv_at hl 0 rfl) ?_
  refine m_get hC hE hP (k_3 hr) e_3 rfl u_1 3 (by decide) w_120 rfl rfl dX1_fineAllAt_1 ?_
  refine lv_iload_n hx hb dX1_fineAllAt_4 rfl (lv_at hl 1 rfl) ?_
  refine m_aald hC hE hP (k_5 hr) f_5 rfl h (rfl) (by omega) (by decide) rfl dX1_fineAllAt_5 ?_
  refine m_get hC hE hP (k_0 hr (by omega)) e_0 rfl u_0 0 (by decide) w_40 rfl rfl dX1_fineAllAt_6 ?_
  refine lv_aload_n hx hb dX1_fineAllAt_9 rfl (lv_at hl 0 rfl) ?_
  refine m_get hC hE hP (k_3 hr) e_3 rfl u_1 3 (by decide) w_120 rfl rfl dX1_fineAllAt_10 ?_
  refine lv_iload_n hx hb dX1_fineAllAt_13 rfl (lv_at hl 1 rfl) ?_
  refine m_aald hC hE hP (k_5 hr) f_5 rfl h (rfl) (by omega) (by decide) rfl dX1_fineAllAt_14 ?_
  refine m_get hC hE hP (k_0 hr (by omega)) e_0 rfl u_0 1 (by decide) w_43 rfl rfl dX1_fineAllAt_15 ?_
  refine on_i (run_SN hC hE hP hS (As := [.int (v 3 h), .int (v 4 h)]) (c_cellAt l (v 3 h) (v 4 h)) cal_X4_cellAt n_231 ⟨Nat.le_of_ble_eq_true rfl, Nat.le_of_ble_eq_true rfl⟩ rfl rfl (Nat.le_of_ble_eq_true rfl) hl.1 ⟨Nat.le_of_ble_eq_true rfl, Nat.le_of_ble_eq_true rfl⟩ dX1_fineAllAt_18) hS (fun H locs hP hS => ?_)
  refine m_top (y := nI (cl v h)) (cl_eq hv hh) ?_
  refine lv_istore_n (lv' := [(3, .int (nI (cl v h))), (0, .ref (ad g (3, r, 0))), (1, .int (nI h)), (2, .ref (ad g (2, r, w)))]) hx hb dX1_fineAllAt_21 rfl hl (by decide) rfl (fun ls hl => ?_)
  refine lv_iconst (v := 0) hx hb dX1_fineAllAt_22 (by decide) ?_
  refine lv_istore (lv' := [(4, .int ((0 : Int32))), (3, .int (nI (cl v h))), (0, .ref (ad g (3, r, 0))), (1, .int (nI h)), (2, .ref (ad g (2, r, w)))]) hx hb dX1_fineAllAt_23 hl (by decide) rfl (fun ls hl => ?_)
  refine lp_W (i0 := 0) (nS v) (fun i => ent g (setR M r (it (fin1 w h (cl v h)) i v)) o) (fun i => [(4, .int (nI i)), (3, .int (nI (cl v h))), (0, .ref (ad g (3, r, 0))), (1, .int (nI h)), (2, .ref (ad g (2, r, w)))]) (fun i => True) (Nat.zero_le _) (hP.castR (rfl)) hS (lv_sub hl [0, 1, 2, 3, 4] rfl) (trivial) (fun H locs ls hP hS hl J => ?_) (fun i hi IH H locs ls hP hS hl J => ?_)
  · refine lv_iload hx hb dX1_fineAllAt_25 (lv_at hl 0 rfl) ?_
    refine lv_aload_n hx hb dX1_fineAllAt_27 rfl (lv_at hl 2 rfl) ?_
    refine m_get hC hE hP (k_3 hr) e_3 rfl u_1 7 (by decide) w_128 rfl rfl dX1_fineAllAt_28 ?_
    refine m_top (y := nI (nS v)) ((it_keep (fun _ _ => fin1_ne (by decide) (by decide) (by decide) (by decide)) _ _).trans hv.eS) ?_
    refine lv_icmp_ge (tgt := 130) hx hb dX1_fineAllAt_31 (by decide) (fun c1 => ?_) (fun c1 => absurd (nI_le (Nat.le_refl _) (by omega)) c1)
    exact m_vret hC hr_ hlk hS (hP.castR (rfl)) dX1_fineAllAt_130
  · refine lv_iload hx hb dX1_fineAllAt_25 (lv_at hl 0 rfl) ?_
    refine lv_aload_n hx hb dX1_fineAllAt_27 rfl (lv_at hl 2 rfl) ?_
    refine m_get hC hE hP (k_3 hr) e_3 rfl u_1 7 (by decide) w_128 rfl rfl dX1_fineAllAt_28 ?_
    refine m_top (y := nI (nS v)) ((it_keep (fun _ _ => fin1_ne (by decide) (by decide) (by decide) (by decide)) _ _).trans hv.eS) ?_
    refine lv_icmp_ge (tgt := 130) hx hb dX1_fineAllAt_31 (by decide) (fun c2 => absurd c2 (nI_ge hi (by omega))) (fun c2 => ?_)
    refine lv_aload_n hx hb dX1_fineAllAt_34 rfl (lv_at hl 2 rfl) ?_
    refine m_get hC hE hP (k_3 hr) e_3 rfl u_1 4 (by decide) w_122 rfl rfl dX1_fineAllAt_35 ?_
    refine lv_iload hx hb dX1_fineAllAt_38 (lv_at hl 0 rfl) ?_
    refine m_aald hC hE hP (k_6 hr) f_6 rfl i (rfl) (by omega) (by decide) rfl dX1_fineAllAt_40 ?_
    refine lv_astore (lv' := [(5, .ref (ad g (1, r, i))), (4, .int (nI i)), (3, .int (nI (cl v h))), (0, .ref (ad g (3, r, 0))), (1, .int (nI h)), (2, .ref (ad g (2, r, w)))]) hx hb dX1_fineAllAt_41 hl (by decide) rfl (fun ls hl => ?_)
    refine lv_aload hx hb dX1_fineAllAt_43 (lv_at hl 0 rfl) ?_
    refine m_get hC hE hP (k_1 hr (by omega)) e_1 rfl u_2 2 (by decide) w_68 rfl rfl dX1_fineAllAt_45 ?_
    refine lv_iload_n hx hb dX1_fineAllAt_48 rfl (lv_at hl 4 rfl) ?_
    refine lv_icmp_ne (tgt := 124) hx hb dX1_fineAllAt_49 (by decide) (fun c1 => ?_) (fun c1 => ?_)
    · refine lv_iinc (v := nI (i + 1)) (lv' := [(4, .int (nI (i + 1))), (5, .ref (ad g (1, r, i))), (3, .int (nI (cl v h))), (0, .ref (ad g (3, r, 0))), (1, .int (nI h)), (2, .ref (ad g (2, r, w)))]) hx hb dX1_fineAllAt_124 hl (k := 1) rfl (nI_1 _) (by decide) rfl (fun ls hl => ?_)
      refine lv_goto (tgt := 25) hx hb dX1_fineAllAt_127 (by decide) ?_
      exact IH H locs ls (hP.castR (if_neg (fun q => c1 (of_decide_eq_true (Bool.and_eq_true _ _ |>.mp q).1)))) hS (lv_sub hl [0, 2, 3, 4, 5] rfl) (trivial)
    · refine lv_aload hx hb dX1_fineAllAt_52 (lv_at hl 0 rfl) ?_
      refine on_i (run_V hC hE hP hS (As := []) (c_tookTooMuch l hI hr (v := it (fin1 w h (cl v h)) i v) i (by omega)) cal_X2_tookTooMuch w_544 ⟨Nat.le_of_ble_eq_true rfl, Nat.le_of_ble_eq_true rfl⟩ (k_1 hr (by omega)) e_1 rfl rfl rfl (Nat.le_of_ble_eq_true rfl) hl.1 ⟨Nat.le_of_ble_eq_true rfl, Nat.le_of_ble_eq_true rfl⟩ dX1_fineAllAt_54) hS (fun H locs hP hS => ?_)
      refine lv_if_eq (tgt := 124) hx hb dX1_fineAllAt_57 (by decide) (fun c2 => ?_) (fun c2 => ?_)
      · have c2 := b2i_f c2
        refine lv_iinc (v := nI (i + 1)) (lv' := [(4, .int (nI (i + 1))), (5, .ref (ad g (1, r, i))), (3, .int (nI (cl v h))), (0, .ref (ad g (3, r, 0))), (1, .int (nI h)), (2, .ref (ad g (2, r, w)))]) hx hb dX1_fineAllAt_124 hl (k := 1) rfl (nI_1 _) (by decide) rfl (fun ls hl => ?_)
        refine lv_goto (tgt := 25) hx hb dX1_fineAllAt_127 (by decide) ?_
        exact IH H locs ls (hP.castR (if_neg (fun q => by unfold ovr at q; rw [c2, Bool.and_false] at q; cases q))) hS (lv_sub hl [0, 2, 3, 4, 5] rfl) (trivial)
      · have c2 := b2i_t c2
        have ho : ovr (it (fin1 w h (cl v h)) i v) h i = true := by unfold ovr; rw [c2, decide_eq_true c1]; rfl
        refine lv_aload hx hb dX1_fineAllAt_60 (lv_at hl 0 rfl) ?_
        refine m_get hC hE hP (k_1 hr (by omega)) e_1 rfl u_2 3 (by decide) w_71 rfl rfl dX1_fineAllAt_62 ?_
        refine lv_aload hx hb dX1_fineAllAt_65 (lv_at hl 0 rfl) ?_
        refine m_get hC hE hP (k_1 hr (by omega)) e_1 rfl u_2 0 (by decide) w_63 rfl rfl dX1_fineAllAt_67 ?_
        refine lv_isub hx hb dX1_fineAllAt_70 ?_
        refine lv_istore (lv' := [(6, .int (((it (fin1 w h (cl v h)) i v) 9 i) - ((it (fin1 w h (cl v h)) i v) 6 i))), (5, .ref (ad g (1, r, i))), (4, .int (nI i)), (3, .int (nI (cl v h))), (0, .ref (ad g (3, r, 0))), (1, .int (nI h)), (2, .ref (ad g (2, r, w)))]) hx hb dX1_fineAllAt_71 hl (by decide) rfl (fun ls hl => ?_)
        refine lv_aload hx hb dX1_fineAllAt_73 (lv_at hl 1 rfl) ?_
        refine lv_aload hx hb dX1_fineAllAt_75 (lv_at hl 1 rfl) ?_
        refine m_get hC hE hP (k_1 hr (by omega)) e_1 rfl u_2 0 (by decide) w_63 rfl rfl dX1_fineAllAt_77 ?_
        refine m_put hC hE hI hP hS (k_1 hr (by omega)) e_1 rfl u_2 tyX2_ok nmX2 3 (by decide) w_71 rfl rfl rfl rfl (Nat.le_of_ble_eq_true rfl) p_1_3 (ent_put g M r (it (fin1 w h (cl v h)) i v) o 9 i ((it (fin1 w h (cl v h)) i v) 6 i) (kf_1 hr (by decide) (by decide))) dX1_fineAllAt_80 (fun H locs hP hS => ?_)
        refine lv_aload hx hb dX1_fineAllAt_83 (lv_at hl 1 rfl) ?_
        refine lv_dup hx hb dX1_fineAllAt_85 rfl ?_
        refine m_get hC hE hP (k_1 hr (by omega)) e_1 rfl u_2 5 (by decide) w_76 rfl rfl dX1_fineAllAt_86 ?_
        refine lv_iconst (v := 1) hx hb dX1_fineAllAt_89 (by decide) ?_
        refine lv_iadd hx hb dX1_fineAllAt_90 ?_
        refine m_put hC hE hI hP hS (k_1 hr (by omega)) e_1 rfl u_2 tyX2_ok nmX2 5 (by decide) w_76 rfl rfl rfl rfl (Nat.le_of_ble_eq_true rfl) p_1_5 (ent_put g M r (up2 (it (fin1 w h (cl v h)) i v) 9 i ((it (fin1 w h (cl v h)) i v) 6 i)) o 11 i (((up2 (it (fin1 w h (cl v h)) i v) 9 i ((it (fin1 w h (cl v h)) i v) 6 i)) 11 i) + (1 : Int32)) (kf_1 hr (by decide) (by decide))) dX1_fineAllAt_91 (fun H locs hP hS => ?_)
        refine lv_aload_n hx hb dX1_fineAllAt_94 rfl (lv_at hl 6 rfl) ?_
        refine lv_dup hx hb dX1_fineAllAt_95 rfl ?_
        refine m_get hC hE hP (k_2 hr (by omega)) e_2 rfl u_3 3 (by decide) w_104 rfl rfl dX1_fineAllAt_96 ?_
        refine lv_iconst (v := 1) hx hb dX1_fineAllAt_99 (by decide) ?_
        refine lv_iadd hx hb dX1_fineAllAt_100 ?_
        refine m_put hC hE hI hP hS (k_2 hr (by omega)) e_2 rfl u_3 tyX3_ok nmX3 3 (by decide) w_104 rfl rfl rfl rfl (Nat.le_of_ble_eq_true rfl) p_2_3 (ent_put g M r (up2 (up2 (it (fin1 w h (cl v h)) i v) 9 i ((it (fin1 w h (cl v h)) i v) 6 i)) 11 i (((up2 (it (fin1 w h (cl v h)) i v) 9 i ((it (fin1 w h (cl v h)) i v) 6 i)) 11 i) + (1 : Int32))) o 15 w (((up2 (up2 (it (fin1 w h (cl v h)) i v) 9 i ((it (fin1 w h (cl v h)) i v) 6 i)) 11 i (((up2 (it (fin1 w h (cl v h)) i v) 9 i ((it (fin1 w h (cl v h)) i v) 6 i)) 11 i) + (1 : Int32))) 15 w) + (1 : Int32)) (kf_2 hr (by decide) (by decide))) dX1_fineAllAt_101 (fun H locs hP hS => ?_)
        refine lv_aload_n hx hb dX1_fineAllAt_104 rfl (lv_at hl 4 rfl) ?_
        refine m_get hC hE hP (k_3 hr) e_3 rfl u_1 0 (by decide) w_114 rfl rfl dX1_fineAllAt_105 ?_
        refine lv_iload_n hx hb dX1_fineAllAt_108 rfl (lv_at hl 3 rfl) ?_
        refine lv_bipush (v := 60) hx hb dX1_fineAllAt_109 (by decide) ?_
        refine lv_aload_n hx hb dX1_fineAllAt_111 rfl (lv_at hl 4 rfl) ?_
        refine m_get hC hE hP (k_3 hr) e_3 rfl u_1 0 (by decide) w_114 rfl rfl dX1_fineAllAt_112 ?_
        refine lv_iload_n hx hb dX1_fineAllAt_115 rfl (lv_at hl 3 rfl) ?_
        refine m_iald hC hE hP (k_4 hr (by decide)) e_4 (cl v h) (rfl) (show (cl v h) < 81 from by omega) (by decide) dX1_fineAllAt_116 ?_
        refine lv_iload hx hb dX1_fineAllAt_117 (lv_at hl 0 rfl) ?_
        refine lv_iadd hx hb dX1_fineAllAt_119 ?_
        refine m_min hC w_243 w_184 w_14 w_185 hl.1 (by decide) (Nat.le_of_ble_eq_true rfl) (Nat.zero_le _) (Nat.zero_le _) dX1_fineAllAt_120 ?_
        refine m_top (y := imin (60 : Int32) (((up2 (up2 (up2 (it (fin1 w h (cl v h)) i v) 9 i ((it (fin1 w h (cl v h)) i v) 6 i)) 11 i (((up2 (it (fin1 w h (cl v h)) i v) 9 i ((it (fin1 w h (cl v h)) i v) 6 i)) 11 i) + (1 : Int32))) 15 w (((up2 (up2 (it (fin1 w h (cl v h)) i v) 9 i ((it (fin1 w h (cl v h)) i v) 6 i)) 11 i (((up2 (it (fin1 w h (cl v h)) i v) 9 i ((it (fin1 w h (cl v h)) i v) 6 i)) 11 i) + (1 : Int32))) 15 w) + (1 : Int32))) 0 (cl v h)) + (((it (fin1 w h (cl v h)) i v) 9 i) - ((it (fin1 w h (cl v h)) i v) 6 i)))) rfl ?_
        refine m_iast hC hE hI hP hS (k_4 hr (by decide)) e_4 (cl v h) (rfl) (show (cl v h) < 81 from by omega) (by decide) p_4 (ent_put g M r (up2 (up2 (up2 (it (fin1 w h (cl v h)) i v) 9 i ((it (fin1 w h (cl v h)) i v) 6 i)) 11 i (((up2 (it (fin1 w h (cl v h)) i v) 9 i ((it (fin1 w h (cl v h)) i v) 6 i)) 11 i) + (1 : Int32))) 15 w (((up2 (up2 (it (fin1 w h (cl v h)) i v) 9 i ((it (fin1 w h (cl v h)) i v) 6 i)) 11 i (((up2 (it (fin1 w h (cl v h)) i v) 9 i ((it (fin1 w h (cl v h)) i v) 6 i)) 11 i) + (1 : Int32))) 15 w) + (1 : Int32))) o 0 (cl v h) (imin (60 : Int32) (((up2 (up2 (up2 (it (fin1 w h (cl v h)) i v) 9 i ((it (fin1 w h (cl v h)) i v) 6 i)) 11 i (((up2 (it (fin1 w h (cl v h)) i v) 9 i ((it (fin1 w h (cl v h)) i v) 6 i)) 11 i) + (1 : Int32))) 15 w (((up2 (up2 (it (fin1 w h (cl v h)) i v) 9 i ((it (fin1 w h (cl v h)) i v) 6 i)) 11 i (((up2 (it (fin1 w h (cl v h)) i v) 9 i ((it (fin1 w h (cl v h)) i v) 6 i)) 11 i) + (1 : Int32))) 15 w) + (1 : Int32))) 0 (cl v h)) + (((it (fin1 w h (cl v h)) i v) 9 i) - ((it (fin1 w h (cl v h)) i v) 6 i)))) (kf_4 hr (by decide))) dX1_fineAllAt_123 (fun H locs hP hS => ?_)
        refine lv_iinc (v := nI (i + 1)) (lv' := [(4, .int (nI (i + 1))), (6, .int (((it (fin1 w h (cl v h)) i v) 9 i) - ((it (fin1 w h (cl v h)) i v) 6 i))), (5, .ref (ad g (1, r, i))), (3, .int (nI (cl v h))), (0, .ref (ad g (3, r, 0))), (1, .int (nI h)), (2, .ref (ad g (2, r, w)))]) hx hb dX1_fineAllAt_124 hl (k := 2) rfl (nI_1 _) (by decide) rfl (fun ls hl => ?_)
        refine lv_goto (tgt := 25) hx hb dX1_fineAllAt_127 (by decide) ?_
        exact IH H locs ls (hP.castR (fin_cls ho (by simp [up2, Int32.sub_eq_add_neg, Int32.add_assoc]) rfl (by simp [up2]) (by simp [up2]))) hS (lv_sub hl [0, 3, 4, 5, 6] rfl) (trivial)
set_option maxHeartbeats 4000000 in
set_option maxRecDepth 100000 in
theorem c_sendWardens (l : Launch) {g : Gm} (hI : IJ g KK) {M : Mem} {o : Nat → Int64} {r : Nat} (hr : r < 2) {v : Vw} (hv : Inv v) : MV l yX1_sendWardens cX1_sendWardens 5 (rm 3 69) g KK (ent g (setR M r v) o) [.ref (ad g (3, r, 0))] (ent g (setR M r (sen v)) o) := by
  refine met_of (by decide +kernel) (Nat.le_of_ble_eq_true rfl) ?_
  intro p e s m below meth c ls hC hr_ hlk hnm hE hP hS hl
  obtain ⟨hx, hb, hml, hown, hG⟩ := id hC
  have hl : lv_has ls 5 [(0, .ref (ad g (3, r, 0)))] := hl
  have qH := hv.lH
  have qS := hv.lS
  have qW := hv.lW
  refine lv_iconst (v := 0) hx hb dX1_sendWardens_0 (by decide) ?_
  refine lv_istore_n (lv' := [(1, .int ((0 : Int32))), (0, .ref (ad g (3, r, 0)))]) hx hb dX1_sendWardens_1 rfl hl (by decide) rfl (fun ls hl => ?_)
  refine lp_W (i0 := 0) (nW v) (fun i => ent g (setR M r (it gua i v)) o) (fun i => [(1, .int (nI i)), (0, .ref (ad g (3, r, 0)))]) (fun i => True) (Nat.zero_le _) (hP.castR (rfl)) hS (lv_sub hl [0, 1] rfl) (trivial) (fun H locs ls hP hS hl J => ?_) (fun i hi IH H locs ls hP hS hl J => ?_)
  · refine lv_iload_n hx hb dX1_sendWardens_2 rfl (lv_at hl 0 rfl) ?_
    refine lv_aload_n hx hb dX1_sendWardens_3 rfl (lv_at hl 1 rfl) ?_
    refine m_get hC hE hP (k_3 hr) e_3 rfl u_1 8 (by decide) w_130 rfl rfl dX1_sendWardens_4 ?_
    refine m_top (y := nI (nW v)) ((it_keep (fun _ _ => gua_ne (by decide) (by decide) (by decide) (by decide) (by decide) (by decide)) _ _).trans hv.eW) ?_
    refine lv_icmp_ge (tgt := 81) hx hb dX1_sendWardens_7 (by decide) (fun c1 => ?_) (fun c1 => absurd (nI_le (Nat.le_refl _) (by omega)) c1)
    exact m_vret hC hr_ hlk hS (hP.castR (rfl)) dX1_sendWardens_81
  · have hi1 : Inv (it gua i v) := senI_inv hv i (by omega)
    have eW1 : nW (it gua i v) = nW v := by unfold nW; rw [it_keep (fun _ _ => gua_ne (by decide) (by decide) (by decide) (by decide) (by decide) (by decide))]
    have qH1 := hi1.lH
    refine lv_iload_n hx hb dX1_sendWardens_2 rfl (lv_at hl 0 rfl) ?_
    refine lv_aload_n hx hb dX1_sendWardens_3 rfl (lv_at hl 1 rfl) ?_
    refine m_get hC hE hP (k_3 hr) e_3 rfl u_1 8 (by decide) w_130 rfl rfl dX1_sendWardens_4 ?_
    refine m_top (y := nI (nW v)) ((it_keep (fun _ _ => gua_ne (by decide) (by decide) (by decide) (by decide) (by decide) (by decide)) _ _).trans hv.eW) ?_
    refine lv_icmp_ge (tgt := 81) hx hb dX1_sendWardens_7 (by decide) (fun c2 => absurd c2 (nI_ge hi (by omega))) (fun c2 => ?_)
    refine lv_aload_n hx hb dX1_sendWardens_10 rfl (lv_at hl 1 rfl) ?_
    refine m_get hC hE hP (k_3 hr) e_3 rfl u_1 5 (by decide) w_124 rfl rfl dX1_sendWardens_11 ?_
    refine lv_iload_n hx hb dX1_sendWardens_14 rfl (lv_at hl 0 rfl) ?_
    refine m_aald hC hE hP (k_7 hr) f_7 rfl i (rfl) (by omega) (by decide) rfl dX1_sendWardens_15 ?_
    refine lv_astore_n (lv' := [(2, .ref (ad g (2, r, i))), (1, .int (nI i)), (0, .ref (ad g (3, r, 0)))]) hx hb dX1_sendWardens_16 rfl hl (by decide) rfl (fun ls hl => ?_)
    refine lv_aload_n hx hb dX1_sendWardens_17 rfl (lv_at hl 2 rfl) ?_
    refine lv_aload_n hx hb dX1_sendWardens_18 rfl (lv_at hl 0 rfl) ?_
    refine on_i (run_V hC hE hP hS (As := [.ref (ad g (2, r, i))]) (c_nearestOffence l hI hr hi1 i (by omega)) cal_X1_nearestOffence w_536 ⟨Nat.le_of_ble_eq_true rfl, Nat.le_of_ble_eq_true rfl⟩ (k_3 hr) e_3 rfl rfl rfl (Nat.le_of_ble_eq_true rfl) hl.1 ⟨Nat.le_of_ble_eq_true rfl, Nat.le_of_ble_eq_true rfl⟩ dX1_sendWardens_19) hS (fun H locs hP hS => ?_)
    refine lv_istore_n (lv' := [(3, .int (gol (it gua i v) i)), (2, .ref (ad g (2, r, i))), (1, .int (nI i)), (0, .ref (ad g (3, r, 0)))]) hx hb dX1_sendWardens_22 rfl hl (by decide) rfl (fun ls hl => ?_)
    refine lv_aload_n hx hb dX1_sendWardens_23 rfl (lv_at hl 3 rfl) ?_
    refine lv_iload_n hx hb dX1_sendWardens_24 rfl (lv_at hl 0 rfl) ?_
    refine on_i (run_V hC hE hP hS (As := [.int (gol (it gua i v) i)]) (c_hasHole l hI hr (v := it gua i v) (gol (it gua i v) i)) cal_X1_hasHole w_519 ⟨Nat.le_of_ble_eq_true rfl, Nat.le_of_ble_eq_true rfl⟩ (k_3 hr) e_3 rfl rfl rfl (Nat.le_of_ble_eq_true rfl) hl.1 ⟨Nat.le_of_ble_eq_true rfl, Nat.le_of_ble_eq_true rfl⟩ dX1_sendWardens_25) hS (fun H locs hP hS => ?_)
    refine lv_if_eq (tgt := 75) hx hb dX1_sendWardens_28 (by decide) (fun c1 => ?_) (fun c1 => ?_)
    · have c1 := b2i_f c1
      have hn := gol_f hi1 c1
      refine lv_iinc (v := nI (i + 1)) (lv' := [(1, .int (nI (i + 1))), (3, .int (gol (it gua i v) i)), (2, .ref (ad g (2, r, i))), (0, .ref (ad g (3, r, 0)))]) hx hb dX1_sendWardens_75 hl (k := 2) rfl (nI_1 _) (by decide) rfl (fun ls hl => ?_)
      refine lv_goto (tgt := 2) hx hb dX1_sendWardens_78 (by decide) ?_
      exact IH H locs ls (hP.castR (if_pos hn)) hS (lv_sub hl [0, 3] rfl) (trivial)
    · have c1 := b2i_t c1
      have hn := gol_t hi1 c1
      have hz := gol_of hi1 hn
      have hi2 : Inv (mov i ((gol (it gua i v) i).toNatClampNeg) (it gua i v)) := mov_inv hz.2 hi1
      have hf := far0 hi2 (w := i) (h := (gol (it gua i v) i).toNatClampNeg) (by unfold nW; rw [mov_ne (by decide) (by decide)]; show i < nW (it gua i v); rw [eW1]; exact hi) (by rw [nH_mov]; exact hz.2)
      refine lv_aload_n hx hb dX1_sendWardens_31 rfl (lv_at hl 3 rfl) ?_
      refine m_get hC hE hP (k_3 hr) e_3 rfl u_1 3 (by decide) w_120 rfl rfl dX1_sendWardens_32 ?_
      refine lv_iload_n hx hb dX1_sendWardens_35 rfl (lv_at hl 0 rfl) ?_
      refine m_aald hC hE hP (k_5 hr) f_5 rfl ((gol (it gua i v) i).toNatClampNeg) (hz.1) (by omega) (by decide) rfl dX1_sendWardens_36 ?_
      refine lv_astore (lv' := [(4, .ref (ad g (0, r, ((gol (it gua i v) i).toNatClampNeg)))), (3, .int (gol (it gua i v) i)), (2, .ref (ad g (2, r, i))), (1, .int (nI i)), (0, .ref (ad g (3, r, 0)))]) hx hb dX1_sendWardens_37 hl (by decide) rfl (fun ls hl => ?_)
      refine lv_aload_n hx hb dX1_sendWardens_39 rfl (lv_at hl 2 rfl) ?_
      refine lv_aload hx hb dX1_sendWardens_40 (lv_at hl 0 rfl) ?_
      refine on_v (run_V hC hE hP hS (As := [.ref (ad g (0, r, ((gol (it gua i v) i).toNatClampNeg)))]) (c_goTowards l hI hr (v := it gua i v) i ((gol (it gua i v) i).toNatClampNeg) (by omega) (by omega)) cal_X3_goTowards w_548 ⟨Nat.le_of_ble_eq_true rfl, Nat.le_of_ble_eq_true rfl⟩ (k_2 hr (by omega)) e_2 rfl rfl rfl (Nat.le_of_ble_eq_true rfl) hl.1 ⟨Nat.le_of_ble_eq_true rfl, Nat.le_of_ble_eq_true rfl⟩ dX1_sendWardens_42) hS (fun H locs hP hS => ?_)
      refine lv_aload_n hx hb dX1_sendWardens_45 rfl (lv_at hl 2 rfl) ?_
      refine m_get hC hE hP (k_2 hr (by omega)) e_2 rfl u_3 0 (by decide) w_98 rfl rfl dX1_sendWardens_46 ?_
      refine lv_aload hx hb dX1_sendWardens_49 (lv_at hl 0 rfl) ?_
      refine m_get hC hE hP (k_0 hr (by omega)) e_0 rfl u_0 0 (by decide) w_40 rfl rfl dX1_sendWardens_51 ?_
      refine lv_icmp_ne (tgt := 75) hx hb dX1_sendWardens_54 (by decide) (fun c2 => ?_) (fun c2 => ?_)
      · refine lv_iinc (v := nI (i + 1)) (lv' := [(1, .int (nI (i + 1))), (4, .ref (ad g (0, r, ((gol (it gua i v) i).toNatClampNeg)))), (3, .int (gol (it gua i v) i)), (2, .ref (ad g (2, r, i))), (0, .ref (ad g (3, r, 0)))]) hx hb dX1_sendWardens_75 hl (k := 3) rfl (nI_1 _) (by decide) rfl (fun ls hl => ?_)
        refine lv_goto (tgt := 2) hx hb dX1_sendWardens_78 (by decide) ?_
        exact IH H locs ls (hP.castR ((if_neg hn).trans (if_pos (hf.mpr (fun q => c2 q.1))))) hS (lv_sub hl [0, 4] rfl) (trivial)
      · refine lv_aload_n hx hb dX1_sendWardens_57 rfl (lv_at hl 2 rfl) ?_
        refine m_get hC hE hP (k_2 hr (by omega)) e_2 rfl u_3 1 (by decide) w_100 rfl rfl dX1_sendWardens_58 ?_
        refine lv_aload hx hb dX1_sendWardens_61 (lv_at hl 0 rfl) ?_
        refine m_get hC hE hP (k_0 hr (by omega)) e_0 rfl u_0 1 (by decide) w_43 rfl rfl dX1_sendWardens_63 ?_
        refine lv_icmp_ne (tgt := 75) hx hb dX1_sendWardens_66 (by decide) (fun c3 => ?_) (fun c3 => ?_)
        · refine lv_iinc (v := nI (i + 1)) (lv' := [(1, .int (nI (i + 1))), (4, .ref (ad g (0, r, ((gol (it gua i v) i).toNatClampNeg)))), (3, .int (gol (it gua i v) i)), (2, .ref (ad g (2, r, i))), (0, .ref (ad g (3, r, 0)))]) hx hb dX1_sendWardens_75 hl (k := 3) rfl (nI_1 _) (by decide) rfl (fun ls hl => ?_)
          refine lv_goto (tgt := 2) hx hb dX1_sendWardens_78 (by decide) ?_
          exact IH H locs ls (hP.castR ((if_neg hn).trans (if_pos (hf.mpr (fun q => c3 q.2))))) hS (lv_sub hl [0, 4] rfl) (trivial)
        · refine lv_aload_n hx hb dX1_sendWardens_69 rfl (lv_at hl 4 rfl) ?_
          refine lv_iload_n hx hb dX1_sendWardens_70 rfl (lv_at hl 1 rfl) ?_
          refine m_top (y := nI ((gol (it gua i v) i).toNatClampNeg)) (hz.1) ?_
          refine lv_aload_n hx hb dX1_sendWardens_71 rfl (lv_at hl 2 rfl) ?_
          refine on_v (run_V hC hE hP hS (As := [.int (nI ((gol (it gua i v) i).toNatClampNeg)), .ref (ad g (2, r, i))]) (c_fineAllAt l hI hr hi2 ((gol (it gua i v) i).toNatClampNeg) i (by rw [nH_mov]; exact hz.2) (by omega)) cal_X1_fineAllAt w_555 ⟨Nat.le_of_ble_eq_true rfl, Nat.le_of_ble_eq_true rfl⟩ (k_3 hr) e_3 rfl rfl rfl (Nat.le_of_ble_eq_true rfl) hl.1 ⟨Nat.le_of_ble_eq_true rfl, Nat.le_of_ble_eq_true rfl⟩ dX1_sendWardens_72) hS (fun H locs hP hS => ?_)
          refine lv_iinc (v := nI (i + 1)) (lv' := [(1, .int (nI (i + 1))), (4, .ref (ad g (0, r, ((gol (it gua i v) i).toNatClampNeg)))), (3, .int (gol (it gua i v) i)), (2, .ref (ad g (2, r, i))), (0, .ref (ad g (3, r, 0)))]) hx hb dX1_sendWardens_75 hl (k := 3) rfl (nI_1 _) (by decide) rfl (fun ls hl => ?_)
          refine lv_goto (tgt := 2) hx hb dX1_sendWardens_78 (by decide) ?_
          exact IH H locs ls (hP.castR ((if_neg hn).trans (if_neg (fun q => hf.mp q ⟨c2, c3⟩)))) hS (lv_sub hl [0, 4] rfl) (trivial)
set_option maxHeartbeats 4000000 in
set_option maxRecDepth 100000 in
theorem c_keepCatches (l : Launch) {g : Gm} (hI : IJ g KK) {M : Mem} {o : Nat → Int64} {r : Nat} (hr : r < 2) {v : Vw} (hv : Inv v) : MI l yX1_keepCatches cX1_keepCatches 3 .int (rm 0 0) g KK (ent g (setR M r v) o) [.ref (ad g (3, r, 0))] (sumI (v 9) (nS v)) (ent g (setR M r (kepA v)) o) := by
  refine met_of (by decide +kernel) (Nat.le_of_ble_eq_true rfl) ?_
  intro p e s m below meth c ls hC hr_ hlk hnm hE hP hS hl
  obtain ⟨hx, hb, hml, hown, hG⟩ := id hC
  have hl : lv_has ls 3 [(0, .ref (ad g (3, r, 0)))] := hl
  have qH := hv.lH
  have qS := hv.lS
  have qW := hv.lW
  refine lv_iconst (v := 0) hx hb dX1_keepCatches_0 (by decide) ?_
  refine lv_istore_n (lv' := [(1, .int ((0 : Int32))), (0, .ref (ad g (3, r, 0)))]) hx hb dX1_keepCatches_1 rfl hl (by decide) rfl (fun ls hl => ?_)
  refine lv_iconst (v := 0) hx hb dX1_keepCatches_2 (by decide) ?_
  refine lv_istore_n (lv' := [(2, .int ((0 : Int32))), (1, .int ((0 : Int32))), (0, .ref (ad g (3, r, 0)))]) hx hb dX1_keepCatches_3 rfl hl (by decide) rfl (fun ls hl => ?_)
  refine lp_W (i0 := 0) (nS v) (fun i => ent g (setR M r (it kep i v)) o) (fun i => [(2, .int (nI i)), (1, .int (sumI (v 9) i)), (0, .ref (ad g (3, r, 0)))]) (fun i => True) (Nat.zero_le _) (hP.castR (rfl)) hS (lv_sub hl [0, 1, 2] rfl) (trivial) (fun H locs ls hP hS hl J => ?_) (fun i hi IH H locs ls hP hS hl J => ?_)
  · refine lv_iload_n hx hb dX1_keepCatches_4 rfl (lv_at hl 0 rfl) ?_
    refine lv_aload_n hx hb dX1_keepCatches_5 rfl (lv_at hl 2 rfl) ?_
    refine m_get hC hE hP (k_3 hr) e_3 rfl u_1 7 (by decide) w_128 rfl rfl dX1_keepCatches_6 ?_
    refine m_top (y := nI (nS v)) ((it_keep (fun _ _ => kep_ne (by decide)) _ _).trans hv.eS) ?_
    refine lv_icmp_ge (tgt := 53) hx hb dX1_keepCatches_9 (by decide) (fun c1 => ?_) (fun c1 => absurd (nI_le (Nat.le_refl _) (by omega)) c1)
    refine lv_iload_n hx hb dX1_keepCatches_53 rfl (lv_at hl 1 rfl) ?_
    exact m_iret hC hr_ hlk hS (hP.castR (rfl)) rfl (rfl) dX1_keepCatches_54
  · refine lv_iload_n hx hb dX1_keepCatches_4 rfl (lv_at hl 0 rfl) ?_
    refine lv_aload_n hx hb dX1_keepCatches_5 rfl (lv_at hl 2 rfl) ?_
    refine m_get hC hE hP (k_3 hr) e_3 rfl u_1 7 (by decide) w_128 rfl rfl dX1_keepCatches_6 ?_
    refine m_top (y := nI (nS v)) ((it_keep (fun _ _ => kep_ne (by decide)) _ _).trans hv.eS) ?_
    refine lv_icmp_ge (tgt := 53) hx hb dX1_keepCatches_9 (by decide) (fun c2 => absurd c2 (nI_ge hi (by omega))) (fun c2 => ?_)
    refine lv_aload_n hx hb dX1_keepCatches_12 rfl (lv_at hl 2 rfl) ?_
    refine m_get hC hE hP (k_3 hr) e_3 rfl u_1 4 (by decide) w_122 rfl rfl dX1_keepCatches_13 ?_
    refine lv_iload_n hx hb dX1_keepCatches_16 rfl (lv_at hl 0 rfl) ?_
    refine m_aald hC hE hP (k_6 hr) f_6 rfl i (rfl) (by omega) (by decide) rfl dX1_keepCatches_17 ?_
    refine lv_dup hx hb dX1_keepCatches_18 rfl ?_
    refine m_get hC hE hP (k_1 hr (by omega)) e_1 rfl u_2 4 (by decide) w_73 rfl rfl dX1_keepCatches_19 ?_
    refine lv_aload_n hx hb dX1_keepCatches_22 rfl (lv_at hl 2 rfl) ?_
    refine m_get hC hE hP (k_3 hr) e_3 rfl u_1 4 (by decide) w_122 rfl rfl dX1_keepCatches_23 ?_
    refine lv_iload_n hx hb dX1_keepCatches_26 rfl (lv_at hl 0 rfl) ?_
    refine m_aald hC hE hP (k_6 hr) f_6 rfl i (rfl) (by omega) (by decide) rfl dX1_keepCatches_27 ?_
    refine m_get hC hE hP (k_1 hr (by omega)) e_1 rfl u_2 3 (by decide) w_71 rfl rfl dX1_keepCatches_28 ?_
    refine lv_iadd hx hb dX1_keepCatches_31 ?_
    refine m_put hC hE hI hP hS (k_1 hr (by omega)) e_1 rfl u_2 tyX2_ok nmX2 4 (by decide) w_73 rfl rfl rfl rfl (Nat.le_of_ble_eq_true rfl) p_1_4 (ent_put g M r (it kep i v) o 10 i (((it kep i v) 10 i) + ((it kep i v) 9 i)) (kf_1 hr (by decide) (by decide))) dX1_keepCatches_32 (fun H locs hP hS => ?_)
    refine lv_iload_n hx hb dX1_keepCatches_35 rfl (lv_at hl 1 rfl) ?_
    refine lv_aload_n hx hb dX1_keepCatches_36 rfl (lv_at hl 2 rfl) ?_
    refine m_get hC hE hP (k_3 hr) e_3 rfl u_1 4 (by decide) w_122 rfl rfl dX1_keepCatches_37 ?_
    refine lv_iload_n hx hb dX1_keepCatches_40 rfl (lv_at hl 0 rfl) ?_
    refine m_aald hC hE hP (k_6 hr) f_6 rfl i (rfl) (by omega) (by decide) rfl dX1_keepCatches_41 ?_
    refine m_get hC hE hP (k_1 hr (by omega)) e_1 rfl u_2 3 (by decide) w_71 rfl rfl dX1_keepCatches_42 ?_
    refine m_top (y := v 9 i) ((up2_c (by decide)).trans (it_keep (fun _ _ => kep_ne (by decide)) _ _)) ?_
    refine lv_iadd hx hb dX1_keepCatches_45 ?_
    refine lv_istore_n (lv' := [(1, .int ((sumI (v 9) i) + (v 9 i))), (2, .int (nI i)), (0, .ref (ad g (3, r, 0)))]) hx hb dX1_keepCatches_46 rfl hl (by decide) rfl (fun ls hl => ?_)
    refine lv_iinc (v := nI (i + 1)) (lv' := [(2, .int (nI (i + 1))), (1, .int ((sumI (v 9) i) + (v 9 i))), (0, .ref (ad g (3, r, 0)))]) hx hb dX1_keepCatches_47 hl (k := 1) rfl (nI_1 _) (by decide) rfl (fun ls hl => ?_)
    refine lv_goto (tgt := 4) hx hb dX1_keepCatches_50 (by decide) ?_
    exact IH H locs ls (hP.castR (rfl)) hS (lv_sub hl [0, 1, 2] rfl) (trivial)
set_option maxHeartbeats 4000000 in
set_option maxRecDepth 100000 in
theorem c_breedEels (l : Launch) {g : Gm} (hI : IJ g KK) {M : Mem} {o : Nat → Int64} {r : Nat} (hr : r < 2) {v : Vw} : MV l yX1_breedEels cX1_breedEels 2 (rm 1 22) g KK (ent g (setR M r v) o) [.ref (ad g (3, r, 0))] (ent g (setR M r (breA v)) o) := by
  refine met_of (by decide +kernel) (Nat.le_of_ble_eq_true rfl) ?_
  intro p e s m below meth c ls hC hr_ hlk hnm hE hP hS hl
  obtain ⟨hx, hb, hml, hown, hG⟩ := id hC
  have hl : lv_has ls 2 [(0, .ref (ad g (3, r, 0)))] := hl
  refine lv_iconst (v := 0) hx hb dX1_breedEels_0 (by decide) ?_
  refine lv_istore_n (lv' := [(1, .int ((0 : Int32))), (0, .ref (ad g (3, r, 0)))]) hx hb dX1_breedEels_1 rfl hl (by decide) rfl (fun ls hl => ?_)
  refine lp_W (i0 := 0) 81 (fun i => ent g (setR M r (it bre i v)) o) (fun i => [(1, .int (nI i)), (0, .ref (ad g (3, r, 0)))]) (fun i => True) (Nat.zero_le _) (hP.castR (rfl)) hS (lv_sub hl [0, 1] rfl) (trivial) (fun H locs ls hP hS hl J => ?_) (fun i hi IH H locs ls hP hS hl J => ?_)
  · refine lv_iload_n hx hb dX1_breedEels_2 rfl (lv_at hl 0 rfl) ?_
    refine lv_bipush (v := 81) hx hb dX1_breedEels_3 (by decide) ?_
    refine lv_icmp_ge (tgt := 49) hx hb dX1_breedEels_5 (by decide) (fun c1 => ?_) (fun c1 => absurd (by decide) c1)
    exact m_vret hC hr_ hlk hS (hP.castR (rfl)) dX1_breedEels_49
  · refine lv_iload_n hx hb dX1_breedEels_2 rfl (lv_at hl 0 rfl) ?_
    refine lv_bipush (v := 81) hx hb dX1_breedEels_3 (by decide) ?_
    refine lv_icmp_ge (tgt := 49) hx hb dX1_breedEels_5 (by decide) (fun c2 => absurd c2 (nI_ge (b := 81) hi (by decide))) (fun c2 => ?_)
    refine lv_aload_n hx hb dX1_breedEels_8 rfl (lv_at hl 1 rfl) ?_
    refine m_get hC hE hP (k_3 hr) e_3 rfl u_1 0 (by decide) w_114 rfl rfl dX1_breedEels_9 ?_
    refine lv_iload_n hx hb dX1_breedEels_12 rfl (lv_at hl 0 rfl) ?_
    refine m_iald hC hE hP (k_4 hr (by decide)) e_4 i (rfl) (show i < 81 from by omega) (by decide) dX1_breedEels_13 ?_
    refine lv_iconst (v := 1) hx hb dX1_breedEels_14 (by decide) ?_
    refine lv_bipush (v := 40) hx hb dX1_breedEels_15 (by decide) ?_
    refine on_i (run_SN hC hE hP hS (As := [.int ((it bre i v) 0 i), .int ((1 : Int32)), .int ((40 : Int32))]) (c_isWithin l ((it bre i v) 0 i) (1 : Int32) (40 : Int32)) cal_X4_isWithin n_438 ⟨Nat.le_of_ble_eq_true rfl, Nat.le_of_ble_eq_true rfl⟩ rfl rfl (Nat.le_of_ble_eq_true rfl) hl.1 ⟨Nat.le_of_ble_eq_true rfl, Nat.le_of_ble_eq_true rfl⟩ dX1_breedEels_17) hS (fun H locs hP hS => ?_)
    refine lv_if_eq (tgt := 43) hx hb dX1_breedEels_20 (by decide) (fun c1 => ?_) (fun c1 => ?_)
    · have c1 := b2i_f c1
      refine lv_iinc (v := nI (i + 1)) (lv' := [(1, .int (nI (i + 1))), (0, .ref (ad g (3, r, 0)))]) hx hb dX1_breedEels_43 hl (k := 0) rfl (nI_1 _) (by decide) rfl (fun ls hl => ?_)
      refine lv_goto (tgt := 2) hx hb dX1_breedEels_46 (by decide) ?_
      exact IH H locs ls (hP.castR (if_neg (by rw [c1]; decide))) hS (lv_sub hl [0, 1] rfl) (trivial)
    · have c1 := b2i_t c1
      refine lv_aload_n hx hb dX1_breedEels_23 rfl (lv_at hl 1 rfl) ?_
      refine m_get hC hE hP (k_3 hr) e_3 rfl u_1 0 (by decide) w_114 rfl rfl dX1_breedEels_24 ?_
      refine lv_iload_n hx hb dX1_breedEels_27 rfl (lv_at hl 0 rfl) ?_
      refine lv_dup2_11 hx hb dX1_breedEels_28 rfl rfl ?_
      refine m_iald hC hE hP (k_4 hr (by decide)) e_4 i (rfl) (show i < 81 from by omega) (by decide) dX1_breedEels_29 ?_
      refine lv_aload_n hx hb dX1_breedEels_30 rfl (lv_at hl 1 rfl) ?_
      refine m_get hC hE hP (k_3 hr) e_3 rfl u_1 0 (by decide) w_114 rfl rfl dX1_breedEels_31 ?_
      refine lv_iload_n hx hb dX1_breedEels_34 rfl (lv_at hl 0 rfl) ?_
      refine m_iald hC hE hP (k_4 hr (by decide)) e_4 i (rfl) (show i < 81 from by omega) (by decide) dX1_breedEels_35 ?_
      refine lv_bipush (v := 10) hx hb dX1_breedEels_36 (by decide) ?_
      refine lv_idiv hx hb dX1_breedEels_38 (by decide) ?_
      refine lv_iconst (v := 1) hx hb dX1_breedEels_39 (by decide) ?_
      refine lv_iadd hx hb dX1_breedEels_40 ?_
      refine lv_iadd hx hb dX1_breedEels_41 ?_
      refine m_iast hC hE hI hP hS (k_4 hr (by decide)) e_4 i (rfl) (show i < 81 from by omega) (by decide) p_4 (ent_put g M r (it bre i v) o 0 i (((it bre i v) 0 i) + ((((it bre i v) 0 i) / (10 : Int32)) + (1 : Int32))) (kf_4 hr (by decide))) dX1_breedEels_42 (fun H locs hP hS => ?_)
      refine lv_iinc (v := nI (i + 1)) (lv' := [(1, .int (nI (i + 1))), (0, .ref (ad g (3, r, 0)))]) hx hb dX1_breedEels_43 hl (k := 0) rfl (nI_1 _) (by decide) rfl (fun ls hl => ?_)
      refine lv_goto (tgt := 2) hx hb dX1_breedEels_46 (by decide) ?_
      exact IH H locs ls (hP.castR (if_pos c1)) hS (lv_sub hl [0, 1] rfl) (trivial)
set_option maxHeartbeats 4000000 in
set_option maxRecDepth 100000 in
theorem c_closeAllHoles (l : Launch) {g : Gm} (hI : IJ g KK) {M : Mem} {o : Nat → Int64} {r : Nat} (hr : r < 2) {v : Vw} (hv : Inv v) : MV l yX1_closeAllHoles cX1_closeAllHoles 2 (rm 0 0) g KK (ent g (setR M r v) o) [.ref (ad g (3, r, 0))] (ent g (setR M r (clA v)) o) := by
  refine met_of (by decide +kernel) (Nat.le_of_ble_eq_true rfl) ?_
  intro p e s m below meth c ls hC hr_ hlk hnm hE hP hS hl
  obtain ⟨hx, hb, hml, hown, hG⟩ := id hC
  have hl : lv_has ls 2 [(0, .ref (ad g (3, r, 0)))] := hl
  have qH := hv.lH
  have qS := hv.lS
  have qW := hv.lW
  refine lv_iconst (v := 0) hx hb dX1_closeAllHoles_0 (by decide) ?_
  refine lv_istore_n (lv' := [(1, .int ((0 : Int32))), (0, .ref (ad g (3, r, 0)))]) hx hb dX1_closeAllHoles_1 rfl hl (by decide) rfl (fun ls hl => ?_)
  refine lp_W (i0 := 0) (nH v) (fun i => ent g (setR M r (it (fun h u => up2 u 5 h 0) i v)) o) (fun i => [(1, .int (nI i)), (0, .ref (ad g (3, r, 0)))]) (fun i => True) (Nat.zero_le _) (hP.castR (rfl)) hS (lv_sub hl [0, 1] rfl) (trivial) (fun H locs ls hP hS hl J => ?_) (fun i hi IH H locs ls hP hS hl J => ?_)
  · refine lv_iload_n hx hb dX1_closeAllHoles_2 rfl (lv_at hl 0 rfl) ?_
    refine lv_aload_n hx hb dX1_closeAllHoles_3 rfl (lv_at hl 1 rfl) ?_
    refine m_get hC hE hP (k_3 hr) e_3 rfl u_1 6 (by decide) w_126 rfl rfl dX1_closeAllHoles_4 ?_
    refine m_top (y := nI (nH v)) ((it_keep (fun _ _ => up2_c (by decide)) _ _).trans hv.eH) ?_
    refine lv_icmp_ge (tgt := 26) hx hb dX1_closeAllHoles_7 (by decide) (fun c1 => ?_) (fun c1 => absurd (nI_le (Nat.le_refl _) (by omega)) c1)
    refine lv_iconst (v := 0) hx hb dX1_closeAllHoles_26 (by decide) ?_
    refine lv_istore_n (lv' := [(1, .int ((0 : Int32))), (0, .ref (ad g (3, r, 0)))]) hx hb dX1_closeAllHoles_27 rfl hl (by decide) rfl (fun ls hl => ?_)
    refine lp_W (i0 := 0) (nS v) (fun i => ent g (setR M r (it (fun k u => up2 u 8 k (-1)) i (it (fun h u => up2 u 5 h 0) (nH v) v))) o) (fun i => [(1, .int (nI i)), (0, .ref (ad g (3, r, 0)))]) (fun i => True) (Nat.zero_le _) (hP.castR (rfl)) hS (lv_sub hl [0, 1] rfl) (trivial) (fun H locs ls hP hS hl J => ?_) (fun i hi IH H locs ls hP hS hl J => ?_)
    · refine lv_iload_n hx hb dX1_closeAllHoles_28 rfl (lv_at hl 0 rfl) ?_
      refine lv_aload_n hx hb dX1_closeAllHoles_29 rfl (lv_at hl 1 rfl) ?_
      refine m_get hC hE hP (k_3 hr) e_3 rfl u_1 7 (by decide) w_128 rfl rfl dX1_closeAllHoles_30 ?_
      refine m_top (y := nI (nS v)) ((it_keep (fun _ _ => up2_c (by decide)) _ _).trans ((it_keep (fun _ _ => up2_c (by decide)) _ _).trans hv.eS)) ?_
      refine lv_icmp_ge (tgt := 52) hx hb dX1_closeAllHoles_33 (by decide) (fun c2 => ?_) (fun c2 => absurd (nI_le (Nat.le_refl _) (by omega)) c2)
      exact m_vret hC hr_ hlk hS (hP.castR (rfl)) dX1_closeAllHoles_52
    · refine lv_iload_n hx hb dX1_closeAllHoles_28 rfl (lv_at hl 0 rfl) ?_
      refine lv_aload_n hx hb dX1_closeAllHoles_29 rfl (lv_at hl 1 rfl) ?_
      refine m_get hC hE hP (k_3 hr) e_3 rfl u_1 7 (by decide) w_128 rfl rfl dX1_closeAllHoles_30 ?_
      refine m_top (y := nI (nS v)) ((it_keep (fun _ _ => up2_c (by decide)) _ _).trans ((it_keep (fun _ _ => up2_c (by decide)) _ _).trans hv.eS)) ?_
      refine lv_icmp_ge (tgt := 52) hx hb dX1_closeAllHoles_33 (by decide) (fun c3 => absurd c3 (nI_ge hi (by omega))) (fun c3 => ?_)
      refine lv_aload_n hx hb dX1_closeAllHoles_36 rfl (lv_at hl 1 rfl) ?_
      refine m_get hC hE hP (k_3 hr) e_3 rfl u_1 4 (by decide) w_122 rfl rfl dX1_closeAllHoles_37 ?_
      refine lv_iload_n hx hb dX1_closeAllHoles_40 rfl (lv_at hl 0 rfl) ?_
      refine m_aald hC hE hP (k_6 hr) f_6 rfl i (rfl) (by omega) (by decide) rfl dX1_closeAllHoles_41 ?_
      refine lv_iconst (v := (-1)) hx hb dX1_closeAllHoles_42 (by decide) ?_
      refine m_put hC hE hI hP hS (k_1 hr (by omega)) e_1 rfl u_2 tyX2_ok nmX2 2 (by decide) w_68 rfl rfl rfl rfl (Nat.le_of_ble_eq_true rfl) p_1_2 (ent_put g M r (it (fun k u => up2 u 8 k (-1)) i (it (fun h u => up2 u 5 h 0) (nH v) v)) o 8 i (-1 : Int32) (kf_1 hr (by decide) (by decide))) dX1_closeAllHoles_43 (fun H locs hP hS => ?_)
      refine lv_iinc (v := nI (i + 1)) (lv' := [(1, .int (nI (i + 1))), (0, .ref (ad g (3, r, 0)))]) hx hb dX1_closeAllHoles_46 hl (k := 0) rfl (nI_1 _) (by decide) rfl (fun ls hl => ?_)
      refine lv_goto (tgt := 28) hx hb dX1_closeAllHoles_49 (by decide) ?_
      exact IH H locs ls (hP.castR (rfl)) hS (lv_sub hl [0, 1] rfl) (trivial)
  · refine lv_iload_n hx hb dX1_closeAllHoles_2 rfl (lv_at hl 0 rfl) ?_
    refine lv_aload_n hx hb dX1_closeAllHoles_3 rfl (lv_at hl 1 rfl) ?_
    refine m_get hC hE hP (k_3 hr) e_3 rfl u_1 6 (by decide) w_126 rfl rfl dX1_closeAllHoles_4 ?_
    refine m_top (y := nI (nH v)) ((it_keep (fun _ _ => up2_c (by decide)) _ _).trans hv.eH) ?_
    refine lv_icmp_ge (tgt := 26) hx hb dX1_closeAllHoles_7 (by decide) (fun c4 => absurd c4 (nI_ge hi (by omega))) (fun c4 => ?_)
    refine lv_aload_n hx hb dX1_closeAllHoles_10 rfl (lv_at hl 1 rfl) ?_
    refine m_get hC hE hP (k_3 hr) e_3 rfl u_1 3 (by decide) w_120 rfl rfl dX1_closeAllHoles_11 ?_
    refine lv_iload_n hx hb dX1_closeAllHoles_14 rfl (lv_at hl 0 rfl) ?_
    refine m_aald hC hE hP (k_5 hr) f_5 rfl i (rfl) (by omega) (by decide) rfl dX1_closeAllHoles_15 ?_
    refine lv_iconst (v := 0) hx hb dX1_closeAllHoles_16 (by decide) ?_
    refine m_put hC hE hI hP hS (k_0 hr (by omega)) e_0 rfl u_0 tyX0_ok nmX0 2 (by decide) w_45 rfl rfl rfl rfl (Nat.le_of_ble_eq_true rfl) p_0_2 (ent_put g M r (it (fun h u => up2 u 5 h 0) i v) o 5 i (0 : Int32) (kf_0 hr (by decide) (by decide))) dX1_closeAllHoles_17 (fun H locs hP hS => ?_)
    refine lv_iinc (v := nI (i + 1)) (lv' := [(1, .int (nI (i + 1))), (0, .ref (ad g (3, r, 0)))]) hx hb dX1_closeAllHoles_20 hl (k := 0) rfl (nI_1 _) (by decide) rfl (fun ls hl => ?_)
    refine lv_goto (tgt := 2) hx hb dX1_closeAllHoles_23 (by decide) ?_
    exact IH H locs ls (hP.castR (rfl)) hS (lv_sub hl [0, 1] rfl) (trivial)
set_option maxHeartbeats 4000000 in
set_option maxRecDepth 100000 in
theorem c_closeEmptyHoles (l : Launch) {g : Gm} (hI : IJ g KK) {M : Mem} {o : Nat → Int64} {r : Nat} (hr : r < 2) {v : Vw} (hv : Inv v) : MV l yX1_closeEmptyHoles cX1_closeEmptyHoles 2 (rm 1 23) g KK (ent g (setR M r v) o) [.ref (ad g (3, r, 0))] (ent g (setR M r (clE v)) o) := by
  refine met_of (by decide +kernel) (Nat.le_of_ble_eq_true rfl) ?_
  intro p e s m below meth c ls hC hr_ hlk hnm hE hP hS hl
  obtain ⟨hx, hb, hml, hown, hG⟩ := id hC
  have hl : lv_has ls 2 [(0, .ref (ad g (3, r, 0)))] := hl
  have qH := hv.lH
  have qS := hv.lS
  have qW := hv.lW
  refine lv_iconst (v := 0) hx hb dX1_closeEmptyHoles_0 (by decide) ?_
  refine lv_istore_n (lv' := [(1, .int ((0 : Int32))), (0, .ref (ad g (3, r, 0)))]) hx hb dX1_closeEmptyHoles_1 rfl hl (by decide) rfl (fun ls hl => ?_)
  refine lp_W (i0 := 0) (nH v) (fun i => ent g (setR M r (it clEs i v)) o) (fun i => [(1, .int (nI i)), (0, .ref (ad g (3, r, 0)))]) (fun i => True) (Nat.zero_le _) (hP.castR (rfl)) hS (lv_sub hl [0, 1] rfl) (trivial) (fun H locs ls hP hS hl J => ?_) (fun i hi IH H locs ls hP hS hl J => ?_)
  · refine lv_iload_n hx hb dX1_closeEmptyHoles_2 rfl (lv_at hl 0 rfl) ?_
    refine lv_aload_n hx hb dX1_closeEmptyHoles_3 rfl (lv_at hl 1 rfl) ?_
    refine m_get hC hE hP (k_3 hr) e_3 rfl u_1 6 (by decide) w_126 rfl rfl dX1_closeEmptyHoles_4 ?_
    refine m_top (y := nI (nH v)) ((it_keep (fun _ _ => clEs_ne (by decide)) _ _).trans hv.eH) ?_
    refine lv_icmp_ge (tgt := 34) hx hb dX1_closeEmptyHoles_7 (by decide) (fun c1 => ?_) (fun c1 => absurd (nI_le (Nat.le_refl _) (by omega)) c1)
    exact m_vret hC hr_ hlk hS (hP.castR (rfl)) dX1_closeEmptyHoles_34
  · have hi1 : Inv (it clEs i v) := clEI_inv hv i
    refine lv_iload_n hx hb dX1_closeEmptyHoles_2 rfl (lv_at hl 0 rfl) ?_
    refine lv_aload_n hx hb dX1_closeEmptyHoles_3 rfl (lv_at hl 1 rfl) ?_
    refine m_get hC hE hP (k_3 hr) e_3 rfl u_1 6 (by decide) w_126 rfl rfl dX1_closeEmptyHoles_4 ?_
    refine m_top (y := nI (nH v)) ((it_keep (fun _ _ => clEs_ne (by decide)) _ _).trans hv.eH) ?_
    refine lv_icmp_ge (tgt := 34) hx hb dX1_closeEmptyHoles_7 (by decide) (fun c2 => absurd c2 (nI_ge hi (by omega))) (fun c2 => ?_)
    refine lv_aload_n hx hb dX1_closeEmptyHoles_10 rfl (lv_at hl 1 rfl) ?_
    refine lv_iload_n hx hb dX1_closeEmptyHoles_11 rfl (lv_at hl 0 rfl) ?_
    refine on_i (run_V hC hE hP hS (As := [.int (nI i)]) (c_spearersAt l hI hr hi1 (nI i)) cal_X1_spearersAt w_248 ⟨Nat.le_of_ble_eq_true rfl, Nat.le_of_ble_eq_true rfl⟩ (k_3 hr) e_3 rfl rfl rfl (Nat.le_of_ble_eq_true rfl) hl.1 ⟨Nat.le_of_ble_eq_true rfl, Nat.le_of_ble_eq_true rfl⟩ dX1_closeEmptyHoles_12) hS (fun H locs hP hS => ?_)
    refine lv_if_ne (tgt := 28) hx hb dX1_closeEmptyHoles_15 (by decide) (fun c1 => ?_) (fun c1 => ?_)
    · refine lv_iinc (v := nI (i + 1)) (lv' := [(1, .int (nI (i + 1))), (0, .ref (ad g (3, r, 0)))]) hx hb dX1_closeEmptyHoles_28 hl (k := 0) rfl (nI_1 _) (by decide) rfl (fun ls hl => ?_)
      refine lv_goto (tgt := 2) hx hb dX1_closeEmptyHoles_31 (by decide) ?_
      exact IH H locs ls (hP.castR (if_neg c1)) hS (lv_sub hl [0, 1] rfl) (trivial)
    · refine lv_aload_n hx hb dX1_closeEmptyHoles_18 rfl (lv_at hl 1 rfl) ?_
      refine m_get hC hE hP (k_3 hr) e_3 rfl u_1 3 (by decide) w_120 rfl rfl dX1_closeEmptyHoles_19 ?_
      refine lv_iload_n hx hb dX1_closeEmptyHoles_22 rfl (lv_at hl 0 rfl) ?_
      refine m_aald hC hE hP (k_5 hr) f_5 rfl i (rfl) (by omega) (by decide) rfl dX1_closeEmptyHoles_23 ?_
      refine lv_iconst (v := 0) hx hb dX1_closeEmptyHoles_24 (by decide) ?_
      refine m_put hC hE hI hP hS (k_0 hr (by omega)) e_0 rfl u_0 tyX0_ok nmX0 2 (by decide) w_45 rfl rfl rfl rfl (Nat.le_of_ble_eq_true rfl) p_0_2 (ent_put g M r (it clEs i v) o 5 i (0 : Int32) (kf_0 hr (by decide) (by decide))) dX1_closeEmptyHoles_25 (fun H locs hP hS => ?_)
      refine lv_iinc (v := nI (i + 1)) (lv' := [(1, .int (nI (i + 1))), (0, .ref (ad g (3, r, 0)))]) hx hb dX1_closeEmptyHoles_28 hl (k := 0) rfl (nI_1 _) (by decide) rfl (fun ls hl => ?_)
      refine lv_goto (tgt := 2) hx hb dX1_closeEmptyHoles_31 (by decide) ?_
      exact IH H locs ls (hP.castR (if_pos c1)) hS (lv_sub hl [0, 1] rfl) (trivial)
set_option maxHeartbeats 4000000 in
set_option maxRecDepth 100000 in
theorem c_freeze (l : Launch) {g : Gm} (hI : IJ g KK) {M : Mem} {o : Nat → Int64} {r : Nat} (hr : r < 2) {v : Vw} (hv : Inv v) (hN : Nt 0 v) : MV l yX1_freeze cX1_freeze 2 (rm 2 44) g KK (ent g (setR M r v) o) [.ref (ad g (3, r, 0))] (ent g (setR M r (frz v)) o) := by
  refine met_of (by decide +kernel) (Nat.le_of_ble_eq_true rfl) ?_
  intro p e s m below meth c ls hC hr_ hlk hnm hE hP hS hl
  obtain ⟨hx, hb, hml, hown, hG⟩ := id hC
  have hl : lv_has ls 2 [(0, .ref (ad g (3, r, 0)))] := hl
  have qH := hv.lH
  have qS := hv.lS
  have qW := hv.lW
  have hN1 := hN.1
  have hN2 := hN.2
  have hv2 : Inv (up2 v 16 3 (iceN v)) := ice_inv hv _
  have hv3 : Inv (clA (up2 v 16 3 (iceN v))) := clA_inv hv2
  refine lv_aload_n hx hb dX1_freeze_0 rfl (lv_at hl 0 rfl) ?_
  refine lv_aload_n hx hb dX1_freeze_1 rfl (lv_at hl 0 rfl) ?_
  refine m_get hC hE hP (k_3 hr) e_3 rfl u_1 10 (by decide) w_134 rfl rfl dX1_freeze_2 ?_
  refine m_top (y := nI (tt v)) (hN1) ?_
  refine on_i (run_V hC hE hP hS (As := [.int (nI (tt v))]) (c_frostOf l hI hr (v := v) (tt v) (by omega)) cal_X1_frostOf w_571 ⟨Nat.le_of_ble_eq_true rfl, Nat.le_of_ble_eq_true rfl⟩ (k_3 hr) e_3 rfl rfl rfl (Nat.le_of_ble_eq_true rfl) hl.1 ⟨Nat.le_of_ble_eq_true rfl, Nat.le_of_ble_eq_true rfl⟩ dX1_freeze_5) hS (fun H locs hP hS => ?_)
  refine m_top (y := frostN v) (rfl) ?_
  refine lv_istore_n (lv' := [(1, .int (frostN v)), (0, .ref (ad g (3, r, 0)))]) hx hb dX1_freeze_8 rfl hl (by decide) rfl (fun ls hl => ?_)
  refine lv_aload_n hx hb dX1_freeze_9 rfl (lv_at hl 1 rfl) ?_
  refine lv_aload_n hx hb dX1_freeze_10 rfl (lv_at hl 1 rfl) ?_
  refine m_get hC hE hP (k_3 hr) e_3 rfl u_1 9 (by decide) w_132 rfl rfl dX1_freeze_11 ?_
  refine lv_iload_n hx hb dX1_freeze_14 rfl (lv_at hl 0 rfl) ?_
  refine on_i (run_SN hC hE hP hS (As := [.int (v 16 3), .int (frostN v)]) (c_iceBehind l (v 16 3) (frostN v)) cal_X4_iceBehind n_572 ⟨Nat.le_of_ble_eq_true rfl, Nat.le_of_ble_eq_true rfl⟩ rfl rfl (Nat.le_of_ble_eq_true rfl) hl.1 ⟨Nat.le_of_ble_eq_true rfl, Nat.le_of_ble_eq_true rfl⟩ dX1_freeze_15) hS (fun H locs hP hS => ?_)
  refine m_top (y := iceN v) (rfl) ?_
  refine m_put hC hE hI hP hS (k_3 hr) e_3 rfl u_1 tyX1_ok nmX1 9 (by decide) w_132 rfl rfl rfl rfl (Nat.le_of_ble_eq_true rfl) p_3_9 (ent_put g M r v o 16 3 (iceN v) (kf_3 hr)) dX1_freeze_18 (fun H locs hP hS => ?_)
  refine lv_aload_n hx hb dX1_freeze_21 rfl (lv_at hl 1 rfl) ?_
  refine m_get hC hE hP (k_3 hr) e_3 rfl u_1 9 (by decide) w_132 rfl rfl dX1_freeze_22 ?_
  refine m_top (y := iceN v) (up2_same _ _ _ _) ?_
  refine on_i (run_SN hC hE hP hS (As := [.int (iceN v)]) (c_iceBears l (iceN v)) cal_X4_iceBears n_202 ⟨Nat.le_of_ble_eq_true rfl, Nat.le_of_ble_eq_true rfl⟩ rfl rfl (Nat.le_of_ble_eq_true rfl) hl.1 ⟨Nat.le_of_ble_eq_true rfl, Nat.le_of_ble_eq_true rfl⟩ dX1_freeze_25) hS (fun H locs hP hS => ?_)
  refine lv_if_ne (tgt := 35) hx hb dX1_freeze_28 (by decide) (fun c1 => ?_) (fun c1 => ?_)
  · have c1 := b2i_t c1
    refine lv_iload_n hx hb dX1_freeze_35 rfl (lv_at hl 0 rfl) ?_
    refine lv_if_le (tgt := 43) hx hb dX1_freeze_36 (by decide) (fun c2 => ?_) (fun c2 => ?_)
    · exact m_vret hC hr_ hlk hS (hP.castR (by first | exact fz_1 c1 c2 | exact fz_2 c1 c2 | exact fz_3 c1 | exact fz_4 qH c1)) dX1_freeze_43
    · refine lv_aload_n hx hb dX1_freeze_39 rfl (lv_at hl 1 rfl) ?_
      refine on_v (run_V hC hE hP hS (As := []) (c_closeEmptyHoles l hI hr hv2) cal_X1_closeEmptyHoles w_577 ⟨Nat.le_of_ble_eq_true rfl, Nat.le_of_ble_eq_true rfl⟩ (k_3 hr) e_3 rfl rfl rfl (Nat.le_of_ble_eq_true rfl) hl.1 ⟨Nat.le_of_ble_eq_true rfl, Nat.le_of_ble_eq_true rfl⟩ dX1_freeze_40) hS (fun H locs hP hS => ?_)
      exact m_vret hC hr_ hlk hS (hP.castR (by first | exact fz_1 c1 c2 | exact fz_2 c1 c2 | exact fz_3 c1 | exact fz_4 qH c1)) dX1_freeze_43
  · have c1 := b2i_f c1
    refine lv_aload_n hx hb dX1_freeze_31 rfl (lv_at hl 1 rfl) ?_
    refine on_v (run_V hC hE hP hS (As := []) (c_closeAllHoles l hI hr hv2) cal_X1_closeAllHoles w_573 ⟨Nat.le_of_ble_eq_true rfl, Nat.le_of_ble_eq_true rfl⟩ (k_3 hr) e_3 rfl rfl rfl (Nat.le_of_ble_eq_true rfl) hl.1 ⟨Nat.le_of_ble_eq_true rfl, Nat.le_of_ble_eq_true rfl⟩ dX1_freeze_32) hS (fun H locs hP hS => ?_)
    refine lv_iload_n hx hb dX1_freeze_35 rfl (lv_at hl 0 rfl) ?_
    refine lv_if_le (tgt := 43) hx hb dX1_freeze_36 (by decide) (fun c2 => ?_) (fun c2 => ?_)
    · exact m_vret hC hr_ hlk hS (hP.castR (by first | exact fz_1 c1 c2 | exact fz_2 c1 c2 | exact fz_3 c1 | exact fz_4 qH c1)) dX1_freeze_43
    · refine lv_aload_n hx hb dX1_freeze_39 rfl (lv_at hl 1 rfl) ?_
      refine on_v (run_V hC hE hP hS (As := []) (c_closeEmptyHoles l hI hr hv3) cal_X1_closeEmptyHoles w_577 ⟨Nat.le_of_ble_eq_true rfl, Nat.le_of_ble_eq_true rfl⟩ (k_3 hr) e_3 rfl rfl rfl (Nat.le_of_ble_eq_true rfl) hl.1 ⟨Nat.le_of_ble_eq_true rfl, Nat.le_of_ble_eq_true rfl⟩ dX1_freeze_40) hS (fun H locs hP hS => ?_)
      exact m_vret hC hr_ hlk hS (hP.castR (by first | exact fz_1 c1 c2 | exact fz_2 c1 c2 | exact fz_3 c1 | exact fz_4 qH c1)) dX1_freeze_43
set_option maxHeartbeats 4000000 in
set_option maxRecDepth 100000 in
theorem c_letNightsGo (l : Launch) {g : Gm} (hI : IJ g KK) {M : Mem} {o : Nat → Int64} {r : Nat} (hr : r < 2) {v : Vw} (hv : Inv v) (n : Nat) (hn40 : n ≤ 40) (hN : Nt n v) : MI l yX1_letNightsGo cX1_letNightsGo 4 .int (rm 4 96) g KK (ent g (setR M r v) o) [.ref (ad g (3, r, 0)), .int (nI n)] (gots n v) (ent g (setR M r (days n v)) o) := by
  refine met_of (by decide +kernel) (Nat.le_of_ble_eq_true rfl) ?_
  intro p e s m below meth c ls hC hr_ hlk hnm hE hP hS hl
  obtain ⟨hx, hb, hml, hown, hG⟩ := id hC
  have hl : lv_has ls 4 [(0, .ref (ad g (3, r, 0))), (1, .int (nI n))] := hl
  refine lv_iconst (v := 0) hx hb dX1_letNightsGo_0 (by decide) ?_
  refine lv_istore_n (lv' := [(2, .int ((0 : Int32))), (0, .ref (ad g (3, r, 0))), (1, .int (nI n))]) hx hb dX1_letNightsGo_1 rfl hl (by decide) rfl (fun ls hl => ?_)
  refine lv_iconst (v := 0) hx hb dX1_letNightsGo_2 (by decide) ?_
  refine lv_istore_n (lv' := [(3, .int ((0 : Int32))), (2, .int ((0 : Int32))), (0, .ref (ad g (3, r, 0))), (1, .int (nI n))]) hx hb dX1_letNightsGo_3 rfl hl (by decide) rfl (fun ls hl => ?_)
  refine lp_W (i0 := 0) n (fun i => ent g (setR M r (days i v)) o) (fun i => [(3, .int (nI i)), (2, .int (gots i v)), (0, .ref (ad g (3, r, 0))), (1, .int (nI n))]) (fun i => True) (Nat.zero_le _) (hP.castR (rfl)) hS (lv_sub hl [0, 1, 2, 3] rfl) (trivial) (fun H locs ls hP hS hl J => ?_) (fun i hi IH H locs ls hP hS hl J => ?_)
  · refine lv_iload_n hx hb dX1_letNightsGo_4 rfl (lv_at hl 0 rfl) ?_
    refine lv_iload_n hx hb dX1_letNightsGo_5 rfl (lv_at hl 3 rfl) ?_
    refine lv_icmp_ge (tgt := 52) hx hb dX1_letNightsGo_6 (by decide) (fun c1 => ?_) (fun c1 => absurd (nI_le (Nat.le_refl _) (by omega)) c1)
    refine lv_iload_n hx hb dX1_letNightsGo_52 rfl (lv_at hl 1 rfl) ?_
    exact m_iret hC hr_ hlk hS (hP.castR (rfl)) rfl (rfl) dX1_letNightsGo_53
  · have h0 : Inv (days i v) := days_inv hv i
    have h1 : Inv (lam (days i v)) := lam_inv h0
    have h2 : Inv (spe (lam (days i v))) := spe_inv h1
    have h3 : Inv (sen (spe (lam (days i v)))) := sen_inv h2
    have h4 : Inv (kepA (sen (spe (lam (days i v))))) := kepA_inv h3
    have h5 : Inv (breA (kepA (sen (spe (lam (days i v)))))) := breA_inv h4
    have hn1 : Nt 0 (breA (kepA (sen (spe (lam (days i v)))))) := tt_pre (n := 0) (days_Nt (m := i) (n := 1) ⟨hN.1, by have := hN.2; omega⟩)
    refine lv_iload_n hx hb dX1_letNightsGo_4 rfl (lv_at hl 0 rfl) ?_
    refine lv_iload_n hx hb dX1_letNightsGo_5 rfl (lv_at hl 3 rfl) ?_
    refine lv_icmp_ge (tgt := 52) hx hb dX1_letNightsGo_6 (by decide) (fun c2 => absurd c2 (nI_ge hi (by omega))) (fun c2 => ?_)
    refine lv_aload_n hx hb dX1_letNightsGo_9 rfl (lv_at hl 2 rfl) ?_
    refine on_v (run_V hC hE hP hS (As := []) (c_lightLamps l hI hr h0) cal_X1_lightLamps w_515 ⟨Nat.le_of_ble_eq_true rfl, Nat.le_of_ble_eq_true rfl⟩ (k_3 hr) e_3 rfl rfl rfl (Nat.le_of_ble_eq_true rfl) hl.1 ⟨Nat.le_of_ble_eq_true rfl, Nat.le_of_ble_eq_true rfl⟩ dX1_letNightsGo_10) hS (fun H locs hP hS => ?_)
    refine lv_aload_n hx hb dX1_letNightsGo_13 rfl (lv_at hl 2 rfl) ?_
    refine on_v (run_V hC hE hP hS (As := []) (c_spearEels l hI hr h1) cal_X1_spearEels w_528 ⟨Nat.le_of_ble_eq_true rfl, Nat.le_of_ble_eq_true rfl⟩ (k_3 hr) e_3 rfl rfl rfl (Nat.le_of_ble_eq_true rfl) hl.1 ⟨Nat.le_of_ble_eq_true rfl, Nat.le_of_ble_eq_true rfl⟩ dX1_letNightsGo_14) hS (fun H locs hP hS => ?_)
    refine lv_aload_n hx hb dX1_letNightsGo_17 rfl (lv_at hl 2 rfl) ?_
    refine on_v (run_V hC hE hP hS (As := []) (c_sendWardens l hI hr h2) cal_X1_sendWardens w_532 ⟨Nat.le_of_ble_eq_true rfl, Nat.le_of_ble_eq_true rfl⟩ (k_3 hr) e_3 rfl rfl rfl (Nat.le_of_ble_eq_true rfl) hl.1 ⟨Nat.le_of_ble_eq_true rfl, Nat.le_of_ble_eq_true rfl⟩ dX1_letNightsGo_18) hS (fun H locs hP hS => ?_)
    refine lv_iload_n hx hb dX1_letNightsGo_21 rfl (lv_at hl 1 rfl) ?_
    refine lv_aload_n hx hb dX1_letNightsGo_22 rfl (lv_at hl 2 rfl) ?_
    refine on_i (run_V hC hE hP hS (As := []) (c_keepCatches l hI hr h3) cal_X1_keepCatches w_559 ⟨Nat.le_of_ble_eq_true rfl, Nat.le_of_ble_eq_true rfl⟩ (k_3 hr) e_3 rfl rfl rfl (Nat.le_of_ble_eq_true rfl) hl.1 ⟨Nat.le_of_ble_eq_true rfl, Nat.le_of_ble_eq_true rfl⟩ dX1_letNightsGo_23) hS (fun H locs hP hS => ?_)
    refine lv_iadd hx hb dX1_letNightsGo_26 ?_
    refine lv_istore_n (lv' := [(2, .int ((gots i v) + (sumI ((sen (spe (lam (days i v)))) 9) (nS (sen (spe (lam (days i v)))))))), (3, .int (nI i)), (0, .ref (ad g (3, r, 0))), (1, .int (nI n))]) hx hb dX1_letNightsGo_27 rfl hl (by decide) rfl (fun ls hl => ?_)
    refine lv_aload_n hx hb dX1_letNightsGo_28 rfl (lv_at hl 2 rfl) ?_
    refine on_v (run_V hC hE hP hS (As := []) (c_breedEels l hI hr (v := kepA (sen (spe (lam (days i v)))))) cal_X1_breedEels w_563 ⟨Nat.le_of_ble_eq_true rfl, Nat.le_of_ble_eq_true rfl⟩ (k_3 hr) e_3 rfl rfl rfl (Nat.le_of_ble_eq_true rfl) hl.1 ⟨Nat.le_of_ble_eq_true rfl, Nat.le_of_ble_eq_true rfl⟩ dX1_letNightsGo_29) hS (fun H locs hP hS => ?_)
    refine lv_aload_n hx hb dX1_letNightsGo_32 rfl (lv_at hl 2 rfl) ?_
    refine on_v (run_V hC hE hP hS (As := []) (c_freeze l hI hr h5 hn1) cal_X1_freeze w_567 ⟨Nat.le_of_ble_eq_true rfl, Nat.le_of_ble_eq_true rfl⟩ (k_3 hr) e_3 rfl rfl rfl (Nat.le_of_ble_eq_true rfl) hl.1 ⟨Nat.le_of_ble_eq_true rfl, Nat.le_of_ble_eq_true rfl⟩ dX1_letNightsGo_33) hS (fun H locs hP hS => ?_)
    refine lv_aload_n hx hb dX1_letNightsGo_36 rfl (lv_at hl 2 rfl) ?_
    refine lv_dup hx hb dX1_letNightsGo_37 rfl ?_
    refine m_get hC hE hP (k_3 hr) e_3 rfl u_1 10 (by decide) w_134 rfl rfl dX1_letNightsGo_38 ?_
    refine lv_iconst (v := 1) hx hb dX1_letNightsGo_41 (by decide) ?_
    refine lv_iadd hx hb dX1_letNightsGo_42 ?_
    refine m_put hC hE hI hP hS (k_3 hr) e_3 rfl u_1 tyX1_ok nmX1 10 (by decide) w_134 rfl rfl rfl rfl (Nat.le_of_ble_eq_true rfl) p_3_10 (ent_put g M r (frz (breA (kepA (sen (spe (lam (days i v))))))) o 16 4 (((frz (breA (kepA (sen (spe (lam (days i v))))))) 16 4) + (1 : Int32)) (kf_3 hr)) dX1_letNightsGo_43 (fun H locs hP hS => ?_)
    refine lv_iinc (v := nI (i + 1)) (lv' := [(3, .int (nI (i + 1))), (2, .int ((gots i v) + (sumI ((sen (spe (lam (days i v)))) 9) (nS (sen (spe (lam (days i v)))))))), (0, .ref (ad g (3, r, 0))), (1, .int (nI n))]) hx hb dX1_letNightsGo_46 hl (k := 1) rfl (nI_1 _) (by decide) rfl (fun ls hl => ?_)
    refine lv_goto (tgt := 4) hx hb dX1_letNightsGo_49 (by decide) ?_
    exact IH H locs ls (hP.castR (rfl)) hS (by show lv_has ls _ [(3, .int (nI (i + 1))), (2, .int (gots (i + 1) v)), (0, .ref (ad g (3, r, 0))), (1, .int (nI n))]; rw [show gots (i + 1) v = (gots i v) + (sumI ((sen (spe (lam (days i v)))) 9) (nS (sen (spe (lam (days i v)))))) from gots_s]; exact lv_sub hl [0, 1, 2, 3] rfl) (trivial)
end
section
/-! The reference's side: what its states share; a row of numbers copied. -/
def shc : Nat → Nat → Bool := fun c i => match c with
  | 1 => true
  | 2 => true
  | 3 => true
  | 4 => true
  | 6 => true
  | 7 => true
  | 14 => true
  | 16 => decide (i < 3)
  | _ => false
/-- the shared numbers of the state r are those that the reference holds -/
def Sh (M : Mem) (r : Nat) (v : Vw) : Prop := ∀ c i, shc c i = true → setR M r v 2 c i = v c i
theorem sh_2 {M : Mem} {v : Vw} : Sh M 2 v := fun c i _ => by rw [setR_same]
theorem Sh.of {M : Mem} {r : Nat} {v u : Vw} (h : Sh M r v) (e : ∀ c i, shc c i = true → u c i = v c i) : Sh M r u := by
  intro c i hs
  by_cases hr : 2 = r
  · subst hr; rw [setR_same]
  · have := h c i hs
    rw [setR_ne _ _ hr] at this ⊢
    rw [this, e c i hs]
theorem Sh.up {M : Mem} {r : Nat} {v : Vw} (h : Sh M r v) {c i : Nat} {x : Int32} (hc : shc c i = false) : Sh M r (up2 v c i x) := by
  refine h.of fun c' i' hs => ?_
  unfold up2
  rw [if_neg]
  rintro ⟨rfl, rfl⟩
  rw [hc] at hs
  cases hs
theorem sh_ne {c i : Nat} (h : shc c i = true) : c ≠ 0 ∧ c ≠ 5 ∧ c ≠ 8 ∧ c ≠ 9 ∧ c ≠ 10 ∧ c ≠ 11 ∧ c ≠ 12 ∧ c ≠ 13 ∧ c ≠ 15 ∧ ¬ (c = 16 ∧ i = 3) ∧ ¬ (c = 16 ∧ i = 4) := by
  refine ⟨?_, ?_, ?_, ?_, ?_, ?_, ?_, ?_, ?_, ?_, ?_⟩ <;> first | (rintro ⟨rfl, rfl⟩; exact absurd h (by decide)) | (rintro rfl; exact Bool.noConfusion h)
theorem sh_lur {k : Nat} {v : Vw} {c i : Nat} (h : shc c i = true) : lur k v c i = v c i := lur_ne (sh_ne h).1
theorem sh_spr {k : Nat} {v : Vw} {c i : Nat} (h : shc c i = true) : spr k v c i = v c i := spr_ne (sh_ne h).1 (sh_ne h).2.2.2.1
theorem sh_stp {w q : Nat} {v : Vw} {c i : Nat} (h : shc c i = true) : stp w q v c i = v c i := stp_ne (sh_ne h).2.2.2.2.2.2.1 (sh_ne h).2.2.2.2.2.2.2.1
theorem sh_fin1 {w q d k : Nat} {v : Vw} {c i : Nat} (h : shc c i = true) : fin1 w q d k v c i = v c i := fin1_ne (sh_ne h).1 (sh_ne h).2.2.2.1 (sh_ne h).2.2.2.2.2.1 (sh_ne h).2.2.2.2.2.2.2.2.1
theorem sh_gua {w : Nat} {v : Vw} {c i : Nat} (h : shc c i = true) : gua w v c i = v c i := gua_ne (sh_ne h).1 (sh_ne h).2.2.2.1 (sh_ne h).2.2.2.2.2.1 (sh_ne h).2.2.2.2.2.2.1 (sh_ne h).2.2.2.2.2.2.2.1 (sh_ne h).2.2.2.2.2.2.2.2.1
theorem sh_kep {k : Nat} {v : Vw} {c i : Nat} (h : shc c i = true) : kep k v c i = v c i := kep_ne (sh_ne h).2.2.2.2.1
theorem sh_bre {k : Nat} {v : Vw} {c i : Nat} (h : shc c i = true) : bre k v c i = v c i := bre_ne (sh_ne h).1
theorem sh_frz {v : Vw} {c i : Nat} (h : shc c i = true) : frz v c i = v c i := frz_ne (sh_ne h).2.1 (sh_ne h).2.2.1 (sh_ne h).2.2.2.2.2.2.2.2.2.1
theorem sh_nig {v : Vw} {c i : Nat} (h : shc c i = true) : nig v c i = v c i := by
  unfold nig up2
  rw [if_neg (sh_ne h).2.2.2.2.2.2.2.2.2.2]
theorem Sh.it {M : Mem} {r : Nat} {v : Vw} (h : Sh M r v) {f : Nat → Vw → Vw} (e : ∀ k u c i, shc c i = true → f k u c i = u c i) (n : Nat) : Sh M r (it f n v) := h.of fun c i hs => it_keep (fun k u => e k u c i hs) n v
theorem sh_day {v : Vw} {c i : Nat} (h : shc c i = true) : day v c i = v c i := by
  unfold day pre1
  rw [sh_nig h, sh_frz h]
  unfold breA kepA sen spe lam
  rw [it_keep (fun _ _ => sh_bre h), it_keep (fun _ _ => sh_kep h), it_keep (fun _ _ => sh_gua h), it_keep (fun _ _ => sh_spr h), it_keep (fun _ _ => sh_lur h)]
theorem Sh.days {M : Mem} {r : Nat} {v : Vw} (h : Sh M r v) (n : Nat) : Sh M r (days n v) := h.it (fun _ _ _ _ hs => sh_day hs) n
section MCP
variable {p : Program} {l : Launch} {e : Jvm.Env} {R : Room} {s : State} {m : MethodId} {args : Array Value} {below : List Frame} {meth : Method} {c : Code} {H : Heap} {locs : List Loc} {cells slots : Nat} {Q : State → Prop}
variable {cc : ByteArray} {nL pc : Nat} {ls : Array Slot} {rest : List Value} {own : String} {g : Gm} {K : Key → Prop} {en : Key → va_E}
theorem m_alen (hC : CallFix p m c cc nL s args LG own) (hE : Ev g s) (hP : WPe g K en H) {k : Key} (hk : K k) {n : Nat} {f : Nat → Int32} (he : en k = .inl (gC g 0, n, .inl f)) {v : Int32} (hv : nI n = v) (hdg : decode cc pc = .ok (.arraylength, 1))
    (kk : W p l e R s m args below meth c H locs cells slots Q (F0 m (pc + 1) ls (.int v :: rest))) : W p l e R s m args below meth c H locs cells slots Q (F0 m pc ls (.ref (ad g k) :: rest)) := by
  obtain ⟨hx1, hb, hml, hown, hG⟩ := hC
  exact va_alen (D := gD g) (ty := .int) (x := (n, .inl f)) hx1 hb hE.1 (hP.one hk) 0 0 (by rw [he]; rfl) rfl hv hdg kk
theorem m_copy (hC : CallFix p m c cc nL s args LG own) (hE : Ev g s) (hI : IJ g K) (hP : WPe g K en H) (hS : va_S (AA g) s.heap H locs) {index : Nat} (hlink : Cond.methodLink own index arraycopyName ∈ LG) (hnat : Cond.native arraycopyName ∈ LG) (hstat : Cond.static arraycopyName ∈ LG) (hini : Cond.initialized "java/lang/System" ∈ LG) {k0 k1 : Key} (hk0 : K k0) (hk1 : K k1) {n : Nat} {f h : Nat → Int32} (he0 : en k0 = .inl (gC g 0, n, .inl f)) (he1 : en k1 = .inl (gC g 0, n, .inl h)) (hn : n < 2 ^ 31) (hls : ls.size = nL)
    (hframes : 1 ≤ R.frames) (hlocals : (rest.map fun v => v.category).sum + (nativeFrameWords "java/lang/System" "arraycopy" 5 + 11) ≤ R.locals) {en' : Key → va_E} (h1 : en' k1 = .inl (gC g 0, n, .inl (va_cpy f h 0 0 n))) (h2 : ∀ j, K j → j ≠ k1 → en' j = en j) (hdg : decode cc pc = .ok (.invokestatic index, 3))
    (kk : ∀ (H1 : Heap) (locs1 : List Loc), WPe g K en' H1 → va_S (AA g) s.heap H1 locs1 → W p l e R s m args below meth c H1 locs1 cells slots Q (F0 m (pc + 3) ls rest)) : W p l e R s m args below meth c H locs cells slots Q (F0 m pc ls (.int (nI n) :: .int 0 :: .ref (ad g k1) :: .int 0 :: .ref (ad g k0) :: rest)) := by
  obtain ⟨hx1, hb, hml, hown, hG⟩ := hC
  have nn : (nI n).toInt = (n : Int) := nI_toInt hn
  have n0 : ¬ nI n < 0 := nI_pos hn
  have nc : (nI n).toNatClampNeg = n := nI_clamp hn
  have z0 : (0 : Int32).toInt = 0 := by decide
  have zc : (0 : Int32).toNatClampNeg = 0 := by decide
  intro T hT X
  have hc0 := hP k0 hk0
  rw [he0] at hc0
  have hc1 := hP k1 hk1
  rw [he1] at hc1
  have hc0 : H[ad g k0]? = some (vp_cell (gC g 0) (n, .inl f)) := hc0
  have hc1 : H[ad g k1]? = some (vp_cell (gC g 0) (n, .inl h)) := hc1
  obtain ⟨-, y0, hy0, cm0, hyy0⟩ := (hE.1.2 0 _ rfl).1 n (fun j => .int (f j))
  obtain ⟨-, y1, hy1, cm1, hyy1⟩ := (hE.1.2 0 _ rfl).1 n (fun j => .int (h j))
  obtain ⟨vm', X', step⟩ := X.arraycopy hx1 hown (hG _ hlink) (hG _ hnat) (hG _ hstat) (hG _ hini) (src := ad g k0) (dst := ad g k1) (cs := vp_cell (gC g 0) (n, .inl f)) (cd := vp_cell (gC g 0) (n, .inl h)) (srcPos := 0) (destPos := 0) (n := nI n) (by rw [hT]; exact hc0) (by rw [hT]; exact hc1)
    (fun _ h => by cases h) (fun _ h => by cases h) (fun h => by cases h) (fun h => by cases h) hy0 hy1 hyy0 hyy1 rfl (by decide) (by decide) n0
    (by rw [z0, nn]; show ¬ _ > ((arrV (gC g 0) n (fun j => .int (f j))).slots.size : Int); rw [arrV_size]; omega)
    (by rw [z0, nn]; show ¬ _ > ((arrV (gC g 0) n (fun j => .int (h j))).slots.size : Int); rw [arrV_size]; omega)
    (fun vm₁ _ i hi => by
      rw [nc] at hi
      have q : (vp_cell (gC g 0) (n, .inl f)).slots.getD ((0 : Int32).toNatClampNeg + i) .null = .int (f i) := by
        show (arrV (gC g 0) n (fun j => .int (f j))).slots.getD _ _ = _
        rw [zc, Nat.zero_add, Array.getD_eq_getD_getElem?, arrV_read _ _ (by omega)]
        rfl
      refine ⟨?_, ?_⟩
      · rw [q]; rfl
      · rw [q]; exact trivial)
    (g := F0 m pc ls (.int (nI n) :: .int 0 :: .ref (ad g k1) :: .int 0 :: .ref (ad g k0) :: rest)) rfl (by rw [hml]; exact hls) (rest := rest) rfl (by rw [hb]; exact hdg) hframes (by show 2 * 0 + _ + _ ≤ _; omega)
  have e1 : copied (vp_cell (gC g 0) (n, .inl f)) (vp_cell (gC g 0) (n, .inl h)) 0 0 (nI n) = vp_cell (gC g 0) (n, .inl (va_cpy f h (0 : Int32).toNatClampNeg (0 : Int32).toNatClampNeg (nI n).toNatClampNeg)) := va_copied (fun z => .int z) (gC g 0) (gC g 0) f h (by rw [zc, nc]; omega)
  rw [zc, nc] at e1
  rw [e1] at X' step
  have hl : ad g k1 < H.size := (Array.getElem?_eq_some_iff.mp hc1).1
  have hheap : ((T.setVm vm').setCell (ad g k1) (vp_cell (gC g 0) (n, .inl (va_cpy f h 0 0 n)))).heap = H.setIfInBounds (ad g k1) (vp_cell (gC g 0) (n, .inl (va_cpy f h 0 0 n))) := by rw [← hT]; rfl
  have oq : ∀ q : Nat, q ≠ ad g k1 → (H.setIfInBounds (ad g k1) (vp_cell (gC g 0) (n, .inl (va_cpy f h 0 0 n))))[q]? = H[q]? := fun q hq => by simp [Array.getElem?_setIfInBounds, Ne.symm hq]
  obtain ⟨t, a1, b1⟩ := kk _ _ (fun j hj => by
      by_cases hjk : j = k1
      · subst hjk
        rw [h1]
        show (H.setIfInBounds (ad g j) _)[ad g j]? = some _
        simp [Array.getElem?_setIfInBounds, hl]
      · rw [h2 j hj hjk]
        exact (hP j hj).kept (oq _ (fun z => hjk (hI.1 j k1 hj hk1 z)))) ⟨by simp; exact hS.1, fun q g1 g2 => by
      rw [oq q (fun z => g2 (by rw [z]; exact hI.2 k1 hk1))]
      exact hS.2.1 q g1 g2, fun q hq => by
      rcases List.mem_append.mp hq with z | z
      · exact hS.2.2 q z
      · obtain ⟨z1, -, hz⟩ := List.mem_map.mp z
        rw [← hz]
        exact hI.2 k1 hk1⟩ _ hheap X'
  exact ⟨t, step t a1, b1⟩
end MCP

theorem e_10 {g : Gm} {M : Mem} {v : Vw} {o : Nat → Int64} : ent g (setR M 2 v) o (10, 0, 0) = .inr (6, [.int (v 16 5), .ref (ad g (4, 2, 1)), .ref (ad g (4, 2, 2)), .int (v 16 0), .ref (ad g (4, 2, 3)), .ref (ad g (4, 2, 4)), .int (v 16 1), .ref (ad g (4, 2, 6)), .ref (ad g (4, 2, 7)), .int (v 16 2), .ref (ad g (4, 2, 14)), .ref (ad g (9, 2, 0)), .ref (ad g (9, 3, 0))]) := by
  show Sum.inr _ = _
  simp only [setR_same]
theorem p_10_0 {g : Gm} {M : Mem} {v : Vw} {o : Nat → Int64} {x : Int32} : ent g (setR M 2 (up2 v 16 5 x)) o (10, 0, 0) = .inr (6, ([.int (v 16 5), .ref (ad g (4, 2, 1)), .ref (ad g (4, 2, 2)), .int (v 16 0), .ref (ad g (4, 2, 3)), .ref (ad g (4, 2, 4)), .int (v 16 1), .ref (ad g (4, 2, 6)), .ref (ad g (4, 2, 7)), .int (v 16 2), .ref (ad g (4, 2, 14)), .ref (ad g (9, 2, 0)), .ref (ad g (9, 3, 0))] : List Value).set 0 (.int x)) := by
  rw [e_10]
  simp [up2]
theorem p_10_3 {g : Gm} {M : Mem} {v : Vw} {o : Nat → Int64} {x : Int32} : ent g (setR M 2 (up2 v 16 0 x)) o (10, 0, 0) = .inr (6, ([.int (v 16 5), .ref (ad g (4, 2, 1)), .ref (ad g (4, 2, 2)), .int (v 16 0), .ref (ad g (4, 2, 3)), .ref (ad g (4, 2, 4)), .int (v 16 1), .ref (ad g (4, 2, 6)), .ref (ad g (4, 2, 7)), .int (v 16 2), .ref (ad g (4, 2, 14)), .ref (ad g (9, 2, 0)), .ref (ad g (9, 3, 0))] : List Value).set 3 (.int x)) := by
  rw [e_10]
  simp [up2]
theorem p_10_6 {g : Gm} {M : Mem} {v : Vw} {o : Nat → Int64} {x : Int32} : ent g (setR M 2 (up2 v 16 1 x)) o (10, 0, 0) = .inr (6, ([.int (v 16 5), .ref (ad g (4, 2, 1)), .ref (ad g (4, 2, 2)), .int (v 16 0), .ref (ad g (4, 2, 3)), .ref (ad g (4, 2, 4)), .int (v 16 1), .ref (ad g (4, 2, 6)), .ref (ad g (4, 2, 7)), .int (v 16 2), .ref (ad g (4, 2, 14)), .ref (ad g (9, 2, 0)), .ref (ad g (9, 3, 0))] : List Value).set 6 (.int x)) := by
  rw [e_10]
  simp [up2]
theorem p_10_9 {g : Gm} {M : Mem} {v : Vw} {o : Nat → Int64} {x : Int32} : ent g (setR M 2 (up2 v 16 2 x)) o (10, 0, 0) = .inr (6, ([.int (v 16 5), .ref (ad g (4, 2, 1)), .ref (ad g (4, 2, 2)), .int (v 16 0), .ref (ad g (4, 2, 3)), .ref (ad g (4, 2, 4)), .int (v 16 1), .ref (ad g (4, 2, 6)), .ref (ad g (4, 2, 7)), .int (v 16 2), .ref (ad g (4, 2, 14)), .ref (ad g (9, 2, 0)), .ref (ad g (9, 3, 0))] : List Value).set 9 (.int x)) := by
  rw [e_10]
  simp [up2]
end
section
/-! the reference: what its states tell, lamps, spears, the goal -/
theorem dJ6_signum_0f7a4_0 : decode cJ6_signum_0f7a4 0 = .ok (.iload_n 0, 1) := by decide +kernel
theorem dJ6_signum_0f7a4_1 : decode cJ6_signum_0f7a4 1 = .ok (.bipush 31, 2) := by decide +kernel
theorem dJ6_signum_0f7a4_3 : decode cJ6_signum_0f7a4 3 = .ok (.ishr, 1) := by decide +kernel
theorem dJ6_signum_0f7a4_4 : decode cJ6_signum_0f7a4 4 = .ok (.iload_n 0, 1) := by decide +kernel
theorem dJ6_signum_0f7a4_5 : decode cJ6_signum_0f7a4 5 = .ok (.ineg, 1) := by decide +kernel
theorem dJ6_signum_0f7a4_6 : decode cJ6_signum_0f7a4 6 = .ok (.bipush 31, 2) := by decide +kernel
theorem dJ6_signum_0f7a4_8 : decode cJ6_signum_0f7a4 8 = .ok (.iushr, 1) := by decide +kernel
theorem dJ6_signum_0f7a4_9 : decode cJ6_signum_0f7a4 9 = .ok (.ior, 1) := by decide +kernel
theorem dJ6_signum_0f7a4_10 : decode cJ6_signum_0f7a4 10 = .ok (.ireturn, 1) := by decide +kernel
theorem dX6_isIn_0 : decode cX6_isIn 0 = .ok (.iload_n 0, 1) := by decide +kernel
theorem dX6_isIn_1 : decode cX6_isIn 1 = .ok (.iload_n 1, 1) := by decide +kernel
theorem dX6_isIn_2 : decode cX6_isIn 2 = .ok (.if_icmp .lt 12, 3) := by decide +kernel
theorem dX6_isIn_5 : decode cX6_isIn 5 = .ok (.iload_n 0, 1) := by decide +kernel
theorem dX6_isIn_6 : decode cX6_isIn 6 = .ok (.iload_n 2, 1) := by decide +kernel
theorem dX6_isIn_7 : decode cX6_isIn 7 = .ok (.if_icmp .gt 7, 3) := by decide +kernel
theorem dX6_isIn_10 : decode cX6_isIn 10 = .ok (.iconst 1, 1) := by decide +kernel
theorem dX6_isIn_11 : decode cX6_isIn 11 = .ok (.goto 4, 3) := by decide +kernel
theorem dX6_isIn_14 : decode cX6_isIn 14 = .ok (.iconst 0, 1) := by decide +kernel
theorem dX6_isIn_15 : decode cX6_isIn 15 = .ok (.ireturn, 1) := by decide +kernel
theorem dX6_isCell_0 : decode cX6_isCell 0 = .ok (.iload_n 0, 1) := by decide +kernel
theorem dX6_isCell_1 : decode cX6_isCell 1 = .ok (.iconst 0, 1) := by decide +kernel
theorem dX6_isCell_2 : decode cX6_isCell 2 = .ok (.bipush 8, 2) := by decide +kernel
theorem dX6_isCell_4 : decode cX6_isCell 4 = .ok (.invokestatic 47, 3) := by decide +kernel
theorem dX6_isCell_7 : decode cX6_isCell 7 = .ok (.ifCond .eq 17, 3) := by decide +kernel
theorem dX6_isCell_10 : decode cX6_isCell 10 = .ok (.iload_n 1, 1) := by decide +kernel
theorem dX6_isCell_11 : decode cX6_isCell 11 = .ok (.iconst 0, 1) := by decide +kernel
theorem dX6_isCell_12 : decode cX6_isCell 12 = .ok (.bipush 8, 2) := by decide +kernel
theorem dX6_isCell_14 : decode cX6_isCell 14 = .ok (.invokestatic 47, 3) := by decide +kernel
theorem dX6_isCell_17 : decode cX6_isCell 17 = .ok (.ifCond .eq 7, 3) := by decide +kernel
theorem dX6_isCell_20 : decode cX6_isCell 20 = .ok (.iconst 1, 1) := by decide +kernel
theorem dX6_isCell_21 : decode cX6_isCell 21 = .ok (.goto 4, 3) := by decide +kernel
theorem dX6_isCell_24 : decode cX6_isCell 24 = .ok (.iconst 0, 1) := by decide +kernel
theorem dX6_isCell_25 : decode cX6_isCell 25 = .ok (.ireturn, 1) := by decide +kernel
theorem dX6_far_0 : decode cX6_far 0 = .ok (.iload_n 0, 1) := by decide +kernel
theorem dX6_far_1 : decode cX6_far 1 = .ok (.iload_n 2, 1) := by decide +kernel
theorem dX6_far_2 : decode cX6_far 2 = .ok (.isub, 1) := by decide +kernel
theorem dX6_far_3 : decode cX6_far 3 = .ok (.invokestatic 51, 3) := by decide +kernel
theorem dX6_far_6 : decode cX6_far 6 = .ok (.iload_n 1, 1) := by decide +kernel
theorem dX6_far_7 : decode cX6_far 7 = .ok (.iload_n 3, 1) := by decide +kernel
theorem dX6_far_8 : decode cX6_far 8 = .ok (.isub, 1) := by decide +kernel
theorem dX6_far_9 : decode cX6_far 9 = .ok (.invokestatic 51, 3) := by decide +kernel
theorem dX6_far_12 : decode cX6_far 12 = .ok (.invokestatic 57, 3) := by decide +kernel
theorem dX6_far_15 : decode cX6_far 15 = .ok (.ireturn, 1) := by decide +kernel
theorem dX6_cellOf_0 : decode cX6_cellOf 0 = .ok (.bipush 9, 2) := by decide +kernel
theorem dX6_cellOf_2 : decode cX6_cellOf 2 = .ok (.aload_n 0, 1) := by decide +kernel
theorem dX6_cellOf_3 : decode cX6_cellOf 3 = .ok (.getfield 19, 3) := by decide +kernel
theorem dX6_cellOf_6 : decode cX6_cellOf 6 = .ok (.iload_n 1, 1) := by decide +kernel
theorem dX6_cellOf_7 : decode cX6_cellOf 7 = .ok (.iaload, 1) := by decide +kernel
theorem dX6_cellOf_8 : decode cX6_cellOf 8 = .ok (.imul, 1) := by decide +kernel
theorem dX6_cellOf_9 : decode cX6_cellOf 9 = .ok (.aload_n 0, 1) := by decide +kernel
theorem dX6_cellOf_10 : decode cX6_cellOf 10 = .ok (.getfield 16, 3) := by decide +kernel
theorem dX6_cellOf_13 : decode cX6_cellOf 13 = .ok (.iload_n 1, 1) := by decide +kernel
theorem dX6_cellOf_14 : decode cX6_cellOf 14 = .ok (.iaload, 1) := by decide +kernel
theorem dX6_cellOf_15 : decode cX6_cellOf 15 = .ok (.iadd, 1) := by decide +kernel
theorem dX6_cellOf_16 : decode cX6_cellOf 16 = .ok (.ireturn, 1) := by decide +kernel
theorem dX5_would_0 : decode cX5_would 0 = .ok (.iconst 0, 1) := by decide +kernel
theorem dX5_would_1 : decode cX5_would 1 = .ok (.aload_n 0, 1) := by decide +kernel
theorem dX5_would_2 : decode cX5_would 2 = .ok (.getfield 19, 3) := by decide +kernel
theorem dX5_would_5 : decode cX5_would 5 = .ok (.iload_n 1, 1) := by decide +kernel
theorem dX5_would_6 : decode cX5_would 6 = .ok (.iaload, 1) := by decide +kernel
theorem dX5_would_7 : decode cX5_would 7 = .ok (.aload_n 0, 1) := by decide +kernel
theorem dX5_would_8 : decode cX5_would 8 = .ok (.getfield 19, 3) := by decide +kernel
theorem dX5_would_11 : decode cX5_would 11 = .ok (.iload_n 1, 1) := by decide +kernel
theorem dX5_would_12 : decode cX5_would 12 = .ok (.iaload, 1) := by decide +kernel
theorem dX5_would_13 : decode cX5_would 13 = .ok (.iconst 2, 1) := by decide +kernel
theorem dX5_would_14 : decode cX5_would 14 = .ok (.idiv, 1) := by decide +kernel
theorem dX5_would_15 : decode cX5_would 15 = .ok (.iconst 1, 1) := by decide +kernel
theorem dX5_would_16 : decode cX5_would 16 = .ok (.iadd, 1) := by decide +kernel
theorem dX5_would_17 : decode cX5_would 17 = .ok (.aload_n 0, 1) := by decide +kernel
theorem dX5_would_18 : decode cX5_would 18 = .ok (.getfield 3, 3) := by decide +kernel
theorem dX5_would_21 : decode cX5_would 21 = .ok (.getfield 79, 3) := by decide +kernel
theorem dX5_would_24 : decode cX5_would 24 = .ok (.iload_n 1, 1) := by decide +kernel
theorem dX5_would_25 : decode cX5_would 25 = .ok (.iaload, 1) := by decide +kernel
theorem dX5_would_26 : decode cX5_would 26 = .ok (.isub, 1) := by decide +kernel
theorem dX5_would_27 : decode cX5_would 27 = .ok (.invokestatic 73, 3) := by decide +kernel
theorem dX5_would_30 : decode cX5_would 30 = .ok (.invokestatic 82, 3) := by decide +kernel
theorem dX5_would_33 : decode cX5_would 33 = .ok (.ireturn, 1) := by decide +kernel
theorem dX5_isOver_0 : decode cX5_isOver 0 = .ok (.aload_n 0, 1) := by decide +kernel
theorem dX5_isOver_1 : decode cX5_isOver 1 = .ok (.getfield 26, 3) := by decide +kernel
theorem dX5_isOver_4 : decode cX5_isOver 4 = .ok (.iload_n 1, 1) := by decide +kernel
theorem dX5_isOver_5 : decode cX5_isOver 5 = .ok (.iaload, 1) := by decide +kernel
theorem dX5_isOver_6 : decode cX5_isOver 6 = .ok (.iload_n 2, 1) := by decide +kernel
theorem dX5_isOver_7 : decode cX5_isOver 7 = .ok (.if_icmp .ne 25, 3) := by decide +kernel
theorem dX5_isOver_10 : decode cX5_isOver 10 = .ok (.aload_n 0, 1) := by decide +kernel
theorem dX5_isOver_11 : decode cX5_isOver 11 = .ok (.getfield 29, 3) := by decide +kernel
theorem dX5_isOver_14 : decode cX5_isOver 14 = .ok (.iload_n 1, 1) := by decide +kernel
theorem dX5_isOver_15 : decode cX5_isOver 15 = .ok (.iaload, 1) := by decide +kernel
theorem dX5_isOver_16 : decode cX5_isOver 16 = .ok (.aload_n 0, 1) := by decide +kernel
theorem dX5_isOver_17 : decode cX5_isOver 17 = .ok (.getfield 3, 3) := by decide +kernel
theorem dX5_isOver_20 : decode cX5_isOver 20 = .ok (.getfield 92, 3) := by decide +kernel
theorem dX5_isOver_23 : decode cX5_isOver 23 = .ok (.iload_n 1, 1) := by decide +kernel
theorem dX5_isOver_24 : decode cX5_isOver 24 = .ok (.iaload, 1) := by decide +kernel
theorem dX5_isOver_25 : decode cX5_isOver 25 = .ok (.if_icmp .le 7, 3) := by decide +kernel
theorem dX5_isOver_28 : decode cX5_isOver 28 = .ok (.iconst 1, 1) := by decide +kernel
theorem dX5_isOver_29 : decode cX5_isOver 29 = .ok (.goto 4, 3) := by decide +kernel
theorem dX5_isOver_32 : decode cX5_isOver 32 = .ok (.iconst 0, 1) := by decide +kernel
theorem dX5_isOver_33 : decode cX5_isOver 33 = .ok (.ireturn, 1) := by decide +kernel
theorem dX5_farFrom_0 : decode cX5_farFrom 0 = .ok (.aload_n 0, 1) := by decide +kernel
theorem dX5_farFrom_1 : decode cX5_farFrom 1 = .ok (.getfield 38, 3) := by decide +kernel
theorem dX5_farFrom_4 : decode cX5_farFrom 4 = .ok (.iload_n 1, 1) := by decide +kernel
theorem dX5_farFrom_5 : decode cX5_farFrom 5 = .ok (.iaload, 1) := by decide +kernel
theorem dX5_farFrom_6 : decode cX5_farFrom 6 = .ok (.aload_n 0, 1) := by decide +kernel
theorem dX5_farFrom_7 : decode cX5_farFrom 7 = .ok (.getfield 41, 3) := by decide +kernel
theorem dX5_farFrom_10 : decode cX5_farFrom 10 = .ok (.iload_n 1, 1) := by decide +kernel
theorem dX5_farFrom_11 : decode cX5_farFrom 11 = .ok (.iaload, 1) := by decide +kernel
theorem dX5_farFrom_12 : decode cX5_farFrom 12 = .ok (.aload_n 0, 1) := by decide +kernel
theorem dX5_farFrom_13 : decode cX5_farFrom 13 = .ok (.getfield 3, 3) := by decide +kernel
theorem dX5_farFrom_16 : decode cX5_farFrom 16 = .ok (.getfield 60, 3) := by decide +kernel
theorem dX5_farFrom_19 : decode cX5_farFrom 19 = .ok (.iload_n 2, 1) := by decide +kernel
theorem dX5_farFrom_20 : decode cX5_farFrom 20 = .ok (.iaload, 1) := by decide +kernel
theorem dX5_farFrom_21 : decode cX5_farFrom 21 = .ok (.aload_n 0, 1) := by decide +kernel
theorem dX5_farFrom_22 : decode cX5_farFrom 22 = .ok (.getfield 3, 3) := by decide +kernel
theorem dX5_farFrom_25 : decode cX5_farFrom 25 = .ok (.getfield 63, 3) := by decide +kernel
theorem dX5_farFrom_28 : decode cX5_farFrom 28 = .ok (.iload_n 2, 1) := by decide +kernel
theorem dX5_farFrom_29 : decode cX5_farFrom 29 = .ok (.iaload, 1) := by decide +kernel
theorem dX5_farFrom_30 : decode cX5_farFrom 30 = .ok (.invokestatic 66, 3) := by decide +kernel
theorem dX5_farFrom_33 : decode cX5_farFrom 33 = .ok (.ireturn, 1) := by decide +kernel
theorem dX5_spearersAt_0 : decode cX5_spearersAt 0 = .ok (.iconst 0, 1) := by decide +kernel
theorem dX5_spearersAt_1 : decode cX5_spearersAt 1 = .ok (.istore_n 2, 1) := by decide +kernel
theorem dX5_spearersAt_2 : decode cX5_spearersAt 2 = .ok (.iconst 0, 1) := by decide +kernel
theorem dX5_spearersAt_3 : decode cX5_spearersAt 3 = .ok (.istore_n 3, 1) := by decide +kernel
theorem dX5_spearersAt_4 : decode cX5_spearersAt 4 = .ok (.iload_n 3, 1) := by decide +kernel
theorem dX5_spearersAt_5 : decode cX5_spearersAt 5 = .ok (.aload_n 0, 1) := by decide +kernel
theorem dX5_spearersAt_6 : decode cX5_spearersAt 6 = .ok (.getfield 3, 3) := by decide +kernel
theorem dX5_spearersAt_9 : decode cX5_spearersAt 9 = .ok (.getfield 98, 3) := by decide +kernel
theorem dX5_spearersAt_12 : decode cX5_spearersAt 12 = .ok (.if_icmp .ge 27, 3) := by decide +kernel
theorem dX5_spearersAt_15 : decode cX5_spearersAt 15 = .ok (.iload_n 2, 1) := by decide +kernel
theorem dX5_spearersAt_16 : decode cX5_spearersAt 16 = .ok (.aload_n 0, 1) := by decide +kernel
theorem dX5_spearersAt_17 : decode cX5_spearersAt 17 = .ok (.getfield 26, 3) := by decide +kernel
theorem dX5_spearersAt_20 : decode cX5_spearersAt 20 = .ok (.iload_n 3, 1) := by decide +kernel
theorem dX5_spearersAt_21 : decode cX5_spearersAt 21 = .ok (.iaload, 1) := by decide +kernel
theorem dX5_spearersAt_22 : decode cX5_spearersAt 22 = .ok (.iload_n 1, 1) := by decide +kernel
theorem dX5_spearersAt_23 : decode cX5_spearersAt 23 = .ok (.if_icmp .ne 7, 3) := by decide +kernel
theorem dX5_spearersAt_26 : decode cX5_spearersAt 26 = .ok (.iconst 1, 1) := by decide +kernel
theorem dX5_spearersAt_27 : decode cX5_spearersAt 27 = .ok (.goto 4, 3) := by decide +kernel
theorem dX5_spearersAt_30 : decode cX5_spearersAt 30 = .ok (.iconst 0, 1) := by decide +kernel
theorem dX5_spearersAt_31 : decode cX5_spearersAt 31 = .ok (.iadd, 1) := by decide +kernel
theorem dX5_spearersAt_32 : decode cX5_spearersAt 32 = .ok (.istore_n 2, 1) := by decide +kernel
theorem dX5_spearersAt_33 : decode cX5_spearersAt 33 = .ok (.iinc 3 1, 3) := by decide +kernel
theorem dX5_spearersAt_36 : decode cX5_spearersAt 36 = .ok (.goto (-32), 3) := by decide +kernel
theorem dX5_spearersAt_39 : decode cX5_spearersAt 39 = .ok (.iload_n 2, 1) := by decide +kernel
theorem dX5_spearersAt_40 : decode cX5_spearersAt 40 = .ok (.ireturn, 1) := by decide +kernel
theorem dX5_lure_0 : decode cX5_lure 0 = .ok (.aload_n 0, 1) := by decide +kernel
theorem dX5_lure_1 : decode cX5_lure 1 = .ok (.getfield 26, 3) := by decide +kernel
theorem dX5_lure_4 : decode cX5_lure 4 = .ok (.iload_n 1, 1) := by decide +kernel
theorem dX5_lure_5 : decode cX5_lure 5 = .ok (.iaload, 1) := by decide +kernel
theorem dX5_lure_6 : decode cX5_lure 6 = .ok (.iconst (-1), 1) := by decide +kernel
theorem dX5_lure_7 : decode cX5_lure 7 = .ok (.if_icmp .ne 4, 3) := by decide +kernel
theorem dX5_lure_10 : decode cX5_lure 10 = .ok (.return_, 1) := by decide +kernel
theorem dX5_lure_11 : decode cX5_lure 11 = .ok (.aload_n 0, 1) := by decide +kernel
theorem dX5_lure_12 : decode cX5_lure 12 = .ok (.getfield 3, 3) := by decide +kernel
theorem dX5_lure_15 : decode cX5_lure 15 = .ok (.getfield 60, 3) := by decide +kernel
theorem dX5_lure_18 : decode cX5_lure 18 = .ok (.aload_n 0, 1) := by decide +kernel
theorem dX5_lure_19 : decode cX5_lure 19 = .ok (.getfield 26, 3) := by decide +kernel
theorem dX5_lure_22 : decode cX5_lure 22 = .ok (.iload_n 1, 1) := by decide +kernel
theorem dX5_lure_23 : decode cX5_lure 23 = .ok (.iaload, 1) := by decide +kernel
theorem dX5_lure_24 : decode cX5_lure 24 = .ok (.iaload, 1) := by decide +kernel
theorem dX5_lure_25 : decode cX5_lure 25 = .ok (.istore_n 2, 1) := by decide +kernel
theorem dX5_lure_26 : decode cX5_lure 26 = .ok (.aload_n 0, 1) := by decide +kernel
theorem dX5_lure_27 : decode cX5_lure 27 = .ok (.getfield 3, 3) := by decide +kernel
theorem dX5_lure_30 : decode cX5_lure 30 = .ok (.getfield 63, 3) := by decide +kernel
theorem dX5_lure_33 : decode cX5_lure 33 = .ok (.aload_n 0, 1) := by decide +kernel
theorem dX5_lure_34 : decode cX5_lure 34 = .ok (.getfield 26, 3) := by decide +kernel
theorem dX5_lure_37 : decode cX5_lure 37 = .ok (.iload_n 1, 1) := by decide +kernel
theorem dX5_lure_38 : decode cX5_lure 38 = .ok (.iaload, 1) := by decide +kernel
theorem dX5_lure_39 : decode cX5_lure 39 = .ok (.iaload, 1) := by decide +kernel
theorem dX5_lure_40 : decode cX5_lure 40 = .ok (.istore_n 3, 1) := by decide +kernel
theorem dX5_lure_41 : decode cX5_lure 41 = .ok (.bipush 9, 2) := by decide +kernel
theorem dX5_lure_43 : decode cX5_lure 43 = .ok (.iload_n 3, 1) := by decide +kernel
theorem dX5_lure_44 : decode cX5_lure 44 = .ok (.imul, 1) := by decide +kernel
theorem dX5_lure_45 : decode cX5_lure 45 = .ok (.iload_n 2, 1) := by decide +kernel
theorem dX5_lure_46 : decode cX5_lure 46 = .ok (.iadd, 1) := by decide +kernel
theorem dX5_lure_47 : decode cX5_lure 47 = .ok (.istore 4, 2) := by decide +kernel
theorem dX5_lure_49 : decode cX5_lure 49 = .ok (.iconst 0, 1) := by decide +kernel
theorem dX5_lure_50 : decode cX5_lure 50 = .ok (.istore 5, 2) := by decide +kernel
theorem dX5_lure_52 : decode cX5_lure 52 = .ok (.iload 5, 2) := by decide +kernel
theorem dX5_lure_54 : decode cX5_lure 54 = .ok (.bipush 81, 2) := by decide +kernel
theorem dX5_lure_56 : decode cX5_lure 56 = .ok (.if_icmp .ge 96, 3) := by decide +kernel
theorem dX5_lure_59 : decode cX5_lure 59 = .ok (.iload 5, 2) := by decide +kernel
theorem dX5_lure_61 : decode cX5_lure 61 = .ok (.iload 4, 2) := by decide +kernel
theorem dX5_lure_63 : decode cX5_lure 63 = .ok (.if_icmp .eq 83, 3) := by decide +kernel
theorem dX5_lure_66 : decode cX5_lure 66 = .ok (.iload 5, 2) := by decide +kernel
theorem dX5_lure_68 : decode cX5_lure 68 = .ok (.bipush 9, 2) := by decide +kernel
theorem dX5_lure_70 : decode cX5_lure 70 = .ok (.irem, 1) := by decide +kernel
theorem dX5_lure_71 : decode cX5_lure 71 = .ok (.iload 5, 2) := by decide +kernel
theorem dX5_lure_73 : decode cX5_lure 73 = .ok (.bipush 9, 2) := by decide +kernel
theorem dX5_lure_75 : decode cX5_lure 75 = .ok (.idiv, 1) := by decide +kernel
theorem dX5_lure_76 : decode cX5_lure 76 = .ok (.iload_n 2, 1) := by decide +kernel
theorem dX5_lure_77 : decode cX5_lure 77 = .ok (.iload_n 3, 1) := by decide +kernel
theorem dX5_lure_78 : decode cX5_lure 78 = .ok (.invokestatic 66, 3) := by decide +kernel
theorem dX5_lure_81 : decode cX5_lure 81 = .ok (.aload_n 0, 1) := by decide +kernel
theorem dX5_lure_82 : decode cX5_lure 82 = .ok (.getfield 3, 3) := by decide +kernel
theorem dX5_lure_85 : decode cX5_lure 85 = .ok (.getfield 70, 3) := by decide +kernel
theorem dX5_lure_88 : decode cX5_lure 88 = .ok (.iload_n 1, 1) := by decide +kernel
theorem dX5_lure_89 : decode cX5_lure 89 = .ok (.iaload, 1) := by decide +kernel
theorem dX5_lure_90 : decode cX5_lure 90 = .ok (.if_icmp .le 6, 3) := by decide +kernel
theorem dX5_lure_93 : decode cX5_lure 93 = .ok (.goto 53, 3) := by decide +kernel
theorem dX5_lure_96 : decode cX5_lure 96 = .ok (.iconst 2, 1) := by decide +kernel
theorem dX5_lure_97 : decode cX5_lure 97 = .ok (.aload_n 0, 1) := by decide +kernel
theorem dX5_lure_98 : decode cX5_lure 98 = .ok (.getfield 19, 3) := by decide +kernel
theorem dX5_lure_101 : decode cX5_lure 101 = .ok (.iload 5, 2) := by decide +kernel
theorem dX5_lure_103 : decode cX5_lure 103 = .ok (.iaload, 1) := by decide +kernel
theorem dX5_lure_104 : decode cX5_lure 104 = .ok (.invokestatic 73, 3) := by decide +kernel
theorem dX5_lure_107 : decode cX5_lure 107 = .ok (.bipush 60, 2) := by decide +kernel
theorem dX5_lure_109 : decode cX5_lure 109 = .ok (.aload_n 0, 1) := by decide +kernel
theorem dX5_lure_110 : decode cX5_lure 110 = .ok (.getfield 19, 3) := by decide +kernel
theorem dX5_lure_113 : decode cX5_lure 113 = .ok (.iload 4, 2) := by decide +kernel
theorem dX5_lure_115 : decode cX5_lure 115 = .ok (.iaload, 1) := by decide +kernel
theorem dX5_lure_116 : decode cX5_lure 116 = .ok (.isub, 1) := by decide +kernel
theorem dX5_lure_117 : decode cX5_lure 117 = .ok (.invokestatic 73, 3) := by decide +kernel
theorem dX5_lure_120 : decode cX5_lure 120 = .ok (.istore 6, 2) := by decide +kernel
theorem dX5_lure_122 : decode cX5_lure 122 = .ok (.aload_n 0, 1) := by decide +kernel
theorem dX5_lure_123 : decode cX5_lure 123 = .ok (.getfield 19, 3) := by decide +kernel
theorem dX5_lure_126 : decode cX5_lure 126 = .ok (.iload 5, 2) := by decide +kernel
theorem dX5_lure_128 : decode cX5_lure 128 = .ok (.dup2, 1) := by decide +kernel
theorem dX5_lure_129 : decode cX5_lure 129 = .ok (.iaload, 1) := by decide +kernel
theorem dX5_lure_130 : decode cX5_lure 130 = .ok (.iload 6, 2) := by decide +kernel
theorem dX5_lure_132 : decode cX5_lure 132 = .ok (.isub, 1) := by decide +kernel
theorem dX5_lure_133 : decode cX5_lure 133 = .ok (.iastore, 1) := by decide +kernel
theorem dX5_lure_134 : decode cX5_lure 134 = .ok (.aload_n 0, 1) := by decide +kernel
theorem dX5_lure_135 : decode cX5_lure 135 = .ok (.getfield 19, 3) := by decide +kernel
theorem dX5_lure_138 : decode cX5_lure 138 = .ok (.iload 4, 2) := by decide +kernel
theorem dX5_lure_140 : decode cX5_lure 140 = .ok (.dup2, 1) := by decide +kernel
theorem dX5_lure_141 : decode cX5_lure 141 = .ok (.iaload, 1) := by decide +kernel
theorem dX5_lure_142 : decode cX5_lure 142 = .ok (.iload 6, 2) := by decide +kernel
theorem dX5_lure_144 : decode cX5_lure 144 = .ok (.iadd, 1) := by decide +kernel
theorem dX5_lure_145 : decode cX5_lure 145 = .ok (.iastore, 1) := by decide +kernel
theorem dX5_lure_146 : decode cX5_lure 146 = .ok (.iinc 5 1, 3) := by decide +kernel
theorem dX5_lure_149 : decode cX5_lure 149 = .ok (.goto (-97), 3) := by decide +kernel
theorem dX5_lure_152 : decode cX5_lure 152 = .ok (.return_, 1) := by decide +kernel
theorem dX5_spear_0 : decode cX5_spear 0 = .ok (.aload_n 0, 1) := by decide +kernel
theorem dX5_spear_1 : decode cX5_spear 1 = .ok (.getfield 29, 3) := by decide +kernel
theorem dX5_spear_4 : decode cX5_spear 4 = .ok (.iload_n 1, 1) := by decide +kernel
theorem dX5_spear_5 : decode cX5_spear 5 = .ok (.iconst 0, 1) := by decide +kernel
theorem dX5_spear_6 : decode cX5_spear 6 = .ok (.iastore, 1) := by decide +kernel
theorem dX5_spear_7 : decode cX5_spear 7 = .ok (.aload_n 0, 1) := by decide +kernel
theorem dX5_spear_8 : decode cX5_spear 8 = .ok (.getfield 26, 3) := by decide +kernel
theorem dX5_spear_11 : decode cX5_spear 11 = .ok (.iload_n 1, 1) := by decide +kernel
theorem dX5_spear_12 : decode cX5_spear 12 = .ok (.iaload, 1) := by decide +kernel
theorem dX5_spear_13 : decode cX5_spear 13 = .ok (.iconst (-1), 1) := by decide +kernel
theorem dX5_spear_14 : decode cX5_spear 14 = .ok (.if_icmp .ne 4, 3) := by decide +kernel
theorem dX5_spear_17 : decode cX5_spear 17 = .ok (.return_, 1) := by decide +kernel
theorem dX5_spear_18 : decode cX5_spear 18 = .ok (.aload_n 0, 1) := by decide +kernel
theorem dX5_spear_19 : decode cX5_spear 19 = .ok (.getfield 3, 3) := by decide +kernel
theorem dX5_spear_22 : decode cX5_spear 22 = .ok (.aload_n 0, 1) := by decide +kernel
theorem dX5_spear_23 : decode cX5_spear 23 = .ok (.getfield 26, 3) := by decide +kernel
theorem dX5_spear_26 : decode cX5_spear 26 = .ok (.iload_n 1, 1) := by decide +kernel
theorem dX5_spear_27 : decode cX5_spear 27 = .ok (.iaload, 1) := by decide +kernel
theorem dX5_spear_28 : decode cX5_spear 28 = .ok (.invokevirtual 85, 3) := by decide +kernel
theorem dX5_spear_31 : decode cX5_spear 31 = .ok (.istore_n 2, 1) := by decide +kernel
theorem dX5_spear_32 : decode cX5_spear 32 = .ok (.aload_n 0, 1) := by decide +kernel
theorem dX5_spear_33 : decode cX5_spear 33 = .ok (.getfield 29, 3) := by decide +kernel
theorem dX5_spear_36 : decode cX5_spear 36 = .ok (.iload_n 1, 1) := by decide +kernel
theorem dX5_spear_37 : decode cX5_spear 37 = .ok (.aload_n 0, 1) := by decide +kernel
theorem dX5_spear_38 : decode cX5_spear 38 = .ok (.iload_n 2, 1) := by decide +kernel
theorem dX5_spear_39 : decode cX5_spear 39 = .ok (.invokevirtual 89, 3) := by decide +kernel
theorem dX5_spear_42 : decode cX5_spear 42 = .ok (.iastore, 1) := by decide +kernel
theorem dX5_spear_43 : decode cX5_spear 43 = .ok (.aload_n 0, 1) := by decide +kernel
theorem dX5_spear_44 : decode cX5_spear 44 = .ok (.getfield 19, 3) := by decide +kernel
theorem dX5_spear_47 : decode cX5_spear 47 = .ok (.iload_n 2, 1) := by decide +kernel
theorem dX5_spear_48 : decode cX5_spear 48 = .ok (.dup2, 1) := by decide +kernel
theorem dX5_spear_49 : decode cX5_spear 49 = .ok (.iaload, 1) := by decide +kernel
theorem dX5_spear_50 : decode cX5_spear 50 = .ok (.aload_n 0, 1) := by decide +kernel
theorem dX5_spear_51 : decode cX5_spear 51 = .ok (.getfield 29, 3) := by decide +kernel
theorem dX5_spear_54 : decode cX5_spear 54 = .ok (.iload_n 1, 1) := by decide +kernel
theorem dX5_spear_55 : decode cX5_spear 55 = .ok (.iaload, 1) := by decide +kernel
theorem dX5_spear_56 : decode cX5_spear 56 = .ok (.isub, 1) := by decide +kernel
theorem dX5_spear_57 : decode cX5_spear 57 = .ok (.iastore, 1) := by decide +kernel
theorem dX5_spear_58 : decode cX5_spear 58 = .ok (.return_, 1) := by decide +kernel
theorem dX5_goal_0 : decode cX5_goal 0 = .ok (.iconst (-1), 1) := by decide +kernel
theorem dX5_goal_1 : decode cX5_goal 1 = .ok (.istore_n 2, 1) := by decide +kernel
theorem dX5_goal_2 : decode cX5_goal 2 = .ok (.bipush 9, 2) := by decide +kernel
theorem dX5_goal_4 : decode cX5_goal 4 = .ok (.istore_n 3, 1) := by decide +kernel
theorem dX5_goal_5 : decode cX5_goal 5 = .ok (.iconst 0, 1) := by decide +kernel
theorem dX5_goal_6 : decode cX5_goal 6 = .ok (.istore 4, 2) := by decide +kernel
theorem dX5_goal_8 : decode cX5_goal 8 = .ok (.iload 4, 2) := by decide +kernel
theorem dX5_goal_10 : decode cX5_goal 10 = .ok (.aload_n 0, 1) := by decide +kernel
theorem dX5_goal_11 : decode cX5_goal 11 = .ok (.getfield 3, 3) := by decide +kernel
theorem dX5_goal_14 : decode cX5_goal 14 = .ok (.getfield 95, 3) := by decide +kernel
theorem dX5_goal_17 : decode cX5_goal 17 = .ok (.if_icmp .ge 76, 3) := by decide +kernel
theorem dX5_goal_20 : decode cX5_goal 20 = .ok (.iconst 0, 1) := by decide +kernel
theorem dX5_goal_21 : decode cX5_goal 21 = .ok (.istore 5, 2) := by decide +kernel
theorem dX5_goal_23 : decode cX5_goal 23 = .ok (.iconst 0, 1) := by decide +kernel
theorem dX5_goal_24 : decode cX5_goal 24 = .ok (.istore 6, 2) := by decide +kernel
theorem dX5_goal_26 : decode cX5_goal 26 = .ok (.iload 6, 2) := by decide +kernel
theorem dX5_goal_28 : decode cX5_goal 28 = .ok (.aload_n 0, 1) := by decide +kernel
theorem dX5_goal_29 : decode cX5_goal 29 = .ok (.getfield 3, 3) := by decide +kernel
theorem dX5_goal_32 : decode cX5_goal 32 = .ok (.getfield 98, 3) := by decide +kernel
theorem dX5_goal_35 : decode cX5_goal 35 = .ok (.if_icmp .ge 22, 3) := by decide +kernel
theorem dX5_goal_38 : decode cX5_goal 38 = .ok (.iload 5, 2) := by decide +kernel
theorem dX5_goal_40 : decode cX5_goal 40 = .ok (.aload_n 0, 1) := by decide +kernel
theorem dX5_goal_41 : decode cX5_goal 41 = .ok (.iload 6, 2) := by decide +kernel
theorem dX5_goal_43 : decode cX5_goal 43 = .ok (.iload 4, 2) := by decide +kernel
theorem dX5_goal_45 : decode cX5_goal 45 = .ok (.invokevirtual 101, 3) := by decide +kernel
theorem dX5_goal_48 : decode cX5_goal 48 = .ok (.ior, 1) := by decide +kernel
theorem dX5_goal_49 : decode cX5_goal 49 = .ok (.istore 5, 2) := by decide +kernel
theorem dX5_goal_51 : decode cX5_goal 51 = .ok (.iinc 6 1, 3) := by decide +kernel
theorem dX5_goal_54 : decode cX5_goal 54 = .ok (.goto (-28), 3) := by decide +kernel
theorem dX5_goal_57 : decode cX5_goal 57 = .ok (.iload 5, 2) := by decide +kernel
theorem dX5_goal_59 : decode cX5_goal 59 = .ok (.ifCond .eq 28, 3) := by decide +kernel
theorem dX5_goal_62 : decode cX5_goal 62 = .ok (.aload_n 0, 1) := by decide +kernel
theorem dX5_goal_63 : decode cX5_goal 63 = .ok (.iload_n 1, 1) := by decide +kernel
theorem dX5_goal_64 : decode cX5_goal 64 = .ok (.iload 4, 2) := by decide +kernel
theorem dX5_goal_66 : decode cX5_goal 66 = .ok (.invokevirtual 105, 3) := by decide +kernel
theorem dX5_goal_69 : decode cX5_goal 69 = .ok (.iload_n 3, 1) := by decide +kernel
theorem dX5_goal_70 : decode cX5_goal 70 = .ok (.if_icmp .lt 6, 3) := by decide +kernel
theorem dX5_goal_73 : decode cX5_goal 73 = .ok (.goto 14, 3) := by decide +kernel
theorem dX5_goal_76 : decode cX5_goal 76 = .ok (.iload 4, 2) := by decide +kernel
theorem dX5_goal_78 : decode cX5_goal 78 = .ok (.istore_n 2, 1) := by decide +kernel
theorem dX5_goal_79 : decode cX5_goal 79 = .ok (.aload_n 0, 1) := by decide +kernel
theorem dX5_goal_80 : decode cX5_goal 80 = .ok (.iload_n 1, 1) := by decide +kernel
theorem dX5_goal_81 : decode cX5_goal 81 = .ok (.iload 4, 2) := by decide +kernel
theorem dX5_goal_83 : decode cX5_goal 83 = .ok (.invokevirtual 105, 3) := by decide +kernel
theorem dX5_goal_86 : decode cX5_goal 86 = .ok (.istore_n 3, 1) := by decide +kernel
theorem dX5_goal_87 : decode cX5_goal 87 = .ok (.iinc 4 1, 3) := by decide +kernel
theorem dX5_goal_90 : decode cX5_goal 90 = .ok (.goto (-82), 3) := by decide +kernel
theorem dX5_goal_93 : decode cX5_goal 93 = .ok (.iload_n 2, 1) := by decide +kernel
theorem dX5_goal_94 : decode cX5_goal 94 = .ok (.ireturn, 1) := by decide +kernel
def sgn (x : Int32) : Int32 := (x >>> ((31 : Int32) &&& 31)) ||| (((-x).toUInt32 >>> ((31 : Int32).toUInt32 &&& Int32.toUInt32 31)).toInt32)
theorem sgn_9 : ∀ a, a < 9 → ∀ b, b < 9 → sgn (nI a - nI b) = cmp3 (nI a) (nI b) := by decide +kernel
theorem sgn_lt9 {x y : Int32} (hx : lt9 x) (hy : lt9 y) : sgn (x - y) = cmp3 x y := by
  obtain ⟨a, ha, rfl⟩ := hx
  obtain ⟨b, hb, rfl⟩ := hy
  exact sgn_9 a ha b hb
theorem b2i_or (a b : Bool) : b2i a ||| b2i b = b2i (a || b) := by cases a <;> cases b <;> decide
set_option maxHeartbeats 4000000 in
set_option maxRecDepth 100000 in
theorem c_signum (l : Launch) {g : Gm} {en : Key → va_E} (x : Int32) : MI l yJ6_signum_0f7a4 cJ6_signum_0f7a4 1 .int (rm 0 0) g KK en [.int (x)] (sgn x) en := by
  refine met_of (by decide +kernel) (Nat.le_of_ble_eq_true rfl) ?_
  intro p e s m below meth c ls hC hr_ hlk hnm hE hP hS hl
  obtain ⟨hx, hb, hml, hown, hG⟩ := id hC
  have hl : lv_has ls 1 [(0, .int (x))] := hl
  refine lv_iload_n hx hb dJ6_signum_0f7a4_0 rfl (lv_at hl 0 rfl) ?_
  refine lv_bipush (v := 31) hx hb dJ6_signum_0f7a4_1 (by decide) ?_
  refine lv_ishr hx hb dJ6_signum_0f7a4_3 ?_
  refine lv_iload_n hx hb dJ6_signum_0f7a4_4 rfl (lv_at hl 0 rfl) ?_
  refine lv_ineg hx hb dJ6_signum_0f7a4_5 ?_
  refine lv_bipush (v := 31) hx hb dJ6_signum_0f7a4_6 (by decide) ?_
  refine lv_iushr hx hb dJ6_signum_0f7a4_8 rfl ?_
  refine lv_ior hx hb dJ6_signum_0f7a4_9 ?_
  exact m_iret hC hr_ hlk hS hP rfl (rfl) dJ6_signum_0f7a4_10
set_option maxHeartbeats 4000000 in
set_option maxRecDepth 100000 in
theorem c_isIn (l : Launch) {g : Gm} {en : Key → va_E} (v lo hi : Int32) : MI l yX6_isIn cX6_isIn 3 .boolean (rm 0 0) g KK en [.int (v), .int (lo), .int (hi)] (b2i (isIn v lo hi)) en := by
  refine met_of (by decide +kernel) (Nat.le_of_ble_eq_true rfl) ?_
  intro p e s m below meth c ls hC hr_ hlk hnm hE hP hS hl
  obtain ⟨hx, hb, hml, hown, hG⟩ := id hC
  have hl : lv_has ls 3 [(0, .int (v)), (1, .int (lo)), (2, .int (hi))] := hl
  refine lv_iload_n hx hb dX6_isIn_0 rfl (lv_at hl 0 rfl) ?_
  refine lv_iload_n hx hb dX6_isIn_1 rfl (lv_at hl 1 rfl) ?_
  refine lv_icmp_lt (tgt := 14) hx hb dX6_isIn_2 (by decide) (fun c1 => ?_) (fun c1 => ?_)
  · refine lv_iconst (v := 0) hx hb dX6_isIn_14 (by decide) ?_
    exact m_iret hC hr_ hlk hS hP (by first | rfl | exact nar_b _) (by first | rfl | (simp [b2i, isIn, isCell, c1]; done) | (simp [b2i, isIn, isCell, c1, c2]; done)) dX6_isIn_15
  · refine lv_iload_n hx hb dX6_isIn_5 rfl (lv_at hl 0 rfl) ?_
    refine lv_iload_n hx hb dX6_isIn_6 rfl (lv_at hl 2 rfl) ?_
    refine lv_icmp_gt (tgt := 14) hx hb dX6_isIn_7 (by decide) (fun c2 => ?_) (fun c2 => ?_)
    · refine lv_iconst (v := 0) hx hb dX6_isIn_14 (by decide) ?_
      exact m_iret hC hr_ hlk hS hP (by first | rfl | exact nar_b _) (by first | rfl | (simp [b2i, isIn, isCell, c1]; done) | (simp [b2i, isIn, isCell, c1, c2]; done)) dX6_isIn_15
    · refine lv_iconst (v := 1) hx hb dX6_isIn_10 (by decide) ?_
      refine lv_goto (tgt := 15) hx hb dX6_isIn_11 (by decide) ?_
      exact m_iret hC hr_ hlk hS hP (by first | rfl | exact nar_b _) (by first | rfl | (simp [b2i, isIn, isCell, c1]; done) | (simp [b2i, isIn, isCell, c1, c2]; done)) dX6_isIn_15
set_option maxHeartbeats 4000000 in
set_option maxRecDepth 100000 in
theorem c_isCellM (l : Launch) {g : Gm} {en : Key → va_E} (x y : Int32) : MI l yX6_isCell cX6_isCell 2 .boolean (rm 1 22) g KK en [.int (x), .int (y)] (b2i (isCell x y)) en := by
  refine met_of (by decide +kernel) (Nat.le_of_ble_eq_true rfl) ?_
  intro p e s m below meth c ls hC hr_ hlk hnm hE hP hS hl
  obtain ⟨hx, hb, hml, hown, hG⟩ := id hC
  have hl : lv_has ls 2 [(0, .int (x)), (1, .int (y))] := hl
  refine lv_iload_n hx hb dX6_isCell_0 rfl (lv_at hl 0 rfl) ?_
  refine lv_iconst (v := 0) hx hb dX6_isCell_1 (by decide) ?_
  refine lv_bipush (v := 8) hx hb dX6_isCell_2 (by decide) ?_
  refine on_i (run_S hC hE hP hS (As := [.int (x), .int ((0 : Int32)), .int ((8 : Int32))]) (c_isIn l x (0 : Int32) (8 : Int32)) cal_X6_isIn w_740 ⟨Nat.le_of_ble_eq_true rfl, Nat.le_of_ble_eq_true rfl⟩ rfl rfl (Nat.le_of_ble_eq_true rfl) hl.1 ⟨Nat.le_of_ble_eq_true rfl, Nat.le_of_ble_eq_true rfl⟩ dX6_isCell_4) hS (fun H locs hP hS => ?_)
  refine lv_if_eq (tgt := 24) hx hb dX6_isCell_7 (by decide) (fun c1 => ?_) (fun c1 => ?_)
  · have c1 := b2i_f c1
    refine lv_iconst (v := 0) hx hb dX6_isCell_24 (by decide) ?_
    exact m_iret hC hr_ hlk hS hP (by first | rfl | exact nar_b _) (by first | (unfold isCell; rw [c1]; rfl) | (unfold isCell; rw [c1, c2]; rfl)) dX6_isCell_25
  · have c1 := b2i_t c1
    refine lv_iload_n hx hb dX6_isCell_10 rfl (lv_at hl 1 rfl) ?_
    refine lv_iconst (v := 0) hx hb dX6_isCell_11 (by decide) ?_
    refine lv_bipush (v := 8) hx hb dX6_isCell_12 (by decide) ?_
    refine on_i (run_S hC hE hP hS (As := [.int (y), .int ((0 : Int32)), .int ((8 : Int32))]) (c_isIn l y (0 : Int32) (8 : Int32)) cal_X6_isIn w_740 ⟨Nat.le_of_ble_eq_true rfl, Nat.le_of_ble_eq_true rfl⟩ rfl rfl (Nat.le_of_ble_eq_true rfl) hl.1 ⟨Nat.le_of_ble_eq_true rfl, Nat.le_of_ble_eq_true rfl⟩ dX6_isCell_14) hS (fun H locs hP hS => ?_)
    refine lv_if_eq (tgt := 24) hx hb dX6_isCell_17 (by decide) (fun c2 => ?_) (fun c2 => ?_)
    · have c2 := b2i_f c2
      refine lv_iconst (v := 0) hx hb dX6_isCell_24 (by decide) ?_
      exact m_iret hC hr_ hlk hS hP (by first | rfl | exact nar_b _) (by first | (unfold isCell; rw [c1]; rfl) | (unfold isCell; rw [c1, c2]; rfl)) dX6_isCell_25
    · have c2 := b2i_t c2
      refine lv_iconst (v := 1) hx hb dX6_isCell_20 (by decide) ?_
      refine lv_goto (tgt := 25) hx hb dX6_isCell_21 (by decide) ?_
      exact m_iret hC hr_ hlk hS hP (by first | rfl | exact nar_b _) (by first | (unfold isCell; rw [c1]; rfl) | (unfold isCell; rw [c1, c2]; rfl)) dX6_isCell_25
set_option maxHeartbeats 4000000 in
set_option maxRecDepth 100000 in
theorem c_farM (l : Launch) {g : Gm} {en : Key → va_E} (x y a b : Int32) : MI l yX6_far cX6_far 4 .int (rm 1 21) g KK en [.int (x), .int (y), .int (a), .int (b)] (far x y a b) en := by
  refine met_of (by decide +kernel) (Nat.le_of_ble_eq_true rfl) ?_
  intro p e s m below meth c ls hC hr_ hlk hnm hE hP hS hl
  obtain ⟨hx, hb, hml, hown, hG⟩ := id hC
  have hl : lv_has ls 4 [(0, .int (x)), (1, .int (y)), (2, .int (a)), (3, .int (b))] := hl
  refine lv_iload_n hx hb dX6_far_0 rfl (lv_at hl 0 rfl) ?_
  refine lv_iload_n hx hb dX6_far_1 rfl (lv_at hl 2 rfl) ?_
  refine lv_isub hx hb dX6_far_2 ?_
  refine m_abs hC w_820 w_260 w_14 w_261 hl.1 (by decide) (Nat.le_of_ble_eq_true rfl) (Nat.zero_le _) (Nat.zero_le _) dX6_far_3 ?_
  refine m_top (y := iabs (x - a)) rfl ?_
  refine lv_iload_n hx hb dX6_far_6 rfl (lv_at hl 1 rfl) ?_
  refine lv_iload_n hx hb dX6_far_7 rfl (lv_at hl 3 rfl) ?_
  refine lv_isub hx hb dX6_far_8 ?_
  refine m_abs hC w_820 w_260 w_14 w_261 hl.1 (by decide) (Nat.le_of_ble_eq_true rfl) (Nat.zero_le _) (Nat.zero_le _) dX6_far_9 ?_
  refine m_top (y := iabs (y - b)) rfl ?_
  refine m_max hC w_821 w_187 w_14 w_188 hl.1 (by decide) (Nat.le_of_ble_eq_true rfl) (Nat.zero_le _) (Nat.zero_le _) dX6_far_12 ?_
  refine m_top (y := imax (iabs (x - a)) (iabs (y - b))) rfl ?_
  exact m_iret hC hr_ hlk hS hP rfl (rfl) dX6_far_15
set_option maxHeartbeats 4000000 in
set_option maxRecDepth 100000 in
theorem c_cellOf (l : Launch) {g : Gm} (hI : IJ g KK) {M : Mem} {o : Nat → Int64} {r : Nat} (hr : r = 2 ∨ r = 3) {v : Vw} (hsh : Sh M r v) (hv : Inv v) (h : Nat) (hh : h < nH v) : MI l yX6_cellOf cX6_cellOf 2 .int (rm 0 0) g KK (ent g (setR M r v) o) [.ref (ad g (10, 0, 0)), .int (nI h)] (nI (cl v h)) (ent g (setR M r v) o) := by
  refine met_of (by decide +kernel) (Nat.le_of_ble_eq_true rfl) ?_
  intro p e s m below meth c ls hC hr_ hlk hnm hE hP hS hl
  obtain ⟨hx, hb, hml, hown, hG⟩ := id hC
  have hl : lv_has ls 2 [(0, .ref (ad g (10, 0, 0))), (1, .int (nI h))] := hl
  have qH := hv.lH
  have qS := hv.lS
  have qW := hv.lW
  refine lv_bipush (v := 9) hx hb dX6_cellOf_0 (by decide) ?_
  refine lv_aload_n hx hb dX6_cellOf_2 rfl (lv_at hl 0 rfl) ?_
  refine m_get hC hE hP k_10 f_10 rfl u_6 5 (by decide) w_688 rfl rfl dX6_cellOf_3 ?_
  refine lv_iload_n hx hb dX6_cellOf_6 rfl (lv_at hl 1 rfl) ?_
  refine m_iald hC hE hP (k_4s (by decide)) f_4 h (rfl) (show h < 12 from by omega) (by decide) dX6_cellOf_7 ?_
  refine m_top (y := v 4 h) (hsh _ _ rfl) ?_
  refine lv_imul hx hb dX6_cellOf_8 ?_
  refine lv_aload_n hx hb dX6_cellOf_9 rfl (lv_at hl 0 rfl) ?_
  refine m_get hC hE hP k_10 f_10 rfl u_6 4 (by decide) w_686 rfl rfl dX6_cellOf_10 ?_
  refine lv_iload_n hx hb dX6_cellOf_13 rfl (lv_at hl 1 rfl) ?_
  refine m_iald hC hE hP (k_4s (by decide)) f_4 h (rfl) (show h < 12 from by omega) (by decide) dX6_cellOf_14 ?_
  refine m_top (y := v 3 h) (hsh _ _ rfl) ?_
  refine lv_iadd hx hb dX6_cellOf_15 ?_
  exact m_iret hC hr_ hlk hS (hP.castR (rfl)) rfl (cl_eq hv hh) dX6_cellOf_16
set_option maxHeartbeats 4000000 in
set_option maxRecDepth 100000 in
theorem c_wouldM (l : Launch) {g : Gm} (hI : IJ g KK) {M : Mem} {o : Nat → Int64} {r : Nat} (hr : r = 2 ∨ r = 3) {v : Vw} (hsh : Sh M r v) (b : Nat) (hb9 : b < 81) : MI l yX5_would cX5_would 2 .int (rm 1 21) g KK (ent g (setR M r v) o) [.ref (ad g (9, r, 0)), .int (nI b)] (would v b) (ent g (setR M r v) o) := by
  refine met_of (by decide +kernel) (Nat.le_of_ble_eq_true rfl) ?_
  intro p e s m below meth c ls hC hr_ hlk hnm hE hP hS hl
  obtain ⟨hx, hb, hml, hown, hG⟩ := id hC
  have hl : lv_has ls 2 [(0, .ref (ad g (9, r, 0))), (1, .int (nI b))] := hl
  refine lv_iconst (v := 0) hx hb dX5_would_0 (by decide) ?_
  refine lv_aload_n hx hb dX5_would_1 rfl (lv_at hl 0 rfl) ?_
  refine m_get hC hE hP (k_9 hr) e_9 rfl u_5 2 (by decide) w_635 rfl rfl dX5_would_2 ?_
  refine lv_iload_n hx hb dX5_would_5 rfl (lv_at hl 1 rfl) ?_
  refine m_iald hC hE hP (k_4p hr rfl) e_4 b (rfl) (show b < 81 from by omega) (by decide) dX5_would_6 ?_
  refine lv_aload_n hx hb dX5_would_7 rfl (lv_at hl 0 rfl) ?_
  refine m_get hC hE hP (k_9 hr) e_9 rfl u_5 2 (by decide) w_635 rfl rfl dX5_would_8 ?_
  refine lv_iload_n hx hb dX5_would_11 rfl (lv_at hl 1 rfl) ?_
  refine m_iald hC hE hP (k_4p hr rfl) e_4 b (rfl) (show b < 81 from by omega) (by decide) dX5_would_12 ?_
  refine lv_iconst (v := 2) hx hb dX5_would_13 (by decide) ?_
  refine lv_idiv hx hb dX5_would_14 (by decide) ?_
  refine lv_iconst (v := 1) hx hb dX5_would_15 (by decide) ?_
  refine lv_iadd hx hb dX5_would_16 ?_
  refine lv_aload_n hx hb dX5_would_17 rfl (lv_at hl 0 rfl) ?_
  refine m_get hC hE hP (k_9 hr) e_9 rfl u_5 11 (by decide) w_653 rfl rfl dX5_would_18 ?_
  refine m_getN hC hE hP k_10 f_10 rfl u_6 1 (by decide) n_681 rfl rfl dX5_would_21 ?_
  refine lv_iload_n hx hb dX5_would_24 rfl (lv_at hl 1 rfl) ?_
  refine m_iald hC hE hP (k_4s (by decide)) f_4 b (rfl) (show b < 81 from by omega) (by decide) dX5_would_25 ?_
  refine m_top (y := v 1 b) (hsh _ _ rfl) ?_
  refine lv_isub hx hb dX5_would_26 ?_
  refine m_min hC w_795 w_184 w_14 w_185 hl.1 (by decide) (Nat.le_of_ble_eq_true rfl) (Nat.zero_le _) (Nat.zero_le _) dX5_would_27 ?_
  refine m_top (y := imin (v 0 b) ((((v 0 b) / (2 : Int32)) + (1 : Int32)) - (v 1 b))) rfl ?_
  refine m_max hC w_796 w_187 w_14 w_188 hl.1 (by decide) (Nat.le_of_ble_eq_true rfl) (Nat.zero_le _) (Nat.zero_le _) dX5_would_30 ?_
  refine m_top (y := imax (0 : Int32) (imin (v 0 b) ((((v 0 b) / (2 : Int32)) + (1 : Int32)) - (v 1 b)))) rfl ?_
  exact m_iret hC hr_ hlk hS (hP.castR (rfl)) rfl (rfl) dX5_would_33
set_option maxHeartbeats 4000000 in
set_option maxRecDepth 100000 in
theorem c_isOver (l : Launch) {g : Gm} (hI : IJ g KK) {M : Mem} {o : Nat → Int64} {r : Nat} (hr : r = 2 ∨ r = 3) {v : Vw} (hsh : Sh M r v) (k h : Nat) (hk8 : k < 8) : MI l yX5_isOver cX5_isOver 3 .boolean (rm 0 0) g KK (ent g (setR M r v) o) [.ref (ad g (9, r, 0)), .int (nI k), .int (nI h)] (b2i (ovr v h k)) (ent g (setR M r v) o) := by
  refine met_of (by decide +kernel) (Nat.le_of_ble_eq_true rfl) ?_
  intro p e s m below meth c ls hC hr_ hlk hnm hE hP hS hl
  obtain ⟨hx, hb, hml, hown, hG⟩ := id hC
  have hl : lv_has ls 3 [(0, .ref (ad g (9, r, 0))), (1, .int (nI k)), (2, .int (nI h))] := hl
  refine lv_aload_n hx hb dX5_isOver_0 rfl (lv_at hl 0 rfl) ?_
  refine m_get hC hE hP (k_9 hr) e_9 rfl u_5 4 (by decide) w_639 rfl rfl dX5_isOver_1 ?_
  refine lv_iload_n hx hb dX5_isOver_4 rfl (lv_at hl 1 rfl) ?_
  refine m_iald hC hE hP (k_4p hr rfl) e_4 k (rfl) (show k < 8 from by omega) (by decide) dX5_isOver_5 ?_
  refine lv_iload_n hx hb dX5_isOver_6 rfl (lv_at hl 2 rfl) ?_
  refine lv_icmp_ne (tgt := 32) hx hb dX5_isOver_7 (by decide) (fun c1 => ?_) (fun c1 => ?_)
  · refine lv_iconst (v := 0) hx hb dX5_isOver_32 (by decide) ?_
    exact m_iret hC hr_ hlk hS (hP.castR (rfl)) (by first | rfl | exact nar_b _) (by first | (unfold ovr; rw [decide_eq_false c1]; rfl) | (unfold ovr; rw [decide_eq_true c1, decide_eq_false (Int32.not_lt.mpr c2)]; rfl) | (unfold ovr; rw [decide_eq_true c1, decide_eq_true (Int32.not_le.mp c2)]; rfl)) dX5_isOver_33
  · refine lv_aload_n hx hb dX5_isOver_10 rfl (lv_at hl 0 rfl) ?_
    refine m_get hC hE hP (k_9 hr) e_9 rfl u_5 5 (by decide) w_641 rfl rfl dX5_isOver_11 ?_
    refine lv_iload_n hx hb dX5_isOver_14 rfl (lv_at hl 1 rfl) ?_
    refine m_iald hC hE hP (k_4p hr rfl) e_4 k (rfl) (show k < 8 from by omega) (by decide) dX5_isOver_15 ?_
    refine lv_aload_n hx hb dX5_isOver_16 rfl (lv_at hl 0 rfl) ?_
    refine m_get hC hE hP (k_9 hr) e_9 rfl u_5 11 (by decide) w_653 rfl rfl dX5_isOver_17 ?_
    refine m_getN hC hE hP k_10 f_10 rfl u_6 7 (by decide) n_693 rfl rfl dX5_isOver_20 ?_
    refine lv_iload_n hx hb dX5_isOver_23 rfl (lv_at hl 1 rfl) ?_
    refine m_iald hC hE hP (k_4s (by decide)) f_4 k (rfl) (show k < 8 from by omega) (by decide) dX5_isOver_24 ?_
    refine m_top (y := v 6 k) (hsh _ _ rfl) ?_
    refine lv_icmp_le (tgt := 32) hx hb dX5_isOver_25 (by decide) (fun c2 => ?_) (fun c2 => ?_)
    · refine lv_iconst (v := 0) hx hb dX5_isOver_32 (by decide) ?_
      exact m_iret hC hr_ hlk hS (hP.castR (rfl)) (by first | rfl | exact nar_b _) (by first | (unfold ovr; rw [decide_eq_false c1]; rfl) | (unfold ovr; rw [decide_eq_true c1, decide_eq_false (Int32.not_lt.mpr c2)]; rfl) | (unfold ovr; rw [decide_eq_true c1, decide_eq_true (Int32.not_le.mp c2)]; rfl)) dX5_isOver_33
    · refine lv_iconst (v := 1) hx hb dX5_isOver_28 (by decide) ?_
      refine lv_goto (tgt := 33) hx hb dX5_isOver_29 (by decide) ?_
      exact m_iret hC hr_ hlk hS (hP.castR (rfl)) (by first | rfl | exact nar_b _) (by first | (unfold ovr; rw [decide_eq_false c1]; rfl) | (unfold ovr; rw [decide_eq_true c1, decide_eq_false (Int32.not_lt.mpr c2)]; rfl) | (unfold ovr; rw [decide_eq_true c1, decide_eq_true (Int32.not_le.mp c2)]; rfl)) dX5_isOver_33
set_option maxHeartbeats 4000000 in
set_option maxRecDepth 100000 in
theorem c_farFrom (l : Launch) {g : Gm} (hI : IJ g KK) {M : Mem} {o : Nat → Int64} {r : Nat} (hr : r = 2 ∨ r = 3) {v : Vw} (hsh : Sh M r v) (w h : Nat) (hw : w < 3) (hh : h < 12) : MI l yX5_farFrom cX5_farFrom 3 .int (rm 2 44) g KK (ent g (setR M r v) o) [.ref (ad g (9, r, 0)), .int (nI w), .int (nI h)] (farW v w h) (ent g (setR M r v) o) := by
  refine met_of (by decide +kernel) (Nat.le_of_ble_eq_true rfl) ?_
  intro p e s m below meth c ls hC hr_ hlk hnm hE hP hS hl
  obtain ⟨hx, hb, hml, hown, hG⟩ := id hC
  have hl : lv_has ls 3 [(0, .ref (ad g (9, r, 0))), (1, .int (nI w)), (2, .int (nI h))] := hl
  refine lv_aload_n hx hb dX5_farFrom_0 rfl (lv_at hl 0 rfl) ?_
  refine m_get hC hE hP (k_9 hr) e_9 rfl u_5 8 (by decide) w_647 rfl rfl dX5_farFrom_1 ?_
  refine lv_iload_n hx hb dX5_farFrom_4 rfl (lv_at hl 1 rfl) ?_
  refine m_iald hC hE hP (k_4p hr rfl) e_4 w (rfl) (show w < 3 from by omega) (by decide) dX5_farFrom_5 ?_
  refine lv_aload_n hx hb dX5_farFrom_6 rfl (lv_at hl 0 rfl) ?_
  refine m_get hC hE hP (k_9 hr) e_9 rfl u_5 9 (by decide) w_649 rfl rfl dX5_farFrom_7 ?_
  refine lv_iload_n hx hb dX5_farFrom_10 rfl (lv_at hl 1 rfl) ?_
  refine m_iald hC hE hP (k_4p hr rfl) e_4 w (rfl) (show w < 3 from by omega) (by decide) dX5_farFrom_11 ?_
  refine lv_aload_n hx hb dX5_farFrom_12 rfl (lv_at hl 0 rfl) ?_
  refine m_get hC hE hP (k_9 hr) e_9 rfl u_5 11 (by decide) w_653 rfl rfl dX5_farFrom_13 ?_
  refine m_getN hC hE hP k_10 f_10 rfl u_6 4 (by decide) n_687 rfl rfl dX5_farFrom_16 ?_
  refine lv_iload_n hx hb dX5_farFrom_19 rfl (lv_at hl 2 rfl) ?_
  refine m_iald hC hE hP (k_4s (by decide)) f_4 h (rfl) (show h < 12 from by omega) (by decide) dX5_farFrom_20 ?_
  refine m_top (y := v 3 h) (hsh _ _ rfl) ?_
  refine lv_aload_n hx hb dX5_farFrom_21 rfl (lv_at hl 0 rfl) ?_
  refine m_get hC hE hP (k_9 hr) e_9 rfl u_5 11 (by decide) w_653 rfl rfl dX5_farFrom_22 ?_
  refine m_getN hC hE hP k_10 f_10 rfl u_6 5 (by decide) n_689 rfl rfl dX5_farFrom_25 ?_
  refine lv_iload_n hx hb dX5_farFrom_28 rfl (lv_at hl 2 rfl) ?_
  refine m_iald hC hE hP (k_4s (by decide)) f_4 h (rfl) (show h < 12 from by omega) (by decide) dX5_farFrom_29 ?_
  refine m_top (y := v 4 h) (hsh _ _ rfl) ?_
  refine on_i (run_SN hC hE hP hS (As := [.int (v 12 w), .int (v 13 w), .int (v 3 h), .int (v 4 h)]) (c_farM l (v 12 w) (v 13 w) (v 3 h) (v 4 h)) cal_X6_far n_817 ⟨Nat.le_of_ble_eq_true rfl, Nat.le_of_ble_eq_true rfl⟩ rfl rfl (Nat.le_of_ble_eq_true rfl) hl.1 ⟨Nat.le_of_ble_eq_true rfl, Nat.le_of_ble_eq_true rfl⟩ dX5_farFrom_30) hS (fun H locs hP hS => ?_)
  exact m_iret hC hr_ hlk hS (hP.castR (rfl)) rfl (rfl) dX5_farFrom_33
set_option maxHeartbeats 4000000 in
set_option maxRecDepth 100000 in
theorem c_spearersAtM (l : Launch) {g : Gm} (hI : IJ g KK) {M : Mem} {o : Nat → Int64} {r : Nat} (hr : r = 2 ∨ r = 3) {v : Vw} (hsh : Sh M r v) (hv : Inv v) (h : Int32) : MI l yX5_spearersAt cX5_spearersAt 4 .int (rm 0 0) g KK (ent g (setR M r v) o) [.ref (ad g (9, r, 0)), .int (h)] (spAt v h) (ent g (setR M r v) o) := by
  refine met_of (by decide +kernel) (Nat.le_of_ble_eq_true rfl) ?_
  intro p e s m below meth c ls hC hr_ hlk hnm hE hP hS hl
  obtain ⟨hx, hb, hml, hown, hG⟩ := id hC
  have hl : lv_has ls 4 [(0, .ref (ad g (9, r, 0))), (1, .int (h))] := hl
  have qH := hv.lH
  have qS := hv.lS
  have qW := hv.lW
  refine lv_iconst (v := 0) hx hb dX5_spearersAt_0 (by decide) ?_
  refine lv_istore_n (lv' := [(2, .int ((0 : Int32))), (0, .ref (ad g (9, r, 0))), (1, .int (h))]) hx hb dX5_spearersAt_1 rfl hl (by decide) rfl (fun ls hl => ?_)
  refine lv_iconst (v := 0) hx hb dX5_spearersAt_2 (by decide) ?_
  refine lv_istore_n (lv' := [(3, .int ((0 : Int32))), (2, .int ((0 : Int32))), (0, .ref (ad g (9, r, 0))), (1, .int (h))]) hx hb dX5_spearersAt_3 rfl hl (by decide) rfl (fun ls hl => ?_)
  refine lp_W (i0 := 0) (nS v) (fun i => ent g (setR M r v) o) (fun i => [(3, .int (nI i)), (2, .int (sumI (fun k => if v 8 k = h then 1 else 0) i)), (0, .ref (ad g (9, r, 0))), (1, .int (h))]) (fun i => True) (Nat.zero_le _) (hP.castR (rfl)) hS (lv_sub hl [0, 1, 2, 3] rfl) (trivial) (fun H locs ls hP hS hl J => ?_) (fun i hi IH H locs ls hP hS hl J => ?_)
  · refine lv_iload_n hx hb dX5_spearersAt_4 rfl (lv_at hl 0 rfl) ?_
    refine lv_aload_n hx hb dX5_spearersAt_5 rfl (lv_at hl 2 rfl) ?_
    refine m_get hC hE hP (k_9 hr) e_9 rfl u_5 11 (by decide) w_653 rfl rfl dX5_spearersAt_6 ?_
    refine m_getN hC hE hP k_10 f_10 rfl u_6 6 (by decide) n_690 rfl rfl dX5_spearersAt_9 ?_
    refine m_top (y := v 16 1) (hsh _ _ rfl) ?_
    refine m_top (y := nI (nS v)) (hv.eS) ?_
    refine lv_icmp_ge (tgt := 39) hx hb dX5_spearersAt_12 (by decide) (fun c1 => ?_) (fun c1 => absurd (nI_le (Nat.le_refl _) (by omega)) c1)
    refine lv_iload_n hx hb dX5_spearersAt_39 rfl (lv_at hl 1 rfl) ?_
    exact m_iret hC hr_ hlk hS (hP.castR (rfl)) rfl (rfl) dX5_spearersAt_40
  · refine lv_iload_n hx hb dX5_spearersAt_4 rfl (lv_at hl 0 rfl) ?_
    refine lv_aload_n hx hb dX5_spearersAt_5 rfl (lv_at hl 2 rfl) ?_
    refine m_get hC hE hP (k_9 hr) e_9 rfl u_5 11 (by decide) w_653 rfl rfl dX5_spearersAt_6 ?_
    refine m_getN hC hE hP k_10 f_10 rfl u_6 6 (by decide) n_690 rfl rfl dX5_spearersAt_9 ?_
    refine m_top (y := v 16 1) (hsh _ _ rfl) ?_
    refine m_top (y := nI (nS v)) (hv.eS) ?_
    refine lv_icmp_ge (tgt := 39) hx hb dX5_spearersAt_12 (by decide) (fun c2 => absurd c2 (nI_ge hi (by omega))) (fun c2 => ?_)
    refine lv_iload_n hx hb dX5_spearersAt_15 rfl (lv_at hl 1 rfl) ?_
    refine lv_aload_n hx hb dX5_spearersAt_16 rfl (lv_at hl 2 rfl) ?_
    refine m_get hC hE hP (k_9 hr) e_9 rfl u_5 4 (by decide) w_639 rfl rfl dX5_spearersAt_17 ?_
    refine lv_iload_n hx hb dX5_spearersAt_20 rfl (lv_at hl 0 rfl) ?_
    refine m_iald hC hE hP (k_4p hr rfl) e_4 i (rfl) (show i < 8 from by omega) (by decide) dX5_spearersAt_21 ?_
    refine lv_iload_n hx hb dX5_spearersAt_22 rfl (lv_at hl 3 rfl) ?_
    refine lv_icmp_ne (tgt := 30) hx hb dX5_spearersAt_23 (by decide) (fun c1 => ?_) (fun c1 => ?_)
    · refine lv_iconst (v := 0) hx hb dX5_spearersAt_30 (by decide) ?_
      refine lv_iadd hx hb dX5_spearersAt_31 ?_
      refine lv_istore_n (lv' := [(2, .int ((sumI (fun k => if v 8 k = h then 1 else 0) i) + (0 : Int32))), (3, .int (nI i)), (0, .ref (ad g (9, r, 0))), (1, .int (h))]) hx hb dX5_spearersAt_32 rfl hl (by decide) rfl (fun ls hl => ?_)
      refine lv_iinc (v := nI (i + 1)) (lv' := [(3, .int (nI (i + 1))), (2, .int ((sumI (fun k => if v 8 k = h then 1 else 0) i) + (0 : Int32))), (0, .ref (ad g (9, r, 0))), (1, .int (h))]) hx hb dX5_spearersAt_33 hl (k := 1) rfl (nI_1 _) (by decide) rfl (fun ls hl => ?_)
      refine lv_goto (tgt := 4) hx hb dX5_spearersAt_36 (by decide) ?_
      exact IH H locs ls (hP.castR (rfl)) hS (by show lv_has ls _ [(3, .int (nI (i + 1))), (2, .int (sumI (fun k => if v 8 k = h then 1 else 0) (i + 1))), (0, .ref (ad g (9, r, 0))), (1, .int (h))]; rw [show sumI (fun k => if v 8 k = h then 1 else 0) (i + 1) = (sumI (fun k => if v 8 k = h then 1 else 0) i) + (0 : Int32) from by first | exact sum_t c1 | exact (sum_f c1).trans (Int32.add_zero _).symm]; exact lv_sub hl [0, 1, 2, 3] rfl) (trivial)
    · refine lv_iconst (v := 1) hx hb dX5_spearersAt_26 (by decide) ?_
      refine lv_goto (tgt := 31) hx hb dX5_spearersAt_27 (by decide) ?_
      refine lv_iadd hx hb dX5_spearersAt_31 ?_
      refine lv_istore_n (lv' := [(2, .int ((sumI (fun k => if v 8 k = h then 1 else 0) i) + (1 : Int32))), (3, .int (nI i)), (0, .ref (ad g (9, r, 0))), (1, .int (h))]) hx hb dX5_spearersAt_32 rfl hl (by decide) rfl (fun ls hl => ?_)
      refine lv_iinc (v := nI (i + 1)) (lv' := [(3, .int (nI (i + 1))), (2, .int ((sumI (fun k => if v 8 k = h then 1 else 0) i) + (1 : Int32))), (0, .ref (ad g (9, r, 0))), (1, .int (h))]) hx hb dX5_spearersAt_33 hl (k := 1) rfl (nI_1 _) (by decide) rfl (fun ls hl => ?_)
      refine lv_goto (tgt := 4) hx hb dX5_spearersAt_36 (by decide) ?_
      exact IH H locs ls (hP.castR (rfl)) hS (by show lv_has ls _ [(3, .int (nI (i + 1))), (2, .int (sumI (fun k => if v 8 k = h then 1 else 0) (i + 1))), (0, .ref (ad g (9, r, 0))), (1, .int (h))]; rw [show sumI (fun k => if v 8 k = h then 1 else 0) (i + 1) = (sumI (fun k => if v 8 k = h then 1 else 0) i) + (1 : Int32) from by first | exact sum_t c1 | exact (sum_f c1).trans (Int32.add_zero _).symm]; exact lv_sub hl [0, 1, 2, 3] rfl) (trivial)
set_option maxHeartbeats 4000000 in
set_option maxRecDepth 100000 in
theorem c_lureM (l : Launch) {g : Gm} (hI : IJ g KK) {M : Mem} {o : Nat → Int64} {r : Nat} (hr : r = 2 ∨ r = 3) {v : Vw} (hsh : Sh M r v) (hv : Inv v) (k : Nat) (hk : k < nS v) : MV l yX5_lure cX5_lure 7 (rm 2 44) g KK (ent g (setR M r v) o) [.ref (ad g (9, r, 0)), .int (nI k)] (ent g (setR M r (lur k v)) o) := by
  refine met_of (by decide +kernel) (Nat.le_of_ble_eq_true rfl) ?_
  intro p e s m below meth c ls hC hr_ hlk hnm hE hP hS hl
  obtain ⟨hx, hb, hml, hown, hG⟩ := id hC
  have hl : lv_has ls 7 [(0, .ref (ad g (9, r, 0))), (1, .int (nI k))] := hl
  have qH := hv.lH
  have qS := hv.lS
  have qW := hv.lW
  refine lv_aload_n hx hb dX5_lure_0 rfl (lv_at hl 0 rfl) ?_
  refine m_get hC hE hP (k_9 hr) e_9 rfl u_5 4 (by decide) w_639 rfl rfl dX5_lure_1 ?_
  refine lv_iload_n hx hb dX5_lure_4 rfl (lv_at hl 1 rfl) ?_
  refine m_iald hC hE hP (k_4p hr rfl) e_4 k (rfl) (show k < 8 from by omega) (by decide) dX5_lure_5 ?_
  refine lv_iconst (v := (-1)) hx hb dX5_lure_6 (by decide) ?_
  refine lv_icmp_ne (tgt := 11) hx hb dX5_lure_7 (by decide) (fun c0 => ?_) (fun c0 => ?_)
  · have hz := hol_of hv hk c0
    have hcl := cl_lt hv hz.2
    refine lv_aload_n hx hb dX5_lure_11 rfl (lv_at hl 0 rfl) ?_
    refine m_get hC hE hP (k_9 hr) e_9 rfl u_5 11 (by decide) w_653 rfl rfl dX5_lure_12 ?_
    refine m_getN hC hE hP k_10 f_10 rfl u_6 4 (by decide) n_687 rfl rfl dX5_lure_15 ?_
    refine lv_aload_n hx hb dX5_lure_18 rfl (lv_at hl 0 rfl) ?_
    refine m_get hC hE hP (k_9 hr) e_9 rfl u_5 4 (by decide) w_639 rfl rfl dX5_lure_19 ?_
    refine lv_iload_n hx hb dX5_lure_22 rfl (lv_at hl 1 rfl) ?_
    refine m_iald hC hE hP (k_4p hr rfl) e_4 k (rfl) (show k < 8 from by omega) (by decide) dX5_lure_23 ?_
    refine m_iald hC hE hP (k_4s (by decide)) f_4 (hol v k) (hz.1) (show (hol v k) < 12 from by omega) (by decide) dX5_lure_24 ?_
    refine m_top (y := v 3 (hol v k)) (hsh _ _ rfl) ?_
    refine lv_istore_n (lv' := [(2, .int (v 3 (hol v k))), (0, .ref (ad g (9, r, 0))), (1, .int (nI k))]) hx hb dX5_lure_25 rfl hl (by decide) rfl (fun ls hl => ?_)
    refine lv_aload_n hx hb dX5_lure_26 rfl (lv_at hl 1 rfl) ?_
    refine m_get hC hE hP (k_9 hr) e_9 rfl u_5 11 (by decide) w_653 rfl rfl dX5_lure_27 ?_
    refine m_getN hC hE hP k_10 f_10 rfl u_6 5 (by decide) n_689 rfl rfl dX5_lure_30 ?_
    refine lv_aload_n hx hb dX5_lure_33 rfl (lv_at hl 1 rfl) ?_
    refine m_get hC hE hP (k_9 hr) e_9 rfl u_5 4 (by decide) w_639 rfl rfl dX5_lure_34 ?_
    refine lv_iload_n hx hb dX5_lure_37 rfl (lv_at hl 2 rfl) ?_
    refine m_iald hC hE hP (k_4p hr rfl) e_4 k (rfl) (show k < 8 from by omega) (by decide) dX5_lure_38 ?_
    refine m_iald hC hE hP (k_4s (by decide)) f_4 (hol v k) (hz.1) (show (hol v k) < 12 from by omega) (by decide) dX5_lure_39 ?_
    refine m_top (y := v 4 (hol v k)) (hsh _ _ rfl) ?_
    refine lv_istore_n (lv' := [(3, .int (v 4 (hol v k))), (2, .int (v 3 (hol v k))), (0, .ref (ad g (9, r, 0))), (1, .int (nI k))]) hx hb dX5_lure_40 rfl hl (by decide) rfl (fun ls hl => ?_)
    refine lv_bipush (v := 9) hx hb dX5_lure_41 (by decide) ?_
    refine lv_iload_n hx hb dX5_lure_43 rfl (lv_at hl 0 rfl) ?_
    refine lv_imul hx hb dX5_lure_44 ?_
    refine lv_iload_n hx hb dX5_lure_45 rfl (lv_at hl 1 rfl) ?_
    refine lv_iadd hx hb dX5_lure_46 ?_
    refine m_top (y := nI (cl v (hol v k))) (cl_eq hv hz.2) ?_
    refine lv_istore (lv' := [(4, .int (nI (cl v (hol v k)))), (3, .int (v 4 (hol v k))), (2, .int (v 3 (hol v k))), (0, .ref (ad g (9, r, 0))), (1, .int (nI k))]) hx hb dX5_lure_47 hl (by decide) rfl (fun ls hl => ?_)
    refine lv_iconst (v := 0) hx hb dX5_lure_49 (by decide) ?_
    refine lv_istore (lv' := [(5, .int ((0 : Int32))), (4, .int (nI (cl v (hol v k)))), (3, .int (v 4 (hol v k))), (2, .int (v 3 (hol v k))), (0, .ref (ad g (9, r, 0))), (1, .int (nI k))]) hx hb dX5_lure_50 hl (by decide) rfl (fun ls hl => ?_)
    refine lp_W (i0 := 0) 81 (fun i => ent g (setR M r (it (lurC (cl v (hol v k)) (v 3 (hol v k)) (v 4 (hol v k)) (v 7 k)) i v)) o) (fun i => [(5, .int (nI i)), (4, .int (nI (cl v (hol v k)))), (3, .int (v 4 (hol v k))), (2, .int (v 3 (hol v k))), (0, .ref (ad g (9, r, 0))), (1, .int (nI k))]) (fun i => True) (Nat.zero_le _) (hP.castR (rfl)) hS (lv_sub hl [0, 1, 2, 3, 4, 5] rfl) (trivial) (fun H locs ls hP hS hl J => ?_) (fun i hi IH H locs ls hP hS hl J => ?_)
    · refine lv_iload hx hb dX5_lure_52 (lv_at hl 0 rfl) ?_
      refine lv_bipush (v := 81) hx hb dX5_lure_54 (by decide) ?_
      refine lv_icmp_ge (tgt := 152) hx hb dX5_lure_56 (by decide) (fun c1 => ?_) (fun c1 => absurd (by decide) c1)
      exact m_vret hC hr_ hlk hS (hP.castR ((if_neg c0))) dX5_lure_152
    · have hs1 : Sh M r (it (lurC (cl v (hol v k)) (v 3 (hol v k)) (v 4 (hol v k)) (v 7 k)) i v) := hsh.it (fun _ _ _ _ hs => lurC_ne (sh_ne hs).1) i
      refine lv_iload hx hb dX5_lure_52 (lv_at hl 0 rfl) ?_
      refine lv_bipush (v := 81) hx hb dX5_lure_54 (by decide) ?_
      refine lv_icmp_ge (tgt := 152) hx hb dX5_lure_56 (by decide) (fun c2 => absurd c2 (nI_ge (b := 81) hi (by decide))) (fun c2 => ?_)
      refine lv_iload hx hb dX5_lure_59 (lv_at hl 0 rfl) ?_
      refine lv_iload hx hb dX5_lure_61 (lv_at hl 1 rfl) ?_
      refine lv_icmp_eq (tgt := 146) hx hb dX5_lure_63 (by decide) (fun c1 => ?_) (fun c1 => ?_)
      · have c1 := (nI_eq (by omega) (by omega)).mp c1
        refine lv_iinc (v := nI (i + 1)) (lv' := [(5, .int (nI (i + 1))), (4, .int (nI (cl v (hol v k)))), (3, .int (v 4 (hol v k))), (2, .int (v 3 (hol v k))), (0, .ref (ad g (9, r, 0))), (1, .int (nI k))]) hx hb dX5_lure_146 hl (k := 0) rfl (nI_1 _) (by decide) rfl (fun ls hl => ?_)
        refine lv_goto (tgt := 52) hx hb dX5_lure_149 (by decide) ?_
        exact IH H locs ls (hP.castR (if_pos (Or.inl c1))) hS (lv_sub hl [0, 1, 2, 3, 4, 5] rfl) (trivial)
      · have c1 : ¬ i = cl v (hol v k) := fun q => c1 (by rw [q])
        refine lv_iload hx hb dX5_lure_66 (lv_at hl 0 rfl) ?_
        refine lv_bipush (v := 9) hx hb dX5_lure_68 (by decide) ?_
        refine lv_irem hx hb dX5_lure_70 (by decide) ?_
        refine m_top (y := nI (i % 9)) (pk_rem (a := i) (d := 9) (by omega) (by decide) (by decide)) ?_
        refine lv_iload hx hb dX5_lure_71 (lv_at hl 0 rfl) ?_
        refine lv_bipush (v := 9) hx hb dX5_lure_73 (by decide) ?_
        refine lv_idiv hx hb dX5_lure_75 (by decide) ?_
        refine m_top (y := nI (i / 9)) (pk_div (a := i) (d := 9) (by omega) (by decide) (by decide)) ?_
        refine lv_iload_n hx hb dX5_lure_76 rfl (lv_at hl 3 rfl) ?_
        refine lv_iload_n hx hb dX5_lure_77 rfl (lv_at hl 2 rfl) ?_
        refine on_i (run_SN hC hE hP hS (As := [.int (nI (i % 9)), .int (nI (i / 9)), .int (v 3 (hol v k)), .int (v 4 (hol v k))]) (c_farM l (nI (i % 9)) (nI (i / 9)) (v 3 (hol v k)) (v 4 (hol v k))) cal_X6_far n_817 ⟨Nat.le_of_ble_eq_true rfl, Nat.le_of_ble_eq_true rfl⟩ rfl rfl (Nat.le_of_ble_eq_true rfl) hl.1 ⟨Nat.le_of_ble_eq_true rfl, Nat.le_of_ble_eq_true rfl⟩ dX5_lure_78) hS (fun H locs hP hS => ?_)
        refine lv_aload_n hx hb dX5_lure_81 rfl (lv_at hl 4 rfl) ?_
        refine m_get hC hE hP (k_9 hr) e_9 rfl u_5 11 (by decide) w_653 rfl rfl dX5_lure_82 ?_
        refine m_getN hC hE hP k_10 f_10 rfl u_6 8 (by decide) n_695 rfl rfl dX5_lure_85 ?_
        refine lv_iload_n hx hb dX5_lure_88 rfl (lv_at hl 5 rfl) ?_
        refine m_iald hC hE hP (k_4s (by decide)) f_4 k (rfl) (show k < 8 from by omega) (by decide) dX5_lure_89 ?_
        refine m_top (y := (it (lurC (cl v (hol v k)) (v 3 (hol v k)) (v 4 (hol v k)) (v 7 k)) i v) 7 k) (hs1 _ _ rfl) ?_
        refine m_top (y := v 7 k) (it_keep (fun _ _ => lurC_ne (by decide)) _ _) ?_
        refine lv_icmp_le (tgt := 96) hx hb dX5_lure_90 (by decide) (fun c2 => ?_) (fun c2 => ?_)
        · refine lv_iconst (v := 2) hx hb dX5_lure_96 (by decide) ?_
          refine lv_aload_n hx hb dX5_lure_97 rfl (lv_at hl 4 rfl) ?_
          refine m_get hC hE hP (k_9 hr) e_9 rfl u_5 2 (by decide) w_635 rfl rfl dX5_lure_98 ?_
          refine lv_iload hx hb dX5_lure_101 (lv_at hl 0 rfl) ?_
          refine m_iald hC hE hP (k_4p hr rfl) e_4 i (rfl) (show i < 81 from by omega) (by decide) dX5_lure_103 ?_
          refine m_min hC w_795 w_184 w_14 w_185 hl.1 (by decide) (Nat.le_of_ble_eq_true rfl) (Nat.zero_le _) (Nat.zero_le _) dX5_lure_104 ?_
          refine m_top (y := imin (2 : Int32) ((it (lurC (cl v (hol v k)) (v 3 (hol v k)) (v 4 (hol v k)) (v 7 k)) i v) 0 i)) rfl ?_
          refine lv_bipush (v := 60) hx hb dX5_lure_107 (by decide) ?_
          refine lv_aload_n hx hb dX5_lure_109 rfl (lv_at hl 4 rfl) ?_
          refine m_get hC hE hP (k_9 hr) e_9 rfl u_5 2 (by decide) w_635 rfl rfl dX5_lure_110 ?_
          refine lv_iload hx hb dX5_lure_113 (lv_at hl 1 rfl) ?_
          refine m_iald hC hE hP (k_4p hr rfl) e_4 (cl v (hol v k)) (rfl) (show (cl v (hol v k)) < 81 from by omega) (by decide) dX5_lure_115 ?_
          refine lv_isub hx hb dX5_lure_116 ?_
          refine m_min hC w_795 w_184 w_14 w_185 hl.1 (by decide) (Nat.le_of_ble_eq_true rfl) (Nat.zero_le _) (Nat.zero_le _) dX5_lure_117 ?_
          refine m_top (y := imin (imin (2 : Int32) ((it (lurC (cl v (hol v k)) (v 3 (hol v k)) (v 4 (hol v k)) (v 7 k)) i v) 0 i)) ((60 : Int32) - ((it (lurC (cl v (hol v k)) (v 3 (hol v k)) (v 4 (hol v k)) (v 7 k)) i v) 0 (cl v (hol v k))))) rfl ?_
          refine lv_istore (lv' := [(6, .int (imin (imin (2 : Int32) ((it (lurC (cl v (hol v k)) (v 3 (hol v k)) (v 4 (hol v k)) (v 7 k)) i v) 0 i)) ((60 : Int32) - ((it (lurC (cl v (hol v k)) (v 3 (hol v k)) (v 4 (hol v k)) (v 7 k)) i v) 0 (cl v (hol v k)))))), (5, .int (nI i)), (4, .int (nI (cl v (hol v k)))), (3, .int (v 4 (hol v k))), (2, .int (v 3 (hol v k))), (0, .ref (ad g (9, r, 0))), (1, .int (nI k))]) hx hb dX5_lure_120 hl (by decide) rfl (fun ls hl => ?_)
          refine lv_aload_n hx hb dX5_lure_122 rfl (lv_at hl 5 rfl) ?_
          refine m_get hC hE hP (k_9 hr) e_9 rfl u_5 2 (by decide) w_635 rfl rfl dX5_lure_123 ?_
          refine lv_iload hx hb dX5_lure_126 (lv_at hl 1 rfl) ?_
          refine lv_dup2_11 hx hb dX5_lure_128 rfl rfl ?_
          refine m_iald hC hE hP (k_4p hr rfl) e_4 i (rfl) (show i < 81 from by omega) (by decide) dX5_lure_129 ?_
          refine lv_iload hx hb dX5_lure_130 (lv_at hl 0 rfl) ?_
          refine lv_isub hx hb dX5_lure_132 ?_
          refine m_iast hC hE hI hP hS (k_4p hr rfl) e_4 i (rfl) (show i < 81 from by omega) (by decide) p_4 (ent_put g M r (it (lurC (cl v (hol v k)) (v 3 (hol v k)) (v 4 (hol v k)) (v 7 k)) i v) o 0 i (((it (lurC (cl v (hol v k)) (v 3 (hol v k)) (v 4 (hol v k)) (v 7 k)) i v) 0 i) - (imin (imin (2 : Int32) ((it (lurC (cl v (hol v k)) (v 3 (hol v k)) (v 4 (hol v k)) (v 7 k)) i v) 0 i)) ((60 : Int32) - ((it (lurC (cl v (hol v k)) (v 3 (hol v k)) (v 4 (hol v k)) (v 7 k)) i v) 0 (cl v (hol v k)))))) (kf_4m hr (by decide))) dX5_lure_133 (fun H locs hP hS => ?_)
          refine lv_aload_n hx hb dX5_lure_134 rfl (lv_at hl 5 rfl) ?_
          refine m_get hC hE hP (k_9 hr) e_9 rfl u_5 2 (by decide) w_635 rfl rfl dX5_lure_135 ?_
          refine lv_iload hx hb dX5_lure_138 (lv_at hl 2 rfl) ?_
          refine lv_dup2_11 hx hb dX5_lure_140 rfl rfl ?_
          refine m_iald hC hE hP (k_4p hr rfl) e_4 (cl v (hol v k)) (rfl) (show (cl v (hol v k)) < 81 from by omega) (by decide) dX5_lure_141 ?_
          refine lv_iload hx hb dX5_lure_142 (lv_at hl 0 rfl) ?_
          refine lv_iadd hx hb dX5_lure_144 ?_
          refine m_iast hC hE hI hP hS (k_4p hr rfl) e_4 (cl v (hol v k)) (rfl) (show (cl v (hol v k)) < 81 from by omega) (by decide) p_4 (ent_put g M r (up2 (it (lurC (cl v (hol v k)) (v 3 (hol v k)) (v 4 (hol v k)) (v 7 k)) i v) 0 i (((it (lurC (cl v (hol v k)) (v 3 (hol v k)) (v 4 (hol v k)) (v 7 k)) i v) 0 i) - (imin (imin (2 : Int32) ((it (lurC (cl v (hol v k)) (v 3 (hol v k)) (v 4 (hol v k)) (v 7 k)) i v) 0 i)) ((60 : Int32) - ((it (lurC (cl v (hol v k)) (v 3 (hol v k)) (v 4 (hol v k)) (v 7 k)) i v) 0 (cl v (hol v k))))))) o 0 (cl v (hol v k)) (((up2 (it (lurC (cl v (hol v k)) (v 3 (hol v k)) (v 4 (hol v k)) (v 7 k)) i v) 0 i (((it (lurC (cl v (hol v k)) (v 3 (hol v k)) (v 4 (hol v k)) (v 7 k)) i v) 0 i) - (imin (imin (2 : Int32) ((it (lurC (cl v (hol v k)) (v 3 (hol v k)) (v 4 (hol v k)) (v 7 k)) i v) 0 i)) ((60 : Int32) - ((it (lurC (cl v (hol v k)) (v 3 (hol v k)) (v 4 (hol v k)) (v 7 k)) i v) 0 (cl v (hol v k))))))) 0 (cl v (hol v k))) + (imin (imin (2 : Int32) ((it (lurC (cl v (hol v k)) (v 3 (hol v k)) (v 4 (hol v k)) (v 7 k)) i v) 0 i)) ((60 : Int32) - ((it (lurC (cl v (hol v k)) (v 3 (hol v k)) (v 4 (hol v k)) (v 7 k)) i v) 0 (cl v (hol v k)))))) (kf_4m hr (by decide))) dX5_lure_145 (fun H locs hP hS => ?_)
          refine lv_iinc (v := nI (i + 1)) (lv' := [(5, .int (nI (i + 1))), (6, .int (imin (imin (2 : Int32) ((it (lurC (cl v (hol v k)) (v 3 (hol v k)) (v 4 (hol v k)) (v 7 k)) i v) 0 i)) ((60 : Int32) - ((it (lurC (cl v (hol v k)) (v 3 (hol v k)) (v 4 (hol v k)) (v 7 k)) i v) 0 (cl v (hol v k)))))), (4, .int (nI (cl v (hol v k)))), (3, .int (v 4 (hol v k))), (2, .int (v 3 (hol v k))), (0, .ref (ad g (9, r, 0))), (1, .int (nI k))]) hx hb dX5_lure_146 hl (k := 1) rfl (nI_1 _) (by decide) rfl (fun ls hl => ?_)
          refine lv_goto (tgt := 52) hx hb dX5_lure_149 (by decide) ?_
          exact IH H locs ls (hP.castR (if_neg (fun q => q.elim c1 (fun q => Int32.not_lt.mpr c2 q)))) hS (lv_sub hl [0, 2, 3, 4, 5, 6] rfl) (trivial)
        · refine lv_goto (tgt := 146) hx hb dX5_lure_93 (by decide) ?_
          refine lv_iinc (v := nI (i + 1)) (lv' := [(5, .int (nI (i + 1))), (4, .int (nI (cl v (hol v k)))), (3, .int (v 4 (hol v k))), (2, .int (v 3 (hol v k))), (0, .ref (ad g (9, r, 0))), (1, .int (nI k))]) hx hb dX5_lure_146 hl (k := 0) rfl (nI_1 _) (by decide) rfl (fun ls hl => ?_)
          refine lv_goto (tgt := 52) hx hb dX5_lure_149 (by decide) ?_
          exact IH H locs ls (hP.castR (if_pos (Or.inr (Int32.not_le.mp c2)))) hS (lv_sub hl [0, 1, 2, 3, 4, 5] rfl) (trivial)
  · exact m_vret hC hr_ hlk hS (hP.castR (if_pos c0)) dX5_lure_10
set_option maxHeartbeats 4000000 in
set_option maxRecDepth 100000 in
theorem c_spearM (l : Launch) {g : Gm} (hI : IJ g KK) {M : Mem} {o : Nat → Int64} {r : Nat} (hr : r = 2 ∨ r = 3) {v : Vw} (hsh : Sh M r v) (hv : Inv v) (k : Nat) (hk : k < nS v) : MV l yX5_spear cX5_spear 3 (rm 2 42) g KK (ent g (setR M r v) o) [.ref (ad g (9, r, 0)), .int (nI k)] (ent g (setR M r (spr k v)) o) := by
  refine met_of (by decide +kernel) (Nat.le_of_ble_eq_true rfl) ?_
  intro p e s m below meth c ls hC hr_ hlk hnm hE hP hS hl
  obtain ⟨hx, hb, hml, hown, hG⟩ := id hC
  have hl : lv_has ls 3 [(0, .ref (ad g (9, r, 0))), (1, .int (nI k))] := hl
  have qH := hv.lH
  have qS := hv.lS
  have qW := hv.lW
  refine lv_aload_n hx hb dX5_spear_0 rfl (lv_at hl 0 rfl) ?_
  refine m_get hC hE hP (k_9 hr) e_9 rfl u_5 5 (by decide) w_641 rfl rfl dX5_spear_1 ?_
  refine lv_iload_n hx hb dX5_spear_4 rfl (lv_at hl 1 rfl) ?_
  refine lv_iconst (v := 0) hx hb dX5_spear_5 (by decide) ?_
  refine m_iast hC hE hI hP hS (k_4p hr rfl) e_4 k (rfl) (show k < 8 from by omega) (by decide) p_4 (ent_put g M r v o 9 k (0 : Int32) (kf_4m hr (by decide))) dX5_spear_6 (fun H locs hP hS => ?_)
  refine lv_aload_n hx hb dX5_spear_7 rfl (lv_at hl 0 rfl) ?_
  refine m_get hC hE hP (k_9 hr) e_9 rfl u_5 4 (by decide) w_639 rfl rfl dX5_spear_8 ?_
  refine lv_iload_n hx hb dX5_spear_11 rfl (lv_at hl 1 rfl) ?_
  refine m_iald hC hE hP (k_4p hr rfl) e_4 k (rfl) (show k < 8 from by omega) (by decide) dX5_spear_12 ?_
  refine lv_iconst (v := (-1)) hx hb dX5_spear_13 (by decide) ?_
  refine lv_icmp_ne (tgt := 18) hx hb dX5_spear_14 (by decide) (fun c0 => ?_) (fun c0 => ?_)
  · have c0 : ¬ v 8 k = -1 := fun q => c0 ((up2_c (by decide)).trans q)
    have hz := hol_of hv hk c0
    have hcl := cl_lt hv hz.2
    have hv1 : Inv (up2 v 9 k 0) := spr0_inv hv
    refine lv_aload_n hx hb dX5_spear_18 rfl (lv_at hl 0 rfl) ?_
    refine m_get hC hE hP (k_9 hr) e_9 rfl u_5 11 (by decide) w_653 rfl rfl dX5_spear_19 ?_
    refine lv_aload_n hx hb dX5_spear_22 rfl (lv_at hl 0 rfl) ?_
    refine m_get hC hE hP (k_9 hr) e_9 rfl u_5 4 (by decide) w_639 rfl rfl dX5_spear_23 ?_
    refine lv_iload_n hx hb dX5_spear_26 rfl (lv_at hl 1 rfl) ?_
    refine m_iald hC hE hP (k_4p hr rfl) e_4 k (rfl) (show k < 8 from by omega) (by decide) dX5_spear_27 ?_
    refine m_top (y := nI (hol v k)) ((up2_c (by decide)).trans hz.1) ?_
    refine on_i (run_VN hC hE hP hS (As := [.int (nI (hol v k))]) (c_cellOf l hI hr ((Sh.up hsh rfl)) hv1 (hol v k) (by show _ < nH (up2 v 9 k 0); unfold nH; rw [up2_c (by decide)]; exact hz.2)) cal_X6_cellOf n_870 ⟨Nat.le_of_ble_eq_true rfl, Nat.le_of_ble_eq_true rfl⟩ k_10 f_10 rfl rfl rfl (Nat.le_of_ble_eq_true rfl) hl.1 ⟨Nat.le_of_ble_eq_true rfl, Nat.le_of_ble_eq_true rfl⟩ dX5_spear_28) hS (fun H locs hP hS => ?_)
    refine m_top (y := nI (cl v (hol v k))) (by simp [cl, up2]) ?_
    refine lv_istore_n (lv' := [(2, .int (nI (cl v (hol v k)))), (0, .ref (ad g (9, r, 0))), (1, .int (nI k))]) hx hb dX5_spear_31 rfl hl (by decide) rfl (fun ls hl => ?_)
    refine lv_aload_n hx hb dX5_spear_32 rfl (lv_at hl 1 rfl) ?_
    refine m_get hC hE hP (k_9 hr) e_9 rfl u_5 5 (by decide) w_641 rfl rfl dX5_spear_33 ?_
    refine lv_iload_n hx hb dX5_spear_36 rfl (lv_at hl 2 rfl) ?_
    refine lv_aload_n hx hb dX5_spear_37 rfl (lv_at hl 1 rfl) ?_
    refine lv_iload_n hx hb dX5_spear_38 rfl (lv_at hl 0 rfl) ?_
    refine on_i (run_V hC hE hP hS (As := [.int (nI (cl v (hol v k)))]) (c_wouldM l hI hr ((Sh.up hsh rfl)) (cl v (hol v k)) (by omega)) cal_X5_would w_871 ⟨Nat.le_of_ble_eq_true rfl, Nat.le_of_ble_eq_true rfl⟩ (k_9 hr) e_9 rfl rfl rfl (Nat.le_of_ble_eq_true rfl) hl.1 ⟨Nat.le_of_ble_eq_true rfl, Nat.le_of_ble_eq_true rfl⟩ dX5_spear_39) hS (fun H locs hP hS => ?_)
    refine m_top (y := would v (cl v (hol v k))) (by simp [would, up2]) ?_
    refine m_iast hC hE hI hP hS (k_4p hr rfl) e_4 k (rfl) (show k < 8 from by omega) (by decide) p_4 (ent_put g M r (up2 v 9 k (0 : Int32)) o 9 k (would v (cl v (hol v k))) (kf_4m hr (by decide))) dX5_spear_42 (fun H locs hP hS => ?_)
    refine lv_aload_n hx hb dX5_spear_43 rfl (lv_at hl 1 rfl) ?_
    refine m_get hC hE hP (k_9 hr) e_9 rfl u_5 2 (by decide) w_635 rfl rfl dX5_spear_44 ?_
    refine lv_iload_n hx hb dX5_spear_47 rfl (lv_at hl 0 rfl) ?_
    refine lv_dup2_11 hx hb dX5_spear_48 rfl rfl ?_
    refine m_iald hC hE hP (k_4p hr rfl) e_4 (cl v (hol v k)) (rfl) (show (cl v (hol v k)) < 81 from by omega) (by decide) dX5_spear_49 ?_
    refine m_top (y := v 0 (cl v (hol v k))) (by simp [up2]) ?_
    refine lv_aload_n hx hb dX5_spear_50 rfl (lv_at hl 1 rfl) ?_
    refine m_get hC hE hP (k_9 hr) e_9 rfl u_5 5 (by decide) w_641 rfl rfl dX5_spear_51 ?_
    refine lv_iload_n hx hb dX5_spear_54 rfl (lv_at hl 2 rfl) ?_
    refine m_iald hC hE hP (k_4p hr rfl) e_4 k (rfl) (show k < 8 from by omega) (by decide) dX5_spear_55 ?_
    refine m_top (y := would v (cl v (hol v k))) (by simp [up2]) ?_
    refine lv_isub hx hb dX5_spear_56 ?_
    refine m_iast hC hE hI hP hS (k_4p hr rfl) e_4 (cl v (hol v k)) (rfl) (show (cl v (hol v k)) < 81 from by omega) (by decide) p_4 (ent_put g M r (up2 (up2 v 9 k (0 : Int32)) 9 k (would v (cl v (hol v k)))) o 0 (cl v (hol v k)) ((v 0 (cl v (hol v k))) - (would v (cl v (hol v k)))) (kf_4m hr (by decide))) dX5_spear_57 (fun H locs hP hS => ?_)
    exact m_vret hC hr_ hlk hS (hP.castR (if_neg c0)) dX5_spear_58
  · have c0 : v 8 k = -1 := (up2_c (by decide)).symm.trans c0
    exact m_vret hC hr_ hlk hS (hP.castR (if_pos c0)) dX5_spear_17
set_option maxHeartbeats 4000000 in
set_option maxRecDepth 100000 in
theorem c_goalM (l : Launch) {g : Gm} (hI : IJ g KK) {M : Mem} {o : Nat → Int64} {r : Nat} (hr : r = 2 ∨ r = 3) {v : Vw} (hsh : Sh M r v) (hv : Inv v) (w : Nat) (hw : w < 3) : MI l yX5_goal cX5_goal 7 .int (rm 3 66) g KK (ent g (setR M r v) o) [.ref (ad g (9, r, 0)), .int (nI w)] (gol v w) (ent g (setR M r v) o) := by
  refine met_of (by decide +kernel) (Nat.le_of_ble_eq_true rfl) ?_
  intro p e s m below meth c ls hC hr_ hlk hnm hE hP hS hl
  obtain ⟨hx, hb, hml, hown, hG⟩ := id hC
  have hl : lv_has ls 7 [(0, .ref (ad g (9, r, 0))), (1, .int (nI w))] := hl
  have qH := hv.lH
  have qS := hv.lS
  have qW := hv.lW
  refine lv_iconst (v := (-1)) hx hb dX5_goal_0 (by decide) ?_
  refine lv_istore_n (lv' := [(2, .int ((-1 : Int32))), (0, .ref (ad g (9, r, 0))), (1, .int (nI w))]) hx hb dX5_goal_1 rfl hl (by decide) rfl (fun ls hl => ?_)
  refine lv_bipush (v := 9) hx hb dX5_goal_2 (by decide) ?_
  refine lv_istore_n (lv' := [(3, .int ((9 : Int32))), (2, .int ((-1 : Int32))), (0, .ref (ad g (9, r, 0))), (1, .int (nI w))]) hx hb dX5_goal_4 rfl hl (by decide) rfl (fun ls hl => ?_)
  refine lv_iconst (v := 0) hx hb dX5_goal_5 (by decide) ?_
  refine lv_istore (lv' := [(4, .int ((0 : Int32))), (3, .int ((9 : Int32))), (2, .int ((-1 : Int32))), (0, .ref (ad g (9, r, 0))), (1, .int (nI w))]) hx hb dX5_goal_6 hl (by decide) rfl (fun ls hl => ?_)
  refine lp_W (i0 := 0) (nH v) (fun i => ent g (setR M r v) o) (fun i => [(4, .int (nI i)), (3, .int ((it (golS v w) i (-1, 9)).2)), (2, .int ((it (golS v w) i (-1, 9)).1)), (0, .ref (ad g (9, r, 0))), (1, .int (nI w))]) (fun i => True) (Nat.zero_le _) (hP.castR (rfl)) hS (lv_sub hl [0, 1, 2, 3, 4] rfl) (trivial) (fun H locs ls hP hS hl J => ?_) (fun i hi IH H locs ls hP hS hl J => ?_)
  · refine lv_iload hx hb dX5_goal_8 (lv_at hl 0 rfl) ?_
    refine lv_aload_n hx hb dX5_goal_10 rfl (lv_at hl 3 rfl) ?_
    refine m_get hC hE hP (k_9 hr) e_9 rfl u_5 11 (by decide) w_653 rfl rfl dX5_goal_11 ?_
    refine m_getN hC hE hP k_10 f_10 rfl u_6 3 (by decide) n_685 rfl rfl dX5_goal_14 ?_
    refine m_top (y := v 16 0) (hsh _ _ rfl) ?_
    refine m_top (y := nI (nH v)) (hv.eH) ?_
    refine lv_icmp_ge (tgt := 93) hx hb dX5_goal_17 (by decide) (fun c1 => ?_) (fun c1 => absurd (nI_le (Nat.le_refl _) (by omega)) c1)
    refine lv_iload_n hx hb dX5_goal_93 rfl (lv_at hl 2 rfl) ?_
    exact m_iret hC hr_ hlk hS (hP.castR (rfl)) rfl (rfl) dX5_goal_94
  · refine lv_iload hx hb dX5_goal_8 (lv_at hl 0 rfl) ?_
    refine lv_aload_n hx hb dX5_goal_10 rfl (lv_at hl 3 rfl) ?_
    refine m_get hC hE hP (k_9 hr) e_9 rfl u_5 11 (by decide) w_653 rfl rfl dX5_goal_11 ?_
    refine m_getN hC hE hP k_10 f_10 rfl u_6 3 (by decide) n_685 rfl rfl dX5_goal_14 ?_
    refine m_top (y := v 16 0) (hsh _ _ rfl) ?_
    refine m_top (y := nI (nH v)) (hv.eH) ?_
    refine lv_icmp_ge (tgt := 93) hx hb dX5_goal_17 (by decide) (fun c2 => absurd c2 (nI_ge hi (by omega))) (fun c2 => ?_)
    refine lv_iconst (v := 0) hx hb dX5_goal_20 (by decide) ?_
    refine lv_istore (lv' := [(5, .int ((0 : Int32))), (4, .int (nI i)), (3, .int ((it (golS v w) i (-1, 9)).2)), (2, .int ((it (golS v w) i (-1, 9)).1)), (0, .ref (ad g (9, r, 0))), (1, .int (nI w))]) hx hb dX5_goal_21 hl (by decide) rfl (fun ls hl => ?_)
    refine lv_iconst (v := 0) hx hb dX5_goal_23 (by decide) ?_
    refine lv_istore (lv' := [(6, .int ((0 : Int32))), (5, .int ((0 : Int32))), (4, .int (nI i)), (3, .int ((it (golS v w) i (-1, 9)).2)), (2, .int ((it (golS v w) i (-1, 9)).1)), (0, .ref (ad g (9, r, 0))), (1, .int (nI w))]) hx hb dX5_goal_24 hl (by decide) rfl (fun ls hl => ?_)
    refine lp_W (i0 := 0) (nS v) (fun j => ent g (setR M r v) o) (fun j => [(6, .int (nI j)), (5, .int (b2i (anyB (ovr v i) j))), (4, .int (nI i)), (3, .int ((it (golS v w) i (-1, 9)).2)), (2, .int ((it (golS v w) i (-1, 9)).1)), (0, .ref (ad g (9, r, 0))), (1, .int (nI w))]) (fun j => True) (Nat.zero_le _) (hP.castR (rfl)) hS (lv_sub hl [0, 1, 2, 3, 4, 5, 6] rfl) (trivial) (fun H locs ls hP hS hl J => ?_) (fun j hj IH2 H locs ls hP hS hl J => ?_)
    · refine lv_iload hx hb dX5_goal_26 (lv_at hl 0 rfl) ?_
      refine lv_aload_n hx hb dX5_goal_28 rfl (lv_at hl 5 rfl) ?_
      refine m_get hC hE hP (k_9 hr) e_9 rfl u_5 11 (by decide) w_653 rfl rfl dX5_goal_29 ?_
      refine m_getN hC hE hP k_10 f_10 rfl u_6 6 (by decide) n_690 rfl rfl dX5_goal_32 ?_
      refine m_top (y := v 16 1) (hsh _ _ rfl) ?_
      refine m_top (y := nI (nS v)) (hv.eS) ?_
      refine lv_icmp_ge (tgt := 57) hx hb dX5_goal_35 (by decide) (fun c3 => ?_) (fun c3 => absurd (nI_le (Nat.le_refl _) (by omega)) c3)
      refine lv_iload hx hb dX5_goal_57 (lv_at hl 1 rfl) ?_
      refine lv_if_eq (tgt := 87) hx hb dX5_goal_59 (by decide) (fun c1 => ?_) (fun c1 => ?_)
      · have c1 := b2i_f c1
        refine lv_iinc (v := nI (i + 1)) (lv' := [(4, .int (nI (i + 1))), (6, .int (nI (nS v))), (5, .int (b2i (anyB (ovr v i) (nS v)))), (3, .int ((it (golS v w) i (-1, 9)).2)), (2, .int ((it (golS v w) i (-1, 9)).1)), (0, .ref (ad g (9, r, 0))), (1, .int (nI w))]) hx hb dX5_goal_87 hl (k := 2) rfl (nI_1 _) (by decide) rfl (fun ls hl => ?_)
        refine lv_goto (tgt := 8) hx hb dX5_goal_90 (by decide) ?_
        exact IH H locs ls (hP.castR (rfl)) hS (by show lv_has ls _ [(4, .int (nI (i + 1))), (3, .int ((it (golS v w) (i + 1) (-1, 9)).2)), (2, .int ((it (golS v w) (i + 1) (-1, 9)).1)), (0, .ref (ad g (9, r, 0))), (1, .int (nI w))]; rw [show (it (golS v w) (i + 1) (-1, 9)).2 = (it (golS v w) i (-1, 9)).2 from by first | (rw [it_s]; exact congrArg Prod.snd (if_neg (fun q => by rw [c1] at q; exact absurd q.1 (by decide)))) | (rw [it_s]; exact congrArg Prod.snd (if_pos ⟨c1, c2⟩)) | (rw [it_s]; exact congrArg Prod.snd (if_neg (fun q => c2 q.2))), show (it (golS v w) (i + 1) (-1, 9)).1 = (it (golS v w) i (-1, 9)).1 from by first | (rw [it_s]; exact congrArg Prod.fst (if_neg (fun q => by rw [c1] at q; exact absurd q.1 (by decide)))) | (rw [it_s]; exact congrArg Prod.fst (if_pos ⟨c1, c2⟩)) | (rw [it_s]; exact congrArg Prod.fst (if_neg (fun q => c2 q.2)))]; exact lv_sub hl [0, 3, 4, 5, 6] rfl) (trivial)
      · have c1 := b2i_t c1
        refine lv_aload_n hx hb dX5_goal_62 rfl (lv_at hl 5 rfl) ?_
        refine lv_iload_n hx hb dX5_goal_63 rfl (lv_at hl 6 rfl) ?_
        refine lv_iload hx hb dX5_goal_64 (lv_at hl 2 rfl) ?_
        refine on_i (run_V hC hE hP hS (As := [.int (nI w), .int (nI i)]) (c_farFrom l hI hr (hsh) w i (by omega) (by omega)) cal_X5_farFrom w_884 ⟨Nat.le_of_ble_eq_true rfl, Nat.le_of_ble_eq_true rfl⟩ (k_9 hr) e_9 rfl rfl rfl (Nat.le_of_ble_eq_true rfl) hl.1 ⟨Nat.le_of_ble_eq_true rfl, Nat.le_of_ble_eq_true rfl⟩ dX5_goal_66) hS (fun H locs hP hS => ?_)
        refine lv_iload_n hx hb dX5_goal_69 rfl (lv_at hl 3 rfl) ?_
        refine lv_icmp_lt (tgt := 76) hx hb dX5_goal_70 (by decide) (fun c2 => ?_) (fun c2 => ?_)
        · refine lv_iload hx hb dX5_goal_76 (lv_at hl 2 rfl) ?_
          refine lv_istore_n (lv' := [(2, .int (nI i)), (6, .int (nI (nS v))), (5, .int (b2i (anyB (ovr v i) (nS v)))), (4, .int (nI i)), (3, .int ((it (golS v w) i (-1, 9)).2)), (0, .ref (ad g (9, r, 0))), (1, .int (nI w))]) hx hb dX5_goal_78 rfl hl (by decide) rfl (fun ls hl => ?_)
          refine lv_aload_n hx hb dX5_goal_79 rfl (lv_at hl 5 rfl) ?_
          refine lv_iload_n hx hb dX5_goal_80 rfl (lv_at hl 6 rfl) ?_
          refine lv_iload hx hb dX5_goal_81 (lv_at hl 3 rfl) ?_
          refine on_i (run_V hC hE hP hS (As := [.int (nI w), .int (nI i)]) (c_farFrom l hI hr (hsh) w i (by omega) (by omega)) cal_X5_farFrom w_884 ⟨Nat.le_of_ble_eq_true rfl, Nat.le_of_ble_eq_true rfl⟩ (k_9 hr) e_9 rfl rfl rfl (Nat.le_of_ble_eq_true rfl) hl.1 ⟨Nat.le_of_ble_eq_true rfl, Nat.le_of_ble_eq_true rfl⟩ dX5_goal_83) hS (fun H locs hP hS => ?_)
          refine lv_istore_n (lv' := [(3, .int (farW v w i)), (2, .int (nI i)), (6, .int (nI (nS v))), (5, .int (b2i (anyB (ovr v i) (nS v)))), (4, .int (nI i)), (0, .ref (ad g (9, r, 0))), (1, .int (nI w))]) hx hb dX5_goal_86 rfl hl (by decide) rfl (fun ls hl => ?_)
          refine lv_iinc (v := nI (i + 1)) (lv' := [(4, .int (nI (i + 1))), (3, .int (farW v w i)), (2, .int (nI i)), (6, .int (nI (nS v))), (5, .int (b2i (anyB (ovr v i) (nS v)))), (0, .ref (ad g (9, r, 0))), (1, .int (nI w))]) hx hb dX5_goal_87 hl (k := 4) rfl (nI_1 _) (by decide) rfl (fun ls hl => ?_)
          refine lv_goto (tgt := 8) hx hb dX5_goal_90 (by decide) ?_
          exact IH H locs ls (hP.castR (rfl)) hS (by show lv_has ls _ [(4, .int (nI (i + 1))), (3, .int ((it (golS v w) (i + 1) (-1, 9)).2)), (2, .int ((it (golS v w) (i + 1) (-1, 9)).1)), (0, .ref (ad g (9, r, 0))), (1, .int (nI w))]; rw [show (it (golS v w) (i + 1) (-1, 9)).2 = farW v w i from by first | (rw [it_s]; exact congrArg Prod.snd (if_neg (fun q => by rw [c1] at q; exact absurd q.1 (by decide)))) | (rw [it_s]; exact congrArg Prod.snd (if_pos ⟨c1, c2⟩)) | (rw [it_s]; exact congrArg Prod.snd (if_neg (fun q => c2 q.2))), show (it (golS v w) (i + 1) (-1, 9)).1 = nI i from by first | (rw [it_s]; exact congrArg Prod.fst (if_neg (fun q => by rw [c1] at q; exact absurd q.1 (by decide)))) | (rw [it_s]; exact congrArg Prod.fst (if_pos ⟨c1, c2⟩)) | (rw [it_s]; exact congrArg Prod.fst (if_neg (fun q => c2 q.2)))]; exact lv_sub hl [0, 1, 2, 5, 6] rfl) (trivial)
        · refine lv_goto (tgt := 87) hx hb dX5_goal_73 (by decide) ?_
          refine lv_iinc (v := nI (i + 1)) (lv' := [(4, .int (nI (i + 1))), (6, .int (nI (nS v))), (5, .int (b2i (anyB (ovr v i) (nS v)))), (3, .int ((it (golS v w) i (-1, 9)).2)), (2, .int ((it (golS v w) i (-1, 9)).1)), (0, .ref (ad g (9, r, 0))), (1, .int (nI w))]) hx hb dX5_goal_87 hl (k := 2) rfl (nI_1 _) (by decide) rfl (fun ls hl => ?_)
          refine lv_goto (tgt := 8) hx hb dX5_goal_90 (by decide) ?_
          exact IH H locs ls (hP.castR (rfl)) hS (by show lv_has ls _ [(4, .int (nI (i + 1))), (3, .int ((it (golS v w) (i + 1) (-1, 9)).2)), (2, .int ((it (golS v w) (i + 1) (-1, 9)).1)), (0, .ref (ad g (9, r, 0))), (1, .int (nI w))]; rw [show (it (golS v w) (i + 1) (-1, 9)).2 = (it (golS v w) i (-1, 9)).2 from by first | (rw [it_s]; exact congrArg Prod.snd (if_neg (fun q => by rw [c1] at q; exact absurd q.1 (by decide)))) | (rw [it_s]; exact congrArg Prod.snd (if_pos ⟨c1, c2⟩)) | (rw [it_s]; exact congrArg Prod.snd (if_neg (fun q => c2 q.2))), show (it (golS v w) (i + 1) (-1, 9)).1 = (it (golS v w) i (-1, 9)).1 from by first | (rw [it_s]; exact congrArg Prod.fst (if_neg (fun q => by rw [c1] at q; exact absurd q.1 (by decide)))) | (rw [it_s]; exact congrArg Prod.fst (if_pos ⟨c1, c2⟩)) | (rw [it_s]; exact congrArg Prod.fst (if_neg (fun q => c2 q.2)))]; exact lv_sub hl [0, 3, 4, 5, 6] rfl) (trivial)
    · refine lv_iload hx hb dX5_goal_26 (lv_at hl 0 rfl) ?_
      refine lv_aload_n hx hb dX5_goal_28 rfl (lv_at hl 5 rfl) ?_
      refine m_get hC hE hP (k_9 hr) e_9 rfl u_5 11 (by decide) w_653 rfl rfl dX5_goal_29 ?_
      refine m_getN hC hE hP k_10 f_10 rfl u_6 6 (by decide) n_690 rfl rfl dX5_goal_32 ?_
      refine m_top (y := v 16 1) (hsh _ _ rfl) ?_
      refine m_top (y := nI (nS v)) (hv.eS) ?_
      refine lv_icmp_ge (tgt := 57) hx hb dX5_goal_35 (by decide) (fun c4 => absurd c4 (nI_ge hj (by omega))) (fun c4 => ?_)
      refine lv_iload hx hb dX5_goal_38 (lv_at hl 1 rfl) ?_
      refine lv_aload_n hx hb dX5_goal_40 rfl (lv_at hl 5 rfl) ?_
      refine lv_iload hx hb dX5_goal_41 (lv_at hl 0 rfl) ?_
      refine lv_iload hx hb dX5_goal_43 (lv_at hl 2 rfl) ?_
      refine on_i (run_V hC hE hP hS (As := [.int (nI j), .int (nI i)]) (c_isOver l hI hr (hsh) j i (by omega)) cal_X5_isOver w_880 ⟨Nat.le_of_ble_eq_true rfl, Nat.le_of_ble_eq_true rfl⟩ (k_9 hr) e_9 rfl rfl rfl (Nat.le_of_ble_eq_true rfl) hl.1 ⟨Nat.le_of_ble_eq_true rfl, Nat.le_of_ble_eq_true rfl⟩ dX5_goal_45) hS (fun H locs hP hS => ?_)
      refine lv_ior hx hb dX5_goal_48 ?_
      refine m_top (y := b2i (anyB (ovr v i) (j + 1))) (b2i_or _ _) ?_
      refine lv_istore (lv' := [(5, .int (b2i (anyB (ovr v i) (j + 1)))), (6, .int (nI j)), (4, .int (nI i)), (3, .int ((it (golS v w) i (-1, 9)).2)), (2, .int ((it (golS v w) i (-1, 9)).1)), (0, .ref (ad g (9, r, 0))), (1, .int (nI w))]) hx hb dX5_goal_49 hl (by decide) rfl (fun ls hl => ?_)
      refine lv_iinc (v := nI (j + 1)) (lv' := [(6, .int (nI (j + 1))), (5, .int (b2i (anyB (ovr v i) (j + 1)))), (4, .int (nI i)), (3, .int ((it (golS v w) i (-1, 9)).2)), (2, .int ((it (golS v w) i (-1, 9)).1)), (0, .ref (ad g (9, r, 0))), (1, .int (nI w))]) hx hb dX5_goal_51 hl (k := 1) rfl (nI_1 _) (by decide) rfl (fun ls hl => ?_)
      refine lv_goto (tgt := 26) hx hb dX5_goal_54 (by decide) ?_
      exact IH2 H locs ls (hP.castR (rfl)) hS (lv_sub hl [0, 1, 2, 3, 4, 5, 6] rfl) (trivial)
end
section
/-! the reference: the night -/
theorem dX5_guard_0 : decode cX5_guard 0 = .ok (.aload_n 0, 1) := by decide +kernel
theorem dX5_guard_1 : decode cX5_guard 1 = .ok (.iload_n 1, 1) := by decide +kernel
theorem dX5_guard_2 : decode cX5_guard 2 = .ok (.invokevirtual 108, 3) := by decide +kernel
theorem dX5_guard_5 : decode cX5_guard 5 = .ok (.istore_n 2, 1) := by decide +kernel
theorem dX5_guard_6 : decode cX5_guard 6 = .ok (.iload_n 2, 1) := by decide +kernel
theorem dX5_guard_7 : decode cX5_guard 7 = .ok (.iconst (-1), 1) := by decide +kernel
theorem dX5_guard_8 : decode cX5_guard 8 = .ok (.if_icmp .ne 4, 3) := by decide +kernel
theorem dX5_guard_11 : decode cX5_guard 11 = .ok (.return_, 1) := by decide +kernel
theorem dX5_guard_12 : decode cX5_guard 12 = .ok (.iconst 0, 1) := by decide +kernel
theorem dX5_guard_13 : decode cX5_guard 13 = .ok (.istore_n 3, 1) := by decide +kernel
theorem dX5_guard_14 : decode cX5_guard 14 = .ok (.iload_n 3, 1) := by decide +kernel
theorem dX5_guard_15 : decode cX5_guard 15 = .ok (.aload_n 0, 1) := by decide +kernel
theorem dX5_guard_16 : decode cX5_guard 16 = .ok (.getfield 3, 3) := by decide +kernel
theorem dX5_guard_19 : decode cX5_guard 19 = .ok (.getfield 111, 3) := by decide +kernel
theorem dX5_guard_22 : decode cX5_guard 22 = .ok (.iload_n 1, 1) := by decide +kernel
theorem dX5_guard_23 : decode cX5_guard 23 = .ok (.iaload, 1) := by decide +kernel
theorem dX5_guard_24 : decode cX5_guard 24 = .ok (.if_icmp .ge 65, 3) := by decide +kernel
theorem dX5_guard_27 : decode cX5_guard 27 = .ok (.aload_n 0, 1) := by decide +kernel
theorem dX5_guard_28 : decode cX5_guard 28 = .ok (.getfield 38, 3) := by decide +kernel
theorem dX5_guard_31 : decode cX5_guard 31 = .ok (.iload_n 1, 1) := by decide +kernel
theorem dX5_guard_32 : decode cX5_guard 32 = .ok (.dup2, 1) := by decide +kernel
theorem dX5_guard_33 : decode cX5_guard 33 = .ok (.iaload, 1) := by decide +kernel
theorem dX5_guard_34 : decode cX5_guard 34 = .ok (.aload_n 0, 1) := by decide +kernel
theorem dX5_guard_35 : decode cX5_guard 35 = .ok (.getfield 3, 3) := by decide +kernel
theorem dX5_guard_38 : decode cX5_guard 38 = .ok (.getfield 60, 3) := by decide +kernel
theorem dX5_guard_41 : decode cX5_guard 41 = .ok (.iload_n 2, 1) := by decide +kernel
theorem dX5_guard_42 : decode cX5_guard 42 = .ok (.iaload, 1) := by decide +kernel
theorem dX5_guard_43 : decode cX5_guard 43 = .ok (.aload_n 0, 1) := by decide +kernel
theorem dX5_guard_44 : decode cX5_guard 44 = .ok (.getfield 38, 3) := by decide +kernel
theorem dX5_guard_47 : decode cX5_guard 47 = .ok (.iload_n 1, 1) := by decide +kernel
theorem dX5_guard_48 : decode cX5_guard 48 = .ok (.iaload, 1) := by decide +kernel
theorem dX5_guard_49 : decode cX5_guard 49 = .ok (.isub, 1) := by decide +kernel
theorem dX5_guard_50 : decode cX5_guard 50 = .ok (.invokestatic 114, 3) := by decide +kernel
theorem dX5_guard_53 : decode cX5_guard 53 = .ok (.iadd, 1) := by decide +kernel
theorem dX5_guard_54 : decode cX5_guard 54 = .ok (.iastore, 1) := by decide +kernel
theorem dX5_guard_55 : decode cX5_guard 55 = .ok (.aload_n 0, 1) := by decide +kernel
theorem dX5_guard_56 : decode cX5_guard 56 = .ok (.getfield 41, 3) := by decide +kernel
theorem dX5_guard_59 : decode cX5_guard 59 = .ok (.iload_n 1, 1) := by decide +kernel
theorem dX5_guard_60 : decode cX5_guard 60 = .ok (.dup2, 1) := by decide +kernel
theorem dX5_guard_61 : decode cX5_guard 61 = .ok (.iaload, 1) := by decide +kernel
theorem dX5_guard_62 : decode cX5_guard 62 = .ok (.aload_n 0, 1) := by decide +kernel
theorem dX5_guard_63 : decode cX5_guard 63 = .ok (.getfield 3, 3) := by decide +kernel
theorem dX5_guard_66 : decode cX5_guard 66 = .ok (.getfield 63, 3) := by decide +kernel
theorem dX5_guard_69 : decode cX5_guard 69 = .ok (.iload_n 2, 1) := by decide +kernel
theorem dX5_guard_70 : decode cX5_guard 70 = .ok (.iaload, 1) := by decide +kernel
theorem dX5_guard_71 : decode cX5_guard 71 = .ok (.aload_n 0, 1) := by decide +kernel
theorem dX5_guard_72 : decode cX5_guard 72 = .ok (.getfield 41, 3) := by decide +kernel
theorem dX5_guard_75 : decode cX5_guard 75 = .ok (.iload_n 1, 1) := by decide +kernel
theorem dX5_guard_76 : decode cX5_guard 76 = .ok (.iaload, 1) := by decide +kernel
theorem dX5_guard_77 : decode cX5_guard 77 = .ok (.isub, 1) := by decide +kernel
theorem dX5_guard_78 : decode cX5_guard 78 = .ok (.invokestatic 114, 3) := by decide +kernel
theorem dX5_guard_81 : decode cX5_guard 81 = .ok (.iadd, 1) := by decide +kernel
theorem dX5_guard_82 : decode cX5_guard 82 = .ok (.iastore, 1) := by decide +kernel
theorem dX5_guard_83 : decode cX5_guard 83 = .ok (.iinc 3 1, 3) := by decide +kernel
theorem dX5_guard_86 : decode cX5_guard 86 = .ok (.goto (-72), 3) := by decide +kernel
theorem dX5_guard_89 : decode cX5_guard 89 = .ok (.aload_n 0, 1) := by decide +kernel
theorem dX5_guard_90 : decode cX5_guard 90 = .ok (.iload_n 1, 1) := by decide +kernel
theorem dX5_guard_91 : decode cX5_guard 91 = .ok (.iload_n 2, 1) := by decide +kernel
theorem dX5_guard_92 : decode cX5_guard 92 = .ok (.invokevirtual 105, 3) := by decide +kernel
theorem dX5_guard_95 : decode cX5_guard 95 = .ok (.ifCond .le 4, 3) := by decide +kernel
theorem dX5_guard_98 : decode cX5_guard 98 = .ok (.return_, 1) := by decide +kernel
theorem dX5_guard_99 : decode cX5_guard 99 = .ok (.aload_n 0, 1) := by decide +kernel
theorem dX5_guard_100 : decode cX5_guard 100 = .ok (.getfield 3, 3) := by decide +kernel
theorem dX5_guard_103 : decode cX5_guard 103 = .ok (.iload_n 2, 1) := by decide +kernel
theorem dX5_guard_104 : decode cX5_guard 104 = .ok (.invokevirtual 85, 3) := by decide +kernel
theorem dX5_guard_107 : decode cX5_guard 107 = .ok (.istore_n 3, 1) := by decide +kernel
theorem dX5_guard_108 : decode cX5_guard 108 = .ok (.iconst 0, 1) := by decide +kernel
theorem dX5_guard_109 : decode cX5_guard 109 = .ok (.istore 4, 2) := by decide +kernel
theorem dX5_guard_111 : decode cX5_guard 111 = .ok (.iload 4, 2) := by decide +kernel
theorem dX5_guard_113 : decode cX5_guard 113 = .ok (.aload_n 0, 1) := by decide +kernel
theorem dX5_guard_114 : decode cX5_guard 114 = .ok (.getfield 3, 3) := by decide +kernel
theorem dX5_guard_117 : decode cX5_guard 117 = .ok (.getfield 98, 3) := by decide +kernel
theorem dX5_guard_120 : decode cX5_guard 120 = .ok (.if_icmp .ge 96, 3) := by decide +kernel
theorem dX5_guard_123 : decode cX5_guard 123 = .ok (.aload_n 0, 1) := by decide +kernel
theorem dX5_guard_124 : decode cX5_guard 124 = .ok (.iload 4, 2) := by decide +kernel
theorem dX5_guard_126 : decode cX5_guard 126 = .ok (.iload_n 2, 1) := by decide +kernel
theorem dX5_guard_127 : decode cX5_guard 127 = .ok (.invokevirtual 101, 3) := by decide +kernel
theorem dX5_guard_130 : decode cX5_guard 130 = .ok (.ifCond .ne 6, 3) := by decide +kernel
theorem dX5_guard_133 : decode cX5_guard 133 = .ok (.goto 77, 3) := by decide +kernel
theorem dX5_guard_136 : decode cX5_guard 136 = .ok (.aload_n 0, 1) := by decide +kernel
theorem dX5_guard_137 : decode cX5_guard 137 = .ok (.getfield 19, 3) := by decide +kernel
theorem dX5_guard_140 : decode cX5_guard 140 = .ok (.iload_n 3, 1) := by decide +kernel
theorem dX5_guard_141 : decode cX5_guard 141 = .ok (.bipush 60, 2) := by decide +kernel
theorem dX5_guard_143 : decode cX5_guard 143 = .ok (.aload_n 0, 1) := by decide +kernel
theorem dX5_guard_144 : decode cX5_guard 144 = .ok (.getfield 19, 3) := by decide +kernel
theorem dX5_guard_147 : decode cX5_guard 147 = .ok (.iload_n 3, 1) := by decide +kernel
theorem dX5_guard_148 : decode cX5_guard 148 = .ok (.iaload, 1) := by decide +kernel
theorem dX5_guard_149 : decode cX5_guard 149 = .ok (.aload_n 0, 1) := by decide +kernel
theorem dX5_guard_150 : decode cX5_guard 150 = .ok (.getfield 29, 3) := by decide +kernel
theorem dX5_guard_153 : decode cX5_guard 153 = .ok (.iload 4, 2) := by decide +kernel
theorem dX5_guard_155 : decode cX5_guard 155 = .ok (.iaload, 1) := by decide +kernel
theorem dX5_guard_156 : decode cX5_guard 156 = .ok (.iadd, 1) := by decide +kernel
theorem dX5_guard_157 : decode cX5_guard 157 = .ok (.aload_n 0, 1) := by decide +kernel
theorem dX5_guard_158 : decode cX5_guard 158 = .ok (.getfield 3, 3) := by decide +kernel
theorem dX5_guard_161 : decode cX5_guard 161 = .ok (.getfield 92, 3) := by decide +kernel
theorem dX5_guard_164 : decode cX5_guard 164 = .ok (.iload 4, 2) := by decide +kernel
theorem dX5_guard_166 : decode cX5_guard 166 = .ok (.iaload, 1) := by decide +kernel
theorem dX5_guard_167 : decode cX5_guard 167 = .ok (.isub, 1) := by decide +kernel
theorem dX5_guard_168 : decode cX5_guard 168 = .ok (.invokestatic 73, 3) := by decide +kernel
theorem dX5_guard_171 : decode cX5_guard 171 = .ok (.iastore, 1) := by decide +kernel
theorem dX5_guard_172 : decode cX5_guard 172 = .ok (.aload_n 0, 1) := by decide +kernel
theorem dX5_guard_173 : decode cX5_guard 173 = .ok (.getfield 29, 3) := by decide +kernel
theorem dX5_guard_176 : decode cX5_guard 176 = .ok (.iload 4, 2) := by decide +kernel
theorem dX5_guard_178 : decode cX5_guard 178 = .ok (.aload_n 0, 1) := by decide +kernel
theorem dX5_guard_179 : decode cX5_guard 179 = .ok (.getfield 3, 3) := by decide +kernel
theorem dX5_guard_182 : decode cX5_guard 182 = .ok (.getfield 92, 3) := by decide +kernel
theorem dX5_guard_185 : decode cX5_guard 185 = .ok (.iload 4, 2) := by decide +kernel
theorem dX5_guard_187 : decode cX5_guard 187 = .ok (.iaload, 1) := by decide +kernel
theorem dX5_guard_188 : decode cX5_guard 188 = .ok (.iastore, 1) := by decide +kernel
theorem dX5_guard_189 : decode cX5_guard 189 = .ok (.aload_n 0, 1) := by decide +kernel
theorem dX5_guard_190 : decode cX5_guard 190 = .ok (.getfield 35, 3) := by decide +kernel
theorem dX5_guard_193 : decode cX5_guard 193 = .ok (.iload 4, 2) := by decide +kernel
theorem dX5_guard_195 : decode cX5_guard 195 = .ok (.dup2, 1) := by decide +kernel
theorem dX5_guard_196 : decode cX5_guard 196 = .ok (.iaload, 1) := by decide +kernel
theorem dX5_guard_197 : decode cX5_guard 197 = .ok (.iconst 1, 1) := by decide +kernel
theorem dX5_guard_198 : decode cX5_guard 198 = .ok (.iadd, 1) := by decide +kernel
theorem dX5_guard_199 : decode cX5_guard 199 = .ok (.iastore, 1) := by decide +kernel
theorem dX5_guard_200 : decode cX5_guard 200 = .ok (.aload_n 0, 1) := by decide +kernel
theorem dX5_guard_201 : decode cX5_guard 201 = .ok (.getfield 44, 3) := by decide +kernel
theorem dX5_guard_204 : decode cX5_guard 204 = .ok (.iload_n 1, 1) := by decide +kernel
theorem dX5_guard_205 : decode cX5_guard 205 = .ok (.dup2, 1) := by decide +kernel
theorem dX5_guard_206 : decode cX5_guard 206 = .ok (.iaload, 1) := by decide +kernel
theorem dX5_guard_207 : decode cX5_guard 207 = .ok (.iconst 1, 1) := by decide +kernel
theorem dX5_guard_208 : decode cX5_guard 208 = .ok (.iadd, 1) := by decide +kernel
theorem dX5_guard_209 : decode cX5_guard 209 = .ok (.iastore, 1) := by decide +kernel
theorem dX5_guard_210 : decode cX5_guard 210 = .ok (.iinc 4 1, 3) := by decide +kernel
theorem dX5_guard_213 : decode cX5_guard 213 = .ok (.goto (-102), 3) := by decide +kernel
theorem dX5_guard_216 : decode cX5_guard 216 = .ok (.return_, 1) := by decide +kernel
theorem dX5_freeze_0 : decode cX5_freeze 0 = .ok (.aload_n 0, 1) := by decide +kernel
theorem dX5_freeze_1 : decode cX5_freeze 1 = .ok (.getfield 3, 3) := by decide +kernel
theorem dX5_freeze_4 : decode cX5_freeze 4 = .ok (.getfield 119, 3) := by decide +kernel
theorem dX5_freeze_7 : decode cX5_freeze 7 = .ok (.aload_n 0, 1) := by decide +kernel
theorem dX5_freeze_8 : decode cX5_freeze 8 = .ok (.getfield 53, 3) := by decide +kernel
theorem dX5_freeze_11 : decode cX5_freeze 11 = .ok (.bipush 7, 2) := by decide +kernel
theorem dX5_freeze_13 : decode cX5_freeze 13 = .ok (.irem, 1) := by decide +kernel
theorem dX5_freeze_14 : decode cX5_freeze 14 = .ok (.iaload, 1) := by decide +kernel
theorem dX5_freeze_15 : decode cX5_freeze 15 = .ok (.istore_n 1, 1) := by decide +kernel
theorem dX5_freeze_16 : decode cX5_freeze 16 = .ok (.aload_n 0, 1) := by decide +kernel
theorem dX5_freeze_17 : decode cX5_freeze 17 = .ok (.iconst 0, 1) := by decide +kernel
theorem dX5_freeze_18 : decode cX5_freeze 18 = .ok (.bipush 90, 2) := by decide +kernel
theorem dX5_freeze_20 : decode cX5_freeze 20 = .ok (.aload_n 0, 1) := by decide +kernel
theorem dX5_freeze_21 : decode cX5_freeze 21 = .ok (.getfield 15, 3) := by decide +kernel
theorem dX5_freeze_24 : decode cX5_freeze 24 = .ok (.iload_n 1, 1) := by decide +kernel
theorem dX5_freeze_25 : decode cX5_freeze 25 = .ok (.iadd, 1) := by decide +kernel
theorem dX5_freeze_26 : decode cX5_freeze 26 = .ok (.invokestatic 73, 3) := by decide +kernel
theorem dX5_freeze_29 : decode cX5_freeze 29 = .ok (.invokestatic 82, 3) := by decide +kernel
theorem dX5_freeze_32 : decode cX5_freeze 32 = .ok (.putfield 15, 3) := by decide +kernel
theorem dX5_freeze_35 : decode cX5_freeze 35 = .ok (.iconst 0, 1) := by decide +kernel
theorem dX5_freeze_36 : decode cX5_freeze 36 = .ok (.istore_n 2, 1) := by decide +kernel
theorem dX5_freeze_37 : decode cX5_freeze 37 = .ok (.iload_n 2, 1) := by decide +kernel
theorem dX5_freeze_38 : decode cX5_freeze 38 = .ok (.aload_n 0, 1) := by decide +kernel
theorem dX5_freeze_39 : decode cX5_freeze 39 = .ok (.getfield 3, 3) := by decide +kernel
theorem dX5_freeze_42 : decode cX5_freeze 42 = .ok (.getfield 95, 3) := by decide +kernel
theorem dX5_freeze_45 : decode cX5_freeze 45 = .ok (.if_icmp .ge 36, 3) := by decide +kernel
theorem dX5_freeze_48 : decode cX5_freeze 48 = .ok (.aload_n 0, 1) := by decide +kernel
theorem dX5_freeze_49 : decode cX5_freeze 49 = .ok (.getfield 15, 3) := by decide +kernel
theorem dX5_freeze_52 : decode cX5_freeze 52 = .ok (.iconst 5, 1) := by decide +kernel
theorem dX5_freeze_53 : decode cX5_freeze 53 = .ok (.if_icmp .lt 15, 3) := by decide +kernel
theorem dX5_freeze_56 : decode cX5_freeze 56 = .ok (.iload_n 1, 1) := by decide +kernel
theorem dX5_freeze_57 : decode cX5_freeze 57 = .ok (.ifCond .le 18, 3) := by decide +kernel
theorem dX5_freeze_60 : decode cX5_freeze 60 = .ok (.aload_n 0, 1) := by decide +kernel
theorem dX5_freeze_61 : decode cX5_freeze 61 = .ok (.iload_n 2, 1) := by decide +kernel
theorem dX5_freeze_62 : decode cX5_freeze 62 = .ok (.invokevirtual 122, 3) := by decide +kernel
theorem dX5_freeze_65 : decode cX5_freeze 65 = .ok (.ifCond .ne 10, 3) := by decide +kernel
theorem dX5_freeze_68 : decode cX5_freeze 68 = .ok (.aload_n 0, 1) := by decide +kernel
theorem dX5_freeze_69 : decode cX5_freeze 69 = .ok (.getfield 23, 3) := by decide +kernel
theorem dX5_freeze_72 : decode cX5_freeze 72 = .ok (.iload_n 2, 1) := by decide +kernel
theorem dX5_freeze_73 : decode cX5_freeze 73 = .ok (.iconst 0, 1) := by decide +kernel
theorem dX5_freeze_74 : decode cX5_freeze 74 = .ok (.iastore, 1) := by decide +kernel
theorem dX5_freeze_75 : decode cX5_freeze 75 = .ok (.iinc 2 1, 3) := by decide +kernel
theorem dX5_freeze_78 : decode cX5_freeze 78 = .ok (.goto (-41), 3) := by decide +kernel
theorem dX5_freeze_81 : decode cX5_freeze 81 = .ok (.iconst 0, 1) := by decide +kernel
theorem dX5_freeze_82 : decode cX5_freeze 82 = .ok (.istore_n 2, 1) := by decide +kernel
theorem dX5_freeze_83 : decode cX5_freeze 83 = .ok (.iload_n 2, 1) := by decide +kernel
theorem dX5_freeze_84 : decode cX5_freeze 84 = .ok (.aload_n 0, 1) := by decide +kernel
theorem dX5_freeze_85 : decode cX5_freeze 85 = .ok (.getfield 3, 3) := by decide +kernel
theorem dX5_freeze_88 : decode cX5_freeze 88 = .ok (.getfield 98, 3) := by decide +kernel
theorem dX5_freeze_91 : decode cX5_freeze 91 = .ok (.if_icmp .ge 33, 3) := by decide +kernel
theorem dX5_freeze_94 : decode cX5_freeze 94 = .ok (.aload_n 0, 1) := by decide +kernel
theorem dX5_freeze_95 : decode cX5_freeze 95 = .ok (.getfield 26, 3) := by decide +kernel
theorem dX5_freeze_98 : decode cX5_freeze 98 = .ok (.iload_n 2, 1) := by decide +kernel
theorem dX5_freeze_99 : decode cX5_freeze 99 = .ok (.aload_n 0, 1) := by decide +kernel
theorem dX5_freeze_100 : decode cX5_freeze 100 = .ok (.getfield 15, 3) := by decide +kernel
theorem dX5_freeze_103 : decode cX5_freeze 103 = .ok (.iconst 5, 1) := by decide +kernel
theorem dX5_freeze_104 : decode cX5_freeze 104 = .ok (.if_icmp .ge 7, 3) := by decide +kernel
theorem dX5_freeze_107 : decode cX5_freeze 107 = .ok (.iconst (-1), 1) := by decide +kernel
theorem dX5_freeze_108 : decode cX5_freeze 108 = .ok (.goto 9, 3) := by decide +kernel
theorem dX5_freeze_111 : decode cX5_freeze 111 = .ok (.aload_n 0, 1) := by decide +kernel
theorem dX5_freeze_112 : decode cX5_freeze 112 = .ok (.getfield 26, 3) := by decide +kernel
theorem dX5_freeze_115 : decode cX5_freeze 115 = .ok (.iload_n 2, 1) := by decide +kernel
theorem dX5_freeze_116 : decode cX5_freeze 116 = .ok (.iaload, 1) := by decide +kernel
theorem dX5_freeze_117 : decode cX5_freeze 117 = .ok (.iastore, 1) := by decide +kernel
theorem dX5_freeze_118 : decode cX5_freeze 118 = .ok (.iinc 2 1, 3) := by decide +kernel
theorem dX5_freeze_121 : decode cX5_freeze 121 = .ok (.goto (-38), 3) := by decide +kernel
theorem dX5_freeze_124 : decode cX5_freeze 124 = .ok (.return_, 1) := by decide +kernel
theorem dX5_sum_0 : decode cX5_sum 0 = .ok (.iconst 0, 1) := by decide +kernel
theorem dX5_sum_1 : decode cX5_sum 1 = .ok (.istore_n 3, 1) := by decide +kernel
theorem dX5_sum_2 : decode cX5_sum 2 = .ok (.iconst 0, 1) := by decide +kernel
theorem dX5_sum_3 : decode cX5_sum 3 = .ok (.istore 4, 2) := by decide +kernel
theorem dX5_sum_5 : decode cX5_sum 5 = .ok (.iload 4, 2) := by decide +kernel
theorem dX5_sum_7 : decode cX5_sum 7 = .ok (.iload_n 2, 1) := by decide +kernel
theorem dX5_sum_8 : decode cX5_sum 8 = .ok (.if_icmp .ge 16, 3) := by decide +kernel
theorem dX5_sum_11 : decode cX5_sum 11 = .ok (.iload_n 3, 1) := by decide +kernel
theorem dX5_sum_12 : decode cX5_sum 12 = .ok (.aload_n 1, 1) := by decide +kernel
theorem dX5_sum_13 : decode cX5_sum 13 = .ok (.iload 4, 2) := by decide +kernel
theorem dX5_sum_15 : decode cX5_sum 15 = .ok (.iaload, 1) := by decide +kernel
theorem dX5_sum_16 : decode cX5_sum 16 = .ok (.iadd, 1) := by decide +kernel
theorem dX5_sum_17 : decode cX5_sum 17 = .ok (.istore_n 3, 1) := by decide +kernel
theorem dX5_sum_18 : decode cX5_sum 18 = .ok (.iinc 4 1, 3) := by decide +kernel
theorem dX5_sum_21 : decode cX5_sum 21 = .ok (.goto (-16), 3) := by decide +kernel
theorem dX5_sum_24 : decode cX5_sum 24 = .ok (.iload_n 3, 1) := by decide +kernel
theorem dX5_sum_25 : decode cX5_sum 25 = .ok (.ireturn, 1) := by decide +kernel
theorem dX5_count_0 : decode cX5_count 0 = .ok (.iload_n 1, 1) := by decide +kernel
theorem dX5_count_1 : decode cX5_count 1 = .ok (.tableswitch 130 0 7 #[47, 52, 57, 71, 82, 90, 106, 114], 47) := by decide +kernel
theorem dX5_count_48 : decode cX5_count 48 = .ok (.aload_n 0, 1) := by decide +kernel
theorem dX5_count_49 : decode cX5_count 49 = .ok (.getfield 53, 3) := by decide +kernel
theorem dX5_count_52 : decode cX5_count 52 = .ok (.ireturn, 1) := by decide +kernel
theorem dX5_count_53 : decode cX5_count 53 = .ok (.aload_n 0, 1) := by decide +kernel
theorem dX5_count_54 : decode cX5_count 54 = .ok (.getfield 15, 3) := by decide +kernel
theorem dX5_count_57 : decode cX5_count 57 = .ok (.ireturn, 1) := by decide +kernel
theorem dX5_count_58 : decode cX5_count 58 = .ok (.aload_n 0, 1) := by decide +kernel
theorem dX5_count_59 : decode cX5_count 59 = .ok (.getfield 15, 3) := by decide +kernel
theorem dX5_count_62 : decode cX5_count 62 = .ok (.iconst 5, 1) := by decide +kernel
theorem dX5_count_63 : decode cX5_count 63 = .ok (.if_icmp .ge 7, 3) := by decide +kernel
theorem dX5_count_66 : decode cX5_count 66 = .ok (.iconst 0, 1) := by decide +kernel
theorem dX5_count_67 : decode cX5_count 67 = .ok (.goto 4, 3) := by decide +kernel
theorem dX5_count_70 : decode cX5_count 70 = .ok (.iconst 1, 1) := by decide +kernel
theorem dX5_count_71 : decode cX5_count 71 = .ok (.ireturn, 1) := by decide +kernel
theorem dX5_count_72 : decode cX5_count 72 = .ok (.aload_n 0, 1) := by decide +kernel
theorem dX5_count_73 : decode cX5_count 73 = .ok (.aload_n 0, 1) := by decide +kernel
theorem dX5_count_74 : decode cX5_count 74 = .ok (.getfield 19, 3) := by decide +kernel
theorem dX5_count_77 : decode cX5_count 77 = .ok (.bipush 81, 2) := by decide +kernel
theorem dX5_count_79 : decode cX5_count 79 = .ok (.invokevirtual 149, 3) := by decide +kernel
theorem dX5_count_82 : decode cX5_count 82 = .ok (.ireturn, 1) := by decide +kernel
theorem dX5_count_83 : decode cX5_count 83 = .ok (.aload_n 0, 1) := by decide +kernel
theorem dX5_count_84 : decode cX5_count 84 = .ok (.getfield 3, 3) := by decide +kernel
theorem dX5_count_87 : decode cX5_count 87 = .ok (.getfield 95, 3) := by decide +kernel
theorem dX5_count_90 : decode cX5_count 90 = .ok (.ireturn, 1) := by decide +kernel
theorem dX5_count_91 : decode cX5_count 91 = .ok (.aload_n 0, 1) := by decide +kernel
theorem dX5_count_92 : decode cX5_count 92 = .ok (.aload_n 0, 1) := by decide +kernel
theorem dX5_count_93 : decode cX5_count 93 = .ok (.getfield 23, 3) := by decide +kernel
theorem dX5_count_96 : decode cX5_count 96 = .ok (.aload_n 0, 1) := by decide +kernel
theorem dX5_count_97 : decode cX5_count 97 = .ok (.getfield 3, 3) := by decide +kernel
theorem dX5_count_100 : decode cX5_count 100 = .ok (.getfield 95, 3) := by decide +kernel
theorem dX5_count_103 : decode cX5_count 103 = .ok (.invokevirtual 149, 3) := by decide +kernel
theorem dX5_count_106 : decode cX5_count 106 = .ok (.ireturn, 1) := by decide +kernel
theorem dX5_count_107 : decode cX5_count 107 = .ok (.aload_n 0, 1) := by decide +kernel
theorem dX5_count_108 : decode cX5_count 108 = .ok (.getfield 3, 3) := by decide +kernel
theorem dX5_count_111 : decode cX5_count 111 = .ok (.getfield 98, 3) := by decide +kernel
theorem dX5_count_114 : decode cX5_count 114 = .ok (.ireturn, 1) := by decide +kernel
theorem dX5_count_115 : decode cX5_count 115 = .ok (.aload_n 0, 1) := by decide +kernel
theorem dX5_count_116 : decode cX5_count 116 = .ok (.aload_n 0, 1) := by decide +kernel
theorem dX5_count_117 : decode cX5_count 117 = .ok (.getfield 32, 3) := by decide +kernel
theorem dX5_count_120 : decode cX5_count 120 = .ok (.aload_n 0, 1) := by decide +kernel
theorem dX5_count_121 : decode cX5_count 121 = .ok (.getfield 3, 3) := by decide +kernel
theorem dX5_count_124 : decode cX5_count 124 = .ok (.getfield 98, 3) := by decide +kernel
theorem dX5_count_127 : decode cX5_count 127 = .ok (.invokevirtual 149, 3) := by decide +kernel
theorem dX5_count_130 : decode cX5_count 130 = .ok (.ireturn, 1) := by decide +kernel
theorem dX5_count_131 : decode cX5_count 131 = .ok (.aload_n 0, 1) := by decide +kernel
theorem dX5_count_132 : decode cX5_count 132 = .ok (.aload_n 0, 1) := by decide +kernel
theorem dX5_count_133 : decode cX5_count 133 = .ok (.getfield 35, 3) := by decide +kernel
theorem dX5_count_136 : decode cX5_count 136 = .ok (.aload_n 0, 1) := by decide +kernel
theorem dX5_count_137 : decode cX5_count 137 = .ok (.getfield 3, 3) := by decide +kernel
theorem dX5_count_140 : decode cX5_count 140 = .ok (.getfield 98, 3) := by decide +kernel
theorem dX5_count_143 : decode cX5_count 143 = .ok (.invokevirtual 149, 3) := by decide +kernel
theorem dX5_count_146 : decode cX5_count 146 = .ok (.ireturn, 1) := by decide +kernel
theorem dX5_copy_0 : decode cX5_copy 0 = .ok (.aload_n 1, 1) := by decide +kernel
theorem dX5_copy_1 : decode cX5_copy 1 = .ok (.iconst 0, 1) := by decide +kernel
theorem dX5_copy_2 : decode cX5_copy 2 = .ok (.aload_n 2, 1) := by decide +kernel
theorem dX5_copy_3 : decode cX5_copy 3 = .ok (.iconst 0, 1) := by decide +kernel
theorem dX5_copy_4 : decode cX5_copy 4 = .ok (.aload_n 1, 1) := by decide +kernel
theorem dX5_copy_5 : decode cX5_copy 5 = .ok (.arraylength, 1) := by decide +kernel
theorem dX5_copy_6 : decode cX5_copy 6 = .ok (.invokestatic 47, 3) := by decide +kernel
theorem dX5_copy_9 : decode cX5_copy 9 = .ok (.return_, 1) := by decide +kernel
theorem dX5_become_0 : decode cX5_become 0 = .ok (.aload_n 0, 1) := by decide +kernel
theorem dX5_become_1 : decode cX5_become 1 = .ok (.aload_n 1, 1) := by decide +kernel
theorem dX5_become_2 : decode cX5_become 2 = .ok (.getfield 53, 3) := by decide +kernel
theorem dX5_become_5 : decode cX5_become 5 = .ok (.putfield 53, 3) := by decide +kernel
theorem dX5_become_8 : decode cX5_become 8 = .ok (.aload_n 0, 1) := by decide +kernel
theorem dX5_become_9 : decode cX5_become 9 = .ok (.aload_n 1, 1) := by decide +kernel
theorem dX5_become_10 : decode cX5_become 10 = .ok (.getfield 15, 3) := by decide +kernel
theorem dX5_become_13 : decode cX5_become 13 = .ok (.putfield 15, 3) := by decide +kernel
theorem dX5_become_16 : decode cX5_become 16 = .ok (.aload_n 0, 1) := by decide +kernel
theorem dX5_become_17 : decode cX5_become 17 = .ok (.aload_n 1, 1) := by decide +kernel
theorem dX5_become_18 : decode cX5_become 18 = .ok (.getfield 19, 3) := by decide +kernel
theorem dX5_become_21 : decode cX5_become 21 = .ok (.aload_n 0, 1) := by decide +kernel
theorem dX5_become_22 : decode cX5_become 22 = .ok (.getfield 19, 3) := by decide +kernel
theorem dX5_become_25 : decode cX5_become 25 = .ok (.invokevirtual 56, 3) := by decide +kernel
theorem dX5_become_28 : decode cX5_become 28 = .ok (.aload_n 0, 1) := by decide +kernel
theorem dX5_become_29 : decode cX5_become 29 = .ok (.aload_n 1, 1) := by decide +kernel
theorem dX5_become_30 : decode cX5_become 30 = .ok (.getfield 23, 3) := by decide +kernel
theorem dX5_become_33 : decode cX5_become 33 = .ok (.aload_n 0, 1) := by decide +kernel
theorem dX5_become_34 : decode cX5_become 34 = .ok (.getfield 23, 3) := by decide +kernel
theorem dX5_become_37 : decode cX5_become 37 = .ok (.invokevirtual 56, 3) := by decide +kernel
theorem dX5_become_40 : decode cX5_become 40 = .ok (.aload_n 0, 1) := by decide +kernel
theorem dX5_become_41 : decode cX5_become 41 = .ok (.aload_n 1, 1) := by decide +kernel
theorem dX5_become_42 : decode cX5_become 42 = .ok (.getfield 26, 3) := by decide +kernel
theorem dX5_become_45 : decode cX5_become 45 = .ok (.aload_n 0, 1) := by decide +kernel
theorem dX5_become_46 : decode cX5_become 46 = .ok (.getfield 26, 3) := by decide +kernel
theorem dX5_become_49 : decode cX5_become 49 = .ok (.invokevirtual 56, 3) := by decide +kernel
theorem dX5_become_52 : decode cX5_become 52 = .ok (.aload_n 0, 1) := by decide +kernel
theorem dX5_become_53 : decode cX5_become 53 = .ok (.aload_n 1, 1) := by decide +kernel
theorem dX5_become_54 : decode cX5_become 54 = .ok (.getfield 29, 3) := by decide +kernel
theorem dX5_become_57 : decode cX5_become 57 = .ok (.aload_n 0, 1) := by decide +kernel
theorem dX5_become_58 : decode cX5_become 58 = .ok (.getfield 29, 3) := by decide +kernel
theorem dX5_become_61 : decode cX5_become 61 = .ok (.invokevirtual 56, 3) := by decide +kernel
theorem dX5_become_64 : decode cX5_become 64 = .ok (.aload_n 0, 1) := by decide +kernel
theorem dX5_become_65 : decode cX5_become 65 = .ok (.aload_n 1, 1) := by decide +kernel
theorem dX5_become_66 : decode cX5_become 66 = .ok (.getfield 32, 3) := by decide +kernel
theorem dX5_become_69 : decode cX5_become 69 = .ok (.aload_n 0, 1) := by decide +kernel
theorem dX5_become_70 : decode cX5_become 70 = .ok (.getfield 32, 3) := by decide +kernel
theorem dX5_become_73 : decode cX5_become 73 = .ok (.invokevirtual 56, 3) := by decide +kernel
theorem dX5_become_76 : decode cX5_become 76 = .ok (.aload_n 0, 1) := by decide +kernel
theorem dX5_become_77 : decode cX5_become 77 = .ok (.aload_n 1, 1) := by decide +kernel
theorem dX5_become_78 : decode cX5_become 78 = .ok (.getfield 35, 3) := by decide +kernel
theorem dX5_become_81 : decode cX5_become 81 = .ok (.aload_n 0, 1) := by decide +kernel
theorem dX5_become_82 : decode cX5_become 82 = .ok (.getfield 35, 3) := by decide +kernel
theorem dX5_become_85 : decode cX5_become 85 = .ok (.invokevirtual 56, 3) := by decide +kernel
theorem dX5_become_88 : decode cX5_become 88 = .ok (.aload_n 0, 1) := by decide +kernel
theorem dX5_become_89 : decode cX5_become 89 = .ok (.aload_n 1, 1) := by decide +kernel
theorem dX5_become_90 : decode cX5_become 90 = .ok (.getfield 38, 3) := by decide +kernel
theorem dX5_become_93 : decode cX5_become 93 = .ok (.aload_n 0, 1) := by decide +kernel
theorem dX5_become_94 : decode cX5_become 94 = .ok (.getfield 38, 3) := by decide +kernel
theorem dX5_become_97 : decode cX5_become 97 = .ok (.invokevirtual 56, 3) := by decide +kernel
theorem dX5_become_100 : decode cX5_become 100 = .ok (.aload_n 0, 1) := by decide +kernel
theorem dX5_become_101 : decode cX5_become 101 = .ok (.aload_n 1, 1) := by decide +kernel
theorem dX5_become_102 : decode cX5_become 102 = .ok (.getfield 41, 3) := by decide +kernel
theorem dX5_become_105 : decode cX5_become 105 = .ok (.aload_n 0, 1) := by decide +kernel
theorem dX5_become_106 : decode cX5_become 106 = .ok (.getfield 41, 3) := by decide +kernel
theorem dX5_become_109 : decode cX5_become 109 = .ok (.invokevirtual 56, 3) := by decide +kernel
theorem dX5_become_112 : decode cX5_become 112 = .ok (.aload_n 0, 1) := by decide +kernel
theorem dX5_become_113 : decode cX5_become 113 = .ok (.aload_n 1, 1) := by decide +kernel
theorem dX5_become_114 : decode cX5_become 114 = .ok (.getfield 44, 3) := by decide +kernel
theorem dX5_become_117 : decode cX5_become 117 = .ok (.aload_n 0, 1) := by decide +kernel
theorem dX5_become_118 : decode cX5_become 118 = .ok (.getfield 44, 3) := by decide +kernel
theorem dX5_become_121 : decode cX5_become 121 = .ok (.invokevirtual 56, 3) := by decide +kernel
theorem dX5_become_124 : decode cX5_become 124 = .ok (.return_, 1) := by decide +kernel
theorem dX5_pass_0 : decode cX5_pass 0 = .ok (.iconst 0, 1) := by decide +kernel
theorem dX5_pass_1 : decode cX5_pass 1 = .ok (.istore_n 1, 1) := by decide +kernel
theorem dX5_pass_2 : decode cX5_pass 2 = .ok (.iload_n 1, 1) := by decide +kernel
theorem dX5_pass_3 : decode cX5_pass 3 = .ok (.aload_n 0, 1) := by decide +kernel
theorem dX5_pass_4 : decode cX5_pass 4 = .ok (.getfield 3, 3) := by decide +kernel
theorem dX5_pass_7 : decode cX5_pass 7 = .ok (.getfield 98, 3) := by decide +kernel
theorem dX5_pass_10 : decode cX5_pass 10 = .ok (.if_icmp .ge 14, 3) := by decide +kernel
theorem dX5_pass_13 : decode cX5_pass 13 = .ok (.aload_n 0, 1) := by decide +kernel
theorem dX5_pass_14 : decode cX5_pass 14 = .ok (.iload_n 1, 1) := by decide +kernel
theorem dX5_pass_15 : decode cX5_pass 15 = .ok (.invokevirtual 125, 3) := by decide +kernel
theorem dX5_pass_18 : decode cX5_pass 18 = .ok (.iinc 1 1, 3) := by decide +kernel
theorem dX5_pass_21 : decode cX5_pass 21 = .ok (.goto (-19), 3) := by decide +kernel
theorem dX5_pass_24 : decode cX5_pass 24 = .ok (.iconst 0, 1) := by decide +kernel
theorem dX5_pass_25 : decode cX5_pass 25 = .ok (.istore_n 1, 1) := by decide +kernel
theorem dX5_pass_26 : decode cX5_pass 26 = .ok (.iload_n 1, 1) := by decide +kernel
theorem dX5_pass_27 : decode cX5_pass 27 = .ok (.aload_n 0, 1) := by decide +kernel
theorem dX5_pass_28 : decode cX5_pass 28 = .ok (.getfield 3, 3) := by decide +kernel
theorem dX5_pass_31 : decode cX5_pass 31 = .ok (.getfield 98, 3) := by decide +kernel
theorem dX5_pass_34 : decode cX5_pass 34 = .ok (.if_icmp .ge 14, 3) := by decide +kernel
theorem dX5_pass_37 : decode cX5_pass 37 = .ok (.aload_n 0, 1) := by decide +kernel
theorem dX5_pass_38 : decode cX5_pass 38 = .ok (.iload_n 1, 1) := by decide +kernel
theorem dX5_pass_39 : decode cX5_pass 39 = .ok (.invokevirtual 129, 3) := by decide +kernel
theorem dX5_pass_42 : decode cX5_pass 42 = .ok (.iinc 1 1, 3) := by decide +kernel
theorem dX5_pass_45 : decode cX5_pass 45 = .ok (.goto (-19), 3) := by decide +kernel
theorem dX5_pass_48 : decode cX5_pass 48 = .ok (.iconst 0, 1) := by decide +kernel
theorem dX5_pass_49 : decode cX5_pass 49 = .ok (.istore_n 1, 1) := by decide +kernel
theorem dX5_pass_50 : decode cX5_pass 50 = .ok (.iload_n 1, 1) := by decide +kernel
theorem dX5_pass_51 : decode cX5_pass 51 = .ok (.aload_n 0, 1) := by decide +kernel
theorem dX5_pass_52 : decode cX5_pass 52 = .ok (.getfield 3, 3) := by decide +kernel
theorem dX5_pass_55 : decode cX5_pass 55 = .ok (.getfield 132, 3) := by decide +kernel
theorem dX5_pass_58 : decode cX5_pass 58 = .ok (.if_icmp .ge 14, 3) := by decide +kernel
theorem dX5_pass_61 : decode cX5_pass 61 = .ok (.aload_n 0, 1) := by decide +kernel
theorem dX5_pass_62 : decode cX5_pass 62 = .ok (.iload_n 1, 1) := by decide +kernel
theorem dX5_pass_63 : decode cX5_pass 63 = .ok (.invokevirtual 135, 3) := by decide +kernel
theorem dX5_pass_66 : decode cX5_pass 66 = .ok (.iinc 1 1, 3) := by decide +kernel
theorem dX5_pass_69 : decode cX5_pass 69 = .ok (.goto (-19), 3) := by decide +kernel
theorem dX5_pass_72 : decode cX5_pass 72 = .ok (.iconst 0, 1) := by decide +kernel
theorem dX5_pass_73 : decode cX5_pass 73 = .ok (.istore_n 1, 1) := by decide +kernel
theorem dX5_pass_74 : decode cX5_pass 74 = .ok (.iconst 0, 1) := by decide +kernel
theorem dX5_pass_75 : decode cX5_pass 75 = .ok (.istore_n 2, 1) := by decide +kernel
theorem dX5_pass_76 : decode cX5_pass 76 = .ok (.iload_n 2, 1) := by decide +kernel
theorem dX5_pass_77 : decode cX5_pass 77 = .ok (.aload_n 0, 1) := by decide +kernel
theorem dX5_pass_78 : decode cX5_pass 78 = .ok (.getfield 3, 3) := by decide +kernel
theorem dX5_pass_81 : decode cX5_pass 81 = .ok (.getfield 98, 3) := by decide +kernel
theorem dX5_pass_84 : decode cX5_pass 84 = .ok (.if_icmp .ge 33, 3) := by decide +kernel
theorem dX5_pass_87 : decode cX5_pass 87 = .ok (.aload_n 0, 1) := by decide +kernel
theorem dX5_pass_88 : decode cX5_pass 88 = .ok (.getfield 32, 3) := by decide +kernel
theorem dX5_pass_91 : decode cX5_pass 91 = .ok (.iload_n 2, 1) := by decide +kernel
theorem dX5_pass_92 : decode cX5_pass 92 = .ok (.dup2, 1) := by decide +kernel
theorem dX5_pass_93 : decode cX5_pass 93 = .ok (.iaload, 1) := by decide +kernel
theorem dX5_pass_94 : decode cX5_pass 94 = .ok (.aload_n 0, 1) := by decide +kernel
theorem dX5_pass_95 : decode cX5_pass 95 = .ok (.getfield 29, 3) := by decide +kernel
theorem dX5_pass_98 : decode cX5_pass 98 = .ok (.iload_n 2, 1) := by decide +kernel
theorem dX5_pass_99 : decode cX5_pass 99 = .ok (.iaload, 1) := by decide +kernel
theorem dX5_pass_100 : decode cX5_pass 100 = .ok (.iadd, 1) := by decide +kernel
theorem dX5_pass_101 : decode cX5_pass 101 = .ok (.iastore, 1) := by decide +kernel
theorem dX5_pass_102 : decode cX5_pass 102 = .ok (.iload_n 1, 1) := by decide +kernel
theorem dX5_pass_103 : decode cX5_pass 103 = .ok (.aload_n 0, 1) := by decide +kernel
theorem dX5_pass_104 : decode cX5_pass 104 = .ok (.getfield 29, 3) := by decide +kernel
theorem dX5_pass_107 : decode cX5_pass 107 = .ok (.iload_n 2, 1) := by decide +kernel
theorem dX5_pass_108 : decode cX5_pass 108 = .ok (.iaload, 1) := by decide +kernel
theorem dX5_pass_109 : decode cX5_pass 109 = .ok (.iadd, 1) := by decide +kernel
theorem dX5_pass_110 : decode cX5_pass 110 = .ok (.istore_n 1, 1) := by decide +kernel
theorem dX5_pass_111 : decode cX5_pass 111 = .ok (.iinc 2 1, 3) := by decide +kernel
theorem dX5_pass_114 : decode cX5_pass 114 = .ok (.goto (-38), 3) := by decide +kernel
theorem dX5_pass_117 : decode cX5_pass 117 = .ok (.iconst 0, 1) := by decide +kernel
theorem dX5_pass_118 : decode cX5_pass 118 = .ok (.istore_n 2, 1) := by decide +kernel
theorem dX5_pass_119 : decode cX5_pass 119 = .ok (.iload_n 2, 1) := by decide +kernel
theorem dX5_pass_120 : decode cX5_pass 120 = .ok (.bipush 81, 2) := by decide +kernel
theorem dX5_pass_122 : decode cX5_pass 122 = .ok (.if_icmp .ge 44, 3) := by decide +kernel
theorem dX5_pass_125 : decode cX5_pass 125 = .ok (.aload_n 0, 1) := by decide +kernel
theorem dX5_pass_126 : decode cX5_pass 126 = .ok (.getfield 19, 3) := by decide +kernel
theorem dX5_pass_129 : decode cX5_pass 129 = .ok (.iload_n 2, 1) := by decide +kernel
theorem dX5_pass_130 : decode cX5_pass 130 = .ok (.iaload, 1) := by decide +kernel
theorem dX5_pass_131 : decode cX5_pass 131 = .ok (.iconst 1, 1) := by decide +kernel
theorem dX5_pass_132 : decode cX5_pass 132 = .ok (.bipush 40, 2) := by decide +kernel
theorem dX5_pass_134 : decode cX5_pass 134 = .ok (.invokestatic 138, 3) := by decide +kernel
theorem dX5_pass_137 : decode cX5_pass 137 = .ok (.ifCond .eq 23, 3) := by decide +kernel
theorem dX5_pass_140 : decode cX5_pass 140 = .ok (.aload_n 0, 1) := by decide +kernel
theorem dX5_pass_141 : decode cX5_pass 141 = .ok (.getfield 19, 3) := by decide +kernel
theorem dX5_pass_144 : decode cX5_pass 144 = .ok (.iload_n 2, 1) := by decide +kernel
theorem dX5_pass_145 : decode cX5_pass 145 = .ok (.dup2, 1) := by decide +kernel
theorem dX5_pass_146 : decode cX5_pass 146 = .ok (.iaload, 1) := by decide +kernel
theorem dX5_pass_147 : decode cX5_pass 147 = .ok (.aload_n 0, 1) := by decide +kernel
theorem dX5_pass_148 : decode cX5_pass 148 = .ok (.getfield 19, 3) := by decide +kernel
theorem dX5_pass_151 : decode cX5_pass 151 = .ok (.iload_n 2, 1) := by decide +kernel
theorem dX5_pass_152 : decode cX5_pass 152 = .ok (.iaload, 1) := by decide +kernel
theorem dX5_pass_153 : decode cX5_pass 153 = .ok (.bipush 10, 2) := by decide +kernel
theorem dX5_pass_155 : decode cX5_pass 155 = .ok (.idiv, 1) := by decide +kernel
theorem dX5_pass_156 : decode cX5_pass 156 = .ok (.iconst 1, 1) := by decide +kernel
theorem dX5_pass_157 : decode cX5_pass 157 = .ok (.iadd, 1) := by decide +kernel
theorem dX5_pass_158 : decode cX5_pass 158 = .ok (.iadd, 1) := by decide +kernel
theorem dX5_pass_159 : decode cX5_pass 159 = .ok (.iastore, 1) := by decide +kernel
theorem dX5_pass_160 : decode cX5_pass 160 = .ok (.iinc 2 1, 3) := by decide +kernel
theorem dX5_pass_163 : decode cX5_pass 163 = .ok (.goto (-44), 3) := by decide +kernel
theorem dX5_pass_166 : decode cX5_pass 166 = .ok (.aload_n 0, 1) := by decide +kernel
theorem dX5_pass_167 : decode cX5_pass 167 = .ok (.invokevirtual 142, 3) := by decide +kernel
theorem dX5_pass_170 : decode cX5_pass 170 = .ok (.aload_n 0, 1) := by decide +kernel
theorem dX5_pass_171 : decode cX5_pass 171 = .ok (.dup, 1) := by decide +kernel
theorem dX5_pass_172 : decode cX5_pass 172 = .ok (.getfield 53, 3) := by decide +kernel
theorem dX5_pass_175 : decode cX5_pass 175 = .ok (.iconst 1, 1) := by decide +kernel
theorem dX5_pass_176 : decode cX5_pass 176 = .ok (.iadd, 1) := by decide +kernel
theorem dX5_pass_177 : decode cX5_pass 177 = .ok (.putfield 53, 3) := by decide +kernel
theorem dX5_pass_180 : decode cX5_pass 180 = .ok (.iload_n 1, 1) := by decide +kernel
theorem dX5_pass_181 : decode cX5_pass 181 = .ok (.ireturn, 1) := by decide +kernel
theorem dX5_pass__0 : decode cX5_pass_ 0 = .ok (.iconst 0, 1) := by decide +kernel
theorem dX5_pass__1 : decode cX5_pass_ 1 = .ok (.istore_n 2, 1) := by decide +kernel
theorem dX5_pass__2 : decode cX5_pass_ 2 = .ok (.iconst 0, 1) := by decide +kernel
theorem dX5_pass__3 : decode cX5_pass_ 3 = .ok (.istore_n 3, 1) := by decide +kernel
theorem dX5_pass__4 : decode cX5_pass_ 4 = .ok (.iload_n 3, 1) := by decide +kernel
theorem dX5_pass__5 : decode cX5_pass_ 5 = .ok (.iload_n 1, 1) := by decide +kernel
theorem dX5_pass__6 : decode cX5_pass_ 6 = .ok (.if_icmp .ge 16, 3) := by decide +kernel
theorem dX5_pass__9 : decode cX5_pass_ 9 = .ok (.iload_n 2, 1) := by decide +kernel
theorem dX5_pass__10 : decode cX5_pass_ 10 = .ok (.aload_n 0, 1) := by decide +kernel
theorem dX5_pass__11 : decode cX5_pass_ 11 = .ok (.invokevirtual 145, 3) := by decide +kernel
theorem dX5_pass__14 : decode cX5_pass_ 14 = .ok (.iadd, 1) := by decide +kernel
theorem dX5_pass__15 : decode cX5_pass_ 15 = .ok (.istore_n 2, 1) := by decide +kernel
theorem dX5_pass__16 : decode cX5_pass_ 16 = .ok (.iinc 3 1, 3) := by decide +kernel
theorem dX5_pass__19 : decode cX5_pass_ 19 = .ok (.goto (-15), 3) := by decide +kernel
theorem dX5_pass__22 : decode cX5_pass_ 22 = .ok (.iload_n 2, 1) := by decide +kernel
theorem dX5_pass__23 : decode cX5_pass_ 23 = .ok (.ireturn, 1) := by decide +kernel
theorem frzH_eq (v : Vw) (C : Nat → Prop) [DecidablePred C] : ∀ (n : Nat) (c j : Nat), it (fun h u => if C h then up2 u 5 h 0 else u) n v c j = if c = 5 ∧ j < n ∧ C j then 0 else v c j
  | 0, c, j => by rw [if_neg (by omega)]; rfl
  | n + 1, c, j => by
    show (if C n then up2 (it (fun h u => if C h then up2 u 5 h 0 else u) n v) 5 n 0 else it (fun h u => if C h then up2 u 5 h 0 else u) n v) c j = _
    by_cases h0 : C n
    · rw [if_pos h0]
      show (if c = 5 ∧ j = n then (0 : Int32) else it (fun h u => if C h then up2 u 5 h 0 else u) n v c j) = _
      by_cases h1 : c = 5 ∧ j = n
      · rw [if_pos h1, if_pos ⟨h1.1, by omega, by rw [h1.2]; exact h0⟩]
      · rw [if_neg h1, frzH_eq v C n c j]
        by_cases h2 : c = 5 ∧ j < n ∧ C j
        · rw [if_pos h2, if_pos ⟨h2.1, by omega, h2.2.2⟩]
        · rw [if_neg h2, if_neg (fun q => h2 ⟨q.1, by have := q.2.1; have := fun z => h1 ⟨q.1, z⟩; omega, q.2.2⟩)]
    · rw [if_neg h0, frzH_eq v C n c j]
      by_cases h2 : c = 5 ∧ j < n ∧ C j
      · rw [if_pos h2, if_pos ⟨h2.1, by omega, h2.2.2⟩]
      · rw [if_neg h2, if_neg]
        rintro ⟨q1, q2, q3⟩
        rcases Nat.lt_or_ge j n with z | z
        · exact h2 ⟨q1, z, q3⟩
        · have : j = n := by omega
          subst this
          exact h0 q3
def fzH (v : Vw) (n : Nat) : Vw := it (fun h u => if iceN v < 5 ∨ (0 < frostN v ∧ spAt v (nI h) = 0) then up2 u 5 h 0 else u) n (up2 v 16 3 (iceN v))
def fzA (v : Vw) (n : Nat) : Vw := it (fun k u => up2 u 8 k (if iceN v < 5 then -1 else u 8 k)) n (fzH v (nH v))
theorem fzH_eq (v : Vw) (n c j : Nat) : fzH v n c j = if c = 5 ∧ j < n ∧ (iceN v < 5 ∨ (0 < frostN v ∧ spAt v (nI j) = 0)) then 0 else up2 v 16 3 (iceN v) c j := frzH_eq _ _ n c j
theorem fzA_eq (v : Vw) : ∀ (n c j : Nat), fzA v n c j = if c = 8 ∧ j < n ∧ iceN v < 5 then -1 else fzH v (nH v) c j
  | 0, c, j => by rw [if_neg (by omega)]; rfl
  | n + 1, c, j => by
    show (if c = 8 ∧ j = n then (if iceN v < 5 then (-1 : Int32) else fzA v n 8 n) else fzA v n c j) = _
    by_cases h1 : c = 8 ∧ j = n
    · rw [if_pos h1]
      by_cases h2 : iceN v < 5
      · rw [if_pos h2, if_pos ⟨h1.1, by omega, h2⟩]
      · rw [if_neg h2, if_neg (fun q => h2 q.2.2), fzA_eq v n, if_neg (fun q => h2 q.2.2), h1.1, h1.2]
    · rw [if_neg h1, fzA_eq v n]
      by_cases h2 : c = 8 ∧ j < n ∧ iceN v < 5
      · rw [if_pos h2, if_pos ⟨h2.1, by omega, h2.2.2⟩]
      · rw [if_neg h2, if_neg (fun q => h2 ⟨q.1, by have := q.2.1; have := fun z => h1 ⟨q.1, z⟩; omega, q.2.2⟩)]
theorem fz_m {v : Vw} : frz v = fzA v (nS v) := by
  funext c j
  rw [fzA_eq, fzH_eq]
  unfold frz up2
  by_cases h1 : c = 16 ∧ j = 3
  · rw [if_pos h1, if_neg (by omega), if_neg (by omega), if_pos h1]
  · rw [if_neg h1, if_neg h1]
    by_cases h2 : c = 5 ∧ j < nH v ∧ (iceN v < 5 ∨ (0 < frostN v ∧ spAt v (nI j) = 0))
    · rw [if_pos h2, if_neg (by omega), if_pos h2]
    · rw [if_neg h2, if_neg h2]
theorem fzH_inv {v : Vw} (hv : Inv v) (n : Nat) : Inv (fzH v n) := by
  have h2 := ice_inv hv (iceN v)
  have e : ∀ c i, c ≠ 5 → fzH v n c i = up2 v 16 3 (iceN v) c i := fun c i h => by rw [fzH_eq, if_neg (fun q => h q.1)]
  refine h2.step (e _ _ (by decide)) (e _ _ (by decide)) (e _ _ (by decide)) (fun _ => e _ _ (by decide)) (fun _ => e _ _ (by decide)) (fun i _ => ?_) (fun _ => e _ _ (by decide)) (fun _ => e _ _ (by decide)) (fun _ _ => Or.inl (e _ _ (by decide))) (fun k hk => by rw [e _ _ (by decide)]; exact (h2.hS k hk).2.2.2) (fun w hw => ⟨by rw [e _ _ (by decide)]; exact (h2.hW w hw).1, by rw [e _ _ (by decide)]; exact (h2.hW w hw).2⟩) (fun c hc => by unfold IC; rw [e _ _ (by decide)]; exact h2.hC c hc)
  rw [fzH_eq]
  split
  · exact Or.inr rfl
  · exact Or.inl rfl
theorem Sh.fzH {M : Mem} {r : Nat} {v : Vw} (h : Sh M r v) (n : Nat) : Sh M r (fzH v n) := h.of fun c i hs => by
  rw [fzH_eq, if_neg (fun q => (sh_ne hs).2.1 q.1)]
  unfold up2
  rw [if_neg (sh_ne hs).2.2.2.2.2.2.2.2.2.1]
theorem Sh.fzA {M : Mem} {r : Nat} {v : Vw} (h : Sh M r v) (n : Nat) : Sh M r (fzA v n) := (h.fzH (nH v)).of fun c i hs => by
  rw [fzA_eq, if_neg (fun q => (sh_ne hs).2.2.1 q.1)]
theorem spAt_fzH {v : Vw} {n : Nat} {x : Int32} : spAt (fzH v n) x = spAt v x := spAt_congr (fun k => by rw [fzH_eq, if_neg (by omega)]; exact up2_c (by decide)) (by rw [fzH_eq, if_neg (by omega)]; exact up2_i (by decide)) x
theorem fzH_ice {v : Vw} {n : Nat} : fzH v n 16 3 = iceN v := by rw [fzH_eq, if_neg (by omega)]; exact up2_same _ _ _ _
theorem fzH_16 {v : Vw} {n i : Nat} (h : i ≠ 3) : fzH v n 16 i = v 16 i := by rw [fzH_eq, if_neg (by omega)]; exact up2_i h
theorem fzA_ice {v : Vw} {n : Nat} : fzA v n 16 3 = iceN v := by rw [fzA_eq, if_neg (by omega)]; exact fzH_ice
theorem fzA_16 {v : Vw} {n i : Nat} (h : i ≠ 3) : fzA v n 16 i = v 16 i := by rw [fzA_eq, if_neg (by omega)]; exact fzH_16 h
theorem not_bear {x : Int32} : b2i (bear x) = if x < 5 then 0 else 1 := by
  unfold bear b2i
  by_cases h : x < 5 <;> simp [h]
theorem movI_inv {w h : Nat} {v : Vw} (hh : h < nH v) (hv : Inv v) (n : Nat) : Inv (it (fun _ u => stp w h u) n v) ∧ nH (it (fun _ u => stp w h u) n v) = nH v ∧ nW (it (fun _ u => stp w h u) n v) = nW v := it_inv (N := n) (P := fun u => Inv u ∧ nH u = nH v ∧ nW u = nW v) (fun k u _ q => ⟨stp_inv (by rw [q.2.1]; exact hh) q.1, nH_stp.trans q.2.1, by rw [← q.2.2]; unfold nW; rw [stp_ne (by decide) (by decide)]⟩) n v (Nat.le_refl _) ⟨hv, rfl, rfl⟩
set_option maxHeartbeats 4000000 in
set_option maxRecDepth 100000 in
theorem c_guardM (l : Launch) {g : Gm} (hI : IJ g KK) {M : Mem} {o : Nat → Int64} {r : Nat} (hr : r = 2 ∨ r = 3) {v : Vw} (hsh : Sh M r v) (hv : Inv v) (w : Nat) (hw : w < nW v) : MV l yX5_guard cX5_guard 5 (rm 4 92) g KK (ent g (setR M r v) o) [.ref (ad g (9, r, 0)), .int (nI w)] (ent g (setR M r (gua w v)) o) := by
  refine met_of (by decide +kernel) (Nat.le_of_ble_eq_true rfl) ?_
  intro p e s m below meth c ls hC hr_ hlk hnm hE hP hS hl
  obtain ⟨hx, hb, hml, hown, hG⟩ := id hC
  have hl : lv_has ls 5 [(0, .ref (ad g (9, r, 0))), (1, .int (nI w))] := hl
  have qH := hv.lH
  have qS := hv.lS
  have qW := hv.lW
  refine lv_aload_n hx hb dX5_guard_0 rfl (lv_at hl 0 rfl) ?_
  refine lv_iload_n hx hb dX5_guard_1 rfl (lv_at hl 1 rfl) ?_
  refine on_i (run_V hC hE hP hS (As := [.int (nI w)]) (c_goalM l hI hr (hsh) hv w (by omega)) cal_X5_goal w_876 ⟨Nat.le_of_ble_eq_true rfl, Nat.le_of_ble_eq_true rfl⟩ (k_9 hr) e_9 rfl rfl rfl (Nat.le_of_ble_eq_true rfl) hl.1 ⟨Nat.le_of_ble_eq_true rfl, Nat.le_of_ble_eq_true rfl⟩ dX5_guard_2) hS (fun H locs hP hS => ?_)
  refine lv_istore_n (lv' := [(2, .int (gol v w)), (0, .ref (ad g (9, r, 0))), (1, .int (nI w))]) hx hb dX5_guard_5 rfl hl (by decide) rfl (fun ls hl => ?_)
  refine lv_iload_n hx hb dX5_guard_6 rfl (lv_at hl 0 rfl) ?_
  refine lv_iconst (v := (-1)) hx hb dX5_guard_7 (by decide) ?_
  refine lv_icmp_ne (tgt := 12) hx hb dX5_guard_8 (by decide) (fun c0 => ?_) (fun c0 => ?_)
  · have hz := gol_of hv c0
    refine lv_iconst (v := 0) hx hb dX5_guard_12 (by decide) ?_
    refine lv_istore_n (lv' := [(3, .int ((0 : Int32))), (2, .int (gol v w)), (0, .ref (ad g (9, r, 0))), (1, .int (nI w))]) hx hb dX5_guard_13 rfl hl (by decide) rfl (fun ls hl => ?_)
    refine lp_W (i0 := 0) ((v 14 w).toNatClampNeg) (fun i => ent g (setR M r (it (fun _ u => stp w ((gol v w).toNatClampNeg) u) i v)) o) (fun i => [(3, .int (nI i)), (2, .int (gol v w)), (0, .ref (ad g (9, r, 0))), (1, .int (nI w))]) (fun i => True) (Nat.zero_le _) (hP.castR (rfl)) hS (lv_sub hl [0, 1, 2, 3] rfl) (trivial) (fun H locs ls hP hS hl J => ?_) (fun i hi IH H locs ls hP hS hl J => ?_)
    · have hs1 : Sh M r (it (fun _ u => stp w ((gol v w).toNatClampNeg) u) (v 14 w).toNatClampNeg v) := hsh.it (fun _ _ _ _ hs => sh_stp hs) _
      have hs2 : Sh M r (mov w ((gol v w).toNatClampNeg) v) := hs1
      have hi2 : Inv (mov w ((gol v w).toNatClampNeg) v) := mov_inv hz.2 hv
      refine lv_iload_n hx hb dX5_guard_14 rfl (lv_at hl 0 rfl) ?_
      refine lv_aload_n hx hb dX5_guard_15 rfl (lv_at hl 2 rfl) ?_
      refine m_get hC hE hP (k_9 hr) e_9 rfl u_5 11 (by decide) w_653 rfl rfl dX5_guard_16 ?_
      refine m_getN hC hE hP k_10 f_10 rfl u_6 10 (by decide) n_699 rfl rfl dX5_guard_19 ?_
      refine lv_iload_n hx hb dX5_guard_22 rfl (lv_at hl 3 rfl) ?_
      refine m_iald hC hE hP (k_4s (by decide)) f_4 w (rfl) (show w < 3 from by omega) (by decide) dX5_guard_23 ?_
      refine m_top (y := (it (fun _ u => stp w ((gol v w).toNatClampNeg) u) ((v 14 w).toNatClampNeg) v) 14 w) (hs1 _ _ rfl) ?_
      refine m_top (y := v 14 w) (it_keep (fun _ _ => stp_ne (by decide) (by decide)) _ _) ?_
      refine lv_icmp_ge (tgt := 89) hx hb dX5_guard_24 (by decide) (fun c1 => ?_) (fun c1 => absurd (pace_T _) c1)
      replace hP := hP.castR (w := mov w ((gol v w).toNatClampNeg) v) (rfl)
      refine lv_aload_n hx hb dX5_guard_89 rfl (lv_at hl 2 rfl) ?_
      refine lv_iload_n hx hb dX5_guard_90 rfl (lv_at hl 3 rfl) ?_
      refine lv_iload_n hx hb dX5_guard_91 rfl (lv_at hl 1 rfl) ?_
      refine m_top (y := nI ((gol v w).toNatClampNeg)) (hz.1) ?_
      refine on_i (run_V hC hE hP hS (As := [.int (nI w), .int (nI ((gol v w).toNatClampNeg))]) (c_farFrom l hI hr (hs2) w ((gol v w).toNatClampNeg) (by omega) (by omega)) cal_X5_farFrom w_884 ⟨Nat.le_of_ble_eq_true rfl, Nat.le_of_ble_eq_true rfl⟩ (k_9 hr) e_9 rfl rfl rfl (Nat.le_of_ble_eq_true rfl) hl.1 ⟨Nat.le_of_ble_eq_true rfl, Nat.le_of_ble_eq_true rfl⟩ dX5_guard_92) hS (fun H locs hP hS => ?_)
      refine lv_if_le (tgt := 99) hx hb dX5_guard_95 (by decide) (fun c1 => ?_) (fun c1 => ?_)
      · have hcl := cl_lt hi2 (h := (gol v w).toNatClampNeg) (by rw [nH_mov]; exact hz.2)
        have c1 : ¬ 0 < farW (mov w ((gol v w).toNatClampNeg) v) w ((gol v w).toNatClampNeg) := Int32.not_lt.mpr c1
        refine lv_aload_n hx hb dX5_guard_99 rfl (lv_at hl 2 rfl) ?_
        refine m_get hC hE hP (k_9 hr) e_9 rfl u_5 11 (by decide) w_653 rfl rfl dX5_guard_100 ?_
        refine lv_iload_n hx hb dX5_guard_103 rfl (lv_at hl 1 rfl) ?_
        refine m_top (y := nI ((gol v w).toNatClampNeg)) (hz.1) ?_
        refine on_i (run_VN hC hE hP hS (As := [.int (nI ((gol v w).toNatClampNeg))]) (c_cellOf l hI hr (hs2) hi2 ((gol v w).toNatClampNeg) (by rw [nH_mov]; exact hz.2)) cal_X6_cellOf n_870 ⟨Nat.le_of_ble_eq_true rfl, Nat.le_of_ble_eq_true rfl⟩ k_10 f_10 rfl rfl rfl (Nat.le_of_ble_eq_true rfl) hl.1 ⟨Nat.le_of_ble_eq_true rfl, Nat.le_of_ble_eq_true rfl⟩ dX5_guard_104) hS (fun H locs hP hS => ?_)
        refine lv_istore_n (lv' := [(3, .int (nI (cl (mov w ((gol v w).toNatClampNeg) v) ((gol v w).toNatClampNeg)))), (2, .int (gol v w)), (0, .ref (ad g (9, r, 0))), (1, .int (nI w))]) hx hb dX5_guard_107 rfl hl (by decide) rfl (fun ls hl => ?_)
        refine lv_iconst (v := 0) hx hb dX5_guard_108 (by decide) ?_
        refine lv_istore (lv' := [(4, .int ((0 : Int32))), (3, .int (nI (cl (mov w ((gol v w).toNatClampNeg) v) ((gol v w).toNatClampNeg)))), (2, .int (gol v w)), (0, .ref (ad g (9, r, 0))), (1, .int (nI w))]) hx hb dX5_guard_109 hl (by decide) rfl (fun ls hl => ?_)
        refine lp_W (i0 := 0) (nS v) (fun i => ent g (setR M r (it (fin1 w ((gol v w).toNatClampNeg) (cl (mov w ((gol v w).toNatClampNeg) v) ((gol v w).toNatClampNeg))) i (mov w ((gol v w).toNatClampNeg) v))) o) (fun i => [(4, .int (nI i)), (3, .int (nI (cl (mov w ((gol v w).toNatClampNeg) v) ((gol v w).toNatClampNeg)))), (2, .int (gol v w)), (0, .ref (ad g (9, r, 0))), (1, .int (nI w))]) (fun i => True) (Nat.zero_le _) (hP.castR (rfl)) hS (lv_sub hl [0, 1, 2, 3, 4] rfl) (trivial) (fun H locs ls hP hS hl J => ?_) (fun i hi IH H locs ls hP hS hl J => ?_)
        · have hs3 : Sh M r (it (fin1 w ((gol v w).toNatClampNeg) (cl (mov w ((gol v w).toNatClampNeg) v) ((gol v w).toNatClampNeg))) (nS v) (mov w ((gol v w).toNatClampNeg) v)) := hs2.it (fun _ _ _ _ hs => sh_fin1 hs) _
          refine lv_iload hx hb dX5_guard_111 (lv_at hl 0 rfl) ?_
          refine lv_aload_n hx hb dX5_guard_113 rfl (lv_at hl 3 rfl) ?_
          refine m_get hC hE hP (k_9 hr) e_9 rfl u_5 11 (by decide) w_653 rfl rfl dX5_guard_114 ?_
          refine m_getN hC hE hP k_10 f_10 rfl u_6 6 (by decide) n_690 rfl rfl dX5_guard_117 ?_
          refine m_top (y := (it (fin1 w ((gol v w).toNatClampNeg) (cl (mov w ((gol v w).toNatClampNeg) v) ((gol v w).toNatClampNeg))) (nS v) (mov w ((gol v w).toNatClampNeg) v)) 16 1) (hs3 _ _ rfl) ?_
          refine m_top (y := nI (nS v)) ((it_keep (fun _ _ => fin1_ne (by decide) (by decide) (by decide) (by decide)) _ _).trans ((mov_ne (by decide) (by decide)).trans hv.eS)) ?_
          refine lv_icmp_ge (tgt := 216) hx hb dX5_guard_120 (by decide) (fun c2 => ?_) (fun c2 => absurd (nI_le (Nat.le_refl _) (by omega)) c2)
          exact m_vret hC hr_ hlk hS (hP.castR ((if_neg c0).trans ((if_neg c1).trans (by unfold finA; rw [nS_mov])))) dX5_guard_216
        · have hs3 : Sh M r (it (fin1 w ((gol v w).toNatClampNeg) (cl (mov w ((gol v w).toNatClampNeg) v) ((gol v w).toNatClampNeg))) i (mov w ((gol v w).toNatClampNeg) v)) := hs2.it (fun _ _ _ _ hs => sh_fin1 hs) i
          have hi3 : Inv (it (fin1 w ((gol v w).toNatClampNeg) (cl (mov w ((gol v w).toNatClampNeg) v) ((gol v w).toNatClampNeg))) i (mov w ((gol v w).toNatClampNeg) v)) := (finI_inv hcl hi2 i (by rw [nS_mov]; omega)).1
          refine lv_iload hx hb dX5_guard_111 (lv_at hl 0 rfl) ?_
          refine lv_aload_n hx hb dX5_guard_113 rfl (lv_at hl 3 rfl) ?_
          refine m_get hC hE hP (k_9 hr) e_9 rfl u_5 11 (by decide) w_653 rfl rfl dX5_guard_114 ?_
          refine m_getN hC hE hP k_10 f_10 rfl u_6 6 (by decide) n_690 rfl rfl dX5_guard_117 ?_
          refine m_top (y := (it (fin1 w ((gol v w).toNatClampNeg) (cl (mov w ((gol v w).toNatClampNeg) v) ((gol v w).toNatClampNeg))) i (mov w ((gol v w).toNatClampNeg) v)) 16 1) (hs3 _ _ rfl) ?_
          refine m_top (y := nI (nS v)) ((it_keep (fun _ _ => fin1_ne (by decide) (by decide) (by decide) (by decide)) _ _).trans ((mov_ne (by decide) (by decide)).trans hv.eS)) ?_
          refine lv_icmp_ge (tgt := 216) hx hb dX5_guard_120 (by decide) (fun c3 => absurd c3 (nI_ge hi (by omega))) (fun c3 => ?_)
          refine lv_aload_n hx hb dX5_guard_123 rfl (lv_at hl 3 rfl) ?_
          refine lv_iload hx hb dX5_guard_124 (lv_at hl 0 rfl) ?_
          refine lv_iload_n hx hb dX5_guard_126 rfl (lv_at hl 2 rfl) ?_
          refine m_top (y := nI ((gol v w).toNatClampNeg)) (hz.1) ?_
          refine on_i (run_V hC hE hP hS (As := [.int (nI i), .int (nI ((gol v w).toNatClampNeg))]) (c_isOver l hI hr (hs3) i ((gol v w).toNatClampNeg) (by omega)) cal_X5_isOver w_880 ⟨Nat.le_of_ble_eq_true rfl, Nat.le_of_ble_eq_true rfl⟩ (k_9 hr) e_9 rfl rfl rfl (Nat.le_of_ble_eq_true rfl) hl.1 ⟨Nat.le_of_ble_eq_true rfl, Nat.le_of_ble_eq_true rfl⟩ dX5_guard_127) hS (fun H locs hP hS => ?_)
          refine lv_if_ne (tgt := 136) hx hb dX5_guard_130 (by decide) (fun c2 => ?_) (fun c2 => ?_)
          · have c2 := b2i_t c2
            refine lv_aload_n hx hb dX5_guard_136 rfl (lv_at hl 3 rfl) ?_
            refine m_get hC hE hP (k_9 hr) e_9 rfl u_5 2 (by decide) w_635 rfl rfl dX5_guard_137 ?_
            refine lv_iload_n hx hb dX5_guard_140 rfl (lv_at hl 1 rfl) ?_
            refine lv_bipush (v := 60) hx hb dX5_guard_141 (by decide) ?_
            refine lv_aload_n hx hb dX5_guard_143 rfl (lv_at hl 3 rfl) ?_
            refine m_get hC hE hP (k_9 hr) e_9 rfl u_5 2 (by decide) w_635 rfl rfl dX5_guard_144 ?_
            refine lv_iload_n hx hb dX5_guard_147 rfl (lv_at hl 1 rfl) ?_
            refine m_iald hC hE hP (k_4p hr rfl) e_4 (cl (mov w ((gol v w).toNatClampNeg) v) ((gol v w).toNatClampNeg)) (rfl) (show (cl (mov w ((gol v w).toNatClampNeg) v) ((gol v w).toNatClampNeg)) < 81 from by omega) (by decide) dX5_guard_148 ?_
            refine lv_aload_n hx hb dX5_guard_149 rfl (lv_at hl 3 rfl) ?_
            refine m_get hC hE hP (k_9 hr) e_9 rfl u_5 5 (by decide) w_641 rfl rfl dX5_guard_150 ?_
            refine lv_iload hx hb dX5_guard_153 (lv_at hl 0 rfl) ?_
            refine m_iald hC hE hP (k_4p hr rfl) e_4 i (rfl) (show i < 8 from by omega) (by decide) dX5_guard_155 ?_
            refine lv_iadd hx hb dX5_guard_156 ?_
            refine lv_aload_n hx hb dX5_guard_157 rfl (lv_at hl 3 rfl) ?_
            refine m_get hC hE hP (k_9 hr) e_9 rfl u_5 11 (by decide) w_653 rfl rfl dX5_guard_158 ?_
            refine m_getN hC hE hP k_10 f_10 rfl u_6 7 (by decide) n_693 rfl rfl dX5_guard_161 ?_
            refine lv_iload hx hb dX5_guard_164 (lv_at hl 0 rfl) ?_
            refine m_iald hC hE hP (k_4s (by decide)) f_4 i (rfl) (show i < 8 from by omega) (by decide) dX5_guard_166 ?_
            refine m_top (y := (it (fin1 w ((gol v w).toNatClampNeg) (cl (mov w ((gol v w).toNatClampNeg) v) ((gol v w).toNatClampNeg))) i (mov w ((gol v w).toNatClampNeg) v)) 6 i) (hs3 _ _ rfl) ?_
            refine lv_isub hx hb dX5_guard_167 ?_
            refine m_min hC w_795 w_184 w_14 w_185 hl.1 (by decide) (Nat.le_of_ble_eq_true rfl) (Nat.zero_le _) (Nat.zero_le _) dX5_guard_168 ?_
            refine m_top (y := imin (60 : Int32) ((((it (fin1 w ((gol v w).toNatClampNeg) (cl (mov w ((gol v w).toNatClampNeg) v) ((gol v w).toNatClampNeg))) i (mov w ((gol v w).toNatClampNeg) v)) 0 (cl (mov w ((gol v w).toNatClampNeg) v) ((gol v w).toNatClampNeg))) + ((it (fin1 w ((gol v w).toNatClampNeg) (cl (mov w ((gol v w).toNatClampNeg) v) ((gol v w).toNatClampNeg))) i (mov w ((gol v w).toNatClampNeg) v)) 9 i)) - ((it (fin1 w ((gol v w).toNatClampNeg) (cl (mov w ((gol v w).toNatClampNeg) v) ((gol v w).toNatClampNeg))) i (mov w ((gol v w).toNatClampNeg) v)) 6 i))) rfl ?_
            refine m_iast hC hE hI hP hS (k_4p hr rfl) e_4 (cl (mov w ((gol v w).toNatClampNeg) v) ((gol v w).toNatClampNeg)) (rfl) (show (cl (mov w ((gol v w).toNatClampNeg) v) ((gol v w).toNatClampNeg)) < 81 from by omega) (by decide) p_4 (ent_put g M r (it (fin1 w ((gol v w).toNatClampNeg) (cl (mov w ((gol v w).toNatClampNeg) v) ((gol v w).toNatClampNeg))) i (mov w ((gol v w).toNatClampNeg) v)) o 0 (cl (mov w ((gol v w).toNatClampNeg) v) ((gol v w).toNatClampNeg)) (imin (60 : Int32) ((((it (fin1 w ((gol v w).toNatClampNeg) (cl (mov w ((gol v w).toNatClampNeg) v) ((gol v w).toNatClampNeg))) i (mov w ((gol v w).toNatClampNeg) v)) 0 (cl (mov w ((gol v w).toNatClampNeg) v) ((gol v w).toNatClampNeg))) + ((it (fin1 w ((gol v w).toNatClampNeg) (cl (mov w ((gol v w).toNatClampNeg) v) ((gol v w).toNatClampNeg))) i (mov w ((gol v w).toNatClampNeg) v)) 9 i)) - ((it (fin1 w ((gol v w).toNatClampNeg) (cl (mov w ((gol v w).toNatClampNeg) v) ((gol v w).toNatClampNeg))) i (mov w ((gol v w).toNatClampNeg) v)) 6 i))) (kf_4m hr (by decide))) dX5_guard_171 (fun H locs hP hS => ?_)
            refine lv_aload_n hx hb dX5_guard_172 rfl (lv_at hl 3 rfl) ?_
            refine m_get hC hE hP (k_9 hr) e_9 rfl u_5 5 (by decide) w_641 rfl rfl dX5_guard_173 ?_
            refine lv_iload hx hb dX5_guard_176 (lv_at hl 0 rfl) ?_
            refine lv_aload_n hx hb dX5_guard_178 rfl (lv_at hl 3 rfl) ?_
            refine m_get hC hE hP (k_9 hr) e_9 rfl u_5 11 (by decide) w_653 rfl rfl dX5_guard_179 ?_
            refine m_getN hC hE hP k_10 f_10 rfl u_6 7 (by decide) n_693 rfl rfl dX5_guard_182 ?_
            refine lv_iload hx hb dX5_guard_185 (lv_at hl 0 rfl) ?_
            refine m_iald hC hE hP (k_4s (by decide)) f_4 i (rfl) (show i < 8 from by omega) (by decide) dX5_guard_187 ?_
            refine m_top (y := (up2 (it (fin1 w ((gol v w).toNatClampNeg) (cl (mov w ((gol v w).toNatClampNeg) v) ((gol v w).toNatClampNeg))) i (mov w ((gol v w).toNatClampNeg) v)) 0 (cl (mov w ((gol v w).toNatClampNeg) v) ((gol v w).toNatClampNeg)) (imin (60 : Int32) ((((it (fin1 w ((gol v w).toNatClampNeg) (cl (mov w ((gol v w).toNatClampNeg) v) ((gol v w).toNatClampNeg))) i (mov w ((gol v w).toNatClampNeg) v)) 0 (cl (mov w ((gol v w).toNatClampNeg) v) ((gol v w).toNatClampNeg))) + ((it (fin1 w ((gol v w).toNatClampNeg) (cl (mov w ((gol v w).toNatClampNeg) v) ((gol v w).toNatClampNeg))) i (mov w ((gol v w).toNatClampNeg) v)) 9 i)) - ((it (fin1 w ((gol v w).toNatClampNeg) (cl (mov w ((gol v w).toNatClampNeg) v) ((gol v w).toNatClampNeg))) i (mov w ((gol v w).toNatClampNeg) v)) 6 i)))) 6 i) ((Sh.up hs3 rfl) _ _ rfl) ?_
            refine m_iast hC hE hI hP hS (k_4p hr rfl) e_4 i (rfl) (show i < 8 from by omega) (by decide) p_4 (ent_put g M r (up2 (it (fin1 w ((gol v w).toNatClampNeg) (cl (mov w ((gol v w).toNatClampNeg) v) ((gol v w).toNatClampNeg))) i (mov w ((gol v w).toNatClampNeg) v)) 0 (cl (mov w ((gol v w).toNatClampNeg) v) ((gol v w).toNatClampNeg)) (imin (60 : Int32) ((((it (fin1 w ((gol v w).toNatClampNeg) (cl (mov w ((gol v w).toNatClampNeg) v) ((gol v w).toNatClampNeg))) i (mov w ((gol v w).toNatClampNeg) v)) 0 (cl (mov w ((gol v w).toNatClampNeg) v) ((gol v w).toNatClampNeg))) + ((it (fin1 w ((gol v w).toNatClampNeg) (cl (mov w ((gol v w).toNatClampNeg) v) ((gol v w).toNatClampNeg))) i (mov w ((gol v w).toNatClampNeg) v)) 9 i)) - ((it (fin1 w ((gol v w).toNatClampNeg) (cl (mov w ((gol v w).toNatClampNeg) v) ((gol v w).toNatClampNeg))) i (mov w ((gol v w).toNatClampNeg) v)) 6 i)))) o 9 i ((up2 (it (fin1 w ((gol v w).toNatClampNeg) (cl (mov w ((gol v w).toNatClampNeg) v) ((gol v w).toNatClampNeg))) i (mov w ((gol v w).toNatClampNeg) v)) 0 (cl (mov w ((gol v w).toNatClampNeg) v) ((gol v w).toNatClampNeg)) (imin (60 : Int32) ((((it (fin1 w ((gol v w).toNatClampNeg) (cl (mov w ((gol v w).toNatClampNeg) v) ((gol v w).toNatClampNeg))) i (mov w ((gol v w).toNatClampNeg) v)) 0 (cl (mov w ((gol v w).toNatClampNeg) v) ((gol v w).toNatClampNeg))) + ((it (fin1 w ((gol v w).toNatClampNeg) (cl (mov w ((gol v w).toNatClampNeg) v) ((gol v w).toNatClampNeg))) i (mov w ((gol v w).toNatClampNeg) v)) 9 i)) - ((it (fin1 w ((gol v w).toNatClampNeg) (cl (mov w ((gol v w).toNatClampNeg) v) ((gol v w).toNatClampNeg))) i (mov w ((gol v w).toNatClampNeg) v)) 6 i)))) 6 i) (kf_4m hr (by decide))) dX5_guard_188 (fun H locs hP hS => ?_)
            refine lv_aload_n hx hb dX5_guard_189 rfl (lv_at hl 3 rfl) ?_
            refine m_get hC hE hP (k_9 hr) e_9 rfl u_5 7 (by decide) w_645 rfl rfl dX5_guard_190 ?_
            refine lv_iload hx hb dX5_guard_193 (lv_at hl 0 rfl) ?_
            refine lv_dup2_11 hx hb dX5_guard_195 rfl rfl ?_
            refine m_iald hC hE hP (k_4p hr rfl) e_4 i (rfl) (show i < 8 from by omega) (by decide) dX5_guard_196 ?_
            refine lv_iconst (v := 1) hx hb dX5_guard_197 (by decide) ?_
            refine lv_iadd hx hb dX5_guard_198 ?_
            refine m_iast hC hE hI hP hS (k_4p hr rfl) e_4 i (rfl) (show i < 8 from by omega) (by decide) p_4 (ent_put g M r (up2 (up2 (it (fin1 w ((gol v w).toNatClampNeg) (cl (mov w ((gol v w).toNatClampNeg) v) ((gol v w).toNatClampNeg))) i (mov w ((gol v w).toNatClampNeg) v)) 0 (cl (mov w ((gol v w).toNatClampNeg) v) ((gol v w).toNatClampNeg)) (imin (60 : Int32) ((((it (fin1 w ((gol v w).toNatClampNeg) (cl (mov w ((gol v w).toNatClampNeg) v) ((gol v w).toNatClampNeg))) i (mov w ((gol v w).toNatClampNeg) v)) 0 (cl (mov w ((gol v w).toNatClampNeg) v) ((gol v w).toNatClampNeg))) + ((it (fin1 w ((gol v w).toNatClampNeg) (cl (mov w ((gol v w).toNatClampNeg) v) ((gol v w).toNatClampNeg))) i (mov w ((gol v w).toNatClampNeg) v)) 9 i)) - ((it (fin1 w ((gol v w).toNatClampNeg) (cl (mov w ((gol v w).toNatClampNeg) v) ((gol v w).toNatClampNeg))) i (mov w ((gol v w).toNatClampNeg) v)) 6 i)))) 9 i ((up2 (it (fin1 w ((gol v w).toNatClampNeg) (cl (mov w ((gol v w).toNatClampNeg) v) ((gol v w).toNatClampNeg))) i (mov w ((gol v w).toNatClampNeg) v)) 0 (cl (mov w ((gol v w).toNatClampNeg) v) ((gol v w).toNatClampNeg)) (imin (60 : Int32) ((((it (fin1 w ((gol v w).toNatClampNeg) (cl (mov w ((gol v w).toNatClampNeg) v) ((gol v w).toNatClampNeg))) i (mov w ((gol v w).toNatClampNeg) v)) 0 (cl (mov w ((gol v w).toNatClampNeg) v) ((gol v w).toNatClampNeg))) + ((it (fin1 w ((gol v w).toNatClampNeg) (cl (mov w ((gol v w).toNatClampNeg) v) ((gol v w).toNatClampNeg))) i (mov w ((gol v w).toNatClampNeg) v)) 9 i)) - ((it (fin1 w ((gol v w).toNatClampNeg) (cl (mov w ((gol v w).toNatClampNeg) v) ((gol v w).toNatClampNeg))) i (mov w ((gol v w).toNatClampNeg) v)) 6 i)))) 6 i)) o 11 i (((up2 (up2 (it (fin1 w ((gol v w).toNatClampNeg) (cl (mov w ((gol v w).toNatClampNeg) v) ((gol v w).toNatClampNeg))) i (mov w ((gol v w).toNatClampNeg) v)) 0 (cl (mov w ((gol v w).toNatClampNeg) v) ((gol v w).toNatClampNeg)) (imin (60 : Int32) ((((it (fin1 w ((gol v w).toNatClampNeg) (cl (mov w ((gol v w).toNatClampNeg) v) ((gol v w).toNatClampNeg))) i (mov w ((gol v w).toNatClampNeg) v)) 0 (cl (mov w ((gol v w).toNatClampNeg) v) ((gol v w).toNatClampNeg))) + ((it (fin1 w ((gol v w).toNatClampNeg) (cl (mov w ((gol v w).toNatClampNeg) v) ((gol v w).toNatClampNeg))) i (mov w ((gol v w).toNatClampNeg) v)) 9 i)) - ((it (fin1 w ((gol v w).toNatClampNeg) (cl (mov w ((gol v w).toNatClampNeg) v) ((gol v w).toNatClampNeg))) i (mov w ((gol v w).toNatClampNeg) v)) 6 i)))) 9 i ((up2 (it (fin1 w ((gol v w).toNatClampNeg) (cl (mov w ((gol v w).toNatClampNeg) v) ((gol v w).toNatClampNeg))) i (mov w ((gol v w).toNatClampNeg) v)) 0 (cl (mov w ((gol v w).toNatClampNeg) v) ((gol v w).toNatClampNeg)) (imin (60 : Int32) ((((it (fin1 w ((gol v w).toNatClampNeg) (cl (mov w ((gol v w).toNatClampNeg) v) ((gol v w).toNatClampNeg))) i (mov w ((gol v w).toNatClampNeg) v)) 0 (cl (mov w ((gol v w).toNatClampNeg) v) ((gol v w).toNatClampNeg))) + ((it (fin1 w ((gol v w).toNatClampNeg) (cl (mov w ((gol v w).toNatClampNeg) v) ((gol v w).toNatClampNeg))) i (mov w ((gol v w).toNatClampNeg) v)) 9 i)) - ((it (fin1 w ((gol v w).toNatClampNeg) (cl (mov w ((gol v w).toNatClampNeg) v) ((gol v w).toNatClampNeg))) i (mov w ((gol v w).toNatClampNeg) v)) 6 i)))) 6 i)) 11 i) + (1 : Int32)) (kf_4m hr (by decide))) dX5_guard_199 (fun H locs hP hS => ?_)
            refine lv_aload_n hx hb dX5_guard_200 rfl (lv_at hl 3 rfl) ?_
            refine m_get hC hE hP (k_9 hr) e_9 rfl u_5 10 (by decide) w_651 rfl rfl dX5_guard_201 ?_
            refine lv_iload_n hx hb dX5_guard_204 rfl (lv_at hl 4 rfl) ?_
            refine lv_dup2_11 hx hb dX5_guard_205 rfl rfl ?_
            refine m_iald hC hE hP (k_4p hr rfl) e_4 w (rfl) (show w < 3 from by omega) (by decide) dX5_guard_206 ?_
            refine lv_iconst (v := 1) hx hb dX5_guard_207 (by decide) ?_
            refine lv_iadd hx hb dX5_guard_208 ?_
            refine m_iast hC hE hI hP hS (k_4p hr rfl) e_4 w (rfl) (show w < 3 from by omega) (by decide) p_4 (ent_put g M r (up2 (up2 (up2 (it (fin1 w ((gol v w).toNatClampNeg) (cl (mov w ((gol v w).toNatClampNeg) v) ((gol v w).toNatClampNeg))) i (mov w ((gol v w).toNatClampNeg) v)) 0 (cl (mov w ((gol v w).toNatClampNeg) v) ((gol v w).toNatClampNeg)) (imin (60 : Int32) ((((it (fin1 w ((gol v w).toNatClampNeg) (cl (mov w ((gol v w).toNatClampNeg) v) ((gol v w).toNatClampNeg))) i (mov w ((gol v w).toNatClampNeg) v)) 0 (cl (mov w ((gol v w).toNatClampNeg) v) ((gol v w).toNatClampNeg))) + ((it (fin1 w ((gol v w).toNatClampNeg) (cl (mov w ((gol v w).toNatClampNeg) v) ((gol v w).toNatClampNeg))) i (mov w ((gol v w).toNatClampNeg) v)) 9 i)) - ((it (fin1 w ((gol v w).toNatClampNeg) (cl (mov w ((gol v w).toNatClampNeg) v) ((gol v w).toNatClampNeg))) i (mov w ((gol v w).toNatClampNeg) v)) 6 i)))) 9 i ((up2 (it (fin1 w ((gol v w).toNatClampNeg) (cl (mov w ((gol v w).toNatClampNeg) v) ((gol v w).toNatClampNeg))) i (mov w ((gol v w).toNatClampNeg) v)) 0 (cl (mov w ((gol v w).toNatClampNeg) v) ((gol v w).toNatClampNeg)) (imin (60 : Int32) ((((it (fin1 w ((gol v w).toNatClampNeg) (cl (mov w ((gol v w).toNatClampNeg) v) ((gol v w).toNatClampNeg))) i (mov w ((gol v w).toNatClampNeg) v)) 0 (cl (mov w ((gol v w).toNatClampNeg) v) ((gol v w).toNatClampNeg))) + ((it (fin1 w ((gol v w).toNatClampNeg) (cl (mov w ((gol v w).toNatClampNeg) v) ((gol v w).toNatClampNeg))) i (mov w ((gol v w).toNatClampNeg) v)) 9 i)) - ((it (fin1 w ((gol v w).toNatClampNeg) (cl (mov w ((gol v w).toNatClampNeg) v) ((gol v w).toNatClampNeg))) i (mov w ((gol v w).toNatClampNeg) v)) 6 i)))) 6 i)) 11 i (((up2 (up2 (it (fin1 w ((gol v w).toNatClampNeg) (cl (mov w ((gol v w).toNatClampNeg) v) ((gol v w).toNatClampNeg))) i (mov w ((gol v w).toNatClampNeg) v)) 0 (cl (mov w ((gol v w).toNatClampNeg) v) ((gol v w).toNatClampNeg)) (imin (60 : Int32) ((((it (fin1 w ((gol v w).toNatClampNeg) (cl (mov w ((gol v w).toNatClampNeg) v) ((gol v w).toNatClampNeg))) i (mov w ((gol v w).toNatClampNeg) v)) 0 (cl (mov w ((gol v w).toNatClampNeg) v) ((gol v w).toNatClampNeg))) + ((it (fin1 w ((gol v w).toNatClampNeg) (cl (mov w ((gol v w).toNatClampNeg) v) ((gol v w).toNatClampNeg))) i (mov w ((gol v w).toNatClampNeg) v)) 9 i)) - ((it (fin1 w ((gol v w).toNatClampNeg) (cl (mov w ((gol v w).toNatClampNeg) v) ((gol v w).toNatClampNeg))) i (mov w ((gol v w).toNatClampNeg) v)) 6 i)))) 9 i ((up2 (it (fin1 w ((gol v w).toNatClampNeg) (cl (mov w ((gol v w).toNatClampNeg) v) ((gol v w).toNatClampNeg))) i (mov w ((gol v w).toNatClampNeg) v)) 0 (cl (mov w ((gol v w).toNatClampNeg) v) ((gol v w).toNatClampNeg)) (imin (60 : Int32) ((((it (fin1 w ((gol v w).toNatClampNeg) (cl (mov w ((gol v w).toNatClampNeg) v) ((gol v w).toNatClampNeg))) i (mov w ((gol v w).toNatClampNeg) v)) 0 (cl (mov w ((gol v w).toNatClampNeg) v) ((gol v w).toNatClampNeg))) + ((it (fin1 w ((gol v w).toNatClampNeg) (cl (mov w ((gol v w).toNatClampNeg) v) ((gol v w).toNatClampNeg))) i (mov w ((gol v w).toNatClampNeg) v)) 9 i)) - ((it (fin1 w ((gol v w).toNatClampNeg) (cl (mov w ((gol v w).toNatClampNeg) v) ((gol v w).toNatClampNeg))) i (mov w ((gol v w).toNatClampNeg) v)) 6 i)))) 6 i)) 11 i) + (1 : Int32))) o 15 w (((up2 (up2 (up2 (it (fin1 w ((gol v w).toNatClampNeg) (cl (mov w ((gol v w).toNatClampNeg) v) ((gol v w).toNatClampNeg))) i (mov w ((gol v w).toNatClampNeg) v)) 0 (cl (mov w ((gol v w).toNatClampNeg) v) ((gol v w).toNatClampNeg)) (imin (60 : Int32) ((((it (fin1 w ((gol v w).toNatClampNeg) (cl (mov w ((gol v w).toNatClampNeg) v) ((gol v w).toNatClampNeg))) i (mov w ((gol v w).toNatClampNeg) v)) 0 (cl (mov w ((gol v w).toNatClampNeg) v) ((gol v w).toNatClampNeg))) + ((it (fin1 w ((gol v w).toNatClampNeg) (cl (mov w ((gol v w).toNatClampNeg) v) ((gol v w).toNatClampNeg))) i (mov w ((gol v w).toNatClampNeg) v)) 9 i)) - ((it (fin1 w ((gol v w).toNatClampNeg) (cl (mov w ((gol v w).toNatClampNeg) v) ((gol v w).toNatClampNeg))) i (mov w ((gol v w).toNatClampNeg) v)) 6 i)))) 9 i ((up2 (it (fin1 w ((gol v w).toNatClampNeg) (cl (mov w ((gol v w).toNatClampNeg) v) ((gol v w).toNatClampNeg))) i (mov w ((gol v w).toNatClampNeg) v)) 0 (cl (mov w ((gol v w).toNatClampNeg) v) ((gol v w).toNatClampNeg)) (imin (60 : Int32) ((((it (fin1 w ((gol v w).toNatClampNeg) (cl (mov w ((gol v w).toNatClampNeg) v) ((gol v w).toNatClampNeg))) i (mov w ((gol v w).toNatClampNeg) v)) 0 (cl (mov w ((gol v w).toNatClampNeg) v) ((gol v w).toNatClampNeg))) + ((it (fin1 w ((gol v w).toNatClampNeg) (cl (mov w ((gol v w).toNatClampNeg) v) ((gol v w).toNatClampNeg))) i (mov w ((gol v w).toNatClampNeg) v)) 9 i)) - ((it (fin1 w ((gol v w).toNatClampNeg) (cl (mov w ((gol v w).toNatClampNeg) v) ((gol v w).toNatClampNeg))) i (mov w ((gol v w).toNatClampNeg) v)) 6 i)))) 6 i)) 11 i (((up2 (up2 (it (fin1 w ((gol v w).toNatClampNeg) (cl (mov w ((gol v w).toNatClampNeg) v) ((gol v w).toNatClampNeg))) i (mov w ((gol v w).toNatClampNeg) v)) 0 (cl (mov w ((gol v w).toNatClampNeg) v) ((gol v w).toNatClampNeg)) (imin (60 : Int32) ((((it (fin1 w ((gol v w).toNatClampNeg) (cl (mov w ((gol v w).toNatClampNeg) v) ((gol v w).toNatClampNeg))) i (mov w ((gol v w).toNatClampNeg) v)) 0 (cl (mov w ((gol v w).toNatClampNeg) v) ((gol v w).toNatClampNeg))) + ((it (fin1 w ((gol v w).toNatClampNeg) (cl (mov w ((gol v w).toNatClampNeg) v) ((gol v w).toNatClampNeg))) i (mov w ((gol v w).toNatClampNeg) v)) 9 i)) - ((it (fin1 w ((gol v w).toNatClampNeg) (cl (mov w ((gol v w).toNatClampNeg) v) ((gol v w).toNatClampNeg))) i (mov w ((gol v w).toNatClampNeg) v)) 6 i)))) 9 i ((up2 (it (fin1 w ((gol v w).toNatClampNeg) (cl (mov w ((gol v w).toNatClampNeg) v) ((gol v w).toNatClampNeg))) i (mov w ((gol v w).toNatClampNeg) v)) 0 (cl (mov w ((gol v w).toNatClampNeg) v) ((gol v w).toNatClampNeg)) (imin (60 : Int32) ((((it (fin1 w ((gol v w).toNatClampNeg) (cl (mov w ((gol v w).toNatClampNeg) v) ((gol v w).toNatClampNeg))) i (mov w ((gol v w).toNatClampNeg) v)) 0 (cl (mov w ((gol v w).toNatClampNeg) v) ((gol v w).toNatClampNeg))) + ((it (fin1 w ((gol v w).toNatClampNeg) (cl (mov w ((gol v w).toNatClampNeg) v) ((gol v w).toNatClampNeg))) i (mov w ((gol v w).toNatClampNeg) v)) 9 i)) - ((it (fin1 w ((gol v w).toNatClampNeg) (cl (mov w ((gol v w).toNatClampNeg) v) ((gol v w).toNatClampNeg))) i (mov w ((gol v w).toNatClampNeg) v)) 6 i)))) 6 i)) 11 i) + (1 : Int32))) 15 w) + (1 : Int32)) (kf_4m hr (by decide))) dX5_guard_209 (fun H locs hP hS => ?_)
            refine lv_iinc (v := nI (i + 1)) (lv' := [(4, .int (nI (i + 1))), (3, .int (nI (cl (mov w ((gol v w).toNatClampNeg) v) ((gol v w).toNatClampNeg)))), (2, .int (gol v w)), (0, .ref (ad g (9, r, 0))), (1, .int (nI w))]) hx hb dX5_guard_210 hl (k := 0) rfl (nI_1 _) (by decide) rfl (fun ls hl => ?_)
            refine lv_goto (tgt := 111) hx hb dX5_guard_213 (by decide) ?_
            exact IH H locs ls (hP.castR ((if_pos c2).trans (by simp [up2]))) hS (lv_sub hl [0, 1, 2, 3, 4] rfl) (trivial)
          · have c2 := b2i_f c2
            refine lv_goto (tgt := 210) hx hb dX5_guard_133 (by decide) ?_
            refine lv_iinc (v := nI (i + 1)) (lv' := [(4, .int (nI (i + 1))), (3, .int (nI (cl (mov w ((gol v w).toNatClampNeg) v) ((gol v w).toNatClampNeg)))), (2, .int (gol v w)), (0, .ref (ad g (9, r, 0))), (1, .int (nI w))]) hx hb dX5_guard_210 hl (k := 0) rfl (nI_1 _) (by decide) rfl (fun ls hl => ?_)
            refine lv_goto (tgt := 111) hx hb dX5_guard_213 (by decide) ?_
            exact IH H locs ls (hP.castR (if_neg (by rw [c2]; decide))) hS (lv_sub hl [0, 1, 2, 3, 4] rfl) (trivial)
      · have c1 : 0 < farW (mov w ((gol v w).toNatClampNeg) v) w ((gol v w).toNatClampNeg) := Int32.not_le.mp c1
        exact m_vret hC hr_ hlk hS (hP.castR ((if_neg c0).trans (if_pos c1))) dX5_guard_98
    · have hs1 : Sh M r (it (fun _ u => stp w ((gol v w).toNatClampNeg) u) i v) := hsh.it (fun _ _ _ _ hs => sh_stp hs) i
      have hi1 : Inv (it (fun _ u => stp w ((gol v w).toNatClampNeg) u) i v) ∧ nH (it (fun _ u => stp w ((gol v w).toNatClampNeg) u) i v) = nH v ∧ nW (it (fun _ u => stp w ((gol v w).toNatClampNeg) u) i v) = nW v := movI_inv hz.2 hv i
      have hl1 := hi1.1.hW w (by rw [hi1.2.2]; exact hw)
      have hl2 := hi1.1.hH ((gol v w).toNatClampNeg) (by rw [hi1.2.1]; exact hz.2)
      refine lv_iload_n hx hb dX5_guard_14 rfl (lv_at hl 0 rfl) ?_
      refine lv_aload_n hx hb dX5_guard_15 rfl (lv_at hl 2 rfl) ?_
      refine m_get hC hE hP (k_9 hr) e_9 rfl u_5 11 (by decide) w_653 rfl rfl dX5_guard_16 ?_
      refine m_getN hC hE hP k_10 f_10 rfl u_6 10 (by decide) n_699 rfl rfl dX5_guard_19 ?_
      refine lv_iload_n hx hb dX5_guard_22 rfl (lv_at hl 3 rfl) ?_
      refine m_iald hC hE hP (k_4s (by decide)) f_4 w (rfl) (show w < 3 from by omega) (by decide) dX5_guard_23 ?_
      refine m_top (y := (it (fun _ u => stp w ((gol v w).toNatClampNeg) u) i v) 14 w) (hs1 _ _ rfl) ?_
      refine m_top (y := v 14 w) (it_keep (fun _ _ => stp_ne (by decide) (by decide)) _ _) ?_
      refine lv_icmp_ge (tgt := 89) hx hb dX5_guard_24 (by decide) (fun c4 => absurd c4 (pace_F hi)) (fun c4 => ?_)
      refine lv_aload_n hx hb dX5_guard_27 rfl (lv_at hl 2 rfl) ?_
      refine m_get hC hE hP (k_9 hr) e_9 rfl u_5 8 (by decide) w_647 rfl rfl dX5_guard_28 ?_
      refine lv_iload_n hx hb dX5_guard_31 rfl (lv_at hl 3 rfl) ?_
      refine lv_dup2_11 hx hb dX5_guard_32 rfl rfl ?_
      refine m_iald hC hE hP (k_4p hr rfl) e_4 w (rfl) (show w < 3 from by omega) (by decide) dX5_guard_33 ?_
      refine lv_aload_n hx hb dX5_guard_34 rfl (lv_at hl 2 rfl) ?_
      refine m_get hC hE hP (k_9 hr) e_9 rfl u_5 11 (by decide) w_653 rfl rfl dX5_guard_35 ?_
      refine m_getN hC hE hP k_10 f_10 rfl u_6 4 (by decide) n_687 rfl rfl dX5_guard_38 ?_
      refine lv_iload_n hx hb dX5_guard_41 rfl (lv_at hl 1 rfl) ?_
      refine m_iald hC hE hP (k_4s (by decide)) f_4 ((gol v w).toNatClampNeg) (hz.1) (show ((gol v w).toNatClampNeg) < 12 from by omega) (by decide) dX5_guard_42 ?_
      refine m_top (y := (it (fun _ u => stp w ((gol v w).toNatClampNeg) u) i v) 3 ((gol v w).toNatClampNeg)) (hs1 _ _ rfl) ?_
      refine lv_aload_n hx hb dX5_guard_43 rfl (lv_at hl 2 rfl) ?_
      refine m_get hC hE hP (k_9 hr) e_9 rfl u_5 8 (by decide) w_647 rfl rfl dX5_guard_44 ?_
      refine lv_iload_n hx hb dX5_guard_47 rfl (lv_at hl 3 rfl) ?_
      refine m_iald hC hE hP (k_4p hr rfl) e_4 w (rfl) (show w < 3 from by omega) (by decide) dX5_guard_48 ?_
      refine lv_isub hx hb dX5_guard_49 ?_
      refine on_i (run_S hC hE hP hS (As := [.int (((it (fun _ u => stp w ((gol v w).toNatClampNeg) u) i v) 3 ((gol v w).toNatClampNeg)) - ((it (fun _ u => stp w ((gol v w).toNatClampNeg) u) i v) 12 w))]) (c_signum l (((it (fun _ u => stp w ((gol v w).toNatClampNeg) u) i v) 3 ((gol v w).toNatClampNeg)) - ((it (fun _ u => stp w ((gol v w).toNatClampNeg) u) i v) 12 w))) cal_J6_signum_0f7a4 w_885 ⟨Nat.le_of_ble_eq_true rfl, Nat.le_of_ble_eq_true rfl⟩ rfl rfl (Nat.le_of_ble_eq_true rfl) hl.1 ⟨Nat.le_of_ble_eq_true rfl, Nat.le_of_ble_eq_true rfl⟩ dX5_guard_50) hS (fun H locs hP hS => ?_)
      refine m_top (y := cmp3 ((it (fun _ u => stp w ((gol v w).toNatClampNeg) u) i v) 3 ((gol v w).toNatClampNeg)) ((it (fun _ u => stp w ((gol v w).toNatClampNeg) u) i v) 12 w)) (sgn_lt9 hl2.1 hl1.1) ?_
      refine lv_iadd hx hb dX5_guard_53 ?_
      refine m_iast hC hE hI hP hS (k_4p hr rfl) e_4 w (rfl) (show w < 3 from by omega) (by decide) p_4 (ent_put g M r (it (fun _ u => stp w ((gol v w).toNatClampNeg) u) i v) o 12 w (((it (fun _ u => stp w ((gol v w).toNatClampNeg) u) i v) 12 w) + (cmp3 ((it (fun _ u => stp w ((gol v w).toNatClampNeg) u) i v) 3 ((gol v w).toNatClampNeg)) ((it (fun _ u => stp w ((gol v w).toNatClampNeg) u) i v) 12 w))) (kf_4m hr (by decide))) dX5_guard_54 (fun H locs hP hS => ?_)
      refine lv_aload_n hx hb dX5_guard_55 rfl (lv_at hl 2 rfl) ?_
      refine m_get hC hE hP (k_9 hr) e_9 rfl u_5 9 (by decide) w_649 rfl rfl dX5_guard_56 ?_
      refine lv_iload_n hx hb dX5_guard_59 rfl (lv_at hl 3 rfl) ?_
      refine lv_dup2_11 hx hb dX5_guard_60 rfl rfl ?_
      refine m_iald hC hE hP (k_4p hr rfl) e_4 w (rfl) (show w < 3 from by omega) (by decide) dX5_guard_61 ?_
      refine lv_aload_n hx hb dX5_guard_62 rfl (lv_at hl 2 rfl) ?_
      refine m_get hC hE hP (k_9 hr) e_9 rfl u_5 11 (by decide) w_653 rfl rfl dX5_guard_63 ?_
      refine m_getN hC hE hP k_10 f_10 rfl u_6 5 (by decide) n_689 rfl rfl dX5_guard_66 ?_
      refine lv_iload_n hx hb dX5_guard_69 rfl (lv_at hl 1 rfl) ?_
      refine m_iald hC hE hP (k_4s (by decide)) f_4 ((gol v w).toNatClampNeg) (hz.1) (show ((gol v w).toNatClampNeg) < 12 from by omega) (by decide) dX5_guard_70 ?_
      refine m_top (y := (up2 (it (fun _ u => stp w ((gol v w).toNatClampNeg) u) i v) 12 w (((it (fun _ u => stp w ((gol v w).toNatClampNeg) u) i v) 12 w) + (cmp3 ((it (fun _ u => stp w ((gol v w).toNatClampNeg) u) i v) 3 ((gol v w).toNatClampNeg)) ((it (fun _ u => stp w ((gol v w).toNatClampNeg) u) i v) 12 w)))) 4 ((gol v w).toNatClampNeg)) ((Sh.up hs1 rfl) _ _ rfl) ?_
      refine lv_aload_n hx hb dX5_guard_71 rfl (lv_at hl 2 rfl) ?_
      refine m_get hC hE hP (k_9 hr) e_9 rfl u_5 9 (by decide) w_649 rfl rfl dX5_guard_72 ?_
      refine lv_iload_n hx hb dX5_guard_75 rfl (lv_at hl 3 rfl) ?_
      refine m_iald hC hE hP (k_4p hr rfl) e_4 w (rfl) (show w < 3 from by omega) (by decide) dX5_guard_76 ?_
      refine lv_isub hx hb dX5_guard_77 ?_
      refine on_i (run_S hC hE hP hS (As := [.int (((up2 (it (fun _ u => stp w ((gol v w).toNatClampNeg) u) i v) 12 w (((it (fun _ u => stp w ((gol v w).toNatClampNeg) u) i v) 12 w) + (cmp3 ((it (fun _ u => stp w ((gol v w).toNatClampNeg) u) i v) 3 ((gol v w).toNatClampNeg)) ((it (fun _ u => stp w ((gol v w).toNatClampNeg) u) i v) 12 w)))) 4 ((gol v w).toNatClampNeg)) - ((up2 (it (fun _ u => stp w ((gol v w).toNatClampNeg) u) i v) 12 w (((it (fun _ u => stp w ((gol v w).toNatClampNeg) u) i v) 12 w) + (cmp3 ((it (fun _ u => stp w ((gol v w).toNatClampNeg) u) i v) 3 ((gol v w).toNatClampNeg)) ((it (fun _ u => stp w ((gol v w).toNatClampNeg) u) i v) 12 w)))) 13 w))]) (c_signum l (((up2 (it (fun _ u => stp w ((gol v w).toNatClampNeg) u) i v) 12 w (((it (fun _ u => stp w ((gol v w).toNatClampNeg) u) i v) 12 w) + (cmp3 ((it (fun _ u => stp w ((gol v w).toNatClampNeg) u) i v) 3 ((gol v w).toNatClampNeg)) ((it (fun _ u => stp w ((gol v w).toNatClampNeg) u) i v) 12 w)))) 4 ((gol v w).toNatClampNeg)) - ((up2 (it (fun _ u => stp w ((gol v w).toNatClampNeg) u) i v) 12 w (((it (fun _ u => stp w ((gol v w).toNatClampNeg) u) i v) 12 w) + (cmp3 ((it (fun _ u => stp w ((gol v w).toNatClampNeg) u) i v) 3 ((gol v w).toNatClampNeg)) ((it (fun _ u => stp w ((gol v w).toNatClampNeg) u) i v) 12 w)))) 13 w))) cal_J6_signum_0f7a4 w_885 ⟨Nat.le_of_ble_eq_true rfl, Nat.le_of_ble_eq_true rfl⟩ rfl rfl (Nat.le_of_ble_eq_true rfl) hl.1 ⟨Nat.le_of_ble_eq_true rfl, Nat.le_of_ble_eq_true rfl⟩ dX5_guard_78) hS (fun H locs hP hS => ?_)
      refine m_top (y := cmp3 ((it (fun _ u => stp w ((gol v w).toNatClampNeg) u) i v) 4 ((gol v w).toNatClampNeg)) ((it (fun _ u => stp w ((gol v w).toNatClampNeg) u) i v) 13 w)) ((by simp only [up2_c (show (4:Nat) ≠ 12 by decide), up2_c (show (13:Nat) ≠ 12 by decide)]; exact sgn_lt9 hl2.2.1 hl1.2)) ?_
      refine lv_iadd hx hb dX5_guard_81 ?_
      refine m_iast hC hE hI hP hS (k_4p hr rfl) e_4 w (rfl) (show w < 3 from by omega) (by decide) p_4 (ent_put g M r (up2 (it (fun _ u => stp w ((gol v w).toNatClampNeg) u) i v) 12 w (((it (fun _ u => stp w ((gol v w).toNatClampNeg) u) i v) 12 w) + (cmp3 ((it (fun _ u => stp w ((gol v w).toNatClampNeg) u) i v) 3 ((gol v w).toNatClampNeg)) ((it (fun _ u => stp w ((gol v w).toNatClampNeg) u) i v) 12 w)))) o 13 w (((up2 (it (fun _ u => stp w ((gol v w).toNatClampNeg) u) i v) 12 w (((it (fun _ u => stp w ((gol v w).toNatClampNeg) u) i v) 12 w) + (cmp3 ((it (fun _ u => stp w ((gol v w).toNatClampNeg) u) i v) 3 ((gol v w).toNatClampNeg)) ((it (fun _ u => stp w ((gol v w).toNatClampNeg) u) i v) 12 w)))) 13 w) + (cmp3 ((it (fun _ u => stp w ((gol v w).toNatClampNeg) u) i v) 4 ((gol v w).toNatClampNeg)) ((it (fun _ u => stp w ((gol v w).toNatClampNeg) u) i v) 13 w))) (kf_4m hr (by decide))) dX5_guard_82 (fun H locs hP hS => ?_)
      refine lv_iinc (v := nI (i + 1)) (lv' := [(3, .int (nI (i + 1))), (2, .int (gol v w)), (0, .ref (ad g (9, r, 0))), (1, .int (nI w))]) hx hb dX5_guard_83 hl (k := 0) rfl (nI_1 _) (by decide) rfl (fun ls hl => ?_)
      refine lv_goto (tgt := 14) hx hb dX5_guard_86 (by decide) ?_
      exact IH H locs ls (hP.castR (by show stp w _ _ = _; simp [stp, up2])) hS (lv_sub hl [0, 1, 2, 3] rfl) (trivial)
  · exact m_vret hC hr_ hlk hS (hP.castR (if_pos c0)) dX5_guard_11
set_option maxHeartbeats 4000000 in
set_option maxRecDepth 100000 in
theorem c_freezeM (l : Launch) {g : Gm} (hI : IJ g KK) {M : Mem} {o : Nat → Int64} {r : Nat} (hr : r = 2 ∨ r = 3) {v : Vw} (hsh : Sh M r v) (hv : Inv v) (hN : Nt 0 v) : MV l yX5_freeze cX5_freeze 3 (rm 1 23) g KK (ent g (setR M r v) o) [.ref (ad g (9, r, 0))] (ent g (setR M r (frz v)) o) := by
  refine met_of (by decide +kernel) (Nat.le_of_ble_eq_true rfl) ?_
  intro p e s m below meth c ls hC hr_ hlk hnm hE hP hS hl
  obtain ⟨hx, hb, hml, hown, hG⟩ := id hC
  have hl : lv_has ls 3 [(0, .ref (ad g (9, r, 0)))] := hl
  have qH := hv.lH
  have qS := hv.lS
  have qW := hv.lW
  have hN1 := hN.1
  have hN2 := hN.2
  refine lv_aload_n hx hb dX5_freeze_0 rfl (lv_at hl 0 rfl) ?_
  refine m_get hC hE hP (k_9 hr) e_9 rfl u_5 11 (by decide) w_653 rfl rfl dX5_freeze_1 ?_
  refine m_getN hC hE hP k_10 f_10 rfl u_6 2 (by decide) n_683 rfl rfl dX5_freeze_4 ?_
  refine lv_aload_n hx hb dX5_freeze_7 rfl (lv_at hl 0 rfl) ?_
  refine m_get hC hE hP (k_9 hr) e_9 rfl u_5 0 (by decide) w_631 rfl rfl dX5_freeze_8 ?_
  refine m_top (y := nI (tt v)) (hN1) ?_
  refine lv_bipush (v := 7) hx hb dX5_freeze_11 (by decide) ?_
  refine lv_irem hx hb dX5_freeze_13 (by decide) ?_
  refine m_top (y := nI (tt v % 7)) (pk_rem (a := tt v) (d := 7) (by omega) (by decide) (by decide)) ?_
  refine m_iald hC hE hP (k_4s (by decide)) f_4 (tt v % 7) (rfl) (show (tt v % 7) < 7 from Nat.mod_lt _ (by decide)) (by decide) dX5_freeze_14 ?_
  refine m_top (y := v 2 (tt v % 7)) (hsh _ _ rfl) ?_
  refine m_top (y := frostN v) (rfl) ?_
  refine lv_istore_n (lv' := [(1, .int (frostN v)), (0, .ref (ad g (9, r, 0)))]) hx hb dX5_freeze_15 rfl hl (by decide) rfl (fun ls hl => ?_)
  refine lv_aload_n hx hb dX5_freeze_16 rfl (lv_at hl 1 rfl) ?_
  refine lv_iconst (v := 0) hx hb dX5_freeze_17 (by decide) ?_
  refine lv_bipush (v := 90) hx hb dX5_freeze_18 (by decide) ?_
  refine lv_aload_n hx hb dX5_freeze_20 rfl (lv_at hl 1 rfl) ?_
  refine m_get hC hE hP (k_9 hr) e_9 rfl u_5 1 (by decide) w_633 rfl rfl dX5_freeze_21 ?_
  refine lv_iload_n hx hb dX5_freeze_24 rfl (lv_at hl 0 rfl) ?_
  refine lv_iadd hx hb dX5_freeze_25 ?_
  refine m_min hC w_795 w_184 w_14 w_185 hl.1 (by decide) (Nat.le_of_ble_eq_true rfl) (Nat.zero_le _) (Nat.zero_le _) dX5_freeze_26 ?_
  refine m_top (y := imin (90 : Int32) ((v 16 3) + (frostN v))) rfl ?_
  refine m_max hC w_796 w_187 w_14 w_188 hl.1 (by decide) (Nat.le_of_ble_eq_true rfl) (Nat.zero_le _) (Nat.zero_le _) dX5_freeze_29 ?_
  refine m_top (y := imax (0 : Int32) (imin (90 : Int32) ((v 16 3) + (frostN v)))) rfl ?_
  refine m_top (y := iceN v) (rfl) ?_
  refine m_put hC hE hI hP hS (k_9 hr) e_9 rfl u_5 tyX5_ok nmX5 1 (by decide) w_633 rfl rfl rfl rfl (Nat.le_of_ble_eq_true rfl) p_9_1 (ent_put g M r v o 16 3 (iceN v) (kf_9 hr (by decide))) dX5_freeze_32 (fun H locs hP hS => ?_)
  refine lv_iconst (v := 0) hx hb dX5_freeze_35 (by decide) ?_
  refine lv_istore_n (lv' := [(2, .int ((0 : Int32))), (1, .int (frostN v)), (0, .ref (ad g (9, r, 0)))]) hx hb dX5_freeze_36 rfl hl (by decide) rfl (fun ls hl => ?_)
  refine lp_W (i0 := 0) (nH v) (fun i => ent g (setR M r (fzH v i)) o) (fun i => [(2, .int (nI i)), (1, .int (frostN v)), (0, .ref (ad g (9, r, 0)))]) (fun i => True) (Nat.zero_le _) (hP.castR (rfl)) hS (lv_sub hl [0, 1, 2] rfl) (trivial) (fun H locs ls hP hS hl J => ?_) (fun i hi IH H locs ls hP hS hl J => ?_)
  · have hs1 : Sh M r (fzH v (nH v)) := hsh.fzH _
    refine lv_iload_n hx hb dX5_freeze_37 rfl (lv_at hl 0 rfl) ?_
    refine lv_aload_n hx hb dX5_freeze_38 rfl (lv_at hl 2 rfl) ?_
    refine m_get hC hE hP (k_9 hr) e_9 rfl u_5 11 (by decide) w_653 rfl rfl dX5_freeze_39 ?_
    refine m_getN hC hE hP k_10 f_10 rfl u_6 3 (by decide) n_685 rfl rfl dX5_freeze_42 ?_
    refine m_top (y := (fzH v (nH v)) 16 0) (hs1 _ _ rfl) ?_
    refine m_top (y := nI (nH v)) ((fzH_16 (by decide)).trans hv.eH) ?_
    refine lv_icmp_ge (tgt := 81) hx hb dX5_freeze_45 (by decide) (fun c1 => ?_) (fun c1 => absurd (nI_le (Nat.le_refl _) (by omega)) c1)
    refine lv_iconst (v := 0) hx hb dX5_freeze_81 (by decide) ?_
    refine lv_istore_n (lv' := [(2, .int ((0 : Int32))), (1, .int (frostN v)), (0, .ref (ad g (9, r, 0)))]) hx hb dX5_freeze_82 rfl hl (by decide) rfl (fun ls hl => ?_)
    refine lp_W (i0 := 0) (nS v) (fun i => ent g (setR M r (fzA v i)) o) (fun i => [(2, .int (nI i)), (1, .int (frostN v)), (0, .ref (ad g (9, r, 0)))]) (fun i => True) (Nat.zero_le _) (hP.castR (rfl)) hS (lv_sub hl [0, 1, 2] rfl) (trivial) (fun H locs ls hP hS hl J => ?_) (fun i hi IH H locs ls hP hS hl J => ?_)
    · have hs2 : Sh M r (fzA v (nS v)) := hsh.fzA _
      refine lv_iload_n hx hb dX5_freeze_83 rfl (lv_at hl 0 rfl) ?_
      refine lv_aload_n hx hb dX5_freeze_84 rfl (lv_at hl 2 rfl) ?_
      refine m_get hC hE hP (k_9 hr) e_9 rfl u_5 11 (by decide) w_653 rfl rfl dX5_freeze_85 ?_
      refine m_getN hC hE hP k_10 f_10 rfl u_6 6 (by decide) n_690 rfl rfl dX5_freeze_88 ?_
      refine m_top (y := (fzA v (nS v)) 16 1) (hs2 _ _ rfl) ?_
      refine m_top (y := nI (nS v)) ((fzA_16 (by decide)).trans hv.eS) ?_
      refine lv_icmp_ge (tgt := 124) hx hb dX5_freeze_91 (by decide) (fun c2 => ?_) (fun c2 => absurd (nI_le (Nat.le_refl _) (by omega)) c2)
      exact m_vret hC hr_ hlk hS (hP.castR (fz_m)) dX5_freeze_124
    · have hs2 : Sh M r (fzA v i) := hsh.fzA i
      refine lv_iload_n hx hb dX5_freeze_83 rfl (lv_at hl 0 rfl) ?_
      refine lv_aload_n hx hb dX5_freeze_84 rfl (lv_at hl 2 rfl) ?_
      refine m_get hC hE hP (k_9 hr) e_9 rfl u_5 11 (by decide) w_653 rfl rfl dX5_freeze_85 ?_
      refine m_getN hC hE hP k_10 f_10 rfl u_6 6 (by decide) n_690 rfl rfl dX5_freeze_88 ?_
      refine m_top (y := (fzA v i) 16 1) (hs2 _ _ rfl) ?_
      refine m_top (y := nI (nS v)) ((fzA_16 (by decide)).trans hv.eS) ?_
      refine lv_icmp_ge (tgt := 124) hx hb dX5_freeze_91 (by decide) (fun c3 => absurd c3 (nI_ge hi (by omega))) (fun c3 => ?_)
      refine lv_aload_n hx hb dX5_freeze_94 rfl (lv_at hl 2 rfl) ?_
      refine m_get hC hE hP (k_9 hr) e_9 rfl u_5 4 (by decide) w_639 rfl rfl dX5_freeze_95 ?_
      refine lv_iload_n hx hb dX5_freeze_98 rfl (lv_at hl 0 rfl) ?_
      refine lv_aload_n hx hb dX5_freeze_99 rfl (lv_at hl 2 rfl) ?_
      refine m_get hC hE hP (k_9 hr) e_9 rfl u_5 1 (by decide) w_633 rfl rfl dX5_freeze_100 ?_
      refine m_top (y := iceN v) (fzA_ice) ?_
      refine lv_iconst (v := 5) hx hb dX5_freeze_103 (by decide) ?_
      refine lv_icmp_ge (tgt := 111) hx hb dX5_freeze_104 (by decide) (fun c1 => ?_) (fun c1 => ?_)
      · refine lv_aload_n hx hb dX5_freeze_111 rfl (lv_at hl 2 rfl) ?_
        refine m_get hC hE hP (k_9 hr) e_9 rfl u_5 4 (by decide) w_639 rfl rfl dX5_freeze_112 ?_
        refine lv_iload_n hx hb dX5_freeze_115 rfl (lv_at hl 0 rfl) ?_
        refine m_iald hC hE hP (k_4p hr rfl) e_4 i (rfl) (show i < 8 from by omega) (by decide) dX5_freeze_116 ?_
        refine m_iast hC hE hI hP hS (k_4p hr rfl) e_4 i (rfl) (show i < 8 from by omega) (by decide) p_4 (ent_put g M r (fzA v i) o 8 i ((fzA v i) 8 i) (kf_4m hr (by decide))) dX5_freeze_117 (fun H locs hP hS => ?_)
        refine lv_iinc (v := nI (i + 1)) (lv' := [(2, .int (nI (i + 1))), (1, .int (frostN v)), (0, .ref (ad g (9, r, 0)))]) hx hb dX5_freeze_118 hl (k := 0) rfl (nI_1 _) (by decide) rfl (fun ls hl => ?_)
        refine lv_goto (tgt := 83) hx hb dX5_freeze_121 (by decide) ?_
        exact IH H locs ls (hP.castR (congrArg (fun z => up2 (fzA v i) 8 i z) (if_neg (Int32.not_lt.mpr c1)))) hS (lv_sub hl [0, 1, 2] rfl) (trivial)
      · refine lv_iconst (v := (-1)) hx hb dX5_freeze_107 (by decide) ?_
        refine lv_goto (tgt := 117) hx hb dX5_freeze_108 (by decide) ?_
        refine m_iast hC hE hI hP hS (k_4p hr rfl) e_4 i (rfl) (show i < 8 from by omega) (by decide) p_4 (ent_put g M r (fzA v i) o 8 i (-1 : Int32) (kf_4m hr (by decide))) dX5_freeze_117 (fun H locs hP hS => ?_)
        refine lv_iinc (v := nI (i + 1)) (lv' := [(2, .int (nI (i + 1))), (1, .int (frostN v)), (0, .ref (ad g (9, r, 0)))]) hx hb dX5_freeze_118 hl (k := 0) rfl (nI_1 _) (by decide) rfl (fun ls hl => ?_)
        refine lv_goto (tgt := 83) hx hb dX5_freeze_121 (by decide) ?_
        exact IH H locs ls (hP.castR (congrArg (fun z => up2 (fzA v i) 8 i z) (if_pos (Int32.not_le.mp c1)))) hS (lv_sub hl [0, 1, 2] rfl) (trivial)
  · have hs1 : Sh M r (fzH v i) := hsh.fzH i
    have hi1 : Inv (fzH v i) := fzH_inv hv i
    refine lv_iload_n hx hb dX5_freeze_37 rfl (lv_at hl 0 rfl) ?_
    refine lv_aload_n hx hb dX5_freeze_38 rfl (lv_at hl 2 rfl) ?_
    refine m_get hC hE hP (k_9 hr) e_9 rfl u_5 11 (by decide) w_653 rfl rfl dX5_freeze_39 ?_
    refine m_getN hC hE hP k_10 f_10 rfl u_6 3 (by decide) n_685 rfl rfl dX5_freeze_42 ?_
    refine m_top (y := (fzH v i) 16 0) (hs1 _ _ rfl) ?_
    refine m_top (y := nI (nH v)) ((fzH_16 (by decide)).trans hv.eH) ?_
    refine lv_icmp_ge (tgt := 81) hx hb dX5_freeze_45 (by decide) (fun c4 => absurd c4 (nI_ge hi (by omega))) (fun c4 => ?_)
    refine lv_aload_n hx hb dX5_freeze_48 rfl (lv_at hl 2 rfl) ?_
    refine m_get hC hE hP (k_9 hr) e_9 rfl u_5 1 (by decide) w_633 rfl rfl dX5_freeze_49 ?_
    refine m_top (y := iceN v) (fzH_ice) ?_
    refine lv_iconst (v := 5) hx hb dX5_freeze_52 (by decide) ?_
    refine lv_icmp_lt (tgt := 68) hx hb dX5_freeze_53 (by decide) (fun c1 => ?_) (fun c1 => ?_)
    · refine lv_aload_n hx hb dX5_freeze_68 rfl (lv_at hl 2 rfl) ?_
      refine m_get hC hE hP (k_9 hr) e_9 rfl u_5 3 (by decide) w_637 rfl rfl dX5_freeze_69 ?_
      refine lv_iload_n hx hb dX5_freeze_72 rfl (lv_at hl 0 rfl) ?_
      refine lv_iconst (v := 0) hx hb dX5_freeze_73 (by decide) ?_
      refine m_iast hC hE hI hP hS (k_4p hr rfl) e_4 i (rfl) (show i < 12 from by omega) (by decide) p_4 (ent_put g M r (fzH v i) o 5 i (0 : Int32) (kf_4m hr (by decide))) dX5_freeze_74 (fun H locs hP hS => ?_)
      refine lv_iinc (v := nI (i + 1)) (lv' := [(2, .int (nI (i + 1))), (1, .int (frostN v)), (0, .ref (ad g (9, r, 0)))]) hx hb dX5_freeze_75 hl (k := 0) rfl (nI_1 _) (by decide) rfl (fun ls hl => ?_)
      refine lv_goto (tgt := 37) hx hb dX5_freeze_78 (by decide) ?_
      exact IH H locs ls (hP.castR (if_pos (Or.inl c1))) hS (lv_sub hl [0, 1, 2] rfl) (trivial)
    · refine lv_iload_n hx hb dX5_freeze_56 rfl (lv_at hl 1 rfl) ?_
      refine lv_if_le (tgt := 75) hx hb dX5_freeze_57 (by decide) (fun c2 => ?_) (fun c2 => ?_)
      · refine lv_iinc (v := nI (i + 1)) (lv' := [(2, .int (nI (i + 1))), (1, .int (frostN v)), (0, .ref (ad g (9, r, 0)))]) hx hb dX5_freeze_75 hl (k := 0) rfl (nI_1 _) (by decide) rfl (fun ls hl => ?_)
        refine lv_goto (tgt := 37) hx hb dX5_freeze_78 (by decide) ?_
        exact IH H locs ls (hP.castR (if_neg (fun q => q.elim c1 (fun q => Int32.not_lt.mpr c2 q.1)))) hS (lv_sub hl [0, 1, 2] rfl) (trivial)
      · refine lv_aload_n hx hb dX5_freeze_60 rfl (lv_at hl 2 rfl) ?_
        refine lv_iload_n hx hb dX5_freeze_61 rfl (lv_at hl 0 rfl) ?_
        refine on_i (run_V hC hE hP hS (As := [.int (nI i)]) (c_spearersAtM l hI hr (hs1) hi1 (nI i)) cal_X5_spearersAt w_893 ⟨Nat.le_of_ble_eq_true rfl, Nat.le_of_ble_eq_true rfl⟩ (k_9 hr) e_9 rfl rfl rfl (Nat.le_of_ble_eq_true rfl) hl.1 ⟨Nat.le_of_ble_eq_true rfl, Nat.le_of_ble_eq_true rfl⟩ dX5_freeze_62) hS (fun H locs hP hS => ?_)
        refine m_top (y := spAt v (nI i)) (spAt_fzH) ?_
        refine lv_if_ne (tgt := 75) hx hb dX5_freeze_65 (by decide) (fun c3 => ?_) (fun c3 => ?_)
        · refine lv_iinc (v := nI (i + 1)) (lv' := [(2, .int (nI (i + 1))), (1, .int (frostN v)), (0, .ref (ad g (9, r, 0)))]) hx hb dX5_freeze_75 hl (k := 0) rfl (nI_1 _) (by decide) rfl (fun ls hl => ?_)
          refine lv_goto (tgt := 37) hx hb dX5_freeze_78 (by decide) ?_
          exact IH H locs ls (hP.castR (if_neg (fun q => q.elim c1 (fun q => c3 q.2)))) hS (lv_sub hl [0, 1, 2] rfl) (trivial)
        · refine lv_aload_n hx hb dX5_freeze_68 rfl (lv_at hl 2 rfl) ?_
          refine m_get hC hE hP (k_9 hr) e_9 rfl u_5 3 (by decide) w_637 rfl rfl dX5_freeze_69 ?_
          refine lv_iload_n hx hb dX5_freeze_72 rfl (lv_at hl 0 rfl) ?_
          refine lv_iconst (v := 0) hx hb dX5_freeze_73 (by decide) ?_
          refine m_iast hC hE hI hP hS (k_4p hr rfl) e_4 i (rfl) (show i < 12 from by omega) (by decide) p_4 (ent_put g M r (fzH v i) o 5 i (0 : Int32) (kf_4m hr (by decide))) dX5_freeze_74 (fun H locs hP hS => ?_)
          refine lv_iinc (v := nI (i + 1)) (lv' := [(2, .int (nI (i + 1))), (1, .int (frostN v)), (0, .ref (ad g (9, r, 0)))]) hx hb dX5_freeze_75 hl (k := 0) rfl (nI_1 _) (by decide) rfl (fun ls hl => ?_)
          refine lv_goto (tgt := 37) hx hb dX5_freeze_78 (by decide) ?_
          exact IH H locs ls (hP.castR (if_pos (Or.inr ⟨Int32.not_le.mp c2, c3⟩))) hS (lv_sub hl [0, 1, 2] rfl) (trivial)
set_option maxHeartbeats 4000000 in
set_option maxRecDepth 100000 in
theorem c_sum0 (l : Launch) {g : Gm} (hI : IJ g KK) {M : Mem} {o : Nat → Int64} {r : Nat} (hr : r = 2 ∨ r = 3) {v : Vw} (n : Nat) (hn9 : n ≤ alen 0) : MI l yX5_sum cX5_sum 5 .int (rm 0 0) g KK (ent g (setR M r v) o) [.ref (ad g (9, r, 0)), .ref (ad g (4, r, 0)), .int (nI n)] (sumI (v 0) n) (ent g (setR M r v) o) := by
  refine met_of (by decide +kernel) (Nat.le_of_ble_eq_true rfl) ?_
  intro p e s m below meth c ls hC hr_ hlk hnm hE hP hS hl
  obtain ⟨hx, hb, hml, hown, hG⟩ := id hC
  have hl : lv_has ls 5 [(0, .ref (ad g (9, r, 0))), (1, .ref (ad g (4, r, 0))), (2, .int (nI n))] := hl
  have hn8 : n ≤ 81 := hn9
  refine lv_iconst (v := 0) hx hb dX5_sum_0 (by decide) ?_
  refine lv_istore_n (lv' := [(3, .int ((0 : Int32))), (0, .ref (ad g (9, r, 0))), (1, .ref (ad g (4, r, 0))), (2, .int (nI n))]) hx hb dX5_sum_1 rfl hl (by decide) rfl (fun ls hl => ?_)
  refine lv_iconst (v := 0) hx hb dX5_sum_2 (by decide) ?_
  refine lv_istore (lv' := [(4, .int ((0 : Int32))), (3, .int ((0 : Int32))), (0, .ref (ad g (9, r, 0))), (1, .ref (ad g (4, r, 0))), (2, .int (nI n))]) hx hb dX5_sum_3 hl (by decide) rfl (fun ls hl => ?_)
  refine lp_W (i0 := 0) n (fun i => ent g (setR M r v) o) (fun i => [(4, .int (nI i)), (3, .int (sumI (v 0) i)), (0, .ref (ad g (9, r, 0))), (1, .ref (ad g (4, r, 0))), (2, .int (nI n))]) (fun i => True) (Nat.zero_le _) (hP.castR (rfl)) hS (lv_sub hl [0, 1, 2, 3, 4] rfl) (trivial) (fun H locs ls hP hS hl J => ?_) (fun i hi IH H locs ls hP hS hl J => ?_)
  · refine lv_iload hx hb dX5_sum_5 (lv_at hl 0 rfl) ?_
    refine lv_iload_n hx hb dX5_sum_7 rfl (lv_at hl 4 rfl) ?_
    refine lv_icmp_ge (tgt := 24) hx hb dX5_sum_8 (by decide) (fun c1 => ?_) (fun c1 => absurd (nI_le (Nat.le_refl _) (by omega)) c1)
    refine lv_iload_n hx hb dX5_sum_24 rfl (lv_at hl 1 rfl) ?_
    exact m_iret hC hr_ hlk hS (hP.castR (rfl)) rfl (rfl) dX5_sum_25
  · refine lv_iload hx hb dX5_sum_5 (lv_at hl 0 rfl) ?_
    refine lv_iload_n hx hb dX5_sum_7 rfl (lv_at hl 4 rfl) ?_
    refine lv_icmp_ge (tgt := 24) hx hb dX5_sum_8 (by decide) (fun c2 => absurd c2 (nI_ge hi (by omega))) (fun c2 => ?_)
    refine lv_iload_n hx hb dX5_sum_11 rfl (lv_at hl 1 rfl) ?_
    refine lv_aload_n hx hb dX5_sum_12 rfl (lv_at hl 3 rfl) ?_
    refine lv_iload hx hb dX5_sum_13 (lv_at hl 0 rfl) ?_
    refine m_iald hC hE hP (k_4p hr rfl) e_4 i (rfl) (show i < 81 from by omega) (by decide) dX5_sum_15 ?_
    refine lv_iadd hx hb dX5_sum_16 ?_
    refine lv_istore_n (lv' := [(3, .int ((sumI (v 0) i) + (v 0 i))), (4, .int (nI i)), (0, .ref (ad g (9, r, 0))), (1, .ref (ad g (4, r, 0))), (2, .int (nI n))]) hx hb dX5_sum_17 rfl hl (by decide) rfl (fun ls hl => ?_)
    refine lv_iinc (v := nI (i + 1)) (lv' := [(4, .int (nI (i + 1))), (3, .int ((sumI (v 0) i) + (v 0 i))), (0, .ref (ad g (9, r, 0))), (1, .ref (ad g (4, r, 0))), (2, .int (nI n))]) hx hb dX5_sum_18 hl (k := 1) rfl (nI_1 _) (by decide) rfl (fun ls hl => ?_)
    refine lv_goto (tgt := 5) hx hb dX5_sum_21 (by decide) ?_
    exact IH H locs ls (hP.castR (rfl)) hS (lv_sub hl [0, 1, 2, 3, 4] rfl) (trivial)
set_option maxHeartbeats 4000000 in
set_option maxRecDepth 100000 in
theorem c_sum5 (l : Launch) {g : Gm} (hI : IJ g KK) {M : Mem} {o : Nat → Int64} {r : Nat} (hr : r = 2 ∨ r = 3) {v : Vw} (n : Nat) (hn9 : n ≤ alen 5) : MI l yX5_sum cX5_sum 5 .int (rm 0 0) g KK (ent g (setR M r v) o) [.ref (ad g (9, r, 0)), .ref (ad g (4, r, 5)), .int (nI n)] (sumI (v 5) n) (ent g (setR M r v) o) := by
  refine met_of (by decide +kernel) (Nat.le_of_ble_eq_true rfl) ?_
  intro p e s m below meth c ls hC hr_ hlk hnm hE hP hS hl
  obtain ⟨hx, hb, hml, hown, hG⟩ := id hC
  have hl : lv_has ls 5 [(0, .ref (ad g (9, r, 0))), (1, .ref (ad g (4, r, 5))), (2, .int (nI n))] := hl
  have hn8 : n ≤ 12 := hn9
  refine lv_iconst (v := 0) hx hb dX5_sum_0 (by decide) ?_
  refine lv_istore_n (lv' := [(3, .int ((0 : Int32))), (0, .ref (ad g (9, r, 0))), (1, .ref (ad g (4, r, 5))), (2, .int (nI n))]) hx hb dX5_sum_1 rfl hl (by decide) rfl (fun ls hl => ?_)
  refine lv_iconst (v := 0) hx hb dX5_sum_2 (by decide) ?_
  refine lv_istore (lv' := [(4, .int ((0 : Int32))), (3, .int ((0 : Int32))), (0, .ref (ad g (9, r, 0))), (1, .ref (ad g (4, r, 5))), (2, .int (nI n))]) hx hb dX5_sum_3 hl (by decide) rfl (fun ls hl => ?_)
  refine lp_W (i0 := 0) n (fun i => ent g (setR M r v) o) (fun i => [(4, .int (nI i)), (3, .int (sumI (v 5) i)), (0, .ref (ad g (9, r, 0))), (1, .ref (ad g (4, r, 5))), (2, .int (nI n))]) (fun i => True) (Nat.zero_le _) (hP.castR (rfl)) hS (lv_sub hl [0, 1, 2, 3, 4] rfl) (trivial) (fun H locs ls hP hS hl J => ?_) (fun i hi IH H locs ls hP hS hl J => ?_)
  · refine lv_iload hx hb dX5_sum_5 (lv_at hl 0 rfl) ?_
    refine lv_iload_n hx hb dX5_sum_7 rfl (lv_at hl 4 rfl) ?_
    refine lv_icmp_ge (tgt := 24) hx hb dX5_sum_8 (by decide) (fun c1 => ?_) (fun c1 => absurd (nI_le (Nat.le_refl _) (by omega)) c1)
    refine lv_iload_n hx hb dX5_sum_24 rfl (lv_at hl 1 rfl) ?_
    exact m_iret hC hr_ hlk hS (hP.castR (rfl)) rfl (rfl) dX5_sum_25
  · refine lv_iload hx hb dX5_sum_5 (lv_at hl 0 rfl) ?_
    refine lv_iload_n hx hb dX5_sum_7 rfl (lv_at hl 4 rfl) ?_
    refine lv_icmp_ge (tgt := 24) hx hb dX5_sum_8 (by decide) (fun c2 => absurd c2 (nI_ge hi (by omega))) (fun c2 => ?_)
    refine lv_iload_n hx hb dX5_sum_11 rfl (lv_at hl 1 rfl) ?_
    refine lv_aload_n hx hb dX5_sum_12 rfl (lv_at hl 3 rfl) ?_
    refine lv_iload hx hb dX5_sum_13 (lv_at hl 0 rfl) ?_
    refine m_iald hC hE hP (k_4p hr rfl) e_4 i (rfl) (show i < 12 from by omega) (by decide) dX5_sum_15 ?_
    refine lv_iadd hx hb dX5_sum_16 ?_
    refine lv_istore_n (lv' := [(3, .int ((sumI (v 5) i) + (v 5 i))), (4, .int (nI i)), (0, .ref (ad g (9, r, 0))), (1, .ref (ad g (4, r, 5))), (2, .int (nI n))]) hx hb dX5_sum_17 rfl hl (by decide) rfl (fun ls hl => ?_)
    refine lv_iinc (v := nI (i + 1)) (lv' := [(4, .int (nI (i + 1))), (3, .int ((sumI (v 5) i) + (v 5 i))), (0, .ref (ad g (9, r, 0))), (1, .ref (ad g (4, r, 5))), (2, .int (nI n))]) hx hb dX5_sum_18 hl (k := 1) rfl (nI_1 _) (by decide) rfl (fun ls hl => ?_)
    refine lv_goto (tgt := 5) hx hb dX5_sum_21 (by decide) ?_
    exact IH H locs ls (hP.castR (rfl)) hS (lv_sub hl [0, 1, 2, 3, 4] rfl) (trivial)
set_option maxHeartbeats 4000000 in
set_option maxRecDepth 100000 in
theorem c_sum9 (l : Launch) {g : Gm} (hI : IJ g KK) {M : Mem} {o : Nat → Int64} {r : Nat} (hr : r = 2 ∨ r = 3) {v : Vw} (n : Nat) (hn9 : n ≤ alen 9) : MI l yX5_sum cX5_sum 5 .int (rm 0 0) g KK (ent g (setR M r v) o) [.ref (ad g (9, r, 0)), .ref (ad g (4, r, 9)), .int (nI n)] (sumI (v 9) n) (ent g (setR M r v) o) := by
  refine met_of (by decide +kernel) (Nat.le_of_ble_eq_true rfl) ?_
  intro p e s m below meth c ls hC hr_ hlk hnm hE hP hS hl
  obtain ⟨hx, hb, hml, hown, hG⟩ := id hC
  have hl : lv_has ls 5 [(0, .ref (ad g (9, r, 0))), (1, .ref (ad g (4, r, 9))), (2, .int (nI n))] := hl
  have hn8 : n ≤ 8 := hn9
  refine lv_iconst (v := 0) hx hb dX5_sum_0 (by decide) ?_
  refine lv_istore_n (lv' := [(3, .int ((0 : Int32))), (0, .ref (ad g (9, r, 0))), (1, .ref (ad g (4, r, 9))), (2, .int (nI n))]) hx hb dX5_sum_1 rfl hl (by decide) rfl (fun ls hl => ?_)
  refine lv_iconst (v := 0) hx hb dX5_sum_2 (by decide) ?_
  refine lv_istore (lv' := [(4, .int ((0 : Int32))), (3, .int ((0 : Int32))), (0, .ref (ad g (9, r, 0))), (1, .ref (ad g (4, r, 9))), (2, .int (nI n))]) hx hb dX5_sum_3 hl (by decide) rfl (fun ls hl => ?_)
  refine lp_W (i0 := 0) n (fun i => ent g (setR M r v) o) (fun i => [(4, .int (nI i)), (3, .int (sumI (v 9) i)), (0, .ref (ad g (9, r, 0))), (1, .ref (ad g (4, r, 9))), (2, .int (nI n))]) (fun i => True) (Nat.zero_le _) (hP.castR (rfl)) hS (lv_sub hl [0, 1, 2, 3, 4] rfl) (trivial) (fun H locs ls hP hS hl J => ?_) (fun i hi IH H locs ls hP hS hl J => ?_)
  · refine lv_iload hx hb dX5_sum_5 (lv_at hl 0 rfl) ?_
    refine lv_iload_n hx hb dX5_sum_7 rfl (lv_at hl 4 rfl) ?_
    refine lv_icmp_ge (tgt := 24) hx hb dX5_sum_8 (by decide) (fun c1 => ?_) (fun c1 => absurd (nI_le (Nat.le_refl _) (by omega)) c1)
    refine lv_iload_n hx hb dX5_sum_24 rfl (lv_at hl 1 rfl) ?_
    exact m_iret hC hr_ hlk hS (hP.castR (rfl)) rfl (rfl) dX5_sum_25
  · refine lv_iload hx hb dX5_sum_5 (lv_at hl 0 rfl) ?_
    refine lv_iload_n hx hb dX5_sum_7 rfl (lv_at hl 4 rfl) ?_
    refine lv_icmp_ge (tgt := 24) hx hb dX5_sum_8 (by decide) (fun c2 => absurd c2 (nI_ge hi (by omega))) (fun c2 => ?_)
    refine lv_iload_n hx hb dX5_sum_11 rfl (lv_at hl 1 rfl) ?_
    refine lv_aload_n hx hb dX5_sum_12 rfl (lv_at hl 3 rfl) ?_
    refine lv_iload hx hb dX5_sum_13 (lv_at hl 0 rfl) ?_
    refine m_iald hC hE hP (k_4p hr rfl) e_4 i (rfl) (show i < 8 from by omega) (by decide) dX5_sum_15 ?_
    refine lv_iadd hx hb dX5_sum_16 ?_
    refine lv_istore_n (lv' := [(3, .int ((sumI (v 9) i) + (v 9 i))), (4, .int (nI i)), (0, .ref (ad g (9, r, 0))), (1, .ref (ad g (4, r, 9))), (2, .int (nI n))]) hx hb dX5_sum_17 rfl hl (by decide) rfl (fun ls hl => ?_)
    refine lv_iinc (v := nI (i + 1)) (lv' := [(4, .int (nI (i + 1))), (3, .int ((sumI (v 9) i) + (v 9 i))), (0, .ref (ad g (9, r, 0))), (1, .ref (ad g (4, r, 9))), (2, .int (nI n))]) hx hb dX5_sum_18 hl (k := 1) rfl (nI_1 _) (by decide) rfl (fun ls hl => ?_)
    refine lv_goto (tgt := 5) hx hb dX5_sum_21 (by decide) ?_
    exact IH H locs ls (hP.castR (rfl)) hS (lv_sub hl [0, 1, 2, 3, 4] rfl) (trivial)
set_option maxHeartbeats 4000000 in
set_option maxRecDepth 100000 in
theorem c_sum10 (l : Launch) {g : Gm} (hI : IJ g KK) {M : Mem} {o : Nat → Int64} {r : Nat} (hr : r = 2 ∨ r = 3) {v : Vw} (n : Nat) (hn9 : n ≤ alen 10) : MI l yX5_sum cX5_sum 5 .int (rm 0 0) g KK (ent g (setR M r v) o) [.ref (ad g (9, r, 0)), .ref (ad g (4, r, 10)), .int (nI n)] (sumI (v 10) n) (ent g (setR M r v) o) := by
  refine met_of (by decide +kernel) (Nat.le_of_ble_eq_true rfl) ?_
  intro p e s m below meth c ls hC hr_ hlk hnm hE hP hS hl
  obtain ⟨hx, hb, hml, hown, hG⟩ := id hC
  have hl : lv_has ls 5 [(0, .ref (ad g (9, r, 0))), (1, .ref (ad g (4, r, 10))), (2, .int (nI n))] := hl
  have hn8 : n ≤ 8 := hn9
  refine lv_iconst (v := 0) hx hb dX5_sum_0 (by decide) ?_
  refine lv_istore_n (lv' := [(3, .int ((0 : Int32))), (0, .ref (ad g (9, r, 0))), (1, .ref (ad g (4, r, 10))), (2, .int (nI n))]) hx hb dX5_sum_1 rfl hl (by decide) rfl (fun ls hl => ?_)
  refine lv_iconst (v := 0) hx hb dX5_sum_2 (by decide) ?_
  refine lv_istore (lv' := [(4, .int ((0 : Int32))), (3, .int ((0 : Int32))), (0, .ref (ad g (9, r, 0))), (1, .ref (ad g (4, r, 10))), (2, .int (nI n))]) hx hb dX5_sum_3 hl (by decide) rfl (fun ls hl => ?_)
  refine lp_W (i0 := 0) n (fun i => ent g (setR M r v) o) (fun i => [(4, .int (nI i)), (3, .int (sumI (v 10) i)), (0, .ref (ad g (9, r, 0))), (1, .ref (ad g (4, r, 10))), (2, .int (nI n))]) (fun i => True) (Nat.zero_le _) (hP.castR (rfl)) hS (lv_sub hl [0, 1, 2, 3, 4] rfl) (trivial) (fun H locs ls hP hS hl J => ?_) (fun i hi IH H locs ls hP hS hl J => ?_)
  · refine lv_iload hx hb dX5_sum_5 (lv_at hl 0 rfl) ?_
    refine lv_iload_n hx hb dX5_sum_7 rfl (lv_at hl 4 rfl) ?_
    refine lv_icmp_ge (tgt := 24) hx hb dX5_sum_8 (by decide) (fun c1 => ?_) (fun c1 => absurd (nI_le (Nat.le_refl _) (by omega)) c1)
    refine lv_iload_n hx hb dX5_sum_24 rfl (lv_at hl 1 rfl) ?_
    exact m_iret hC hr_ hlk hS (hP.castR (rfl)) rfl (rfl) dX5_sum_25
  · refine lv_iload hx hb dX5_sum_5 (lv_at hl 0 rfl) ?_
    refine lv_iload_n hx hb dX5_sum_7 rfl (lv_at hl 4 rfl) ?_
    refine lv_icmp_ge (tgt := 24) hx hb dX5_sum_8 (by decide) (fun c2 => absurd c2 (nI_ge hi (by omega))) (fun c2 => ?_)
    refine lv_iload_n hx hb dX5_sum_11 rfl (lv_at hl 1 rfl) ?_
    refine lv_aload_n hx hb dX5_sum_12 rfl (lv_at hl 3 rfl) ?_
    refine lv_iload hx hb dX5_sum_13 (lv_at hl 0 rfl) ?_
    refine m_iald hC hE hP (k_4p hr rfl) e_4 i (rfl) (show i < 8 from by omega) (by decide) dX5_sum_15 ?_
    refine lv_iadd hx hb dX5_sum_16 ?_
    refine lv_istore_n (lv' := [(3, .int ((sumI (v 10) i) + (v 10 i))), (4, .int (nI i)), (0, .ref (ad g (9, r, 0))), (1, .ref (ad g (4, r, 10))), (2, .int (nI n))]) hx hb dX5_sum_17 rfl hl (by decide) rfl (fun ls hl => ?_)
    refine lv_iinc (v := nI (i + 1)) (lv' := [(4, .int (nI (i + 1))), (3, .int ((sumI (v 10) i) + (v 10 i))), (0, .ref (ad g (9, r, 0))), (1, .ref (ad g (4, r, 10))), (2, .int (nI n))]) hx hb dX5_sum_18 hl (k := 1) rfl (nI_1 _) (by decide) rfl (fun ls hl => ?_)
    refine lv_goto (tgt := 5) hx hb dX5_sum_21 (by decide) ?_
    exact IH H locs ls (hP.castR (rfl)) hS (lv_sub hl [0, 1, 2, 3, 4] rfl) (trivial)
set_option maxHeartbeats 4000000 in
set_option maxRecDepth 100000 in
theorem c_sum11 (l : Launch) {g : Gm} (hI : IJ g KK) {M : Mem} {o : Nat → Int64} {r : Nat} (hr : r = 2 ∨ r = 3) {v : Vw} (n : Nat) (hn9 : n ≤ alen 11) : MI l yX5_sum cX5_sum 5 .int (rm 0 0) g KK (ent g (setR M r v) o) [.ref (ad g (9, r, 0)), .ref (ad g (4, r, 11)), .int (nI n)] (sumI (v 11) n) (ent g (setR M r v) o) := by
  refine met_of (by decide +kernel) (Nat.le_of_ble_eq_true rfl) ?_
  intro p e s m below meth c ls hC hr_ hlk hnm hE hP hS hl
  obtain ⟨hx, hb, hml, hown, hG⟩ := id hC
  have hl : lv_has ls 5 [(0, .ref (ad g (9, r, 0))), (1, .ref (ad g (4, r, 11))), (2, .int (nI n))] := hl
  have hn8 : n ≤ 8 := hn9
  refine lv_iconst (v := 0) hx hb dX5_sum_0 (by decide) ?_
  refine lv_istore_n (lv' := [(3, .int ((0 : Int32))), (0, .ref (ad g (9, r, 0))), (1, .ref (ad g (4, r, 11))), (2, .int (nI n))]) hx hb dX5_sum_1 rfl hl (by decide) rfl (fun ls hl => ?_)
  refine lv_iconst (v := 0) hx hb dX5_sum_2 (by decide) ?_
  refine lv_istore (lv' := [(4, .int ((0 : Int32))), (3, .int ((0 : Int32))), (0, .ref (ad g (9, r, 0))), (1, .ref (ad g (4, r, 11))), (2, .int (nI n))]) hx hb dX5_sum_3 hl (by decide) rfl (fun ls hl => ?_)
  refine lp_W (i0 := 0) n (fun i => ent g (setR M r v) o) (fun i => [(4, .int (nI i)), (3, .int (sumI (v 11) i)), (0, .ref (ad g (9, r, 0))), (1, .ref (ad g (4, r, 11))), (2, .int (nI n))]) (fun i => True) (Nat.zero_le _) (hP.castR (rfl)) hS (lv_sub hl [0, 1, 2, 3, 4] rfl) (trivial) (fun H locs ls hP hS hl J => ?_) (fun i hi IH H locs ls hP hS hl J => ?_)
  · refine lv_iload hx hb dX5_sum_5 (lv_at hl 0 rfl) ?_
    refine lv_iload_n hx hb dX5_sum_7 rfl (lv_at hl 4 rfl) ?_
    refine lv_icmp_ge (tgt := 24) hx hb dX5_sum_8 (by decide) (fun c1 => ?_) (fun c1 => absurd (nI_le (Nat.le_refl _) (by omega)) c1)
    refine lv_iload_n hx hb dX5_sum_24 rfl (lv_at hl 1 rfl) ?_
    exact m_iret hC hr_ hlk hS (hP.castR (rfl)) rfl (rfl) dX5_sum_25
  · refine lv_iload hx hb dX5_sum_5 (lv_at hl 0 rfl) ?_
    refine lv_iload_n hx hb dX5_sum_7 rfl (lv_at hl 4 rfl) ?_
    refine lv_icmp_ge (tgt := 24) hx hb dX5_sum_8 (by decide) (fun c2 => absurd c2 (nI_ge hi (by omega))) (fun c2 => ?_)
    refine lv_iload_n hx hb dX5_sum_11 rfl (lv_at hl 1 rfl) ?_
    refine lv_aload_n hx hb dX5_sum_12 rfl (lv_at hl 3 rfl) ?_
    refine lv_iload hx hb dX5_sum_13 (lv_at hl 0 rfl) ?_
    refine m_iald hC hE hP (k_4p hr rfl) e_4 i (rfl) (show i < 8 from by omega) (by decide) dX5_sum_15 ?_
    refine lv_iadd hx hb dX5_sum_16 ?_
    refine lv_istore_n (lv' := [(3, .int ((sumI (v 11) i) + (v 11 i))), (4, .int (nI i)), (0, .ref (ad g (9, r, 0))), (1, .ref (ad g (4, r, 11))), (2, .int (nI n))]) hx hb dX5_sum_17 rfl hl (by decide) rfl (fun ls hl => ?_)
    refine lv_iinc (v := nI (i + 1)) (lv' := [(4, .int (nI (i + 1))), (3, .int ((sumI (v 11) i) + (v 11 i))), (0, .ref (ad g (9, r, 0))), (1, .ref (ad g (4, r, 11))), (2, .int (nI n))]) hx hb dX5_sum_18 hl (k := 1) rfl (nI_1 _) (by decide) rfl (fun ls hl => ?_)
    refine lv_goto (tgt := 5) hx hb dX5_sum_21 (by decide) ?_
    exact IH H locs ls (hP.castR (rfl)) hS (lv_sub hl [0, 1, 2, 3, 4] rfl) (trivial)
set_option maxHeartbeats 4000000 in
set_option maxRecDepth 100000 in
theorem c_countM (l : Launch) {g : Gm} (hI : IJ g KK) {M : Mem} {o : Nat → Int64} {r : Nat} (hr : r = 2 ∨ r = 3) {v : Vw} (hsh : Sh M r v) (hv : Inv v) (q : Int32) : MI l yX5_count cX5_count 2 .int (rm 1 24) g KK (ent g (setR M r v) o) [.ref (ad g (9, r, 0)), .int (q)] (factF v q) (ent g (setR M r v) o) := by
  refine met_of (by decide +kernel) (Nat.le_of_ble_eq_true rfl) ?_
  intro p e s m below meth c ls hC hr_ hlk hnm hE hP hS hl
  obtain ⟨hx, hb, hml, hown, hG⟩ := id hC
  have hl : lv_has ls 2 [(0, .ref (ad g (9, r, 0))), (1, .int (q))] := hl
  have qH := hv.lH
  have qS := hv.lS
  have qW := hv.lW
  refine lv_iload_n hx hb dX5_count_0 rfl (lv_at hl 1 rfl) ?_
  rcases sw_8 q with e0 | e0 | e0 | e0 | e0 | e0 | e0 | e0 | ⟨d0, d1, d2, d3, d4, d5, d6, d7, e0⟩
  · refine lv_tableIn (off := 47) (tgt := 48) hx hb dX5_count_1 (by rw [e0]; decide) (by rw [e0]; decide) (by rw [e0]; decide) (by decide) ?_
    refine lv_aload_n hx hb dX5_count_48 rfl (lv_at hl 0 rfl) ?_
    refine m_get hC hE hP (k_9 hr) e_9 rfl u_5 0 (by decide) w_631 rfl rfl dX5_count_49 ?_
    exact m_iret hC hr_ hlk hS (hP.castR (rfl)) rfl (by unfold factF; rw [e0]; rfl) dX5_count_52
  · refine lv_tableIn (off := 52) (tgt := 53) hx hb dX5_count_1 (by rw [e0]; decide) (by rw [e0]; decide) (by rw [e0]; decide) (by decide) ?_
    refine lv_aload_n hx hb dX5_count_53 rfl (lv_at hl 0 rfl) ?_
    refine m_get hC hE hP (k_9 hr) e_9 rfl u_5 1 (by decide) w_633 rfl rfl dX5_count_54 ?_
    exact m_iret hC hr_ hlk hS (hP.castR (rfl)) rfl (by unfold factF; rw [e0]; rfl) dX5_count_57
  · refine lv_tableIn (off := 57) (tgt := 58) hx hb dX5_count_1 (by rw [e0]; decide) (by rw [e0]; decide) (by rw [e0]; decide) (by decide) ?_
    refine lv_aload_n hx hb dX5_count_58 rfl (lv_at hl 0 rfl) ?_
    refine m_get hC hE hP (k_9 hr) e_9 rfl u_5 1 (by decide) w_633 rfl rfl dX5_count_59 ?_
    refine lv_iconst (v := 5) hx hb dX5_count_62 (by decide) ?_
    refine lv_icmp_ge (tgt := 70) hx hb dX5_count_63 (by decide) (fun c1 => ?_) (fun c1 => ?_)
    · refine lv_iconst (v := 1) hx hb dX5_count_70 (by decide) ?_
      exact m_iret hC hr_ hlk hS (hP.castR (rfl)) rfl (by first | (unfold factF; rw [e0]; show _ = b2i (bear (v 16 3)); rw [not_bear, if_neg (Int32.not_lt.mpr c1)]) | (unfold factF; rw [e0]; show _ = b2i (bear (v 16 3)); rw [not_bear, if_pos (Int32.not_le.mp c1)])) dX5_count_71
    · refine lv_iconst (v := 0) hx hb dX5_count_66 (by decide) ?_
      refine lv_goto (tgt := 71) hx hb dX5_count_67 (by decide) ?_
      exact m_iret hC hr_ hlk hS (hP.castR (rfl)) rfl (by first | (unfold factF; rw [e0]; show _ = b2i (bear (v 16 3)); rw [not_bear, if_neg (Int32.not_lt.mpr c1)]) | (unfold factF; rw [e0]; show _ = b2i (bear (v 16 3)); rw [not_bear, if_pos (Int32.not_le.mp c1)])) dX5_count_71
  · refine lv_tableIn (off := 71) (tgt := 72) hx hb dX5_count_1 (by rw [e0]; decide) (by rw [e0]; decide) (by rw [e0]; decide) (by decide) ?_
    refine lv_aload_n hx hb dX5_count_72 rfl (lv_at hl 0 rfl) ?_
    refine lv_aload_n hx hb dX5_count_73 rfl (lv_at hl 0 rfl) ?_
    refine m_get hC hE hP (k_9 hr) e_9 rfl u_5 2 (by decide) w_635 rfl rfl dX5_count_74 ?_
    refine lv_bipush (v := 81) hx hb dX5_count_77 (by decide) ?_
    refine on_i (run_V hC hE hP hS (As := [.ref (ad g (4, r, 0)), .int ((81 : Int32))]) (c_sum0 l hI hr (v := v) 81 (show 81 ≤ 81 from by omega)) cal_X5_sum w_846 ⟨Nat.le_of_ble_eq_true rfl, Nat.le_of_ble_eq_true rfl⟩ (k_9 hr) e_9 rfl rfl rfl (Nat.le_of_ble_eq_true rfl) hl.1 ⟨Nat.le_of_ble_eq_true rfl, Nat.le_of_ble_eq_true rfl⟩ dX5_count_79) hS (fun H locs hP hS => ?_)
    exact m_iret hC hr_ hlk hS (hP.castR (rfl)) rfl (by unfold factF; rw [e0]; rfl) dX5_count_82
  · refine lv_tableIn (off := 82) (tgt := 83) hx hb dX5_count_1 (by rw [e0]; decide) (by rw [e0]; decide) (by rw [e0]; decide) (by decide) ?_
    refine lv_aload_n hx hb dX5_count_83 rfl (lv_at hl 0 rfl) ?_
    refine m_get hC hE hP (k_9 hr) e_9 rfl u_5 11 (by decide) w_653 rfl rfl dX5_count_84 ?_
    refine m_getN hC hE hP k_10 f_10 rfl u_6 3 (by decide) n_685 rfl rfl dX5_count_87 ?_
    refine m_top (y := v 16 0) (hsh _ _ rfl) ?_
    exact m_iret hC hr_ hlk hS (hP.castR (rfl)) rfl (by unfold factF; rw [e0]; rfl) dX5_count_90
  · refine lv_tableIn (off := 90) (tgt := 91) hx hb dX5_count_1 (by rw [e0]; decide) (by rw [e0]; decide) (by rw [e0]; decide) (by decide) ?_
    refine lv_aload_n hx hb dX5_count_91 rfl (lv_at hl 0 rfl) ?_
    refine lv_aload_n hx hb dX5_count_92 rfl (lv_at hl 0 rfl) ?_
    refine m_get hC hE hP (k_9 hr) e_9 rfl u_5 3 (by decide) w_637 rfl rfl dX5_count_93 ?_
    refine lv_aload_n hx hb dX5_count_96 rfl (lv_at hl 0 rfl) ?_
    refine m_get hC hE hP (k_9 hr) e_9 rfl u_5 11 (by decide) w_653 rfl rfl dX5_count_97 ?_
    refine m_getN hC hE hP k_10 f_10 rfl u_6 3 (by decide) n_685 rfl rfl dX5_count_100 ?_
    refine m_top (y := v 16 0) (hsh _ _ rfl) ?_
    refine m_top (y := nI (nH v)) (hv.eH) ?_
    refine on_i (run_V hC hE hP hS (As := [.ref (ad g (4, r, 5)), .int (nI (nH v))]) (c_sum5 l hI hr (v := v) (nH v) (show (nH v) ≤ 12 from by omega)) cal_X5_sum w_846 ⟨Nat.le_of_ble_eq_true rfl, Nat.le_of_ble_eq_true rfl⟩ (k_9 hr) e_9 rfl rfl rfl (Nat.le_of_ble_eq_true rfl) hl.1 ⟨Nat.le_of_ble_eq_true rfl, Nat.le_of_ble_eq_true rfl⟩ dX5_count_103) hS (fun H locs hP hS => ?_)
    exact m_iret hC hr_ hlk hS (hP.castR (rfl)) rfl (by unfold factF; rw [e0]; rfl) dX5_count_106
  · refine lv_tableIn (off := 106) (tgt := 107) hx hb dX5_count_1 (by rw [e0]; decide) (by rw [e0]; decide) (by rw [e0]; decide) (by decide) ?_
    refine lv_aload_n hx hb dX5_count_107 rfl (lv_at hl 0 rfl) ?_
    refine m_get hC hE hP (k_9 hr) e_9 rfl u_5 11 (by decide) w_653 rfl rfl dX5_count_108 ?_
    refine m_getN hC hE hP k_10 f_10 rfl u_6 6 (by decide) n_690 rfl rfl dX5_count_111 ?_
    refine m_top (y := v 16 1) (hsh _ _ rfl) ?_
    exact m_iret hC hr_ hlk hS (hP.castR (rfl)) rfl (by unfold factF; rw [e0]; rfl) dX5_count_114
  · refine lv_tableIn (off := 114) (tgt := 115) hx hb dX5_count_1 (by rw [e0]; decide) (by rw [e0]; decide) (by rw [e0]; decide) (by decide) ?_
    refine lv_aload_n hx hb dX5_count_115 rfl (lv_at hl 0 rfl) ?_
    refine lv_aload_n hx hb dX5_count_116 rfl (lv_at hl 0 rfl) ?_
    refine m_get hC hE hP (k_9 hr) e_9 rfl u_5 6 (by decide) w_643 rfl rfl dX5_count_117 ?_
    refine lv_aload_n hx hb dX5_count_120 rfl (lv_at hl 0 rfl) ?_
    refine m_get hC hE hP (k_9 hr) e_9 rfl u_5 11 (by decide) w_653 rfl rfl dX5_count_121 ?_
    refine m_getN hC hE hP k_10 f_10 rfl u_6 6 (by decide) n_690 rfl rfl dX5_count_124 ?_
    refine m_top (y := v 16 1) (hsh _ _ rfl) ?_
    refine m_top (y := nI (nS v)) (hv.eS) ?_
    refine on_i (run_V hC hE hP hS (As := [.ref (ad g (4, r, 10)), .int (nI (nS v))]) (c_sum10 l hI hr (v := v) (nS v) (show (nS v) ≤ 8 from by omega)) cal_X5_sum w_846 ⟨Nat.le_of_ble_eq_true rfl, Nat.le_of_ble_eq_true rfl⟩ (k_9 hr) e_9 rfl rfl rfl (Nat.le_of_ble_eq_true rfl) hl.1 ⟨Nat.le_of_ble_eq_true rfl, Nat.le_of_ble_eq_true rfl⟩ dX5_count_127) hS (fun H locs hP hS => ?_)
    exact m_iret hC hr_ hlk hS (hP.castR (rfl)) rfl (by unfold factF; rw [e0]; rfl) dX5_count_130
  · refine lv_tableOut (tgt := 131) hx hb dX5_count_1 (e0) (by decide) ?_
    refine lv_aload_n hx hb dX5_count_131 rfl (lv_at hl 0 rfl) ?_
    refine lv_aload_n hx hb dX5_count_132 rfl (lv_at hl 0 rfl) ?_
    refine m_get hC hE hP (k_9 hr) e_9 rfl u_5 7 (by decide) w_645 rfl rfl dX5_count_133 ?_
    refine lv_aload_n hx hb dX5_count_136 rfl (lv_at hl 0 rfl) ?_
    refine m_get hC hE hP (k_9 hr) e_9 rfl u_5 11 (by decide) w_653 rfl rfl dX5_count_137 ?_
    refine m_getN hC hE hP k_10 f_10 rfl u_6 6 (by decide) n_690 rfl rfl dX5_count_140 ?_
    refine m_top (y := v 16 1) (hsh _ _ rfl) ?_
    refine m_top (y := nI (nS v)) (hv.eS) ?_
    refine on_i (run_V hC hE hP hS (As := [.ref (ad g (4, r, 11)), .int (nI (nS v))]) (c_sum11 l hI hr (v := v) (nS v) (show (nS v) ≤ 8 from by omega)) cal_X5_sum w_846 ⟨Nat.le_of_ble_eq_true rfl, Nat.le_of_ble_eq_true rfl⟩ (k_9 hr) e_9 rfl rfl rfl (Nat.le_of_ble_eq_true rfl) hl.1 ⟨Nat.le_of_ble_eq_true rfl, Nat.le_of_ble_eq_true rfl⟩ dX5_count_143) hS (fun H locs hP hS => ?_)
    exact m_iret hC hr_ hlk hS (hP.castR (rfl)) rfl (by unfold factF; rw [if_neg d0, if_neg d1, if_neg d2, if_neg d3, if_neg d4, if_neg d5, if_neg d6, if_neg d7]) dX5_count_146
def cpC (c n : Nat) (s v : Vw) : Vw := fun c' j => if c' = c then va_cpy (s c) (v c) 0 0 n j else v c' j
theorem cpC_same (c n : Nat) (s v : Vw) : cpC c n s v c = va_cpy (s c) (v c) 0 0 n := by funext j; simp [cpC]
theorem cpC_ne {c n : Nat} {s v : Vw} {c' : Nat} (h : c' ≠ c) : cpC c n s v c' = v c' := by funext j; simp [cpC, h]
theorem p_cp {g : Gm} {M : Mem} {r q c : Nat} {v : Vw} {o : Nat → Int64} (hne : q ≠ r) : ent g (setR M r (cpC c (alen c) (M q) v)) o (4, r, c) = .inl (gC g 0, alen c, .inl (va_cpy (setR M r v q c) (v c) 0 0 (alen c))) := by
  rw [e_4, cpC_same, setR_ne _ _ hne]
theorem q_cp {g : Gm} {M : Mem} {r q c : Nat} {v : Vw} {o : Nat → Int64} (hr : r = 2 ∨ r = 3) (hc : c < 16) : ∀ j, KK j → j ≠ (4, r, c) → ent g (setR M r (cpC c (alen c) (M q) v)) o j = ent g (setR M r v) o j := by
  intro j hj hne
  refine ent_congr fun r' c' i' hd => ?_
  by_cases h : r' = r
  · subst h
    rw [setR_same, setR_same]
    by_cases h2 : c' = c
    · subst h2
      exact absurd ((dep_key hj hd).trans (kf_4m hr hc)) hne
    · rw [cpC_ne h2]
  · rw [setR_ne _ _ h, setR_ne _ _ h]
theorem kq {q : Nat} {c : Nat} (hq : q = 2 ∨ q = 3) (hc : pv c = true) : KK (4, q, c) := k_4p hq hc
set_option maxHeartbeats 4000000 in
set_option maxRecDepth 100000 in
theorem c_copy0 (l : Launch) {g : Gm} (hI : IJ g KK) {M : Mem} {o : Nat → Int64} {r q : Nat} (hr : r = 2 ∨ r = 3) (hq : q = 2 ∨ q = 3) (hne : q ≠ r) {v : Vw} : MV l yX5_copy cX5_copy 3 (rm 1 40) g KK (ent g (setR M r v) o) [.ref (ad g (9, r, 0)), .ref (ad g (4, q, 0)), .ref (ad g (4, r, 0))] (ent g (setR M r (cpC 0 (alen 0) (M q) v)) o) := by
  refine met_of (by decide +kernel) (Nat.le_of_ble_eq_true rfl) ?_
  intro p e s m below meth c ls hC hr_ hlk hnm hE hP hS hl
  obtain ⟨hx, hb, hml, hown, hG⟩ := id hC
  have hl : lv_has ls 3 [(0, .ref (ad g (9, r, 0))), (1, .ref (ad g (4, q, 0))), (2, .ref (ad g (4, r, 0)))] := hl
  refine lv_aload_n hx hb dX5_copy_0 rfl (lv_at hl 1 rfl) ?_
  refine lv_iconst (v := 0) hx hb dX5_copy_1 (by decide) ?_
  refine lv_aload_n hx hb dX5_copy_2 rfl (lv_at hl 2 rfl) ?_
  refine lv_iconst (v := 0) hx hb dX5_copy_3 (by decide) ?_
  refine lv_aload_n hx hb dX5_copy_4 rfl (lv_at hl 1 rfl) ?_
  refine m_alen hC hE hP (k_4p hq rfl) f_4 rfl dX5_copy_5 ?_
  refine m_copy hC hE hI hP hS w_911 w_913 w_912 w_16 (k_4p hq rfl) (k_4p hr rfl) f_4 e_4 (by decide) hl.1 (by decide) (Nat.le_of_ble_eq_true rfl) (p_cp hne) (q_cp hr (by decide)) dX5_copy_6 (fun H locs hP hS => ?_)
  exact m_vret hC hr_ hlk hS (hP.castR (rfl)) dX5_copy_9
set_option maxHeartbeats 4000000 in
set_option maxRecDepth 100000 in
theorem c_copy5 (l : Launch) {g : Gm} (hI : IJ g KK) {M : Mem} {o : Nat → Int64} {r q : Nat} (hr : r = 2 ∨ r = 3) (hq : q = 2 ∨ q = 3) (hne : q ≠ r) {v : Vw} : MV l yX5_copy cX5_copy 3 (rm 1 40) g KK (ent g (setR M r v) o) [.ref (ad g (9, r, 0)), .ref (ad g (4, q, 5)), .ref (ad g (4, r, 5))] (ent g (setR M r (cpC 5 (alen 5) (M q) v)) o) := by
  refine met_of (by decide +kernel) (Nat.le_of_ble_eq_true rfl) ?_
  intro p e s m below meth c ls hC hr_ hlk hnm hE hP hS hl
  obtain ⟨hx, hb, hml, hown, hG⟩ := id hC
  have hl : lv_has ls 3 [(0, .ref (ad g (9, r, 0))), (1, .ref (ad g (4, q, 5))), (2, .ref (ad g (4, r, 5)))] := hl
  refine lv_aload_n hx hb dX5_copy_0 rfl (lv_at hl 1 rfl) ?_
  refine lv_iconst (v := 0) hx hb dX5_copy_1 (by decide) ?_
  refine lv_aload_n hx hb dX5_copy_2 rfl (lv_at hl 2 rfl) ?_
  refine lv_iconst (v := 0) hx hb dX5_copy_3 (by decide) ?_
  refine lv_aload_n hx hb dX5_copy_4 rfl (lv_at hl 1 rfl) ?_
  refine m_alen hC hE hP (k_4p hq rfl) f_4 rfl dX5_copy_5 ?_
  refine m_copy hC hE hI hP hS w_911 w_913 w_912 w_16 (k_4p hq rfl) (k_4p hr rfl) f_4 e_4 (by decide) hl.1 (by decide) (Nat.le_of_ble_eq_true rfl) (p_cp hne) (q_cp hr (by decide)) dX5_copy_6 (fun H locs hP hS => ?_)
  exact m_vret hC hr_ hlk hS (hP.castR (rfl)) dX5_copy_9
set_option maxHeartbeats 4000000 in
set_option maxRecDepth 100000 in
theorem c_copy8 (l : Launch) {g : Gm} (hI : IJ g KK) {M : Mem} {o : Nat → Int64} {r q : Nat} (hr : r = 2 ∨ r = 3) (hq : q = 2 ∨ q = 3) (hne : q ≠ r) {v : Vw} : MV l yX5_copy cX5_copy 3 (rm 1 40) g KK (ent g (setR M r v) o) [.ref (ad g (9, r, 0)), .ref (ad g (4, q, 8)), .ref (ad g (4, r, 8))] (ent g (setR M r (cpC 8 (alen 8) (M q) v)) o) := by
  refine met_of (by decide +kernel) (Nat.le_of_ble_eq_true rfl) ?_
  intro p e s m below meth c ls hC hr_ hlk hnm hE hP hS hl
  obtain ⟨hx, hb, hml, hown, hG⟩ := id hC
  have hl : lv_has ls 3 [(0, .ref (ad g (9, r, 0))), (1, .ref (ad g (4, q, 8))), (2, .ref (ad g (4, r, 8)))] := hl
  refine lv_aload_n hx hb dX5_copy_0 rfl (lv_at hl 1 rfl) ?_
  refine lv_iconst (v := 0) hx hb dX5_copy_1 (by decide) ?_
  refine lv_aload_n hx hb dX5_copy_2 rfl (lv_at hl 2 rfl) ?_
  refine lv_iconst (v := 0) hx hb dX5_copy_3 (by decide) ?_
  refine lv_aload_n hx hb dX5_copy_4 rfl (lv_at hl 1 rfl) ?_
  refine m_alen hC hE hP (k_4p hq rfl) f_4 rfl dX5_copy_5 ?_
  refine m_copy hC hE hI hP hS w_911 w_913 w_912 w_16 (k_4p hq rfl) (k_4p hr rfl) f_4 e_4 (by decide) hl.1 (by decide) (Nat.le_of_ble_eq_true rfl) (p_cp hne) (q_cp hr (by decide)) dX5_copy_6 (fun H locs hP hS => ?_)
  exact m_vret hC hr_ hlk hS (hP.castR (rfl)) dX5_copy_9
set_option maxHeartbeats 4000000 in
set_option maxRecDepth 100000 in
theorem c_copy9 (l : Launch) {g : Gm} (hI : IJ g KK) {M : Mem} {o : Nat → Int64} {r q : Nat} (hr : r = 2 ∨ r = 3) (hq : q = 2 ∨ q = 3) (hne : q ≠ r) {v : Vw} : MV l yX5_copy cX5_copy 3 (rm 1 40) g KK (ent g (setR M r v) o) [.ref (ad g (9, r, 0)), .ref (ad g (4, q, 9)), .ref (ad g (4, r, 9))] (ent g (setR M r (cpC 9 (alen 9) (M q) v)) o) := by
  refine met_of (by decide +kernel) (Nat.le_of_ble_eq_true rfl) ?_
  intro p e s m below meth c ls hC hr_ hlk hnm hE hP hS hl
  obtain ⟨hx, hb, hml, hown, hG⟩ := id hC
  have hl : lv_has ls 3 [(0, .ref (ad g (9, r, 0))), (1, .ref (ad g (4, q, 9))), (2, .ref (ad g (4, r, 9)))] := hl
  refine lv_aload_n hx hb dX5_copy_0 rfl (lv_at hl 1 rfl) ?_
  refine lv_iconst (v := 0) hx hb dX5_copy_1 (by decide) ?_
  refine lv_aload_n hx hb dX5_copy_2 rfl (lv_at hl 2 rfl) ?_
  refine lv_iconst (v := 0) hx hb dX5_copy_3 (by decide) ?_
  refine lv_aload_n hx hb dX5_copy_4 rfl (lv_at hl 1 rfl) ?_
  refine m_alen hC hE hP (k_4p hq rfl) f_4 rfl dX5_copy_5 ?_
  refine m_copy hC hE hI hP hS w_911 w_913 w_912 w_16 (k_4p hq rfl) (k_4p hr rfl) f_4 e_4 (by decide) hl.1 (by decide) (Nat.le_of_ble_eq_true rfl) (p_cp hne) (q_cp hr (by decide)) dX5_copy_6 (fun H locs hP hS => ?_)
  exact m_vret hC hr_ hlk hS (hP.castR (rfl)) dX5_copy_9
set_option maxHeartbeats 4000000 in
set_option maxRecDepth 100000 in
theorem c_copy10 (l : Launch) {g : Gm} (hI : IJ g KK) {M : Mem} {o : Nat → Int64} {r q : Nat} (hr : r = 2 ∨ r = 3) (hq : q = 2 ∨ q = 3) (hne : q ≠ r) {v : Vw} : MV l yX5_copy cX5_copy 3 (rm 1 40) g KK (ent g (setR M r v) o) [.ref (ad g (9, r, 0)), .ref (ad g (4, q, 10)), .ref (ad g (4, r, 10))] (ent g (setR M r (cpC 10 (alen 10) (M q) v)) o) := by
  refine met_of (by decide +kernel) (Nat.le_of_ble_eq_true rfl) ?_
  intro p e s m below meth c ls hC hr_ hlk hnm hE hP hS hl
  obtain ⟨hx, hb, hml, hown, hG⟩ := id hC
  have hl : lv_has ls 3 [(0, .ref (ad g (9, r, 0))), (1, .ref (ad g (4, q, 10))), (2, .ref (ad g (4, r, 10)))] := hl
  refine lv_aload_n hx hb dX5_copy_0 rfl (lv_at hl 1 rfl) ?_
  refine lv_iconst (v := 0) hx hb dX5_copy_1 (by decide) ?_
  refine lv_aload_n hx hb dX5_copy_2 rfl (lv_at hl 2 rfl) ?_
  refine lv_iconst (v := 0) hx hb dX5_copy_3 (by decide) ?_
  refine lv_aload_n hx hb dX5_copy_4 rfl (lv_at hl 1 rfl) ?_
  refine m_alen hC hE hP (k_4p hq rfl) f_4 rfl dX5_copy_5 ?_
  refine m_copy hC hE hI hP hS w_911 w_913 w_912 w_16 (k_4p hq rfl) (k_4p hr rfl) f_4 e_4 (by decide) hl.1 (by decide) (Nat.le_of_ble_eq_true rfl) (p_cp hne) (q_cp hr (by decide)) dX5_copy_6 (fun H locs hP hS => ?_)
  exact m_vret hC hr_ hlk hS (hP.castR (rfl)) dX5_copy_9
set_option maxHeartbeats 4000000 in
set_option maxRecDepth 100000 in
theorem c_copy11 (l : Launch) {g : Gm} (hI : IJ g KK) {M : Mem} {o : Nat → Int64} {r q : Nat} (hr : r = 2 ∨ r = 3) (hq : q = 2 ∨ q = 3) (hne : q ≠ r) {v : Vw} : MV l yX5_copy cX5_copy 3 (rm 1 40) g KK (ent g (setR M r v) o) [.ref (ad g (9, r, 0)), .ref (ad g (4, q, 11)), .ref (ad g (4, r, 11))] (ent g (setR M r (cpC 11 (alen 11) (M q) v)) o) := by
  refine met_of (by decide +kernel) (Nat.le_of_ble_eq_true rfl) ?_
  intro p e s m below meth c ls hC hr_ hlk hnm hE hP hS hl
  obtain ⟨hx, hb, hml, hown, hG⟩ := id hC
  have hl : lv_has ls 3 [(0, .ref (ad g (9, r, 0))), (1, .ref (ad g (4, q, 11))), (2, .ref (ad g (4, r, 11)))] := hl
  refine lv_aload_n hx hb dX5_copy_0 rfl (lv_at hl 1 rfl) ?_
  refine lv_iconst (v := 0) hx hb dX5_copy_1 (by decide) ?_
  refine lv_aload_n hx hb dX5_copy_2 rfl (lv_at hl 2 rfl) ?_
  refine lv_iconst (v := 0) hx hb dX5_copy_3 (by decide) ?_
  refine lv_aload_n hx hb dX5_copy_4 rfl (lv_at hl 1 rfl) ?_
  refine m_alen hC hE hP (k_4p hq rfl) f_4 rfl dX5_copy_5 ?_
  refine m_copy hC hE hI hP hS w_911 w_913 w_912 w_16 (k_4p hq rfl) (k_4p hr rfl) f_4 e_4 (by decide) hl.1 (by decide) (Nat.le_of_ble_eq_true rfl) (p_cp hne) (q_cp hr (by decide)) dX5_copy_6 (fun H locs hP hS => ?_)
  exact m_vret hC hr_ hlk hS (hP.castR (rfl)) dX5_copy_9
set_option maxHeartbeats 4000000 in
set_option maxRecDepth 100000 in
theorem c_copy12 (l : Launch) {g : Gm} (hI : IJ g KK) {M : Mem} {o : Nat → Int64} {r q : Nat} (hr : r = 2 ∨ r = 3) (hq : q = 2 ∨ q = 3) (hne : q ≠ r) {v : Vw} : MV l yX5_copy cX5_copy 3 (rm 1 40) g KK (ent g (setR M r v) o) [.ref (ad g (9, r, 0)), .ref (ad g (4, q, 12)), .ref (ad g (4, r, 12))] (ent g (setR M r (cpC 12 (alen 12) (M q) v)) o) := by
  refine met_of (by decide +kernel) (Nat.le_of_ble_eq_true rfl) ?_
  intro p e s m below meth c ls hC hr_ hlk hnm hE hP hS hl
  obtain ⟨hx, hb, hml, hown, hG⟩ := id hC
  have hl : lv_has ls 3 [(0, .ref (ad g (9, r, 0))), (1, .ref (ad g (4, q, 12))), (2, .ref (ad g (4, r, 12)))] := hl
  refine lv_aload_n hx hb dX5_copy_0 rfl (lv_at hl 1 rfl) ?_
  refine lv_iconst (v := 0) hx hb dX5_copy_1 (by decide) ?_
  refine lv_aload_n hx hb dX5_copy_2 rfl (lv_at hl 2 rfl) ?_
  refine lv_iconst (v := 0) hx hb dX5_copy_3 (by decide) ?_
  refine lv_aload_n hx hb dX5_copy_4 rfl (lv_at hl 1 rfl) ?_
  refine m_alen hC hE hP (k_4p hq rfl) f_4 rfl dX5_copy_5 ?_
  refine m_copy hC hE hI hP hS w_911 w_913 w_912 w_16 (k_4p hq rfl) (k_4p hr rfl) f_4 e_4 (by decide) hl.1 (by decide) (Nat.le_of_ble_eq_true rfl) (p_cp hne) (q_cp hr (by decide)) dX5_copy_6 (fun H locs hP hS => ?_)
  exact m_vret hC hr_ hlk hS (hP.castR (rfl)) dX5_copy_9
set_option maxHeartbeats 4000000 in
set_option maxRecDepth 100000 in
theorem c_copy13 (l : Launch) {g : Gm} (hI : IJ g KK) {M : Mem} {o : Nat → Int64} {r q : Nat} (hr : r = 2 ∨ r = 3) (hq : q = 2 ∨ q = 3) (hne : q ≠ r) {v : Vw} : MV l yX5_copy cX5_copy 3 (rm 1 40) g KK (ent g (setR M r v) o) [.ref (ad g (9, r, 0)), .ref (ad g (4, q, 13)), .ref (ad g (4, r, 13))] (ent g (setR M r (cpC 13 (alen 13) (M q) v)) o) := by
  refine met_of (by decide +kernel) (Nat.le_of_ble_eq_true rfl) ?_
  intro p e s m below meth c ls hC hr_ hlk hnm hE hP hS hl
  obtain ⟨hx, hb, hml, hown, hG⟩ := id hC
  have hl : lv_has ls 3 [(0, .ref (ad g (9, r, 0))), (1, .ref (ad g (4, q, 13))), (2, .ref (ad g (4, r, 13)))] := hl
  refine lv_aload_n hx hb dX5_copy_0 rfl (lv_at hl 1 rfl) ?_
  refine lv_iconst (v := 0) hx hb dX5_copy_1 (by decide) ?_
  refine lv_aload_n hx hb dX5_copy_2 rfl (lv_at hl 2 rfl) ?_
  refine lv_iconst (v := 0) hx hb dX5_copy_3 (by decide) ?_
  refine lv_aload_n hx hb dX5_copy_4 rfl (lv_at hl 1 rfl) ?_
  refine m_alen hC hE hP (k_4p hq rfl) f_4 rfl dX5_copy_5 ?_
  refine m_copy hC hE hI hP hS w_911 w_913 w_912 w_16 (k_4p hq rfl) (k_4p hr rfl) f_4 e_4 (by decide) hl.1 (by decide) (Nat.le_of_ble_eq_true rfl) (p_cp hne) (q_cp hr (by decide)) dX5_copy_6 (fun H locs hP hS => ?_)
  exact m_vret hC hr_ hlk hS (hP.castR (rfl)) dX5_copy_9
set_option maxHeartbeats 4000000 in
set_option maxRecDepth 100000 in
theorem c_copy15 (l : Launch) {g : Gm} (hI : IJ g KK) {M : Mem} {o : Nat → Int64} {r q : Nat} (hr : r = 2 ∨ r = 3) (hq : q = 2 ∨ q = 3) (hne : q ≠ r) {v : Vw} : MV l yX5_copy cX5_copy 3 (rm 1 40) g KK (ent g (setR M r v) o) [.ref (ad g (9, r, 0)), .ref (ad g (4, q, 15)), .ref (ad g (4, r, 15))] (ent g (setR M r (cpC 15 (alen 15) (M q) v)) o) := by
  refine met_of (by decide +kernel) (Nat.le_of_ble_eq_true rfl) ?_
  intro p e s m below meth c ls hC hr_ hlk hnm hE hP hS hl
  obtain ⟨hx, hb, hml, hown, hG⟩ := id hC
  have hl : lv_has ls 3 [(0, .ref (ad g (9, r, 0))), (1, .ref (ad g (4, q, 15))), (2, .ref (ad g (4, r, 15)))] := hl
  refine lv_aload_n hx hb dX5_copy_0 rfl (lv_at hl 1 rfl) ?_
  refine lv_iconst (v := 0) hx hb dX5_copy_1 (by decide) ?_
  refine lv_aload_n hx hb dX5_copy_2 rfl (lv_at hl 2 rfl) ?_
  refine lv_iconst (v := 0) hx hb dX5_copy_3 (by decide) ?_
  refine lv_aload_n hx hb dX5_copy_4 rfl (lv_at hl 1 rfl) ?_
  refine m_alen hC hE hP (k_4p hq rfl) f_4 rfl dX5_copy_5 ?_
  refine m_copy hC hE hI hP hS w_911 w_913 w_912 w_16 (k_4p hq rfl) (k_4p hr rfl) f_4 e_4 (by decide) hl.1 (by decide) (Nat.le_of_ble_eq_true rfl) (p_cp hne) (q_cp hr (by decide)) dX5_copy_6 (fun H locs hP hS => ?_)
  exact m_vret hC hr_ hlk hS (hP.castR (rfl)) dX5_copy_9
def bem (s v : Vw) : Vw := cpC 15 (alen 15) s (cpC 13 (alen 13) s (cpC 12 (alen 12) s (cpC 11 (alen 11) s (cpC 10 (alen 10) s (cpC 9 (alen 9) s (cpC 8 (alen 8) s (cpC 5 (alen 5) s (cpC 0 (alen 0) s (up2 (up2 v 16 4 (s 16 4)) 16 3 (s 16 3))))))))))
set_option maxHeartbeats 4000000 in
set_option maxRecDepth 100000 in
theorem c_becomeT (l : Launch) {g : Gm} (hI : IJ g KK) {M : Mem} {o : Nat → Int64} {r q : Nat} (hr : r = 2 ∨ r = 3) (hq : q = 2 ∨ q = 3) (hne : q ≠ r) {v : Vw} : MV l yX5_become cX5_become 2 (rm 2 62) g KK (ent g (setR M r v) o) [.ref (ad g (9, r, 0)), .ref (ad g (9, q, 0))] (ent g (setR M r (bem (M q) v)) o) := by
  refine met_of (by decide +kernel) (Nat.le_of_ble_eq_true rfl) ?_
  intro p e s m below meth c ls hC hr_ hlk hnm hE hP hS hl
  obtain ⟨hx, hb, hml, hown, hG⟩ := id hC
  have hl : lv_has ls 2 [(0, .ref (ad g (9, r, 0))), (1, .ref (ad g (9, q, 0)))] := hl
  refine lv_aload_n hx hb dX5_become_0 rfl (lv_at hl 0 rfl) ?_
  refine lv_aload_n hx hb dX5_become_1 rfl (lv_at hl 1 rfl) ?_
  refine m_get hC hE hP (k_9 hq) f_9 rfl u_5 0 (by decide) w_631 rfl rfl dX5_become_2 ?_
  refine m_top (y := M q 16 4) (by rw [setR_ne _ _ hne]) ?_
  refine m_put hC hE hI hP hS (k_9 hr) e_9 rfl u_5 tyX5_ok nmX5 0 (by decide) w_631 rfl rfl rfl rfl (Nat.le_of_ble_eq_true rfl) p_9_0 (ent_put g M r v o 16 4 (M q 16 4) (kf_9 hr (by decide))) dX5_become_5 (fun H locs hP hS => ?_)
  refine lv_aload_n hx hb dX5_become_8 rfl (lv_at hl 0 rfl) ?_
  refine lv_aload_n hx hb dX5_become_9 rfl (lv_at hl 1 rfl) ?_
  refine m_get hC hE hP (k_9 hq) f_9 rfl u_5 1 (by decide) w_633 rfl rfl dX5_become_10 ?_
  refine m_top (y := M q 16 3) (by rw [setR_ne _ _ hne]) ?_
  refine m_put hC hE hI hP hS (k_9 hr) e_9 rfl u_5 tyX5_ok nmX5 1 (by decide) w_633 rfl rfl rfl rfl (Nat.le_of_ble_eq_true rfl) p_9_1 (ent_put g M r (up2 v 16 4 (M q 16 4)) o 16 3 (M q 16 3) (kf_9 hr (by decide))) dX5_become_13 (fun H locs hP hS => ?_)
  refine lv_aload_n hx hb dX5_become_16 rfl (lv_at hl 0 rfl) ?_
  refine lv_aload_n hx hb dX5_become_17 rfl (lv_at hl 1 rfl) ?_
  refine m_get hC hE hP (k_9 hq) f_9 rfl u_5 2 (by decide) w_635 rfl rfl dX5_become_18 ?_
  refine lv_aload_n hx hb dX5_become_21 rfl (lv_at hl 0 rfl) ?_
  refine m_get hC hE hP (k_9 hr) e_9 rfl u_5 2 (by decide) w_635 rfl rfl dX5_become_22 ?_
  refine on_v (run_V hC hE hP hS (As := [.ref (ad g (4, q, 0)), .ref (ad g (4, r, 0))]) (c_copy0 l hI hr hq hne (v := up2 (up2 v 16 4 (M q 16 4)) 16 3 (M q 16 3))) cal_X5_copy w_907 ⟨Nat.le_of_ble_eq_true rfl, Nat.le_of_ble_eq_true rfl⟩ (k_9 hr) e_9 rfl rfl rfl (Nat.le_of_ble_eq_true rfl) hl.1 ⟨Nat.le_of_ble_eq_true rfl, Nat.le_of_ble_eq_true rfl⟩ dX5_become_25) hS (fun H locs hP hS => ?_)
  refine lv_aload_n hx hb dX5_become_28 rfl (lv_at hl 0 rfl) ?_
  refine lv_aload_n hx hb dX5_become_29 rfl (lv_at hl 1 rfl) ?_
  refine m_get hC hE hP (k_9 hq) f_9 rfl u_5 3 (by decide) w_637 rfl rfl dX5_become_30 ?_
  refine lv_aload_n hx hb dX5_become_33 rfl (lv_at hl 0 rfl) ?_
  refine m_get hC hE hP (k_9 hr) e_9 rfl u_5 3 (by decide) w_637 rfl rfl dX5_become_34 ?_
  refine on_v (run_V hC hE hP hS (As := [.ref (ad g (4, q, 5)), .ref (ad g (4, r, 5))]) (c_copy5 l hI hr hq hne (v := cpC 0 (alen 0) (M q) (up2 (up2 v 16 4 (M q 16 4)) 16 3 (M q 16 3)))) cal_X5_copy w_907 ⟨Nat.le_of_ble_eq_true rfl, Nat.le_of_ble_eq_true rfl⟩ (k_9 hr) e_9 rfl rfl rfl (Nat.le_of_ble_eq_true rfl) hl.1 ⟨Nat.le_of_ble_eq_true rfl, Nat.le_of_ble_eq_true rfl⟩ dX5_become_37) hS (fun H locs hP hS => ?_)
  refine lv_aload_n hx hb dX5_become_40 rfl (lv_at hl 0 rfl) ?_
  refine lv_aload_n hx hb dX5_become_41 rfl (lv_at hl 1 rfl) ?_
  refine m_get hC hE hP (k_9 hq) f_9 rfl u_5 4 (by decide) w_639 rfl rfl dX5_become_42 ?_
  refine lv_aload_n hx hb dX5_become_45 rfl (lv_at hl 0 rfl) ?_
  refine m_get hC hE hP (k_9 hr) e_9 rfl u_5 4 (by decide) w_639 rfl rfl dX5_become_46 ?_
  refine on_v (run_V hC hE hP hS (As := [.ref (ad g (4, q, 8)), .ref (ad g (4, r, 8))]) (c_copy8 l hI hr hq hne (v := cpC 5 (alen 5) (M q) (cpC 0 (alen 0) (M q) (up2 (up2 v 16 4 (M q 16 4)) 16 3 (M q 16 3))))) cal_X5_copy w_907 ⟨Nat.le_of_ble_eq_true rfl, Nat.le_of_ble_eq_true rfl⟩ (k_9 hr) e_9 rfl rfl rfl (Nat.le_of_ble_eq_true rfl) hl.1 ⟨Nat.le_of_ble_eq_true rfl, Nat.le_of_ble_eq_true rfl⟩ dX5_become_49) hS (fun H locs hP hS => ?_)
  refine lv_aload_n hx hb dX5_become_52 rfl (lv_at hl 0 rfl) ?_
  refine lv_aload_n hx hb dX5_become_53 rfl (lv_at hl 1 rfl) ?_
  refine m_get hC hE hP (k_9 hq) f_9 rfl u_5 5 (by decide) w_641 rfl rfl dX5_become_54 ?_
  refine lv_aload_n hx hb dX5_become_57 rfl (lv_at hl 0 rfl) ?_
  refine m_get hC hE hP (k_9 hr) e_9 rfl u_5 5 (by decide) w_641 rfl rfl dX5_become_58 ?_
  refine on_v (run_V hC hE hP hS (As := [.ref (ad g (4, q, 9)), .ref (ad g (4, r, 9))]) (c_copy9 l hI hr hq hne (v := cpC 8 (alen 8) (M q) (cpC 5 (alen 5) (M q) (cpC 0 (alen 0) (M q) (up2 (up2 v 16 4 (M q 16 4)) 16 3 (M q 16 3)))))) cal_X5_copy w_907 ⟨Nat.le_of_ble_eq_true rfl, Nat.le_of_ble_eq_true rfl⟩ (k_9 hr) e_9 rfl rfl rfl (Nat.le_of_ble_eq_true rfl) hl.1 ⟨Nat.le_of_ble_eq_true rfl, Nat.le_of_ble_eq_true rfl⟩ dX5_become_61) hS (fun H locs hP hS => ?_)
  refine lv_aload_n hx hb dX5_become_64 rfl (lv_at hl 0 rfl) ?_
  refine lv_aload_n hx hb dX5_become_65 rfl (lv_at hl 1 rfl) ?_
  refine m_get hC hE hP (k_9 hq) f_9 rfl u_5 6 (by decide) w_643 rfl rfl dX5_become_66 ?_
  refine lv_aload_n hx hb dX5_become_69 rfl (lv_at hl 0 rfl) ?_
  refine m_get hC hE hP (k_9 hr) e_9 rfl u_5 6 (by decide) w_643 rfl rfl dX5_become_70 ?_
  refine on_v (run_V hC hE hP hS (As := [.ref (ad g (4, q, 10)), .ref (ad g (4, r, 10))]) (c_copy10 l hI hr hq hne (v := cpC 9 (alen 9) (M q) (cpC 8 (alen 8) (M q) (cpC 5 (alen 5) (M q) (cpC 0 (alen 0) (M q) (up2 (up2 v 16 4 (M q 16 4)) 16 3 (M q 16 3))))))) cal_X5_copy w_907 ⟨Nat.le_of_ble_eq_true rfl, Nat.le_of_ble_eq_true rfl⟩ (k_9 hr) e_9 rfl rfl rfl (Nat.le_of_ble_eq_true rfl) hl.1 ⟨Nat.le_of_ble_eq_true rfl, Nat.le_of_ble_eq_true rfl⟩ dX5_become_73) hS (fun H locs hP hS => ?_)
  refine lv_aload_n hx hb dX5_become_76 rfl (lv_at hl 0 rfl) ?_
  refine lv_aload_n hx hb dX5_become_77 rfl (lv_at hl 1 rfl) ?_
  refine m_get hC hE hP (k_9 hq) f_9 rfl u_5 7 (by decide) w_645 rfl rfl dX5_become_78 ?_
  refine lv_aload_n hx hb dX5_become_81 rfl (lv_at hl 0 rfl) ?_
  refine m_get hC hE hP (k_9 hr) e_9 rfl u_5 7 (by decide) w_645 rfl rfl dX5_become_82 ?_
  refine on_v (run_V hC hE hP hS (As := [.ref (ad g (4, q, 11)), .ref (ad g (4, r, 11))]) (c_copy11 l hI hr hq hne (v := cpC 10 (alen 10) (M q) (cpC 9 (alen 9) (M q) (cpC 8 (alen 8) (M q) (cpC 5 (alen 5) (M q) (cpC 0 (alen 0) (M q) (up2 (up2 v 16 4 (M q 16 4)) 16 3 (M q 16 3)))))))) cal_X5_copy w_907 ⟨Nat.le_of_ble_eq_true rfl, Nat.le_of_ble_eq_true rfl⟩ (k_9 hr) e_9 rfl rfl rfl (Nat.le_of_ble_eq_true rfl) hl.1 ⟨Nat.le_of_ble_eq_true rfl, Nat.le_of_ble_eq_true rfl⟩ dX5_become_85) hS (fun H locs hP hS => ?_)
  refine lv_aload_n hx hb dX5_become_88 rfl (lv_at hl 0 rfl) ?_
  refine lv_aload_n hx hb dX5_become_89 rfl (lv_at hl 1 rfl) ?_
  refine m_get hC hE hP (k_9 hq) f_9 rfl u_5 8 (by decide) w_647 rfl rfl dX5_become_90 ?_
  refine lv_aload_n hx hb dX5_become_93 rfl (lv_at hl 0 rfl) ?_
  refine m_get hC hE hP (k_9 hr) e_9 rfl u_5 8 (by decide) w_647 rfl rfl dX5_become_94 ?_
  refine on_v (run_V hC hE hP hS (As := [.ref (ad g (4, q, 12)), .ref (ad g (4, r, 12))]) (c_copy12 l hI hr hq hne (v := cpC 11 (alen 11) (M q) (cpC 10 (alen 10) (M q) (cpC 9 (alen 9) (M q) (cpC 8 (alen 8) (M q) (cpC 5 (alen 5) (M q) (cpC 0 (alen 0) (M q) (up2 (up2 v 16 4 (M q 16 4)) 16 3 (M q 16 3))))))))) cal_X5_copy w_907 ⟨Nat.le_of_ble_eq_true rfl, Nat.le_of_ble_eq_true rfl⟩ (k_9 hr) e_9 rfl rfl rfl (Nat.le_of_ble_eq_true rfl) hl.1 ⟨Nat.le_of_ble_eq_true rfl, Nat.le_of_ble_eq_true rfl⟩ dX5_become_97) hS (fun H locs hP hS => ?_)
  refine lv_aload_n hx hb dX5_become_100 rfl (lv_at hl 0 rfl) ?_
  refine lv_aload_n hx hb dX5_become_101 rfl (lv_at hl 1 rfl) ?_
  refine m_get hC hE hP (k_9 hq) f_9 rfl u_5 9 (by decide) w_649 rfl rfl dX5_become_102 ?_
  refine lv_aload_n hx hb dX5_become_105 rfl (lv_at hl 0 rfl) ?_
  refine m_get hC hE hP (k_9 hr) e_9 rfl u_5 9 (by decide) w_649 rfl rfl dX5_become_106 ?_
  refine on_v (run_V hC hE hP hS (As := [.ref (ad g (4, q, 13)), .ref (ad g (4, r, 13))]) (c_copy13 l hI hr hq hne (v := cpC 12 (alen 12) (M q) (cpC 11 (alen 11) (M q) (cpC 10 (alen 10) (M q) (cpC 9 (alen 9) (M q) (cpC 8 (alen 8) (M q) (cpC 5 (alen 5) (M q) (cpC 0 (alen 0) (M q) (up2 (up2 v 16 4 (M q 16 4)) 16 3 (M q 16 3)))))))))) cal_X5_copy w_907 ⟨Nat.le_of_ble_eq_true rfl, Nat.le_of_ble_eq_true rfl⟩ (k_9 hr) e_9 rfl rfl rfl (Nat.le_of_ble_eq_true rfl) hl.1 ⟨Nat.le_of_ble_eq_true rfl, Nat.le_of_ble_eq_true rfl⟩ dX5_become_109) hS (fun H locs hP hS => ?_)
  refine lv_aload_n hx hb dX5_become_112 rfl (lv_at hl 0 rfl) ?_
  refine lv_aload_n hx hb dX5_become_113 rfl (lv_at hl 1 rfl) ?_
  refine m_get hC hE hP (k_9 hq) f_9 rfl u_5 10 (by decide) w_651 rfl rfl dX5_become_114 ?_
  refine lv_aload_n hx hb dX5_become_117 rfl (lv_at hl 0 rfl) ?_
  refine m_get hC hE hP (k_9 hr) e_9 rfl u_5 10 (by decide) w_651 rfl rfl dX5_become_118 ?_
  refine on_v (run_V hC hE hP hS (As := [.ref (ad g (4, q, 15)), .ref (ad g (4, r, 15))]) (c_copy15 l hI hr hq hne (v := cpC 13 (alen 13) (M q) (cpC 12 (alen 12) (M q) (cpC 11 (alen 11) (M q) (cpC 10 (alen 10) (M q) (cpC 9 (alen 9) (M q) (cpC 8 (alen 8) (M q) (cpC 5 (alen 5) (M q) (cpC 0 (alen 0) (M q) (up2 (up2 v 16 4 (M q 16 4)) 16 3 (M q 16 3))))))))))) cal_X5_copy w_907 ⟨Nat.le_of_ble_eq_true rfl, Nat.le_of_ble_eq_true rfl⟩ (k_9 hr) e_9 rfl rfl rfl (Nat.le_of_ble_eq_true rfl) hl.1 ⟨Nat.le_of_ble_eq_true rfl, Nat.le_of_ble_eq_true rfl⟩ dX5_become_121) hS (fun H locs hP hS => ?_)
  exact m_vret hC hr_ hlk hS (hP.castR (rfl)) dX5_become_124
set_option maxHeartbeats 4000000 in
set_option maxRecDepth 100000 in
theorem c_pass1 (l : Launch) {g : Gm} (hI : IJ g KK) {M : Mem} {o : Nat → Int64} {r : Nat} (hr : r = 2 ∨ r = 3) {v : Vw} (hsh : Sh M r v) (hv : Inv v) (hN : Nt 1 v) : MI l yX5_pass cX5_pass 3 .int (rm 5 116) g KK (ent g (setR M r v) o) [.ref (ad g (9, r, 0))] (got1 v) (ent g (setR M r (day v)) o) := by
  refine met_of (by decide +kernel) (Nat.le_of_ble_eq_true rfl) ?_
  intro p e s m below meth c ls hC hr_ hlk hnm hE hP hS hl
  obtain ⟨hx, hb, hml, hown, hG⟩ := id hC
  have hl : lv_has ls 3 [(0, .ref (ad g (9, r, 0)))] := hl
  have qH := hv.lH
  have qS := hv.lS
  have qW := hv.lW
  have i1 : Inv (lam v) := lam_inv hv
  have i2 : Inv (spe (lam v)) := spe_inv i1
  have i3 : Inv (sen (spe (lam v))) := sen_inv i2
  have i4 : Inv (kepA (sen (spe (lam v)))) := kepA_inv i3
  have i5 : Inv (breA (kepA (sen (spe (lam v))))) := breA_inv i4
  have s1 : Sh M r (lam v) := hsh.it (fun _ _ _ _ hs => sh_lur hs) _
  have s2 : Sh M r (spe (lam v)) := s1.it (fun _ _ _ _ hs => sh_spr hs) _
  have s3 : Sh M r (sen (spe (lam v))) := s2.it (fun _ _ _ _ hs => sh_gua hs) _
  have s4 : Sh M r (kepA (sen (spe (lam v)))) := s3.it (fun _ _ _ _ hs => sh_kep hs) _
  have s5 : Sh M r (breA (kepA (sen (spe (lam v))))) := s4.it (fun _ _ _ _ hs => sh_bre hs) _
  have n1 : nS (lam v) = nS v := by unfold nS; rw [lam_ne (by decide)]
  have w2 : nW (spe (lam v)) = nW v := by unfold nW; rw [spe_ne (by decide) (by decide), lam_ne (by decide)]
  have n3 : nS (sen (spe (lam v))) = nS v := nS_pre1
  have hn5 : Nt 0 (breA (kepA (sen (spe (lam v))))) := tt_pre (n := 0) hN
  refine lv_iconst (v := 0) hx hb dX5_pass_0 (by decide) ?_
  refine lv_istore_n (lv' := [(1, .int ((0 : Int32))), (0, .ref (ad g (9, r, 0)))]) hx hb dX5_pass_1 rfl hl (by decide) rfl (fun ls hl => ?_)
  refine lp_W (i0 := 0) (nS v) (fun i => ent g (setR M r (it lur i v)) o) (fun i => [(1, .int (nI i)), (0, .ref (ad g (9, r, 0)))]) (fun i => True) (Nat.zero_le _) (hP.castR (rfl)) hS (lv_sub hl [0, 1] rfl) (trivial) (fun H locs ls hP hS hl J => ?_) (fun i hi IH H locs ls hP hS hl J => ?_)
  · have hsi : Sh M r (it lur (nS v) v) := hsh.it (fun _ _ _ _ hs => sh_lur hs) _
    refine lv_iload_n hx hb dX5_pass_2 rfl (lv_at hl 0 rfl) ?_
    refine lv_aload_n hx hb dX5_pass_3 rfl (lv_at hl 1 rfl) ?_
    refine m_get hC hE hP (k_9 hr) e_9 rfl u_5 11 (by decide) w_653 rfl rfl dX5_pass_4 ?_
    refine m_getN hC hE hP k_10 f_10 rfl u_6 6 (by decide) n_690 rfl rfl dX5_pass_7 ?_
    refine m_top (y := (it lur (nS v) v) 16 1) (hsi _ _ rfl) ?_
    refine m_top (y := nI (nS v)) ((it_keep (fun _ _ => lur_ne (by decide)) _ _).trans hv.eS) ?_
    refine lv_icmp_ge (tgt := 24) hx hb dX5_pass_10 (by decide) (fun c1 => ?_) (fun c1 => absurd (nI_le (Nat.le_refl _) (by omega)) c1)
    replace hP := hP.castR (w := lam v) (rfl)
    refine lv_iconst (v := 0) hx hb dX5_pass_24 (by decide) ?_
    refine lv_istore_n (lv' := [(1, .int ((0 : Int32))), (0, .ref (ad g (9, r, 0)))]) hx hb dX5_pass_25 rfl hl (by decide) rfl (fun ls hl => ?_)
    refine lp_W (i0 := 0) (nS v) (fun i => ent g (setR M r (it spr i (lam v))) o) (fun i => [(1, .int (nI i)), (0, .ref (ad g (9, r, 0)))]) (fun i => True) (Nat.zero_le _) (hP.castR (rfl)) hS (lv_sub hl [0, 1] rfl) (trivial) (fun H locs ls hP hS hl J => ?_) (fun i hi IH H locs ls hP hS hl J => ?_)
    · have hsi : Sh M r (it spr (nS v) (lam v)) := s1.it (fun _ _ _ _ hs => sh_spr hs) _
      refine lv_iload_n hx hb dX5_pass_26 rfl (lv_at hl 0 rfl) ?_
      refine lv_aload_n hx hb dX5_pass_27 rfl (lv_at hl 1 rfl) ?_
      refine m_get hC hE hP (k_9 hr) e_9 rfl u_5 11 (by decide) w_653 rfl rfl dX5_pass_28 ?_
      refine m_getN hC hE hP k_10 f_10 rfl u_6 6 (by decide) n_690 rfl rfl dX5_pass_31 ?_
      refine m_top (y := (it spr (nS v) (lam v)) 16 1) (hsi _ _ rfl) ?_
      refine m_top (y := nI (nS v)) ((it_keep (fun _ _ => spr_ne (by decide) (by decide)) _ _).trans ((lam_ne (by decide)).trans hv.eS)) ?_
      refine lv_icmp_ge (tgt := 48) hx hb dX5_pass_34 (by decide) (fun c2 => ?_) (fun c2 => absurd (nI_le (Nat.le_refl _) (by omega)) c2)
      replace hP := hP.castR (w := spe (lam v)) (by unfold spe; rw [n1])
      refine lv_iconst (v := 0) hx hb dX5_pass_48 (by decide) ?_
      refine lv_istore_n (lv' := [(1, .int ((0 : Int32))), (0, .ref (ad g (9, r, 0)))]) hx hb dX5_pass_49 rfl hl (by decide) rfl (fun ls hl => ?_)
      refine lp_W (i0 := 0) (nW v) (fun i => ent g (setR M r (it gua i (spe (lam v)))) o) (fun i => [(1, .int (nI i)), (0, .ref (ad g (9, r, 0)))]) (fun i => True) (Nat.zero_le _) (hP.castR (rfl)) hS (lv_sub hl [0, 1] rfl) (trivial) (fun H locs ls hP hS hl J => ?_) (fun i hi IH H locs ls hP hS hl J => ?_)
      · have hsi : Sh M r (it gua (nW v) (spe (lam v))) := s2.it (fun _ _ _ _ hs => sh_gua hs) _
        refine lv_iload_n hx hb dX5_pass_50 rfl (lv_at hl 0 rfl) ?_
        refine lv_aload_n hx hb dX5_pass_51 rfl (lv_at hl 1 rfl) ?_
        refine m_get hC hE hP (k_9 hr) e_9 rfl u_5 11 (by decide) w_653 rfl rfl dX5_pass_52 ?_
        refine m_getN hC hE hP k_10 f_10 rfl u_6 9 (by decide) n_696 rfl rfl dX5_pass_55 ?_
        refine m_top (y := (it gua (nW v) (spe (lam v))) 16 2) (hsi _ _ rfl) ?_
        refine m_top (y := nI (nW v)) ((it_keep (fun _ _ => gua_ne (by decide) (by decide) (by decide) (by decide) (by decide) (by decide)) _ _).trans ((spe_ne (by decide) (by decide)).trans ((lam_ne (by decide)).trans hv.eW))) ?_
        refine lv_icmp_ge (tgt := 72) hx hb dX5_pass_58 (by decide) (fun c3 => ?_) (fun c3 => absurd (nI_le (Nat.le_refl _) (by omega)) c3)
        replace hP := hP.castR (w := sen (spe (lam v))) (by unfold sen; rw [w2])
        refine lv_iconst (v := 0) hx hb dX5_pass_72 (by decide) ?_
        refine lv_istore_n (lv' := [(1, .int ((0 : Int32))), (0, .ref (ad g (9, r, 0)))]) hx hb dX5_pass_73 rfl hl (by decide) rfl (fun ls hl => ?_)
        refine lv_iconst (v := 0) hx hb dX5_pass_74 (by decide) ?_
        refine lv_istore_n (lv' := [(2, .int ((0 : Int32))), (1, .int ((0 : Int32))), (0, .ref (ad g (9, r, 0)))]) hx hb dX5_pass_75 rfl hl (by decide) rfl (fun ls hl => ?_)
        refine lp_W (i0 := 0) (nS v) (fun i => ent g (setR M r (it kep i (sen (spe (lam v))))) o) (fun i => [(2, .int (nI i)), (1, .int (sumI (sen (spe (lam v)) 9) i)), (0, .ref (ad g (9, r, 0)))]) (fun i => True) (Nat.zero_le _) (hP.castR (rfl)) hS (lv_sub hl [0, 1, 2] rfl) (trivial) (fun H locs ls hP hS hl J => ?_) (fun i hi IH H locs ls hP hS hl J => ?_)
        · have hsi : Sh M r (it kep (nS v) (sen (spe (lam v)))) := s3.it (fun _ _ _ _ hs => sh_kep hs) _
          refine lv_iload_n hx hb dX5_pass_76 rfl (lv_at hl 0 rfl) ?_
          refine lv_aload_n hx hb dX5_pass_77 rfl (lv_at hl 2 rfl) ?_
          refine m_get hC hE hP (k_9 hr) e_9 rfl u_5 11 (by decide) w_653 rfl rfl dX5_pass_78 ?_
          refine m_getN hC hE hP k_10 f_10 rfl u_6 6 (by decide) n_690 rfl rfl dX5_pass_81 ?_
          refine m_top (y := (it kep (nS v) (sen (spe (lam v)))) 16 1) (hsi _ _ rfl) ?_
          refine m_top (y := nI (nS v)) ((it_keep (fun _ _ => kep_ne (by decide)) _ _).trans ((sen_ne (by decide) (by decide) (by decide) (by decide) (by decide) (by decide)).trans ((spe_ne (by decide) (by decide)).trans ((lam_ne (by decide)).trans hv.eS)))) ?_
          refine lv_icmp_ge (tgt := 117) hx hb dX5_pass_84 (by decide) (fun c4 => ?_) (fun c4 => absurd (nI_le (Nat.le_refl _) (by omega)) c4)
          replace hP := hP.castR (w := kepA (sen (spe (lam v)))) (by unfold kepA; rw [n3])
          refine lv_iconst (v := 0) hx hb dX5_pass_117 (by decide) ?_
          refine lv_istore_n (lv' := [(2, .int ((0 : Int32))), (1, .int (sumI (sen (spe (lam v)) 9) (nS v))), (0, .ref (ad g (9, r, 0)))]) hx hb dX5_pass_118 rfl hl (by decide) rfl (fun ls hl => ?_)
          refine lp_W (i0 := 0) 81 (fun i => ent g (setR M r (it bre i (kepA (sen (spe (lam v)))))) o) (fun i => [(2, .int (nI i)), (1, .int (sumI (sen (spe (lam v)) 9) (nS v))), (0, .ref (ad g (9, r, 0)))]) (fun i => True) (Nat.zero_le _) (hP.castR (rfl)) hS (lv_sub hl [0, 1, 2] rfl) (trivial) (fun H locs ls hP hS hl J => ?_) (fun i hi IH H locs ls hP hS hl J => ?_)
          · have hsi : Sh M r (it bre 81 (kepA (sen (spe (lam v))))) := s4.it (fun _ _ _ _ hs => sh_bre hs) _
            refine lv_iload_n hx hb dX5_pass_119 rfl (lv_at hl 0 rfl) ?_
            refine lv_bipush (v := 81) hx hb dX5_pass_120 (by decide) ?_
            refine lv_icmp_ge (tgt := 166) hx hb dX5_pass_122 (by decide) (fun c5 => ?_) (fun c5 => absurd (by decide) c5)
            replace hP := hP.castR (w := breA (kepA (sen (spe (lam v))))) (rfl)
            refine lv_aload_n hx hb dX5_pass_166 rfl (lv_at hl 2 rfl) ?_
            refine on_v (run_V hC hE hP hS (As := []) (c_freezeM l hI hr (s5) i5 hn5) cal_X5_freeze w_889 ⟨Nat.le_of_ble_eq_true rfl, Nat.le_of_ble_eq_true rfl⟩ (k_9 hr) e_9 rfl rfl rfl (Nat.le_of_ble_eq_true rfl) hl.1 ⟨Nat.le_of_ble_eq_true rfl, Nat.le_of_ble_eq_true rfl⟩ dX5_pass_167) hS (fun H locs hP hS => ?_)
            refine lv_aload_n hx hb dX5_pass_170 rfl (lv_at hl 2 rfl) ?_
            refine lv_dup hx hb dX5_pass_171 rfl ?_
            refine m_get hC hE hP (k_9 hr) e_9 rfl u_5 0 (by decide) w_631 rfl rfl dX5_pass_172 ?_
            refine lv_iconst (v := 1) hx hb dX5_pass_175 (by decide) ?_
            refine lv_iadd hx hb dX5_pass_176 ?_
            refine m_put hC hE hI hP hS (k_9 hr) e_9 rfl u_5 tyX5_ok nmX5 0 (by decide) w_631 rfl rfl rfl rfl (Nat.le_of_ble_eq_true rfl) p_9_0 (ent_put g M r (frz (breA (kepA (sen (spe (lam v)))))) o 16 4 (((frz (breA (kepA (sen (spe (lam v)))))) 16 4) + (1 : Int32)) (kf_9 hr (by decide))) dX5_pass_177 (fun H locs hP hS => ?_)
            refine lv_iload_n hx hb dX5_pass_180 rfl (lv_at hl 1 rfl) ?_
            exact m_iret hC hr_ hlk hS (hP.castR (rfl)) rfl (rfl) dX5_pass_181
          · have hsi : Sh M r (it bre i (kepA (sen (spe (lam v))))) := s4.it (fun _ _ _ _ hs => sh_bre hs) i
            refine lv_iload_n hx hb dX5_pass_119 rfl (lv_at hl 0 rfl) ?_
            refine lv_bipush (v := 81) hx hb dX5_pass_120 (by decide) ?_
            refine lv_icmp_ge (tgt := 166) hx hb dX5_pass_122 (by decide) (fun c6 => absurd c6 (nI_ge (b := 81) hi (by decide))) (fun c6 => ?_)
            refine lv_aload_n hx hb dX5_pass_125 rfl (lv_at hl 2 rfl) ?_
            refine m_get hC hE hP (k_9 hr) e_9 rfl u_5 2 (by decide) w_635 rfl rfl dX5_pass_126 ?_
            refine lv_iload_n hx hb dX5_pass_129 rfl (lv_at hl 0 rfl) ?_
            refine m_iald hC hE hP (k_4p hr rfl) e_4 i (rfl) (show i < 81 from by omega) (by decide) dX5_pass_130 ?_
            refine lv_iconst (v := 1) hx hb dX5_pass_131 (by decide) ?_
            refine lv_bipush (v := 40) hx hb dX5_pass_132 (by decide) ?_
            refine on_i (run_SN hC hE hP hS (As := [.int ((it bre i (kepA (sen (spe (lam v))))) 0 i), .int ((1 : Int32)), .int ((40 : Int32))]) (c_isIn l ((it bre i (kepA (sen (spe (lam v))))) 0 i) (1 : Int32) (40 : Int32)) cal_X6_isIn n_888 ⟨Nat.le_of_ble_eq_true rfl, Nat.le_of_ble_eq_true rfl⟩ rfl rfl (Nat.le_of_ble_eq_true rfl) hl.1 ⟨Nat.le_of_ble_eq_true rfl, Nat.le_of_ble_eq_true rfl⟩ dX5_pass_134) hS (fun H locs hP hS => ?_)
            refine lv_if_eq (tgt := 160) hx hb dX5_pass_137 (by decide) (fun c1 => ?_) (fun c1 => ?_)
            · have c1 := b2i_f c1
              refine lv_iinc (v := nI (i + 1)) (lv' := [(2, .int (nI (i + 1))), (1, .int (sumI (sen (spe (lam v)) 9) (nS v))), (0, .ref (ad g (9, r, 0)))]) hx hb dX5_pass_160 hl (k := 0) rfl (nI_1 _) (by decide) rfl (fun ls hl => ?_)
              refine lv_goto (tgt := 119) hx hb dX5_pass_163 (by decide) ?_
              exact IH H locs ls (hP.castR (if_neg (by rw [c1]; decide))) hS (lv_sub hl [0, 1, 2] rfl) (trivial)
            · have c1 := b2i_t c1
              refine lv_aload_n hx hb dX5_pass_140 rfl (lv_at hl 2 rfl) ?_
              refine m_get hC hE hP (k_9 hr) e_9 rfl u_5 2 (by decide) w_635 rfl rfl dX5_pass_141 ?_
              refine lv_iload_n hx hb dX5_pass_144 rfl (lv_at hl 0 rfl) ?_
              refine lv_dup2_11 hx hb dX5_pass_145 rfl rfl ?_
              refine m_iald hC hE hP (k_4p hr rfl) e_4 i (rfl) (show i < 81 from by omega) (by decide) dX5_pass_146 ?_
              refine lv_aload_n hx hb dX5_pass_147 rfl (lv_at hl 2 rfl) ?_
              refine m_get hC hE hP (k_9 hr) e_9 rfl u_5 2 (by decide) w_635 rfl rfl dX5_pass_148 ?_
              refine lv_iload_n hx hb dX5_pass_151 rfl (lv_at hl 0 rfl) ?_
              refine m_iald hC hE hP (k_4p hr rfl) e_4 i (rfl) (show i < 81 from by omega) (by decide) dX5_pass_152 ?_
              refine lv_bipush (v := 10) hx hb dX5_pass_153 (by decide) ?_
              refine lv_idiv hx hb dX5_pass_155 (by decide) ?_
              refine lv_iconst (v := 1) hx hb dX5_pass_156 (by decide) ?_
              refine lv_iadd hx hb dX5_pass_157 ?_
              refine lv_iadd hx hb dX5_pass_158 ?_
              refine m_iast hC hE hI hP hS (k_4p hr rfl) e_4 i (rfl) (show i < 81 from by omega) (by decide) p_4 (ent_put g M r (it bre i (kepA (sen (spe (lam v))))) o 0 i (((it bre i (kepA (sen (spe (lam v))))) 0 i) + ((((it bre i (kepA (sen (spe (lam v))))) 0 i) / (10 : Int32)) + (1 : Int32))) (kf_4m hr (by decide))) dX5_pass_159 (fun H locs hP hS => ?_)
              refine lv_iinc (v := nI (i + 1)) (lv' := [(2, .int (nI (i + 1))), (1, .int (sumI (sen (spe (lam v)) 9) (nS v))), (0, .ref (ad g (9, r, 0)))]) hx hb dX5_pass_160 hl (k := 0) rfl (nI_1 _) (by decide) rfl (fun ls hl => ?_)
              refine lv_goto (tgt := 119) hx hb dX5_pass_163 (by decide) ?_
              exact IH H locs ls (hP.castR (if_pos c1)) hS (lv_sub hl [0, 1, 2] rfl) (trivial)
        · have hsi : Sh M r (it kep i (sen (spe (lam v)))) := s3.it (fun _ _ _ _ hs => sh_kep hs) i
          refine lv_iload_n hx hb dX5_pass_76 rfl (lv_at hl 0 rfl) ?_
          refine lv_aload_n hx hb dX5_pass_77 rfl (lv_at hl 2 rfl) ?_
          refine m_get hC hE hP (k_9 hr) e_9 rfl u_5 11 (by decide) w_653 rfl rfl dX5_pass_78 ?_
          refine m_getN hC hE hP k_10 f_10 rfl u_6 6 (by decide) n_690 rfl rfl dX5_pass_81 ?_
          refine m_top (y := (it kep i (sen (spe (lam v)))) 16 1) (hsi _ _ rfl) ?_
          refine m_top (y := nI (nS v)) ((it_keep (fun _ _ => kep_ne (by decide)) _ _).trans ((sen_ne (by decide) (by decide) (by decide) (by decide) (by decide) (by decide)).trans ((spe_ne (by decide) (by decide)).trans ((lam_ne (by decide)).trans hv.eS)))) ?_
          refine lv_icmp_ge (tgt := 117) hx hb dX5_pass_84 (by decide) (fun c7 => absurd c7 (nI_ge hi (by omega))) (fun c7 => ?_)
          refine lv_aload_n hx hb dX5_pass_87 rfl (lv_at hl 2 rfl) ?_
          refine m_get hC hE hP (k_9 hr) e_9 rfl u_5 6 (by decide) w_643 rfl rfl dX5_pass_88 ?_
          refine lv_iload_n hx hb dX5_pass_91 rfl (lv_at hl 0 rfl) ?_
          refine lv_dup2_11 hx hb dX5_pass_92 rfl rfl ?_
          refine m_iald hC hE hP (k_4p hr rfl) e_4 i (rfl) (show i < 8 from by omega) (by decide) dX5_pass_93 ?_
          refine lv_aload_n hx hb dX5_pass_94 rfl (lv_at hl 2 rfl) ?_
          refine m_get hC hE hP (k_9 hr) e_9 rfl u_5 5 (by decide) w_641 rfl rfl dX5_pass_95 ?_
          refine lv_iload_n hx hb dX5_pass_98 rfl (lv_at hl 0 rfl) ?_
          refine m_iald hC hE hP (k_4p hr rfl) e_4 i (rfl) (show i < 8 from by omega) (by decide) dX5_pass_99 ?_
          refine lv_iadd hx hb dX5_pass_100 ?_
          refine m_iast hC hE hI hP hS (k_4p hr rfl) e_4 i (rfl) (show i < 8 from by omega) (by decide) p_4 (ent_put g M r (it kep i (sen (spe (lam v)))) o 10 i (((it kep i (sen (spe (lam v)))) 10 i) + ((it kep i (sen (spe (lam v)))) 9 i)) (kf_4m hr (by decide))) dX5_pass_101 (fun H locs hP hS => ?_)
          refine lv_iload_n hx hb dX5_pass_102 rfl (lv_at hl 1 rfl) ?_
          refine lv_aload_n hx hb dX5_pass_103 rfl (lv_at hl 2 rfl) ?_
          refine m_get hC hE hP (k_9 hr) e_9 rfl u_5 5 (by decide) w_641 rfl rfl dX5_pass_104 ?_
          refine lv_iload_n hx hb dX5_pass_107 rfl (lv_at hl 0 rfl) ?_
          refine m_iald hC hE hP (k_4p hr rfl) e_4 i (rfl) (show i < 8 from by omega) (by decide) dX5_pass_108 ?_
          refine m_top (y := sen (spe (lam v)) 9 i) ((up2_c (by decide)).trans (it_keep (fun _ _ => kep_ne (by decide)) _ _)) ?_
          refine lv_iadd hx hb dX5_pass_109 ?_
          refine lv_istore_n (lv' := [(1, .int ((sumI (sen (spe (lam v)) 9) i) + (sen (spe (lam v)) 9 i))), (2, .int (nI i)), (0, .ref (ad g (9, r, 0)))]) hx hb dX5_pass_110 rfl hl (by decide) rfl (fun ls hl => ?_)
          refine lv_iinc (v := nI (i + 1)) (lv' := [(2, .int (nI (i + 1))), (1, .int ((sumI (sen (spe (lam v)) 9) i) + (sen (spe (lam v)) 9 i))), (0, .ref (ad g (9, r, 0)))]) hx hb dX5_pass_111 hl (k := 1) rfl (nI_1 _) (by decide) rfl (fun ls hl => ?_)
          refine lv_goto (tgt := 76) hx hb dX5_pass_114 (by decide) ?_
          exact IH H locs ls (hP.castR (rfl)) hS (lv_sub hl [0, 1, 2] rfl) (trivial)
      · have hsi : Sh M r (it gua i (spe (lam v))) := s2.it (fun _ _ _ _ hs => sh_gua hs) i
        have hvi : Inv (it gua i (spe (lam v))) := senI_inv i2 i (by omega)
        have hki : i < nW (it gua i (spe (lam v))) := by unfold nW; rw [it_keep (fun _ _ => gua_ne (by decide) (by decide) (by decide) (by decide) (by decide) (by decide))]; show i < nW (spe (lam v)); rw [w2]; exact hi
        refine lv_iload_n hx hb dX5_pass_50 rfl (lv_at hl 0 rfl) ?_
        refine lv_aload_n hx hb dX5_pass_51 rfl (lv_at hl 1 rfl) ?_
        refine m_get hC hE hP (k_9 hr) e_9 rfl u_5 11 (by decide) w_653 rfl rfl dX5_pass_52 ?_
        refine m_getN hC hE hP k_10 f_10 rfl u_6 9 (by decide) n_696 rfl rfl dX5_pass_55 ?_
        refine m_top (y := (it gua i (spe (lam v))) 16 2) (hsi _ _ rfl) ?_
        refine m_top (y := nI (nW v)) ((it_keep (fun _ _ => gua_ne (by decide) (by decide) (by decide) (by decide) (by decide) (by decide)) _ _).trans ((spe_ne (by decide) (by decide)).trans ((lam_ne (by decide)).trans hv.eW))) ?_
        refine lv_icmp_ge (tgt := 72) hx hb dX5_pass_58 (by decide) (fun c8 => absurd c8 (nI_ge hi (by omega))) (fun c8 => ?_)
        refine lv_aload_n hx hb dX5_pass_61 rfl (lv_at hl 1 rfl) ?_
        refine lv_iload_n hx hb dX5_pass_62 rfl (lv_at hl 0 rfl) ?_
        refine on_v (run_V hC hE hP hS (As := [.int (nI i)]) (c_guardM l hI hr (hsi) hvi i hki) cal_X5_guard w_872 ⟨Nat.le_of_ble_eq_true rfl, Nat.le_of_ble_eq_true rfl⟩ (k_9 hr) e_9 rfl rfl rfl (Nat.le_of_ble_eq_true rfl) hl.1 ⟨Nat.le_of_ble_eq_true rfl, Nat.le_of_ble_eq_true rfl⟩ dX5_pass_63) hS (fun H locs hP hS => ?_)
        refine lv_iinc (v := nI (i + 1)) (lv' := [(1, .int (nI (i + 1))), (0, .ref (ad g (9, r, 0)))]) hx hb dX5_pass_66 hl (k := 0) rfl (nI_1 _) (by decide) rfl (fun ls hl => ?_)
        refine lv_goto (tgt := 50) hx hb dX5_pass_69 (by decide) ?_
        exact IH H locs ls (hP.castR (rfl)) hS (lv_sub hl [0, 1] rfl) (trivial)
    · have hsi : Sh M r (it spr i (lam v)) := s1.it (fun _ _ _ _ hs => sh_spr hs) i
      have hvi : Inv (it spr i (lam v)) := (speI_inv i1 i (by omega)).1
      have hki : i < nS (it spr i (lam v)) := by rw [(speI_inv i1 i (by omega)).2, n1]; exact hi
      refine lv_iload_n hx hb dX5_pass_26 rfl (lv_at hl 0 rfl) ?_
      refine lv_aload_n hx hb dX5_pass_27 rfl (lv_at hl 1 rfl) ?_
      refine m_get hC hE hP (k_9 hr) e_9 rfl u_5 11 (by decide) w_653 rfl rfl dX5_pass_28 ?_
      refine m_getN hC hE hP k_10 f_10 rfl u_6 6 (by decide) n_690 rfl rfl dX5_pass_31 ?_
      refine m_top (y := (it spr i (lam v)) 16 1) (hsi _ _ rfl) ?_
      refine m_top (y := nI (nS v)) ((it_keep (fun _ _ => spr_ne (by decide) (by decide)) _ _).trans ((lam_ne (by decide)).trans hv.eS)) ?_
      refine lv_icmp_ge (tgt := 48) hx hb dX5_pass_34 (by decide) (fun c9 => absurd c9 (nI_ge hi (by omega))) (fun c9 => ?_)
      refine lv_aload_n hx hb dX5_pass_37 rfl (lv_at hl 1 rfl) ?_
      refine lv_iload_n hx hb dX5_pass_38 rfl (lv_at hl 0 rfl) ?_
      refine on_v (run_V hC hE hP hS (As := [.int (nI i)]) (c_spearM l hI hr (hsi) hvi i hki) cal_X5_spear w_866 ⟨Nat.le_of_ble_eq_true rfl, Nat.le_of_ble_eq_true rfl⟩ (k_9 hr) e_9 rfl rfl rfl (Nat.le_of_ble_eq_true rfl) hl.1 ⟨Nat.le_of_ble_eq_true rfl, Nat.le_of_ble_eq_true rfl⟩ dX5_pass_39) hS (fun H locs hP hS => ?_)
      refine lv_iinc (v := nI (i + 1)) (lv' := [(1, .int (nI (i + 1))), (0, .ref (ad g (9, r, 0)))]) hx hb dX5_pass_42 hl (k := 0) rfl (nI_1 _) (by decide) rfl (fun ls hl => ?_)
      refine lv_goto (tgt := 26) hx hb dX5_pass_45 (by decide) ?_
      exact IH H locs ls (hP.castR (rfl)) hS (lv_sub hl [0, 1] rfl) (trivial)
  · have hsi : Sh M r (it lur i v) := hsh.it (fun _ _ _ _ hs => sh_lur hs) i
    have hvi : Inv (it lur i v) := (lamI_inv hv i (by omega)).1
    have hki : i < nS (it lur i v) := by rw [(lamI_inv hv i (by omega)).2]; exact hi
    refine lv_iload_n hx hb dX5_pass_2 rfl (lv_at hl 0 rfl) ?_
    refine lv_aload_n hx hb dX5_pass_3 rfl (lv_at hl 1 rfl) ?_
    refine m_get hC hE hP (k_9 hr) e_9 rfl u_5 11 (by decide) w_653 rfl rfl dX5_pass_4 ?_
    refine m_getN hC hE hP k_10 f_10 rfl u_6 6 (by decide) n_690 rfl rfl dX5_pass_7 ?_
    refine m_top (y := (it lur i v) 16 1) (hsi _ _ rfl) ?_
    refine m_top (y := nI (nS v)) ((it_keep (fun _ _ => lur_ne (by decide)) _ _).trans hv.eS) ?_
    refine lv_icmp_ge (tgt := 24) hx hb dX5_pass_10 (by decide) (fun c10 => absurd c10 (nI_ge hi (by omega))) (fun c10 => ?_)
    refine lv_aload_n hx hb dX5_pass_13 rfl (lv_at hl 1 rfl) ?_
    refine lv_iload_n hx hb dX5_pass_14 rfl (lv_at hl 0 rfl) ?_
    refine on_v (run_V hC hE hP hS (As := [.int (nI i)]) (c_lureM l hI hr (hsi) hvi i hki) cal_X5_lure w_862 ⟨Nat.le_of_ble_eq_true rfl, Nat.le_of_ble_eq_true rfl⟩ (k_9 hr) e_9 rfl rfl rfl (Nat.le_of_ble_eq_true rfl) hl.1 ⟨Nat.le_of_ble_eq_true rfl, Nat.le_of_ble_eq_true rfl⟩ dX5_pass_15) hS (fun H locs hP hS => ?_)
    refine lv_iinc (v := nI (i + 1)) (lv' := [(1, .int (nI (i + 1))), (0, .ref (ad g (9, r, 0)))]) hx hb dX5_pass_18 hl (k := 0) rfl (nI_1 _) (by decide) rfl (fun ls hl => ?_)
    refine lv_goto (tgt := 2) hx hb dX5_pass_21 (by decide) ?_
    exact IH H locs ls (hP.castR (rfl)) hS (lv_sub hl [0, 1] rfl) (trivial)
set_option maxHeartbeats 4000000 in
set_option maxRecDepth 100000 in
theorem c_passN (l : Launch) {g : Gm} (hI : IJ g KK) {M : Mem} {o : Nat → Int64} {r : Nat} (hr : r = 2 ∨ r = 3) {v : Vw} (hsh : Sh M r v) (hv : Inv v) (n : Nat) (hn40 : n ≤ 40) (hN : Nt n v) : MI l yX5_pass_ cX5_pass_ 4 .int (rm 6 138) g KK (ent g (setR M r v) o) [.ref (ad g (9, r, 0)), .int (nI n)] (gots n v) (ent g (setR M r (days n v)) o) := by
  refine met_of (by decide +kernel) (Nat.le_of_ble_eq_true rfl) ?_
  intro p e s m below meth c ls hC hr_ hlk hnm hE hP hS hl
  obtain ⟨hx, hb, hml, hown, hG⟩ := id hC
  have hl : lv_has ls 4 [(0, .ref (ad g (9, r, 0))), (1, .int (nI n))] := hl
  have qH := hv.lH
  have qS := hv.lS
  have qW := hv.lW
  refine lv_iconst (v := 0) hx hb dX5_pass__0 (by decide) ?_
  refine lv_istore_n (lv' := [(2, .int ((0 : Int32))), (0, .ref (ad g (9, r, 0))), (1, .int (nI n))]) hx hb dX5_pass__1 rfl hl (by decide) rfl (fun ls hl => ?_)
  refine lv_iconst (v := 0) hx hb dX5_pass__2 (by decide) ?_
  refine lv_istore_n (lv' := [(3, .int ((0 : Int32))), (2, .int ((0 : Int32))), (0, .ref (ad g (9, r, 0))), (1, .int (nI n))]) hx hb dX5_pass__3 rfl hl (by decide) rfl (fun ls hl => ?_)
  refine lp_W (i0 := 0) n (fun i => ent g (setR M r (days i v)) o) (fun i => [(3, .int (nI i)), (2, .int (gots i v)), (0, .ref (ad g (9, r, 0))), (1, .int (nI n))]) (fun i => True) (Nat.zero_le _) (hP.castR (rfl)) hS (lv_sub hl [0, 1, 2, 3] rfl) (trivial) (fun H locs ls hP hS hl J => ?_) (fun i hi IH H locs ls hP hS hl J => ?_)
  · refine lv_iload_n hx hb dX5_pass__4 rfl (lv_at hl 0 rfl) ?_
    refine lv_iload_n hx hb dX5_pass__5 rfl (lv_at hl 3 rfl) ?_
    refine lv_icmp_ge (tgt := 22) hx hb dX5_pass__6 (by decide) (fun c1 => ?_) (fun c1 => absurd (nI_le (Nat.le_refl _) (by omega)) c1)
    refine lv_iload_n hx hb dX5_pass__22 rfl (lv_at hl 1 rfl) ?_
    exact m_iret hC hr_ hlk hS (hP.castR (rfl)) rfl (rfl) dX5_pass__23
  · have hsi : Sh M r (days i v) := hsh.days i
    have hvi : Inv (days i v) := days_inv hv i
    have hn1 : Nt 1 (days i v) := days_Nt (m := i) (n := 1) ⟨hN.1, by have := hN.2; omega⟩
    refine lv_iload_n hx hb dX5_pass__4 rfl (lv_at hl 0 rfl) ?_
    refine lv_iload_n hx hb dX5_pass__5 rfl (lv_at hl 3 rfl) ?_
    refine lv_icmp_ge (tgt := 22) hx hb dX5_pass__6 (by decide) (fun c2 => absurd c2 (nI_ge hi (by omega))) (fun c2 => ?_)
    refine lv_iload_n hx hb dX5_pass__9 rfl (lv_at hl 1 rfl) ?_
    refine lv_aload_n hx hb dX5_pass__10 rfl (lv_at hl 2 rfl) ?_
    refine on_i (run_V hC hE hP hS (As := []) (c_pass1 l hI hr (hsi) hvi hn1) cal_X5_pass w_858 ⟨Nat.le_of_ble_eq_true rfl, Nat.le_of_ble_eq_true rfl⟩ (k_9 hr) e_9 rfl rfl rfl (Nat.le_of_ble_eq_true rfl) hl.1 ⟨Nat.le_of_ble_eq_true rfl, Nat.le_of_ble_eq_true rfl⟩ dX5_pass__11) hS (fun H locs hP hS => ?_)
    refine lv_iadd hx hb dX5_pass__14 ?_
    refine lv_istore_n (lv' := [(2, .int ((gots i v) + (got1 (days i v)))), (3, .int (nI i)), (0, .ref (ad g (9, r, 0))), (1, .int (nI n))]) hx hb dX5_pass__15 rfl hl (by decide) rfl (fun ls hl => ?_)
    refine lv_iinc (v := nI (i + 1)) (lv' := [(3, .int (nI (i + 1))), (2, .int ((gots i v) + (got1 (days i v)))), (0, .ref (ad g (9, r, 0))), (1, .int (nI n))]) hx hb dX5_pass__16 hl (k := 1) rfl (nI_1 _) (by decide) rfl (fun ls hl => ?_)
    refine lv_goto (tgt := 4) hx hb dX5_pass__19 (by decide) ?_
    exact IH H locs ls (hP.castR (rfl)) hS (lv_sub hl [0, 1, 2, 3] rfl) (trivial)
end
