section
-- ===== PART A: goes FIRST, ahead of the names: the tables' words, and 'selects' of the private methods out of them =====
/-- a private method of a class that the tables say can be made, by its rows of tables_1 -/
def lw_okq (q : MethodName × Nat) : Prop := (q.1.cls ≠ "java/lang/invoke/MethodHandle" ∧ q.1.cls ≠ "java/lang/invoke/VarHandle") ∧ Cond.instantiable q.1.cls q.2 ∈ tables_1 ∧ Cond.privateMethod q.1 ∈ tables_1 ∧ Cond.instanceMethod q.1 ∈ tables_1
theorem lw_p0 : lw_okq (⟨"SelectConfig", "trimmed", "(JI)J"⟩, 9) := ⟨⟨by decide +kernel, by decide +kernel⟩, List.mem_of_getElem? (i := 15) (by decide +kernel), List.mem_of_getElem? (i := 397) (by decide +kernel), List.mem_of_getElem? (i := 398) (by decide +kernel)⟩
theorem lw_p1 : lw_okq (⟨"SelectConfig", "isMet", "(IJ)Z"⟩, 9) := ⟨⟨by decide +kernel, by decide +kernel⟩, List.mem_of_getElem? (i := 15) (by decide +kernel), List.mem_of_getElem? (i := 428) (by decide +kernel), List.mem_of_getElem? (i := 429) (by decide +kernel)⟩
theorem lw_p2 : lw_okq (⟨"SelectConfig", "isAskingMet", "(IJ)Z"⟩, 9) := ⟨⟨by decide +kernel, by decide +kernel⟩, List.mem_of_getElem? (i := 15) (by decide +kernel), List.mem_of_getElem? (i := 433) (by decide +kernel), List.mem_of_getElem? (i := 434) (by decide +kernel)⟩
theorem lw_p3 : lw_okq (⟨"SelectConfig", "choosing", "(IJI)J"⟩, 9) := ⟨⟨by decide +kernel, by decide +kernel⟩, List.mem_of_getElem? (i := 15) (by decide +kernel), List.mem_of_getElem? (i := 456) (by decide +kernel), List.mem_of_getElem? (i := 457) (by decide +kernel)⟩
theorem lw_p4 : lw_okq (⟨"SelectConfig", "holdingBranches", "(IJ)I"⟩, 9) := ⟨⟨by decide +kernel, by decide +kernel⟩, List.mem_of_getElem? (i := 15) (by decide +kernel), List.mem_of_getElem? (i := 460) (by decide +kernel), List.mem_of_getElem? (i := 461) (by decide +kernel)⟩
theorem lw_p5 : lw_okq (⟨"SelectConfig", "mostSpecialBranches", "(II)I"⟩, 9) := ⟨⟨by decide +kernel, by decide +kernel⟩, List.mem_of_getElem? (i := 15) (by decide +kernel), List.mem_of_getElem? (i := 468) (by decide +kernel), List.mem_of_getElem? (i := 469) (by decide +kernel)⟩
theorem lw_p6 : lw_okq (⟨"SelectConfig", "isOutdone", "(III)Z"⟩, 9) := ⟨⟨by decide +kernel, by decide +kernel⟩, List.mem_of_getElem? (i := 15) (by decide +kernel), List.mem_of_getElem? (i := 472) (by decide +kernel), List.mem_of_getElem? (i := 473) (by decide +kernel)⟩
theorem lw_p7 : lw_okq (⟨"SelectConfig", "askedBy", "(I)I"⟩, 9) := ⟨⟨by decide +kernel, by decide +kernel⟩, List.mem_of_getElem? (i := 15) (by decide +kernel), List.mem_of_getElem? (i := 476) (by decide +kernel), List.mem_of_getElem? (i := 477) (by decide +kernel)⟩
theorem lw_p8 : lw_okq (⟨"SelectConfig", "givenBy", "(IJI)J"⟩, 9) := ⟨⟨by decide +kernel, by decide +kernel⟩, List.mem_of_getElem? (i := 15) (by decide +kernel), List.mem_of_getElem? (i := 481) (by decide +kernel), List.mem_of_getElem? (i := 482) (by decide +kernel)⟩
theorem lw_p9 : lw_okq (⟨"SelectConfig", "findWhatTargetsRead", "()V"⟩, 9) := ⟨⟨by decide +kernel, by decide +kernel⟩, List.mem_of_getElem? (i := 15) (by decide +kernel), List.mem_of_getElem? (i := 533) (by decide +kernel), List.mem_of_getElem? (i := 534) (by decide +kernel)⟩
theorem lw_p10 : lw_okq (⟨"SelectConfig", "findPairs", "(IJ)Z"⟩, 9) := ⟨⟨by decide +kernel, by decide +kernel⟩, List.mem_of_getElem? (i := 15) (by decide +kernel), List.mem_of_getElem? (i := 550) (by decide +kernel), List.mem_of_getElem? (i := 551) (by decide +kernel)⟩
theorem lw_p11 : lw_okq (⟨"SelectConfig", "pairOf", "(IJ)I"⟩, 9) := ⟨⟨by decide +kernel, by decide +kernel⟩, List.mem_of_getElem? (i := 15) (by decide +kernel), List.mem_of_getElem? (i := 554) (by decide +kernel), List.mem_of_getElem? (i := 555) (by decide +kernel)⟩
theorem lw_p12 : lw_okq (⟨"SelectConfig", "followNeed", "(II)Z"⟩, 9) := ⟨⟨by decide +kernel, by decide +kernel⟩, List.mem_of_getElem? (i := 15) (by decide +kernel), List.mem_of_getElem? (i := 562) (by decide +kernel), List.mem_of_getElem? (i := 563) (by decide +kernel)⟩
theorem lw_p13 : lw_okq (⟨"SelectConfig", "changedBase", "(II)I"⟩, 9) := ⟨⟨by decide +kernel, by decide +kernel⟩, List.mem_of_getElem? (i := 15) (by decide +kernel), List.mem_of_getElem? (i := 566) (by decide +kernel), List.mem_of_getElem? (i := 567) (by decide +kernel)⟩
theorem lw_p14 : lw_okq (⟨"SelectConfig", "turnsOf", "(III)I"⟩, 9) := ⟨⟨by decide +kernel, by decide +kernel⟩, List.mem_of_getElem? (i := 15) (by decide +kernel), List.mem_of_getElem? (i := 574) (by decide +kernel), List.mem_of_getElem? (i := 575) (by decide +kernel)⟩
theorem lw_p15 : lw_okq (⟨"SelectConfig", "leaveOutByWants", "()V"⟩, 9) := ⟨⟨by decide +kernel, by decide +kernel⟩, List.mem_of_getElem? (i := 15) (by decide +kernel), List.mem_of_getElem? (i := 585) (by decide +kernel), List.mem_of_getElem? (i := 586) (by decide +kernel)⟩
def lw_privs_1 : List (MethodName × Nat) := [(⟨"SelectConfig", "trimmed", "(JI)J"⟩, 9), (⟨"SelectConfig", "isMet", "(IJ)Z"⟩, 9), (⟨"SelectConfig", "isAskingMet", "(IJ)Z"⟩, 9), (⟨"SelectConfig", "choosing", "(IJI)J"⟩, 9), (⟨"SelectConfig", "holdingBranches", "(IJ)I"⟩, 9), (⟨"SelectConfig", "mostSpecialBranches", "(II)I"⟩, 9), (⟨"SelectConfig", "isOutdone", "(III)Z"⟩, 9), (⟨"SelectConfig", "askedBy", "(I)I"⟩, 9), (⟨"SelectConfig", "givenBy", "(IJI)J"⟩, 9), (⟨"SelectConfig", "findWhatTargetsRead", "()V"⟩, 9), (⟨"SelectConfig", "findPairs", "(IJ)Z"⟩, 9), (⟨"SelectConfig", "pairOf", "(IJ)I"⟩, 9), (⟨"SelectConfig", "followNeed", "(II)Z"⟩, 9), (⟨"SelectConfig", "changedBase", "(II)I"⟩, 9), (⟨"SelectConfig", "turnsOf", "(III)I"⟩, 9), (⟨"SelectConfig", "leaveOutByWants", "()V"⟩, 9)]
theorem lw_r1 : ∀ q ∈ lw_privs_1, lw_okq q := List.forall_mem_cons.mpr ⟨lw_p0, List.forall_mem_cons.mpr ⟨lw_p1, List.forall_mem_cons.mpr ⟨lw_p2, List.forall_mem_cons.mpr ⟨lw_p3, List.forall_mem_cons.mpr ⟨lw_p4, List.forall_mem_cons.mpr ⟨lw_p5, List.forall_mem_cons.mpr ⟨lw_p6, List.forall_mem_cons.mpr ⟨lw_p7, List.forall_mem_cons.mpr ⟨lw_p8, List.forall_mem_cons.mpr ⟨lw_p9, List.forall_mem_cons.mpr ⟨lw_p10, List.forall_mem_cons.mpr ⟨lw_p11, List.forall_mem_cons.mpr ⟨lw_p12, List.forall_mem_cons.mpr ⟨lw_p13, List.forall_mem_cons.mpr ⟨lw_p14, List.forall_mem_cons.mpr ⟨lw_p15, fun _ h => absurd h List.not_mem_nil⟩⟩⟩⟩⟩⟩⟩⟩⟩⟩⟩⟩⟩⟩⟩⟩
theorem lw_p16 : lw_okq (⟨"SelectConfig$Pairs", "allLeftOut", "()J"⟩, 5) := ⟨⟨by decide +kernel, by decide +kernel⟩, List.mem_of_getElem? (i := 184) (by decide +kernel), List.mem_of_getElem? (i := 593) (by decide +kernel), List.mem_of_getElem? (i := 594) (by decide +kernel)⟩
theorem lw_p17 : lw_okq (⟨"SelectConfigModel", "baseOf", "(I)I"⟩, 44) := ⟨⟨by decide +kernel, by decide +kernel⟩, List.mem_of_getElem? (i := 605) (by decide +kernel), List.mem_of_getElem? (i := 759) (by decide +kernel), List.mem_of_getElem? (i := 760) (by decide +kernel)⟩
theorem lw_p18 : lw_okq (⟨"SelectConfigModel", "isUsed", "(I)Z"⟩, 44) := ⟨⟨by decide +kernel, by decide +kernel⟩, List.mem_of_getElem? (i := 605) (by decide +kernel), List.mem_of_getElem? (i := 779) (by decide +kernel), List.mem_of_getElem? (i := 780) (by decide +kernel)⟩
theorem lw_p19 : lw_okq (⟨"SelectConfigModel", "isHolding", "(II)Z"⟩, 44) := ⟨⟨by decide +kernel, by decide +kernel⟩, List.mem_of_getElem? (i := 605) (by decide +kernel), List.mem_of_getElem? (i := 787) (by decide +kernel), List.mem_of_getElem? (i := 788) (by decide +kernel)⟩
theorem lw_p20 : lw_okq (⟨"SelectConfigModel", "isSo", "(II)Z"⟩, 44) := ⟨⟨by decide +kernel, by decide +kernel⟩, List.mem_of_getElem? (i := 605) (by decide +kernel), List.mem_of_getElem? (i := 791) (by decide +kernel), List.mem_of_getElem? (i := 792) (by decide +kernel)⟩
theorem lw_p21 : lw_okq (⟨"SelectConfigModel", "hasNested", "(I)Z"⟩, 44) := ⟨⟨by decide +kernel, by decide +kernel⟩, List.mem_of_getElem? (i := 605) (by decide +kernel), List.mem_of_getElem? (i := 811) (by decide +kernel), List.mem_of_getElem? (i := 812) (by decide +kernel)⟩
theorem lw_p22 : lw_okq (⟨"SelectConfigModel", "isWithin", "(I)Z"⟩, 44) := ⟨⟨by decide +kernel, by decide +kernel⟩, List.mem_of_getElem? (i := 605) (by decide +kernel), List.mem_of_getElem? (i := 815) (by decide +kernel), List.mem_of_getElem? (i := 816) (by decide +kernel)⟩
theorem lw_p23 : lw_okq (⟨"SelectConfigModel", "give", "(II)V"⟩, 44) := ⟨⟨by decide +kernel, by decide +kernel⟩, List.mem_of_getElem? (i := 605) (by decide +kernel), List.mem_of_getElem? (i := 827) (by decide +kernel), List.mem_of_getElem? (i := 828) (by decide +kernel)⟩
theorem lw_p24 : lw_okq (⟨"SelectConfigModel", "numbered", "()I"⟩, 44) := ⟨⟨by decide +kernel, by decide +kernel⟩, List.mem_of_getElem? (i := 605) (by decide +kernel), List.mem_of_getElem? (i := 831) (by decide +kernel), List.mem_of_getElem? (i := 832) (by decide +kernel)⟩
theorem lw_p25 : lw_okq (⟨"SelectConfigModel", "isAlike", "(II)Z"⟩, 44) := ⟨⟨by decide +kernel, by decide +kernel⟩, List.mem_of_getElem? (i := 605) (by decide +kernel), List.mem_of_getElem? (i := 835) (by decide +kernel), List.mem_of_getElem? (i := 836) (by decide +kernel)⟩
theorem lw_p26 : lw_okq (⟨"SelectConfigModel", "copy", "(II)V"⟩, 44) := ⟨⟨by decide +kernel, by decide +kernel⟩, List.mem_of_getElem? (i := 605) (by decide +kernel), List.mem_of_getElem? (i := 839) (by decide +kernel), List.mem_of_getElem? (i := 840) (by decide +kernel)⟩
theorem lw_p27 : lw_okq (⟨"SelectConfigModel", "chooseAll", "(II)V"⟩, 44) := ⟨⟨by decide +kernel, by decide +kernel⟩, List.mem_of_getElem? (i := 605) (by decide +kernel), List.mem_of_getElem? (i := 855) (by decide +kernel), List.mem_of_getElem? (i := 856) (by decide +kernel)⟩
theorem lw_p28 : lw_okq (⟨"SelectConfigModel", "mostSpecial", "(II)I"⟩, 44) := ⟨⟨by decide +kernel, by decide +kernel⟩, List.mem_of_getElem? (i := 605) (by decide +kernel), List.mem_of_getElem? (i := 859) (by decide +kernel), List.mem_of_getElem? (i := 860) (by decide +kernel)⟩
theorem lw_p29 : lw_okq (⟨"SelectConfigModel", "isSpecial", "(II)Z"⟩, 44) := ⟨⟨by decide +kernel, by decide +kernel⟩, List.mem_of_getElem? (i := 605) (by decide +kernel), List.mem_of_getElem? (i := 863) (by decide +kernel), List.mem_of_getElem? (i := 864) (by decide +kernel)⟩
theorem lw_p30 : lw_okq (⟨"SelectConfigModel", "hasAll", "(II)Z"⟩, 44) := ⟨⟨by decide +kernel, by decide +kernel⟩, List.mem_of_getElem? (i := 605) (by decide +kernel), List.mem_of_getElem? (i := 867) (by decide +kernel), List.mem_of_getElem? (i := 868) (by decide +kernel)⟩
theorem lw_p31 : lw_okq (⟨"SelectConfigModel", "about", "(I)I"⟩, 44) := ⟨⟨by decide +kernel, by decide +kernel⟩, List.mem_of_getElem? (i := 605) (by decide +kernel), List.mem_of_getElem? (i := 871) (by decide +kernel), List.mem_of_getElem? (i := 872) (by decide +kernel)⟩
def lw_privs_2 : List (MethodName × Nat) := [(⟨"SelectConfig$Pairs", "allLeftOut", "()J"⟩, 5), (⟨"SelectConfigModel", "baseOf", "(I)I"⟩, 44), (⟨"SelectConfigModel", "isUsed", "(I)Z"⟩, 44), (⟨"SelectConfigModel", "isHolding", "(II)Z"⟩, 44), (⟨"SelectConfigModel", "isSo", "(II)Z"⟩, 44), (⟨"SelectConfigModel", "hasNested", "(I)Z"⟩, 44), (⟨"SelectConfigModel", "isWithin", "(I)Z"⟩, 44), (⟨"SelectConfigModel", "give", "(II)V"⟩, 44), (⟨"SelectConfigModel", "numbered", "()I"⟩, 44), (⟨"SelectConfigModel", "isAlike", "(II)Z"⟩, 44), (⟨"SelectConfigModel", "copy", "(II)V"⟩, 44), (⟨"SelectConfigModel", "chooseAll", "(II)V"⟩, 44), (⟨"SelectConfigModel", "mostSpecial", "(II)I"⟩, 44), (⟨"SelectConfigModel", "isSpecial", "(II)Z"⟩, 44), (⟨"SelectConfigModel", "hasAll", "(II)Z"⟩, 44), (⟨"SelectConfigModel", "about", "(I)I"⟩, 44)]
theorem lw_r2 : ∀ q ∈ lw_privs_2, lw_okq q := List.forall_mem_cons.mpr ⟨lw_p16, List.forall_mem_cons.mpr ⟨lw_p17, List.forall_mem_cons.mpr ⟨lw_p18, List.forall_mem_cons.mpr ⟨lw_p19, List.forall_mem_cons.mpr ⟨lw_p20, List.forall_mem_cons.mpr ⟨lw_p21, List.forall_mem_cons.mpr ⟨lw_p22, List.forall_mem_cons.mpr ⟨lw_p23, List.forall_mem_cons.mpr ⟨lw_p24, List.forall_mem_cons.mpr ⟨lw_p25, List.forall_mem_cons.mpr ⟨lw_p26, List.forall_mem_cons.mpr ⟨lw_p27, List.forall_mem_cons.mpr ⟨lw_p28, List.forall_mem_cons.mpr ⟨lw_p29, List.forall_mem_cons.mpr ⟨lw_p30, List.forall_mem_cons.mpr ⟨lw_p31, fun _ h => absurd h List.not_mem_nil⟩⟩⟩⟩⟩⟩⟩⟩⟩⟩⟩⟩⟩⟩⟩⟩
theorem lw_p32 : lw_okq (⟨"SelectConfigModel", "chooseInner", "(II)V"⟩, 44) := ⟨⟨by decide +kernel, by decide +kernel⟩, List.mem_of_getElem? (i := 605) (by decide +kernel), List.mem_of_getElem? (i := 875) (by decide +kernel), List.mem_of_getElem? (i := 876) (by decide +kernel)⟩
theorem lw_p33 : lw_okq (⟨"SelectConfigModel", "readAll", "(I)I"⟩, 44) := ⟨⟨by decide +kernel, by decide +kernel⟩, List.mem_of_getElem? (i := 605) (by decide +kernel), List.mem_of_getElem? (i := 895) (by decide +kernel), List.mem_of_getElem? (i := 896) (by decide +kernel)⟩
theorem lw_p34 : lw_okq (⟨"SelectConfigModel", "led", "(I)I"⟩, 44) := ⟨⟨by decide +kernel, by decide +kernel⟩, List.mem_of_getElem? (i := 605) (by decide +kernel), List.mem_of_getElem? (i := 899) (by decide +kernel), List.mem_of_getElem? (i := 900) (by decide +kernel)⟩
theorem lw_p35 : lw_okq (⟨"SelectConfigModel", "readAlone", "(I)I"⟩, 44) := ⟨⟨by decide +kernel, by decide +kernel⟩, List.mem_of_getElem? (i := 605) (by decide +kernel), List.mem_of_getElem? (i := 903) (by decide +kernel), List.mem_of_getElem? (i := 904) (by decide +kernel)⟩
theorem lw_p36 : lw_okq (⟨"SelectConfigModel", "readBy", "(I)I"⟩, 44) := ⟨⟨by decide +kernel, by decide +kernel⟩, List.mem_of_getElem? (i := 605) (by decide +kernel), List.mem_of_getElem? (i := 907) (by decide +kernel), List.mem_of_getElem? (i := 908) (by decide +kernel)⟩
theorem lw_p37 : lw_okq (⟨"SelectConfigModel", "trimmed", "(I)I"⟩, 44) := ⟨⟨by decide +kernel, by decide +kernel⟩, List.mem_of_getElem? (i := 605) (by decide +kernel), List.mem_of_getElem? (i := 915) (by decide +kernel), List.mem_of_getElem? (i := 916) (by decide +kernel)⟩
theorem lw_p38 : lw_okq (⟨"SelectConfigModel", "pairOf", "(I)I"⟩, 44) := ⟨⟨by decide +kernel, by decide +kernel⟩, List.mem_of_getElem? (i := 605) (by decide +kernel), List.mem_of_getElem? (i := 923) (by decide +kernel), List.mem_of_getElem? (i := 924) (by decide +kernel)⟩
theorem lw_p39 : lw_okq (⟨"SelectConfigModel", "follow", "(II)Z"⟩, 44) := ⟨⟨by decide +kernel, by decide +kernel⟩, List.mem_of_getElem? (i := 605) (by decide +kernel), List.mem_of_getElem? (i := 927) (by decide +kernel), List.mem_of_getElem? (i := 928) (by decide +kernel)⟩
theorem lw_p40 : lw_okq (⟨"SelectConfigModel", "isTurn", "(III)Z"⟩, 44) := ⟨⟨by decide +kernel, by decide +kernel⟩, List.mem_of_getElem? (i := 605) (by decide +kernel), List.mem_of_getElem? (i := 931) (by decide +kernel), List.mem_of_getElem? (i := 932) (by decide +kernel)⟩
theorem lw_p41 : lw_okq (⟨"SelectConfigModel", "turn", "(III)V"⟩, 44) := ⟨⟨by decide +kernel, by decide +kernel⟩, List.mem_of_getElem? (i := 605) (by decide +kernel), List.mem_of_getElem? (i := 935) (by decide +kernel), List.mem_of_getElem? (i := 936) (by decide +kernel)⟩
theorem lw_p42 : lw_okq (⟨"SelectConfigModel", "leaveOut", "()V"⟩, 44) := ⟨⟨by decide +kernel, by decide +kernel⟩, List.mem_of_getElem? (i := 605) (by decide +kernel), List.mem_of_getElem? (i := 939) (by decide +kernel), List.mem_of_getElem? (i := 940) (by decide +kernel)⟩
def lw_privs_3 : List (MethodName × Nat) := [(⟨"SelectConfigModel", "chooseInner", "(II)V"⟩, 44), (⟨"SelectConfigModel", "readAll", "(I)I"⟩, 44), (⟨"SelectConfigModel", "led", "(I)I"⟩, 44), (⟨"SelectConfigModel", "readAlone", "(I)I"⟩, 44), (⟨"SelectConfigModel", "readBy", "(I)I"⟩, 44), (⟨"SelectConfigModel", "trimmed", "(I)I"⟩, 44), (⟨"SelectConfigModel", "pairOf", "(I)I"⟩, 44), (⟨"SelectConfigModel", "follow", "(II)Z"⟩, 44), (⟨"SelectConfigModel", "isTurn", "(III)Z"⟩, 44), (⟨"SelectConfigModel", "turn", "(III)V"⟩, 44), (⟨"SelectConfigModel", "leaveOut", "()V"⟩, 44)]
theorem lw_r3 : ∀ q ∈ lw_privs_3, lw_okq q := List.forall_mem_cons.mpr ⟨lw_p32, List.forall_mem_cons.mpr ⟨lw_p33, List.forall_mem_cons.mpr ⟨lw_p34, List.forall_mem_cons.mpr ⟨lw_p35, List.forall_mem_cons.mpr ⟨lw_p36, List.forall_mem_cons.mpr ⟨lw_p37, List.forall_mem_cons.mpr ⟨lw_p38, List.forall_mem_cons.mpr ⟨lw_p39, List.forall_mem_cons.mpr ⟨lw_p40, List.forall_mem_cons.mpr ⟨lw_p41, List.forall_mem_cons.mpr ⟨lw_p42, fun _ h => absurd h List.not_mem_nil⟩⟩⟩⟩⟩⟩⟩⟩⟩⟩⟩
def lw_privs : List (MethodName × Nat) := lw_privs_1 ++ (lw_privs_2 ++ (lw_privs_3))
def lw_tbl : List Cond := k2_sels lw_privs ++ tables_1
theorem lw_privs_ok : ∀ q ∈ lw_privs, lw_okq q := by
  show ∀ q ∈ lw_privs_1 ++ (lw_privs_2 ++ (lw_privs_3)), lw_okq q
  exact List.forall_mem_append.mpr ⟨lw_r1, List.forall_mem_append.mpr ⟨lw_r2, lw_r3⟩⟩
end
section
def tb : List Cond := lw_tbl.filter goodWord
theorem tb_in {w : Cond} (k : Nat) (h : lw_tbl[k]? = some w) (hg : goodWord w = true) : w ∈ tb := List.mem_filter.mpr ⟨List.mem_of_getElem? h, hg⟩
theorem tb_good {w : Cond} (h : w ∈ tb) : (w.onTables && w.keeps) = true ∨ ∃ ty, w = .arrayClass ty := good_of_word (List.mem_filter.mp h).2
theorem cB {R : Room} {s : State} {args : Array Value} {own : String} {index maxL mc ms : Nat} {y : MethodName} {bytes : ByteArray} {ret : Option FieldType} {rm : Room} (n : Nat) (hT : ∀ w ∈ tb, w.before args s = true) (h1 : Cond.methodLink own index y ∈ tb) (h2 : Cond.initialized y.cls ∈ tb) (h3 : Cond.code y bytes maxL ret ∈ tb) (hc : rm.cells = mc) (hs : rm.slots = ms)
    (hd : y.cls ≠ "java/lang/invoke/MethodHandle" ∧ y.cls ≠ "java/lang/invoke/VarHandle" ∧ (parseMethodDescriptor y.desc).map (fun d => d.parameters.length) = some n) (h4 : rm.frames + 1 ≤ R.frames) (h5 : 8 + (maxL + 11) + rm.locals ≤ R.locals) :
    CallB R s args own index y bytes maxL ret (.code y bytes maxL ret :: tb) rm mc ms n :=
  callB_of n hT (fun w hw => by
    rcases List.mem_cons.mp hw with rfl | hw
    · exact ⟨h3, tb_good h3⟩
    · exact ⟨hw, tb_good hw⟩) rfl hc hs (hT _ h2) (hT _ h1) hd ⟨h4, h5⟩
theorem tb_1 {w : Cond} (k : Nat) (h : tables_1_1[k]? = some w) (hg : goodWord w = true) : w ∈ tb := List.mem_filter.mpr ⟨List.mem_append_right _ (List.mem_append_left _ (List.mem_of_getElem? h)), hg⟩
theorem tb_2 {w : Cond} (k : Nat) (h : tables_1_2[k]? = some w) (hg : goodWord w = true) : w ∈ tb := List.mem_filter.mpr ⟨List.mem_append_right _ (List.mem_append_right _ (List.mem_append_left _ (List.mem_of_getElem? h))), hg⟩
theorem tb_3 {w : Cond} (k : Nat) (h : tables_1_3[k]? = some w) (hg : goodWord w = true) : w ∈ tb := List.mem_filter.mpr ⟨List.mem_append_right _ (List.mem_append_right _ (List.mem_append_right _ (List.mem_append_left _ (List.mem_of_getElem? h)))), hg⟩
theorem tb_4 {w : Cond} (k : Nat) (h : tables_1_4[k]? = some w) (hg : goodWord w = true) : w ∈ tb := List.mem_filter.mpr ⟨List.mem_append_right _ (List.mem_append_right _ (List.mem_append_right _ (List.mem_append_right _ (List.mem_of_getElem? h)))), hg⟩
theorem tb_p1 {q : MethodName × Nat} (k : Nat) (h : lw_privs_1[k]? = some q) : Cond.selects q.1.cls q.1 q.1 ∈ tb := List.mem_filter.mpr ⟨List.mem_append_left _ (List.mem_map.mpr ⟨q, List.mem_append_left _ (List.mem_of_getElem? h), rfl⟩), rfl⟩
theorem tb_p2 {q : MethodName × Nat} (k : Nat) (h : lw_privs_2[k]? = some q) : Cond.selects q.1.cls q.1 q.1 ∈ tb := List.mem_filter.mpr ⟨List.mem_append_left _ (List.mem_map.mpr ⟨q, List.mem_append_right _ (List.mem_append_left _ (List.mem_of_getElem? h)), rfl⟩), rfl⟩
theorem tb_p3 {q : MethodName × Nat} (k : Nat) (h : lw_privs_3[k]? = some q) : Cond.selects q.1.cls q.1 q.1 ∈ tb := List.mem_filter.mpr ⟨List.mem_append_left _ (List.mem_map.mpr ⟨q, List.mem_append_right _ (List.mem_append_right _ (List.mem_of_getElem? h)), rfl⟩), rfl⟩
theorem fa_n {p : Cond → Prop} : ∀ w ∈ ([] : List Cond), p w := fun _ h => absurd h List.not_mem_nil
theorem fa_c {p : Cond → Prop} {a : Cond} {l : List Cond} (h : p a) (hl : ∀ w ∈ l, p w) : ∀ w ∈ a :: l, p w := List.forall_mem_cons.mpr ⟨h, hl⟩
def Rk_0 : String := "SelectConfig"
def Fk_0 : u_T := fun k => match k with
  | 0 => ("SelectConfig", "settings", "LSelectConfig$Settings;", true)
  | 1 => ("SelectConfig", "platforms", "LSelectConfig$Platforms;", true)
  | 2 => ("SelectConfig", "configurations", "LSelectConfig$Configurations;", true)
  | 3 => ("SelectConfig", "conditions", "LSelectConfig$Conditions;", true)
  | 4 => ("SelectConfig", "targets", "LSelectConfig$Targets;", true)
  | 5 => ("SelectConfig", "selects", "LSelectConfig$Selects;", true)
  | 6 => ("SelectConfig", "needs", "LSelectConfig$Needs;", true)
  | 7 => ("SelectConfig", "pairs", "LSelectConfig$Pairs;", true)
  | _ => ("SelectConfig", "latestChoice", "J", false)
def tk_0 : Nat → FieldType := fun k => match k with
  | 0 => .object "SelectConfig$Settings"
  | 1 => .object "SelectConfig$Platforms"
  | 2 => .object "SelectConfig$Configurations"
  | 3 => .object "SelectConfig$Conditions"
  | 4 => .object "SelectConfig$Targets"
  | 5 => .object "SelectConfig$Selects"
  | 6 => .object "SelectConfig$Needs"
  | 7 => .object "SelectConfig$Pairs"
  | _ => .long
theorem nk_0 : ∀ a, a < 9 → ∀ b, b < 9 → a ≠ b → (Fk_0 a).2.1 ≠ (Fk_0 b).2.1 := by decide +kernel
theorem tk_0_ok : ∀ k, k < 9 → parseFieldDescriptor (Fk_0 k).2.2.1 = some (tk_0 k) := by decide +kernel
theorem ik_0 : ∀ w ∈ u_ws Rk_0 Fk_0 9, w ∈ tb := fa_c (tb_1 222 rfl rfl) (fa_c (tb_1 224 rfl rfl) (fa_c (tb_1 226 rfl rfl) (fa_c (tb_1 228 rfl rfl) (fa_c (tb_1 230 rfl rfl) (fa_c (tb_1 232 rfl rfl) (fa_c (tb_1 234 rfl rfl) (fa_c (tb_1 236 rfl rfl) (fa_c (tb_1 238 rfl rfl) (fa_n)))))))))
def Rk_1 : String := "SelectConfigModel"
def Fk_1 : u_T := fun k => match k with
  | 0 => ("SelectConfigModel", "settings", "I", false)
  | 1 => ("SelectConfigModel", "platforms", "I", false)
  | 2 => ("SelectConfigModel", "configurations", "I", false)
  | 3 => ("SelectConfigModel", "conditions", "I", false)
  | 4 => ("SelectConfigModel", "selects", "I", false)
  | 5 => ("SelectConfigModel", "targets", "I", false)
  | 6 => ("SelectConfigModel", "needs", "I", false)
  | 7 => ("SelectConfigModel", "aliasOf", "[I", true)
  | 8 => ("SelectConfigModel", "many", "[I", true)
  | 9 => ("SelectConfigModel", "fallback", "[I", true)
  | 10 => ("SelectConfigModel", "axes", "[I", true)
  | 11 => ("SelectConfigModel", "platformOf", "[I", true)
  | 12 => ("SelectConfigModel", "values", "[I", true)
  | 13 => ("SelectConfigModel", "askings", "[I", true)
  | 14 => ("SelectConfigModel", "askWhich", "[I", true)
  | 15 => ("SelectConfigModel", "askValue", "[I", true)
  | 16 => ("SelectConfigModel", "askAxis", "[Z", true)
  | 17 => ("SelectConfigModel", "selectTarget", "[I", true)
  | 18 => ("SelectConfigModel", "branches", "[I", true)
  | 19 => ("SelectConfigModel", "branchCondition", "[I", true)
  | 20 => ("SelectConfigModel", "branchValue", "[I", true)
  | 21 => ("SelectConfigModel", "other", "[I", true)
  | 22 => ("SelectConfigModel", "branchNested", "[Z", true)
  | 23 => ("SelectConfigModel", "hasOther", "[Z", true)
  | 24 => ("SelectConfigModel", "wanted", "[I", true)
  | 25 => ("SelectConfigModel", "wasWanted", "[Z", true)
  | 26 => ("SelectConfigModel", "needFrom", "[I", true)
  | 27 => ("SelectConfigModel", "needTo", "[I", true)
  | 28 => ("SelectConfigModel", "changes", "[I", true)
  | 29 => ("SelectConfigModel", "changeOf", "[I", true)
  | 30 => ("SelectConfigModel", "changeBits", "[I", true)
  | 31 => ("SelectConfigModel", "kind", "I", false)
  | 32 => ("SelectConfigModel", "value", "I", false)
  | 33 => ("SelectConfigModel", "first", "I", false)
  | 34 => ("SelectConfigModel", "second", "I", false)
  | 35 => ("SelectConfigModel", "innerKind", "I", false)
  | 36 => ("SelectConfigModel", "innerValue", "I", false)
  | 37 => ("SelectConfigModel", "innerFirst", "I", false)
  | 38 => ("SelectConfigModel", "innerSecond", "I", false)
  | 39 => ("SelectConfigModel", "pairs", "I", false)
  | 40 => ("SelectConfigModel", "pairTarget", "[I", true)
  | 41 => ("SelectConfigModel", "pairConfiguration", "[I", true)
  | 42 => ("SelectConfigModel", "pairOut", "[I", true)
  | _ => ("SelectConfigModel", "leads", "[Z", true)
def tk_1 : Nat → FieldType := fun k => match k with
  | 0 => .int
  | 1 => .int
  | 2 => .int
  | 3 => .int
  | 4 => .int
  | 5 => .int
  | 6 => .int
  | 7 => .array .int
  | 8 => .array .int
  | 9 => .array .int
  | 10 => .array .int
  | 11 => .array .int
  | 12 => .array .int
  | 13 => .array .int
  | 14 => .array .int
  | 15 => .array .int
  | 16 => .array .boolean
  | 17 => .array .int
  | 18 => .array .int
  | 19 => .array .int
  | 20 => .array .int
  | 21 => .array .int
  | 22 => .array .boolean
  | 23 => .array .boolean
  | 24 => .array .int
  | 25 => .array .boolean
  | 26 => .array .int
  | 27 => .array .int
  | 28 => .array .int
  | 29 => .array .int
  | 30 => .array .int
  | 31 => .int
  | 32 => .int
  | 33 => .int
  | 34 => .int
  | 35 => .int
  | 36 => .int
  | 37 => .int
  | 38 => .int
  | 39 => .int
  | 40 => .array .int
  | 41 => .array .int
  | 42 => .array .int
  | _ => .array .boolean
theorem nk_1 : ∀ a, a < 44 → ∀ b, b < 44 → a ≠ b → (Fk_1 a).2.1 ≠ (Fk_1 b).2.1 := by decide +kernel
theorem tk_1_ok : ∀ k, k < 44 → parseFieldDescriptor (Fk_1 k).2.2.1 = some (tk_1 k) := by decide +kernel
theorem ik_1 : ∀ w ∈ u_ws Rk_1 Fk_1 44, w ∈ tb := fa_c (tb_3 174 rfl rfl) (fa_c (tb_3 176 rfl rfl) (fa_c (tb_3 178 rfl rfl) (fa_c (tb_3 180 rfl rfl) (fa_c (tb_3 182 rfl rfl) (fa_c (tb_3 184 rfl rfl) (fa_c (tb_3 186 rfl rfl) (fa_c (tb_3 188 rfl rfl) (fa_c (tb_3 190 rfl rfl) (fa_c (tb_3 192 rfl rfl) (fa_c (tb_3 194 rfl rfl) (fa_c (tb_3 196 rfl rfl) (fa_c (tb_3 198 rfl rfl) (fa_c (tb_3 200 rfl rfl) (fa_c (tb_3 202 rfl rfl) (fa_c (tb_3 204 rfl rfl) (fa_c (tb_3 206 rfl rfl) (fa_c (tb_3 208 rfl rfl) (fa_c (tb_3 210 rfl rfl) (fa_c (tb_3 212 rfl rfl) (fa_c (tb_3 214 rfl rfl) (fa_c (tb_3 216 rfl rfl) (fa_c (tb_3 218 rfl rfl) (fa_c (tb_3 220 rfl rfl) (fa_c (tb_3 222 rfl rfl) (fa_c (tb_3 224 rfl rfl) (fa_c (tb_3 226 rfl rfl) (fa_c (tb_3 228 rfl rfl) (fa_c (tb_3 230 rfl rfl) (fa_c (tb_3 232 rfl rfl) (fa_c (tb_3 234 rfl rfl) (fa_c (tb_3 236 rfl rfl) (fa_c (tb_3 238 rfl rfl) (fa_c (tb_4 0 rfl rfl) (fa_c (tb_4 2 rfl rfl) (fa_c (tb_4 4 rfl rfl) (fa_c (tb_4 6 rfl rfl) (fa_c (tb_4 8 rfl rfl) (fa_c (tb_4 10 rfl rfl) (fa_c (tb_4 12 rfl rfl) (fa_c (tb_4 14 rfl rfl) (fa_c (tb_4 16 rfl rfl) (fa_c (tb_4 18 rfl rfl) (fa_c (tb_4 20 rfl rfl) (fa_n))))))))))))))))))))))))))))))))))))))))))))
def Rk_2 : String := "SelectConfig$Askings"
def Rk_3 : String := "SelectConfig$Choices"
def Rk_4 : String := "SelectConfig$Codes"
def Rk_5 : String := "SelectConfig$Conditions"
def Fk_5 : u_T := fun k => match k with
  | 0 => ("SelectConfig$Conditions", "count", "I", false)
  | 1 => ("SelectConfig$Conditions", "askingCount", "[I", true)
  | 2 => ("SelectConfig$Conditions", "askings", "[I", true)
  | _ => ("SelectConfig$Conditions", "used", "[Z", true)
def tk_5 : Nat → FieldType := fun k => match k with
  | 0 => .int
  | 1 => .array .int
  | 2 => .array .int
  | _ => .array .boolean
theorem nk_5 : ∀ a, a < 4 → ∀ b, b < 4 → a ≠ b → (Fk_5 a).2.1 ≠ (Fk_5 b).2.1 := by decide +kernel
theorem tk_5_ok : ∀ k, k < 4 → parseFieldDescriptor (Fk_5 k).2.2.1 = some (tk_5 k) := by decide +kernel
theorem ik_5 : ∀ w ∈ u_ws Rk_5 Fk_5 4, w ∈ tb := fa_c (tb_1 85 rfl rfl) (fa_c (tb_1 87 rfl rfl) (fa_c (tb_1 89 rfl rfl) (fa_c (tb_1 91 rfl rfl) (fa_n))))
def Rk_6 : String := "SelectConfig$Configurations"
def Fk_6 : u_T := fun k => match k with
  | 0 => ("SelectConfig$Configurations", "count", "I", false)
  | _ => ("SelectConfig$Configurations", "codes", "[J", true)
def tk_6 : Nat → FieldType := fun k => match k with
  | 0 => .int
  | _ => .array .long
theorem nk_6 : ∀ a, a < 2 → ∀ b, b < 2 → a ≠ b → (Fk_6 a).2.1 ≠ (Fk_6 b).2.1 := by decide +kernel
theorem tk_6_ok : ∀ k, k < 2 → parseFieldDescriptor (Fk_6 k).2.2.1 = some (tk_6 k) := by decide +kernel
theorem ik_6 : ∀ w ∈ u_ws Rk_6 Fk_6 2, w ∈ tb := fa_c (tb_1 67 rfl rfl) (fa_c (tb_1 69 rfl rfl) (fa_n))
def Rk_7 : String := "SelectConfig$Needs"
def Fk_7 : u_T := fun k => match k with
  | 0 => ("SelectConfig$Needs", "count", "I", false)
  | 1 => ("SelectConfig$Needs", "target", "[I", true)
  | 2 => ("SelectConfig$Needs", "other", "[I", true)
  | 3 => ("SelectConfig$Needs", "changeCount", "[I", true)
  | 4 => ("SelectConfig$Needs", "changeSetting", "[I", true)
  | _ => ("SelectConfig$Needs", "changeValues", "[I", true)
def tk_7 : Nat → FieldType := fun k => match k with
  | 0 => .int
  | 1 => .array .int
  | 2 => .array .int
  | 3 => .array .int
  | 4 => .array .int
  | _ => .array .int
theorem nk_7 : ∀ a, a < 6 → ∀ b, b < 6 → a ≠ b → (Fk_7 a).2.1 ≠ (Fk_7 b).2.1 := by decide +kernel
theorem tk_7_ok : ∀ k, k < 6 → parseFieldDescriptor (Fk_7 k).2.2.1 = some (tk_7 k) := by decide +kernel
theorem ik_7 : ∀ w ∈ u_ws Rk_7 Fk_7 6, w ∈ tb := fa_c (tb_1 170 rfl rfl) (fa_c (tb_1 172 rfl rfl) (fa_c (tb_1 174 rfl rfl) (fa_c (tb_1 176 rfl rfl) (fa_c (tb_1 178 rfl rfl) (fa_c (tb_1 180 rfl rfl) (fa_n))))))
def Rk_8 : String := "SelectConfig$Pairs"
def Fk_8 : u_T := fun k => match k with
  | 0 => ("SelectConfig$Pairs", "count", "I", false)
  | 1 => ("SelectConfig$Pairs", "target", "[I", true)
  | 2 => ("SelectConfig$Pairs", "configuration", "[I", true)
  | 3 => ("SelectConfig$Pairs", "leftOut", "[I", true)
  | _ => ("SelectConfig$Pairs", "leadsTo", "[J", true)
def tk_8 : Nat → FieldType := fun k => match k with
  | 0 => .int
  | 1 => .array .int
  | 2 => .array .int
  | 3 => .array .int
  | _ => .array .long
theorem nk_8 : ∀ a, a < 5 → ∀ b, b < 5 → a ≠ b → (Fk_8 a).2.1 ≠ (Fk_8 b).2.1 := by decide +kernel
theorem tk_8_ok : ∀ k, k < 5 → parseFieldDescriptor (Fk_8 k).2.2.1 = some (tk_8 k) := by decide +kernel
theorem ik_8 : ∀ w ∈ u_ws Rk_8 Fk_8 5, w ∈ tb := fa_c (tb_1 199 rfl rfl) (fa_c (tb_1 201 rfl rfl) (fa_c (tb_1 203 rfl rfl) (fa_c (tb_1 205 rfl rfl) (fa_c (tb_1 207 rfl rfl) (fa_n)))))
def Rk_9 : String := "SelectConfig$Platforms"
def Fk_9 : u_T := fun k => match k with
  | 0 => ("SelectConfig$Platforms", "count", "I", false)
  | _ => ("SelectConfig$Platforms", "axisValue", "[I", true)
def tk_9 : Nat → FieldType := fun k => match k with
  | 0 => .int
  | _ => .array .int
theorem nk_9 : ∀ a, a < 2 → ∀ b, b < 2 → a ≠ b → (Fk_9 a).2.1 ≠ (Fk_9 b).2.1 := by decide +kernel
theorem tk_9_ok : ∀ k, k < 2 → parseFieldDescriptor (Fk_9 k).2.2.1 = some (tk_9 k) := by decide +kernel
theorem ik_9 : ∀ w ∈ u_ws Rk_9 Fk_9 2, w ∈ tb := fa_c (tb_1 53 rfl rfl) (fa_c (tb_1 55 rfl rfl) (fa_n))
def Rk_10 : String := "SelectConfig$Selects"
def Fk_10 : u_T := fun k => match k with
  | 0 => ("SelectConfig$Selects", "count", "I", false)
  | 1 => ("SelectConfig$Selects", "target", "[I", true)
  | 2 => ("SelectConfig$Selects", "otherwise", "[J", true)
  | 3 => ("SelectConfig$Selects", "isWithin", "[Z", true)
  | 4 => ("SelectConfig$Selects", "hasWithin", "[Z", true)
  | 5 => ("SelectConfig$Selects", "branchCount", "[I", true)
  | 6 => ("SelectConfig$Selects", "branchCondition", "[I", true)
  | 7 => ("SelectConfig$Selects", "branchNested", "[Z", true)
  | _ => ("SelectConfig$Selects", "branchValue", "[I", true)
def tk_10 : Nat → FieldType := fun k => match k with
  | 0 => .int
  | 1 => .array .int
  | 2 => .array .long
  | 3 => .array .boolean
  | 4 => .array .boolean
  | 5 => .array .int
  | 6 => .array .int
  | 7 => .array .boolean
  | _ => .array .int
theorem nk_10 : ∀ a, a < 9 → ∀ b, b < 9 → a ≠ b → (Fk_10 a).2.1 ≠ (Fk_10 b).2.1 := by decide +kernel
theorem tk_10_ok : ∀ k, k < 9 → parseFieldDescriptor (Fk_10 k).2.2.1 = some (tk_10 k) := by decide +kernel
theorem ik_10 : ∀ w ∈ u_ws Rk_10 Fk_10 9, w ∈ tb := fa_c (tb_1 135 rfl rfl) (fa_c (tb_1 137 rfl rfl) (fa_c (tb_1 139 rfl rfl) (fa_c (tb_1 141 rfl rfl) (fa_c (tb_1 143 rfl rfl) (fa_c (tb_1 145 rfl rfl) (fa_c (tb_1 147 rfl rfl) (fa_c (tb_1 149 rfl rfl) (fa_c (tb_1 151 rfl rfl) (fa_n)))))))))
def Rk_11 : String := "SelectConfig$Settings"
def Fk_11 : u_T := fun k => match k with
  | 0 => ("SelectConfig$Settings", "count", "I", false)
  | 1 => ("SelectConfig$Settings", "values", "[I", true)
  | 2 => ("SelectConfig$Settings", "fallback", "[I", true)
  | _ => ("SelectConfig$Settings", "other", "[I", true)
def tk_11 : Nat → FieldType := fun k => match k with
  | 0 => .int
  | 1 => .array .int
  | 2 => .array .int
  | _ => .array .int
theorem nk_11 : ∀ a, a < 4 → ∀ b, b < 4 → a ≠ b → (Fk_11 a).2.1 ≠ (Fk_11 b).2.1 := by decide +kernel
theorem tk_11_ok : ∀ k, k < 4 → parseFieldDescriptor (Fk_11 k).2.2.1 = some (tk_11 k) := by decide +kernel
theorem ik_11 : ∀ w ∈ u_ws Rk_11 Fk_11 4, w ∈ tb := fa_c (tb_1 35 rfl rfl) (fa_c (tb_1 37 rfl rfl) (fa_c (tb_1 39 rfl rfl) (fa_c (tb_1 41 rfl rfl) (fa_n))))
def Rk_12 : String := "SelectConfig$Targets"
def Fk_12 : u_T := fun k => match k with
  | 0 => ("SelectConfig$Targets", "count", "I", false)
  | 1 => ("SelectConfig$Targets", "wanted", "[I", true)
  | _ => ("SelectConfig$Targets", "read", "[I", true)
def tk_12 : Nat → FieldType := fun k => match k with
  | 0 => .int
  | 1 => .array .int
  | _ => .array .int
theorem nk_12 : ∀ a, a < 3 → ∀ b, b < 3 → a ≠ b → (Fk_12 a).2.1 ≠ (Fk_12 b).2.1 := by decide +kernel
theorem tk_12_ok : ∀ k, k < 3 → parseFieldDescriptor (Fk_12 k).2.2.1 = some (tk_12 k) := by decide +kernel
theorem ik_12 : ∀ w ∈ u_ws Rk_12 Fk_12 3, w ∈ tb := fa_c (tb_1 107 rfl rfl) (fa_c (tb_1 109 rfl rfl) (fa_c (tb_1 111 rfl rfl) (fa_n)))
abbrev vwCl : List vw_C := [(Rk_0, Fk_0, 9), (Rk_1, Fk_1, 44), (Rk_5, Fk_5, 4), (Rk_6, Fk_6, 2), (Rk_7, Fk_7, 6), (Rk_8, Fk_8, 5), (Rk_9, Fk_9, 2), (Rk_10, Fk_10, 9), (Rk_11, Fk_11, 4), (Rk_12, Fk_12, 3)]
def RL : String := "SelectConfigLaw"
abbrev bk_0_init : ByteArray := prog_1_method_1_code
def yk_0_init : MethodName := ⟨Rk_0, "<init>", "()V"⟩
abbrev bk_0_setting : ByteArray := prog_1_method_2_code
def yk_0_setting : MethodName := ⟨Rk_0, "setting", "(II)I"⟩
abbrev bk_0_alias : ByteArray := prog_1_method_3_code
def yk_0_alias : MethodName := ⟨Rk_0, "alias", "(I)I"⟩
abbrev bk_0_base : ByteArray := prog_1_method_4_code
def yk_0_base : MethodName := ⟨Rk_0, "base", "(I)I"⟩
abbrev bk_0_platform : ByteArray := prog_1_method_5_code
def yk_0_platform : MethodName := ⟨Rk_0, "platform", "()I"⟩
abbrev bk_0_has : ByteArray := prog_1_method_6_code
def yk_0_has : MethodName := ⟨Rk_0, "has", "(III)Z"⟩
abbrev bk_0_condition : ByteArray := prog_1_method_7_code
def yk_0_condition : MethodName := ⟨Rk_0, "condition", "()I"⟩
abbrev bk_0_asks : ByteArray := prog_1_method_8_code
def yk_0_asks : MethodName := ⟨Rk_0, "asks", "(IZII)Z"⟩
abbrev bk_0_target : ByteArray := prog_1_method_9_code
def yk_0_target : MethodName := ⟨Rk_0, "target", "()I"⟩
abbrev bk_0_wants : ByteArray := prog_1_method_10_code
def yk_0_wants : MethodName := ⟨Rk_0, "wants", "(II)Z"⟩
abbrev bk_0_select : ByteArray := prog_1_method_11_code
def yk_0_select : MethodName := ⟨Rk_0, "select", "(I)I"⟩
abbrev bk_0_branch : ByteArray := prog_1_method_12_code
def yk_0_branch : MethodName := ⟨Rk_0, "branch", "(IIZI)Z"⟩
abbrev bk_0_otherwise : ByteArray := prog_1_method_13_code
def yk_0_otherwise : MethodName := ⟨Rk_0, "otherwise", "(II)Z"⟩
abbrev bk_0_configuration : ByteArray := prog_1_method_14_code
def yk_0_configuration : MethodName := ⟨Rk_0, "configuration", "(I)I"⟩
abbrev bk_0_set : ByteArray := prog_1_method_15_code
def yk_0_set : MethodName := ⟨Rk_0, "set", "(III)I"⟩
abbrev bk_0_value : ByteArray := prog_1_method_16_code
def yk_0_value : MethodName := ⟨Rk_0, "value", "(II)I"⟩
abbrev bk_0_holds : ByteArray := prog_1_method_17_code
def yk_0_holds : MethodName := ⟨Rk_0, "holds", "(II)Z"⟩
abbrev bk_0_choose : ByteArray := prog_1_method_18_code
def yk_0_choose : MethodName := ⟨Rk_0, "choose", "(II)I"⟩
abbrev bk_0_chosen : ByteArray := prog_1_method_19_code
def yk_0_chosen : MethodName := ⟨Rk_0, "chosen", "(I)I"⟩
abbrev bk_0_need : ByteArray := prog_1_method_20_code
def yk_0_need : MethodName := ⟨Rk_0, "need", "(II)I"⟩
abbrev bk_0_change : ByteArray := prog_1_method_21_code
def yk_0_change : MethodName := ⟨Rk_0, "change", "(III)Z"⟩
abbrev bk_0_reads : ByteArray := prog_1_method_22_code
def yk_0_reads : MethodName := ⟨Rk_0, "reads", "(I)I"⟩
abbrev bk_0_trim : ByteArray := prog_1_method_23_code
def yk_0_trim : MethodName := ⟨Rk_0, "trim", "(II)I"⟩
abbrev bk_0_expand : ByteArray := prog_1_method_24_code
def yk_0_expand : MethodName := ⟨Rk_0, "expand", "(II)I"⟩
abbrev bk_0_pair : ByteArray := prog_1_method_25_code
def yk_0_pair : MethodName := ⟨Rk_0, "pair", "(II)I"⟩
abbrev bk_0_isAxis : ByteArray := prog_1_method_26_code
def yk_0_isAxis : MethodName := ⟨Rk_0, "isAxis", "(I)Z"⟩
abbrev bk_0_isValue : ByteArray := prog_1_method_27_code
def yk_0_isValue : MethodName := ⟨Rk_0, "isValue", "(I)Z"⟩
abbrev bk_0_hasBit : ByteArray := prog_1_method_28_code
def yk_0_hasBit : MethodName := ⟨Rk_0, "hasBit", "(II)Z"⟩
abbrev bk_0_isMet : ByteArray := prog_1_method_29_code
def yk_0_isMet : MethodName := ⟨Rk_0, "isMet", "(IJ)Z"⟩
abbrev bk_0_isAskingMet : ByteArray := prog_1_method_30_code
def yk_0_isAskingMet : MethodName := ⟨Rk_0, "isAskingMet", "(IJ)Z"⟩
abbrev bk_0_askedBy : ByteArray := prog_1_method_31_code
def yk_0_askedBy : MethodName := ⟨Rk_0, "askedBy", "(I)I"⟩
abbrev bk_0_choosing : ByteArray := prog_1_method_32_code
def yk_0_choosing : MethodName := ⟨Rk_0, "choosing", "(IJI)J"⟩
abbrev bk_0_givenBy : ByteArray := prog_1_method_33_code
def yk_0_givenBy : MethodName := ⟨Rk_0, "givenBy", "(IJI)J"⟩
abbrev bk_0_holdingBranches : ByteArray := prog_1_method_34_code
def yk_0_holdingBranches : MethodName := ⟨Rk_0, "holdingBranches", "(IJ)I"⟩
abbrev bk_0_mostSpecialBranches : ByteArray := prog_1_method_35_code
def yk_0_mostSpecialBranches : MethodName := ⟨Rk_0, "mostSpecialBranches", "(II)I"⟩
abbrev bk_0_isOutdone : ByteArray := prog_1_method_36_code
def yk_0_isOutdone : MethodName := ⟨Rk_0, "isOutdone", "(III)Z"⟩
abbrev bk_0_findWhatTargetsRead : ByteArray := prog_1_method_37_code
def yk_0_findWhatTargetsRead : MethodName := ⟨Rk_0, "findWhatTargetsRead", "()V"⟩
abbrev bk_0_trimmed : ByteArray := prog_1_method_38_code
def yk_0_trimmed : MethodName := ⟨Rk_0, "trimmed", "(JI)J"⟩
abbrev bk_0_findPairs : ByteArray := prog_1_method_39_code
def yk_0_findPairs : MethodName := ⟨Rk_0, "findPairs", "(IJ)Z"⟩
abbrev bk_0_followNeed : ByteArray := prog_1_method_40_code
def yk_0_followNeed : MethodName := ⟨Rk_0, "followNeed", "(II)Z"⟩
abbrev bk_0_changedBase : ByteArray := prog_1_method_41_code
def yk_0_changedBase : MethodName := ⟨Rk_0, "changedBase", "(II)I"⟩
abbrev bk_0_turnsOf : ByteArray := prog_1_method_42_code
def yk_0_turnsOf : MethodName := ⟨Rk_0, "turnsOf", "(III)I"⟩
abbrev bk_0_afterChange : ByteArray := prog_1_method_43_code
def yk_0_afterChange : MethodName := ⟨Rk_0, "afterChange", "(JII)J"⟩
abbrev bk_0_pairOf : ByteArray := prog_1_method_44_code
def yk_0_pairOf : MethodName := ⟨Rk_0, "pairOf", "(IJ)I"⟩
abbrev bk_0_leaveOutByWants : ByteArray := prog_1_method_45_code
def yk_0_leaveOutByWants : MethodName := ⟨Rk_0, "leaveOutByWants", "()V"⟩
abbrev bk_1_init : ByteArray := prog_14_method_1_code
def yk_1_init : MethodName := ⟨Rk_1, "<init>", "()V"⟩
abbrev bk_1_in : ByteArray := prog_14_method_2_code
def yk_1_in : MethodName := ⟨Rk_1, "in", "(II)Z"⟩
abbrev bk_1_setting : ByteArray := prog_14_method_3_code
def yk_1_setting : MethodName := ⟨Rk_1, "setting", "(II)I"⟩
abbrev bk_1_alias : ByteArray := prog_14_method_4_code
def yk_1_alias : MethodName := ⟨Rk_1, "alias", "(I)I"⟩
abbrev bk_1_baseOf : ByteArray := prog_14_method_5_code
def yk_1_baseOf : MethodName := ⟨Rk_1, "baseOf", "(I)I"⟩
abbrev bk_1_base : ByteArray := prog_14_method_6_code
def yk_1_base : MethodName := ⟨Rk_1, "base", "(I)I"⟩
abbrev bk_1_platform : ByteArray := prog_14_method_7_code
def yk_1_platform : MethodName := ⟨Rk_1, "platform", "()I"⟩
abbrev bk_1_has : ByteArray := prog_14_method_8_code
def yk_1_has : MethodName := ⟨Rk_1, "has", "(III)Z"⟩
abbrev bk_1_condition : ByteArray := prog_14_method_9_code
def yk_1_condition : MethodName := ⟨Rk_1, "condition", "()I"⟩
abbrev bk_1_isUsed : ByteArray := prog_14_method_10_code
def yk_1_isUsed : MethodName := ⟨Rk_1, "isUsed", "(I)Z"⟩
abbrev bk_1_asks : ByteArray := prog_14_method_11_code
def yk_1_asks : MethodName := ⟨Rk_1, "asks", "(IZII)Z"⟩
abbrev bk_1_isSo : ByteArray := prog_14_method_12_code
def yk_1_isSo : MethodName := ⟨Rk_1, "isSo", "(II)Z"⟩
abbrev bk_1_isHolding : ByteArray := prog_14_method_13_code
def yk_1_isHolding : MethodName := ⟨Rk_1, "isHolding", "(II)Z"⟩
abbrev bk_1_holds : ByteArray := prog_14_method_14_code
def yk_1_holds : MethodName := ⟨Rk_1, "holds", "(II)Z"⟩
abbrev bk_1_about : ByteArray := prog_14_method_15_code
def yk_1_about : MethodName := ⟨Rk_1, "about", "(I)I"⟩
abbrev bk_1_hasAll : ByteArray := prog_14_method_16_code
def yk_1_hasAll : MethodName := ⟨Rk_1, "hasAll", "(II)Z"⟩
abbrev bk_1_isSpecial : ByteArray := prog_14_method_17_code
def yk_1_isSpecial : MethodName := ⟨Rk_1, "isSpecial", "(II)Z"⟩
abbrev bk_1_target : ByteArray := prog_14_method_18_code
def yk_1_target : MethodName := ⟨Rk_1, "target", "()I"⟩
abbrev bk_1_wants : ByteArray := prog_14_method_19_code
def yk_1_wants : MethodName := ⟨Rk_1, "wants", "(II)Z"⟩
abbrev bk_1_select : ByteArray := prog_14_method_20_code
def yk_1_select : MethodName := ⟨Rk_1, "select", "(I)I"⟩
abbrev bk_1_hasNested : ByteArray := prog_14_method_21_code
def yk_1_hasNested : MethodName := ⟨Rk_1, "hasNested", "(I)Z"⟩
abbrev bk_1_isWithin : ByteArray := prog_14_method_22_code
def yk_1_isWithin : MethodName := ⟨Rk_1, "isWithin", "(I)Z"⟩
abbrev bk_1_branch : ByteArray := prog_14_method_23_code
def yk_1_branch : MethodName := ⟨Rk_1, "branch", "(IIZI)Z"⟩
abbrev bk_1_otherwise : ByteArray := prog_14_method_24_code
def yk_1_otherwise : MethodName := ⟨Rk_1, "otherwise", "(II)Z"⟩
abbrev bk_1_isAlike : ByteArray := prog_14_method_25_code
def yk_1_isAlike : MethodName := ⟨Rk_1, "isAlike", "(II)Z"⟩
abbrev bk_1_numbered : ByteArray := prog_14_method_26_code
def yk_1_numbered : MethodName := ⟨Rk_1, "numbered", "()I"⟩
abbrev bk_1_copy : ByteArray := prog_14_method_27_code
def yk_1_copy : MethodName := ⟨Rk_1, "copy", "(II)V"⟩
abbrev bk_1_give : ByteArray := prog_14_method_28_code
def yk_1_give : MethodName := ⟨Rk_1, "give", "(II)V"⟩
abbrev bk_1_configuration : ByteArray := prog_14_method_29_code
def yk_1_configuration : MethodName := ⟨Rk_1, "configuration", "(I)I"⟩
abbrev bk_1_set : ByteArray := prog_14_method_30_code
def yk_1_set : MethodName := ⟨Rk_1, "set", "(III)I"⟩
abbrev bk_1_value : ByteArray := prog_14_method_31_code
def yk_1_value : MethodName := ⟨Rk_1, "value", "(II)I"⟩
abbrev bk_1_mostSpecial : ByteArray := prog_14_method_32_code
def yk_1_mostSpecial : MethodName := ⟨Rk_1, "mostSpecial", "(II)I"⟩
abbrev bk_1_chooseInner : ByteArray := prog_14_method_33_code
def yk_1_chooseInner : MethodName := ⟨Rk_1, "chooseInner", "(II)V"⟩
abbrev bk_1_chooseAll : ByteArray := prog_14_method_34_code
def yk_1_chooseAll : MethodName := ⟨Rk_1, "chooseAll", "(II)V"⟩
abbrev bk_1_choose : ByteArray := prog_14_method_35_code
def yk_1_choose : MethodName := ⟨Rk_1, "choose", "(II)I"⟩
abbrev bk_1_chosen : ByteArray := prog_14_method_36_code
def yk_1_chosen : MethodName := ⟨Rk_1, "chosen", "(I)I"⟩
abbrev bk_1_need : ByteArray := prog_14_method_37_code
def yk_1_need : MethodName := ⟨Rk_1, "need", "(II)I"⟩
abbrev bk_1_change : ByteArray := prog_14_method_38_code
def yk_1_change : MethodName := ⟨Rk_1, "change", "(III)Z"⟩
abbrev bk_1_readBy : ByteArray := prog_14_method_39_code
def yk_1_readBy : MethodName := ⟨Rk_1, "readBy", "(I)I"⟩
abbrev bk_1_readAlone : ByteArray := prog_14_method_40_code
def yk_1_readAlone : MethodName := ⟨Rk_1, "readAlone", "(I)I"⟩
abbrev bk_1_led : ByteArray := prog_14_method_41_code
def yk_1_led : MethodName := ⟨Rk_1, "led", "(I)I"⟩
abbrev bk_1_readAll : ByteArray := prog_14_method_42_code
def yk_1_readAll : MethodName := ⟨Rk_1, "readAll", "(I)I"⟩
abbrev bk_1_reads : ByteArray := prog_14_method_43_code
def yk_1_reads : MethodName := ⟨Rk_1, "reads", "(I)I"⟩
abbrev bk_1_trimmed : ByteArray := prog_14_method_44_code
def yk_1_trimmed : MethodName := ⟨Rk_1, "trimmed", "(I)I"⟩
abbrev bk_1_trim : ByteArray := prog_14_method_45_code
def yk_1_trim : MethodName := ⟨Rk_1, "trim", "(II)I"⟩
abbrev bk_1_pairOf : ByteArray := prog_14_method_46_code
def yk_1_pairOf : MethodName := ⟨Rk_1, "pairOf", "(I)I"⟩
abbrev bk_1_isTurn : ByteArray := prog_14_method_47_code
def yk_1_isTurn : MethodName := ⟨Rk_1, "isTurn", "(III)Z"⟩
abbrev bk_1_turn : ByteArray := prog_14_method_48_code
def yk_1_turn : MethodName := ⟨Rk_1, "turn", "(III)V"⟩
abbrev bk_1_follow : ByteArray := prog_14_method_49_code
def yk_1_follow : MethodName := ⟨Rk_1, "follow", "(II)Z"⟩
abbrev bk_1_leaveOut : ByteArray := prog_14_method_50_code
def yk_1_leaveOut : MethodName := ⟨Rk_1, "leaveOut", "()V"⟩
abbrev bk_1_expand : ByteArray := prog_14_method_51_code
def yk_1_expand : MethodName := ⟨Rk_1, "expand", "(II)I"⟩
abbrev bk_1_pair : ByteArray := prog_14_method_52_code
def yk_1_pair : MethodName := ⟨Rk_1, "pair", "(II)I"⟩
abbrev bk_2_codeOf : ByteArray := prog_2_method_2_code
def yk_2_codeOf : MethodName := ⟨Rk_2, "codeOf", "(ZII)I"⟩
abbrev bk_2_isAboutAxis : ByteArray := prog_2_method_3_code
def yk_2_isAboutAxis : MethodName := ⟨Rk_2, "isAboutAxis", "(I)Z"⟩
abbrev bk_2_whichOf : ByteArray := prog_2_method_4_code
def yk_2_whichOf : MethodName := ⟨Rk_2, "whichOf", "(I)I"⟩
abbrev bk_2_valueOf : ByteArray := prog_2_method_5_code
def yk_2_valueOf : MethodName := ⟨Rk_2, "valueOf", "(I)I"⟩
abbrev bk_3_nothing : ByteArray := prog_3_method_2_code
def yk_3_nothing : MethodName := ⟨Rk_3, "nothing", "()J"⟩
abbrev bk_3_ofValue : ByteArray := prog_3_method_3_code
def yk_3_ofValue : MethodName := ⟨Rk_3, "ofValue", "(I)J"⟩
abbrev bk_3_ofClash : ByteArray := prog_3_method_4_code
def yk_3_ofClash : MethodName := ⟨Rk_3, "ofClash", "(II)J"⟩
abbrev bk_3_kindOf : ByteArray := prog_3_method_5_code
def yk_3_kindOf : MethodName := ⟨Rk_3, "kindOf", "(J)I"⟩
abbrev bk_3_valueOf : ByteArray := prog_3_method_6_code
def yk_3_valueOf : MethodName := ⟨Rk_3, "valueOf", "(J)I"⟩
abbrev bk_3_firstOf : ByteArray := prog_3_method_7_code
def yk_3_firstOf : MethodName := ⟨Rk_3, "firstOf", "(J)I"⟩
abbrev bk_3_secondOf : ByteArray := prog_3_method_8_code
def yk_3_secondOf : MethodName := ⟨Rk_3, "secondOf", "(J)I"⟩
abbrev bk_3_areAlike : ByteArray := prog_3_method_9_code
def yk_3_areAlike : MethodName := ⟨Rk_3, "areAlike", "(JJ)Z"⟩
abbrev bk_4_onPlatform : ByteArray := prog_4_method_2_code
def yk_4_onPlatform : MethodName := ⟨Rk_4, "onPlatform", "(I)J"⟩
abbrev bk_4_platformIn : ByteArray := prog_4_method_3_code
def yk_4_platformIn : MethodName := ⟨Rk_4, "platformIn", "(J)I"⟩
abbrev bk_4_valueIn : ByteArray := prog_4_method_4_code
def yk_4_valueIn : MethodName := ⟨Rk_4, "valueIn", "(JI)I"⟩
abbrev bk_4_withValue : ByteArray := prog_4_method_5_code
def yk_4_withValue : MethodName := ⟨Rk_4, "withValue", "(JII)J"⟩
abbrev bk_5_init : ByteArray := prog_5_method_1_code
def yk_5_init : MethodName := ⟨Rk_5, "<init>", "()V"⟩
abbrev bk_5_isThere : ByteArray := prog_5_method_2_code
def yk_5_isThere : MethodName := ⟨Rk_5, "isThere", "(I)Z"⟩
abbrev bk_5_add : ByteArray := prog_5_method_3_code
def yk_5_add : MethodName := ⟨Rk_5, "add", "()I"⟩
abbrev bk_5_askingAt : ByteArray := prog_5_method_4_code
def yk_5_askingAt : MethodName := ⟨Rk_5, "askingAt", "(II)I"⟩
abbrev bk_5_addAsking : ByteArray := prog_5_method_5_code
def yk_5_addAsking : MethodName := ⟨Rk_5, "addAsking", "(II)Z"⟩
abbrev bk_6_init : ByteArray := prog_6_method_1_code
def yk_6_init : MethodName := ⟨Rk_6, "<init>", "()V"⟩
abbrev bk_6_isThere : ByteArray := prog_6_method_2_code
def yk_6_isThere : MethodName := ⟨Rk_6, "isThere", "(I)Z"⟩
abbrev bk_6_numberOf : ByteArray := prog_6_method_3_code
def yk_6_numberOf : MethodName := ⟨Rk_6, "numberOf", "(J)I"⟩
abbrev bk_6_anyOn : ByteArray := prog_6_method_4_code
def yk_6_anyOn : MethodName := ⟨Rk_6, "anyOn", "(I)Z"⟩
abbrev bk_6_giveAll : ByteArray := prog_6_method_5_code
def yk_6_giveAll : MethodName := ⟨Rk_6, "giveAll", "(II)V"⟩
abbrev bk_7_init : ByteArray := prog_7_method_1_code
def yk_7_init : MethodName := ⟨Rk_7, "<init>", "()V"⟩
abbrev bk_7_isThere : ByteArray := prog_7_method_2_code
def yk_7_isThere : MethodName := ⟨Rk_7, "isThere", "(I)Z"⟩
abbrev bk_7_add : ByteArray := prog_7_method_3_code
def yk_7_add : MethodName := ⟨Rk_7, "add", "(II)I"⟩
abbrev bk_7_addChange : ByteArray := prog_7_method_4_code
def yk_7_addChange : MethodName := ⟨Rk_7, "addChange", "(III)Z"⟩
abbrev bk_7_settingAt : ByteArray := prog_7_method_5_code
def yk_7_settingAt : MethodName := ⟨Rk_7, "settingAt", "(II)I"⟩
abbrev bk_7_valuesAt : ByteArray := prog_7_method_6_code
def yk_7_valuesAt : MethodName := ⟨Rk_7, "valuesAt", "(II)I"⟩
abbrev bk_8_init : ByteArray := prog_8_method_1_code
def yk_8_init : MethodName := ⟨Rk_8, "<init>", "()V"⟩
abbrev bk_8_clear : ByteArray := prog_8_method_2_code
def yk_8_clear : MethodName := ⟨Rk_8, "clear", "()V"⟩
abbrev bk_8_isThere : ByteArray := prog_8_method_3_code
def yk_8_isThere : MethodName := ⟨Rk_8, "isThere", "(I)Z"⟩
abbrev bk_8_numberOf : ByteArray := prog_8_method_4_code
def yk_8_numberOf : MethodName := ⟨Rk_8, "numberOf", "(II)I"⟩
abbrev bk_8_leaveOutByNeeds : ByteArray := prog_8_method_5_code
def yk_8_leaveOutByNeeds : MethodName := ⟨Rk_8, "leaveOutByNeeds", "()V"⟩
abbrev bk_8_allLeftOut : ByteArray := prog_8_method_6_code
def yk_8_allLeftOut : MethodName := ⟨Rk_8, "allLeftOut", "()J"⟩
abbrev bk_9_init : ByteArray := prog_9_method_1_code
def yk_9_init : MethodName := ⟨Rk_9, "<init>", "()V"⟩
abbrev bk_9_isThere : ByteArray := prog_9_method_2_code
def yk_9_isThere : MethodName := ⟨Rk_9, "isThere", "(I)Z"⟩
abbrev bk_9_add : ByteArray := prog_9_method_3_code
def yk_9_add : MethodName := ⟨Rk_9, "add", "()I"⟩
abbrev bk_9_put : ByteArray := prog_9_method_4_code
def yk_9_put : MethodName := ⟨Rk_9, "put", "(III)V"⟩
abbrev bk_9_valueAt : ByteArray := prog_9_method_5_code
def yk_9_valueAt : MethodName := ⟨Rk_9, "valueAt", "(II)I"⟩
abbrev bk_10_init : ByteArray := prog_10_method_1_code
def yk_10_init : MethodName := ⟨Rk_10, "<init>", "()V"⟩
abbrev bk_10_place : ByteArray := prog_10_method_2_code
def yk_10_place : MethodName := ⟨Rk_10, "place", "(II)I"⟩
abbrev bk_10_isThere : ByteArray := prog_10_method_3_code
def yk_10_isThere : MethodName := ⟨Rk_10, "isThere", "(I)Z"⟩
abbrev bk_10_add : ByteArray := prog_10_method_4_code
def yk_10_add : MethodName := ⟨Rk_10, "add", "(I)I"⟩
abbrev bk_10_conditionAt : ByteArray := prog_10_method_5_code
def yk_10_conditionAt : MethodName := ⟨Rk_10, "conditionAt", "(II)I"⟩
abbrev bk_10_mayNest : ByteArray := prog_10_method_6_code
def yk_10_mayNest : MethodName := ⟨Rk_10, "mayNest", "(II)Z"⟩
abbrev bk_10_addBranch : ByteArray := prog_10_method_7_code
def yk_10_addBranch : MethodName := ⟨Rk_10, "addBranch", "(IIZI)Z"⟩
abbrev bk_11_init : ByteArray := prog_11_method_1_code
def yk_11_init : MethodName := ⟨Rk_11, "<init>", "()V"⟩
abbrev bk_11_isThere : ByteArray := prog_11_method_2_code
def yk_11_isThere : MethodName := ⟨Rk_11, "isThere", "(I)Z"⟩
abbrev bk_11_add : ByteArray := prog_11_method_3_code
def yk_11_add : MethodName := ⟨Rk_11, "add", "(III)I"⟩
abbrev bk_11_baseOf : ByteArray := prog_11_method_4_code
def yk_11_baseOf : MethodName := ⟨Rk_11, "baseOf", "(I)I"⟩
abbrev bk_12_init : ByteArray := prog_12_method_1_code
def yk_12_init : MethodName := ⟨Rk_12, "<init>", "()V"⟩
abbrev bk_12_isThere : ByteArray := prog_12_method_2_code
def yk_12_isThere : MethodName := ⟨Rk_12, "isThere", "(I)Z"⟩
abbrev bk_12_add : ByteArray := prog_12_method_3_code
def yk_12_add : MethodName := ⟨Rk_12, "add", "()I"⟩
end
section
section VJ
variable {p : Program} {l : Launch} {e : Env} {R : Room} {s : State} {m : MethodId} {args : Array Value} {below : List Frame} {meth : Method} {c : Code} {Q : State → Prop} {D : va_G} {cl : List vw_C} {tys : List (ClassId × FieldType)} {A : Nat → Prop} {nL kc ks : Nat} {ws : va_W} {pc pc' : Nat} {lv lv' : List (Nat × Value)} {st : List Value} {cc : ByteArray} {Ts : List Cond} {own : String}
/-- the machine at pc, with the locals lv, the operand stack st and the world ws, comes to a state with Q -/
def Vj (p : Program) (l : Launch) (e : Env) (R : Room) (s : State) (m : MethodId) (args : Array Value) (below : List Frame) (meth : Method) (c : Code) (Q : State → Prop) (D : va_G) (cl : List vw_C) (A : Nat → Prop) (nL kc ks : Nat) (ws : va_W) (pc : Nat) (lv : List (Nat × Value)) (st : List Value) : Prop :=
  ∀ (H : Heap) (locs : List Loc) (ls : Array Slot), va_P D cl ws H → va_D A ws → va_S A s.heap H locs → lv_has ls nL lv → W p l e R s m args below meth c H locs kc ks Q (F0 m pc ls st)
theorem v_iconst (g : CallFix p m c cc nL s args Ts own) {n : Int} {v : Int32} (hdg : decode cc pc = .ok (.iconst n, 1)) (hv : Int32.ofInt n = v) (hp : pc + 1 = pc') (k : Vj p l e R s m args below meth c Q D cl A nL kc ks ws pc' lv (.int v :: st)) : Vj p l e R s m args below meth c Q D cl A nL kc ks ws pc lv (st) := by
  subst hp; exact fun H locs ls hP hD hS hh => lv_iconst g.1 g.2.1 hdg hv (k H locs ls hP hD hS hh)
theorem v_bipush (g : CallFix p m c cc nL s args Ts own) {n : Int} {v : Int32} (hdg : decode cc pc = .ok (.bipush n, 2)) (hv : (Int8.ofInt n).toInt32 = v) (hp : pc + 2 = pc') (k : Vj p l e R s m args below meth c Q D cl A nL kc ks ws pc' lv (.int v :: st)) : Vj p l e R s m args below meth c Q D cl A nL kc ks ws pc lv (st) := by
  subst hp; exact fun H locs ls hP hD hS hh => lv_bipush g.1 g.2.1 hdg hv (k H locs ls hP hD hS hh)
theorem v_sipush (g : CallFix p m c cc nL s args Ts own) {n : Int} {v : Int32} (hdg : decode cc pc = .ok (.sipush n, 3)) (hv : (Int16.ofInt n).toInt32 = v) (hp : pc + 3 = pc') (k : Vj p l e R s m args below meth c Q D cl A nL kc ks ws pc' lv (.int v :: st)) : Vj p l e R s m args below meth c Q D cl A nL kc ks ws pc lv (st) := by
  subst hp; exact fun H locs ls hP hD hS hh => lv_sipush g.1 g.2.1 hdg hv (k H locs ls hP hD hS hh)
theorem v_lconst (g : CallFix p m c cc nL s args Ts own) {n : Fin 2} {v : Int64} (hdg : decode cc pc = .ok (.lconst n, 1)) (hv : Int64.ofNat (n : Nat) = v) (hp : pc + 1 = pc') (k : Vj p l e R s m args below meth c Q D cl A nL kc ks ws pc' lv (.long v :: st)) : Vj p l e R s m args below meth c Q D cl A nL kc ks ws pc lv (st) := by
  subst hp; exact fun H locs ls hP hD hS hh => lv_lconst g.1 g.2.1 hdg hv (k H locs ls hP hD hS hh)
theorem v_iload_n (g : CallFix p m c cc nL s args Ts own) {k9 : Fin 4} {i : Nat} {x : Int32} (hdg : decode cc pc = .ok (.iload_n k9, 1)) (j : Nat) (hi : (k9 : Nat) = i) (hl : lv[j]? = some (i, .int x)) (hp : pc + 1 = pc') (k : Vj p l e R s m args below meth c Q D cl A nL kc ks ws pc' lv (.int x :: st)) : Vj p l e R s m args below meth c Q D cl A nL kc ks ws pc lv (st) := by
  subst hp; exact fun H locs ls hP hD hS hh => lv_iload_n g.1 g.2.1 hdg hi (lv_at hh j hl) (k H locs ls hP hD hS hh)
theorem v_iload (g : CallFix p m c cc nL s args Ts own) {i : Nat} {x : Int32} (hdg : decode cc pc = .ok (.iload i, 2)) (j : Nat) (hl : lv[j]? = some (i, .int x)) (hp : pc + 2 = pc') (k : Vj p l e R s m args below meth c Q D cl A nL kc ks ws pc' lv (.int x :: st)) : Vj p l e R s m args below meth c Q D cl A nL kc ks ws pc lv (st) := by
  subst hp; exact fun H locs ls hP hD hS hh => lv_iload g.1 g.2.1 hdg (lv_at hh j hl) (k H locs ls hP hD hS hh)
theorem v_lload_n (g : CallFix p m c cc nL s args Ts own) {k9 : Fin 4} {i : Nat} {x : Int64} (hdg : decode cc pc = .ok (.lload_n k9, 1)) (j : Nat) (hi : (k9 : Nat) = i) (hl : lv[j]? = some (i, .long x)) (hp : pc + 1 = pc') (k : Vj p l e R s m args below meth c Q D cl A nL kc ks ws pc' lv (.long x :: st)) : Vj p l e R s m args below meth c Q D cl A nL kc ks ws pc lv (st) := by
  subst hp; exact fun H locs ls hP hD hS hh => lv_lload_n g.1 g.2.1 hdg hi (lv_at hh j hl) (k H locs ls hP hD hS hh)
theorem v_lload (g : CallFix p m c cc nL s args Ts own) {i : Nat} {x : Int64} (hdg : decode cc pc = .ok (.lload i, 2)) (j : Nat) (hl : lv[j]? = some (i, .long x)) (hp : pc + 2 = pc') (k : Vj p l e R s m args below meth c Q D cl A nL kc ks ws pc' lv (.long x :: st)) : Vj p l e R s m args below meth c Q D cl A nL kc ks ws pc lv (st) := by
  subst hp; exact fun H locs ls hP hD hS hh => lv_lload g.1 g.2.1 hdg (lv_at hh j hl) (k H locs ls hP hD hS hh)
theorem v_aload_n (g : CallFix p m c cc nL s args Ts own) {k9 : Fin 4} {i : Nat} {x : Nat} (hdg : decode cc pc = .ok (.aload_n k9, 1)) (j : Nat) (hi : (k9 : Nat) = i) (hl : lv[j]? = some (i, .ref x)) (hp : pc + 1 = pc') (k : Vj p l e R s m args below meth c Q D cl A nL kc ks ws pc' lv (.ref x :: st)) : Vj p l e R s m args below meth c Q D cl A nL kc ks ws pc lv (st) := by
  subst hp; exact fun H locs ls hP hD hS hh => lv_aload_n g.1 g.2.1 hdg hi (lv_at hh j hl) (k H locs ls hP hD hS hh)
theorem v_aload (g : CallFix p m c cc nL s args Ts own) {i : Nat} {x : Nat} (hdg : decode cc pc = .ok (.aload i, 2)) (j : Nat) (hl : lv[j]? = some (i, .ref x)) (hp : pc + 2 = pc') (k : Vj p l e R s m args below meth c Q D cl A nL kc ks ws pc' lv (.ref x :: st)) : Vj p l e R s m args below meth c Q D cl A nL kc ks ws pc lv (st) := by
  subst hp; exact fun H locs ls hP hD hS hh => lv_aload g.1 g.2.1 hdg (lv_at hh j hl) (k H locs ls hP hD hS hh)
theorem v_istore_n (g : CallFix p m c cc nL s args Ts own) {k9 : Fin 4} {i : Nat} {x : Int32} (hdg : decode cc pc = .ok (.istore_n k9, 1)) (hi : (k9 : Nat) = i) (hn : i < nL) (hl : (i, Value.int x) :: lv.filter (fun q => !(q.1 == i) && !(q.1 + 1 == i && q.2.category == 2)) = lv') (hp : pc + 1 = pc') (k : Vj p l e R s m args below meth c Q D cl A nL kc ks ws pc' lv' st) : Vj p l e R s m args below meth c Q D cl A nL kc ks ws pc lv (.int x :: st) := by
  subst hp; exact fun H locs ls hP hD hS hh => lv_istore_n g.1 g.2.1 hdg hi hh hn hl (fun ls' hh' => k H locs ls' hP hD hS hh')
theorem v_istore (g : CallFix p m c cc nL s args Ts own) {i : Nat} {x : Int32} (hdg : decode cc pc = .ok (.istore i, 2)) (hn : i < nL) (hl : (i, Value.int x) :: lv.filter (fun q => !(q.1 == i) && !(q.1 + 1 == i && q.2.category == 2)) = lv') (hp : pc + 2 = pc') (k : Vj p l e R s m args below meth c Q D cl A nL kc ks ws pc' lv' st) : Vj p l e R s m args below meth c Q D cl A nL kc ks ws pc lv (.int x :: st) := by
  subst hp; exact fun H locs ls hP hD hS hh => lv_istore g.1 g.2.1 hdg hh hn hl (fun ls' hh' => k H locs ls' hP hD hS hh')
theorem v_lstore_n (g : CallFix p m c cc nL s args Ts own) {k9 : Fin 4} {i : Nat} {x : Int64} (hdg : decode cc pc = .ok (.lstore_n k9, 1)) (hi : (k9 : Nat) = i) (hn : i + 1 < nL) (hl : (i, Value.long x) :: lv.filter (fun q => !(q.1 == i) && (!(q.1 == i + 1) && !(q.1 + 1 == i && q.2.category == 2))) = lv') (hp : pc + 1 = pc') (k : Vj p l e R s m args below meth c Q D cl A nL kc ks ws pc' lv' st) : Vj p l e R s m args below meth c Q D cl A nL kc ks ws pc lv (.long x :: st) := by
  subst hp; exact fun H locs ls hP hD hS hh => lv_lstore_n g.1 g.2.1 hdg hi hh hn hl (fun ls' hh' => k H locs ls' hP hD hS hh')
theorem v_lstore (g : CallFix p m c cc nL s args Ts own) {i : Nat} {x : Int64} (hdg : decode cc pc = .ok (.lstore i, 2)) (hn : i + 1 < nL) (hl : (i, Value.long x) :: lv.filter (fun q => !(q.1 == i) && (!(q.1 == i + 1) && !(q.1 + 1 == i && q.2.category == 2))) = lv') (hp : pc + 2 = pc') (k : Vj p l e R s m args below meth c Q D cl A nL kc ks ws pc' lv' st) : Vj p l e R s m args below meth c Q D cl A nL kc ks ws pc lv (.long x :: st) := by
  subst hp; exact fun H locs ls hP hD hS hh => lv_lstore g.1 g.2.1 hdg hh hn hl (fun ls' hh' => k H locs ls' hP hD hS hh')
theorem v_astore_n (g : CallFix p m c cc nL s args Ts own) {k9 : Fin 4} {i : Nat} {x : Nat} (hdg : decode cc pc = .ok (.astore_n k9, 1)) (hi : (k9 : Nat) = i) (hn : i < nL) (hl : (i, Value.ref x) :: lv.filter (fun q => !(q.1 == i) && !(q.1 + 1 == i && q.2.category == 2)) = lv') (hp : pc + 1 = pc') (k : Vj p l e R s m args below meth c Q D cl A nL kc ks ws pc' lv' st) : Vj p l e R s m args below meth c Q D cl A nL kc ks ws pc lv (.ref x :: st) := by
  subst hp; exact fun H locs ls hP hD hS hh => lv_astore_n g.1 g.2.1 hdg hi hh hn hl (fun ls' hh' => k H locs ls' hP hD hS hh')
theorem v_astore (g : CallFix p m c cc nL s args Ts own) {i : Nat} {x : Nat} (hdg : decode cc pc = .ok (.astore i, 2)) (hn : i < nL) (hl : (i, Value.ref x) :: lv.filter (fun q => !(q.1 == i) && !(q.1 + 1 == i && q.2.category == 2)) = lv') (hp : pc + 2 = pc') (k : Vj p l e R s m args below meth c Q D cl A nL kc ks ws pc' lv' st) : Vj p l e R s m args below meth c Q D cl A nL kc ks ws pc lv (.ref x :: st) := by
  subst hp; exact fun H locs ls hP hD hS hh => lv_astore g.1 g.2.1 hdg hh hn hl (fun ls' hh' => k H locs ls' hP hD hS hh')
theorem v_iinc (g : CallFix p m c cc nL s args Ts own) {i j : Nat} {n : Int} {x v : Int32} (hdg : decode cc pc = .ok (.iinc i n, 3)) (hk : lv[j]? = some (i, .int x)) (hv : x + Int32.ofInt n = v) (hn : i < nL) (hl : (i, Value.int v) :: lv.filter (fun q => !(q.1 == i) && !(q.1 + 1 == i && q.2.category == 2)) = lv') (hp : pc + 3 = pc') (k : Vj p l e R s m args below meth c Q D cl A nL kc ks ws pc' lv' st) : Vj p l e R s m args below meth c Q D cl A nL kc ks ws pc lv st := by
  subst hp; exact fun H locs ls hP hD hS hh => lv_iinc g.1 g.2.1 hdg hh hk hv hn hl (fun ls' hh' => k H locs ls' hP hD hS hh')
theorem v_iadd (g : CallFix p m c cc nL s args Ts own) {x y : Int32} (hdg : decode cc pc = .ok (.iadd, 1))  (hp : pc + 1 = pc') (k : Vj p l e R s m args below meth c Q D cl A nL kc ks ws pc' lv (.int (x + y) :: st)) : Vj p l e R s m args below meth c Q D cl A nL kc ks ws pc lv (.int y :: .int x :: st) := by
  subst hp; exact fun H locs ls hP hD hS hh => lv_iadd g.1 g.2.1 hdg (k H locs ls hP hD hS hh)
theorem v_isub (g : CallFix p m c cc nL s args Ts own) {x y : Int32} (hdg : decode cc pc = .ok (.isub, 1))  (hp : pc + 1 = pc') (k : Vj p l e R s m args below meth c Q D cl A nL kc ks ws pc' lv (.int (x - y) :: st)) : Vj p l e R s m args below meth c Q D cl A nL kc ks ws pc lv (.int y :: .int x :: st) := by
  subst hp; exact fun H locs ls hP hD hS hh => lv_isub g.1 g.2.1 hdg (k H locs ls hP hD hS hh)
theorem v_imul (g : CallFix p m c cc nL s args Ts own) {x y : Int32} (hdg : decode cc pc = .ok (.imul, 1))  (hp : pc + 1 = pc') (k : Vj p l e R s m args below meth c Q D cl A nL kc ks ws pc' lv (.int (x * y) :: st)) : Vj p l e R s m args below meth c Q D cl A nL kc ks ws pc lv (.int y :: .int x :: st) := by
  subst hp; exact fun H locs ls hP hD hS hh => lv_imul g.1 g.2.1 hdg (k H locs ls hP hD hS hh)
theorem v_iand (g : CallFix p m c cc nL s args Ts own) {x y : Int32} (hdg : decode cc pc = .ok (.iand, 1))  (hp : pc + 1 = pc') (k : Vj p l e R s m args below meth c Q D cl A nL kc ks ws pc' lv (.int (x &&& y) :: st)) : Vj p l e R s m args below meth c Q D cl A nL kc ks ws pc lv (.int y :: .int x :: st) := by
  subst hp; exact fun H locs ls hP hD hS hh => lv_iand g.1 g.2.1 hdg (k H locs ls hP hD hS hh)
theorem v_ior (g : CallFix p m c cc nL s args Ts own) {x y : Int32} (hdg : decode cc pc = .ok (.ior, 1))  (hp : pc + 1 = pc') (k : Vj p l e R s m args below meth c Q D cl A nL kc ks ws pc' lv (.int (x ||| y) :: st)) : Vj p l e R s m args below meth c Q D cl A nL kc ks ws pc lv (.int y :: .int x :: st) := by
  subst hp; exact fun H locs ls hP hD hS hh => lv_ior g.1 g.2.1 hdg (k H locs ls hP hD hS hh)
theorem v_ixor (g : CallFix p m c cc nL s args Ts own) {x y : Int32} (hdg : decode cc pc = .ok (.ixor, 1))  (hp : pc + 1 = pc') (k : Vj p l e R s m args below meth c Q D cl A nL kc ks ws pc' lv (.int (x ^^^ y) :: st)) : Vj p l e R s m args below meth c Q D cl A nL kc ks ws pc lv (.int y :: .int x :: st) := by
  subst hp; exact fun H locs ls hP hD hS hh => lv_ixor g.1 g.2.1 hdg (k H locs ls hP hD hS hh)
theorem v_ishl (g : CallFix p m c cc nL s args Ts own) {x y : Int32} (hdg : decode cc pc = .ok (.ishl, 1))  (hp : pc + 1 = pc') (k : Vj p l e R s m args below meth c Q D cl A nL kc ks ws pc' lv (.int (x <<< (y &&& 31)) :: st)) : Vj p l e R s m args below meth c Q D cl A nL kc ks ws pc lv (.int y :: .int x :: st) := by
  subst hp; exact fun H locs ls hP hD hS hh => lv_ishl g.1 g.2.1 hdg (k H locs ls hP hD hS hh)
theorem v_ishr (g : CallFix p m c cc nL s args Ts own) {x y : Int32} (hdg : decode cc pc = .ok (.ishr, 1))  (hp : pc + 1 = pc') (k : Vj p l e R s m args below meth c Q D cl A nL kc ks ws pc' lv (.int (x >>> (y &&& 31)) :: st)) : Vj p l e R s m args below meth c Q D cl A nL kc ks ws pc lv (.int y :: .int x :: st) := by
  subst hp; exact fun H locs ls hP hD hS hh => lv_ishr g.1 g.2.1 hdg (k H locs ls hP hD hS hh)
theorem v_idiv (g : CallFix p m c cc nL s args Ts own) {x y : Int32} (hdg : decode cc pc = .ok (.idiv, 1)) (hne : ¬ y = 0) (hp : pc + 1 = pc') (k : Vj p l e R s m args below meth c Q D cl A nL kc ks ws pc' lv (.int (x / y) :: st)) : Vj p l e R s m args below meth c Q D cl A nL kc ks ws pc lv (.int y :: .int x :: st) := by
  subst hp; exact fun H locs ls hP hD hS hh => lv_idiv g.1 g.2.1 hdg hne (k H locs ls hP hD hS hh)
theorem v_irem (g : CallFix p m c cc nL s args Ts own) {x y : Int32} (hdg : decode cc pc = .ok (.irem, 1)) (hne : ¬ y = 0) (hp : pc + 1 = pc') (k : Vj p l e R s m args below meth c Q D cl A nL kc ks ws pc' lv (.int (x - x / y * y) :: st)) : Vj p l e R s m args below meth c Q D cl A nL kc ks ws pc lv (.int y :: .int x :: st) := by
  subst hp; exact fun H locs ls hP hD hS hh => lv_irem g.1 g.2.1 hdg hne (k H locs ls hP hD hS hh)
theorem v_ineg (g : CallFix p m c cc nL s args Ts own) {x : Int32} (hdg : decode cc pc = .ok (.ineg, 1))  (hp : pc + 1 = pc') (k : Vj p l e R s m args below meth c Q D cl A nL kc ks ws pc' lv (.int (-x) :: st)) : Vj p l e R s m args below meth c Q D cl A nL kc ks ws pc lv (.int x :: st) := by
  subst hp; exact fun H locs ls hP hD hS hh => lv_ineg g.1 g.2.1 hdg (k H locs ls hP hD hS hh)
theorem v_iushr (g : CallFix p m c cc nL s args Ts own) {x y : Int32} (hdg : decode cc pc = .ok (.iushr, 1))  (hp : pc + 1 = pc') (k : Vj p l e R s m args below meth c Q D cl A nL kc ks ws pc' lv (.int (x.toUInt32 >>> (y.toUInt32 &&& Int32.toUInt32 31)).toInt32 :: st)) : Vj p l e R s m args below meth c Q D cl A nL kc ks ws pc lv (.int y :: .int x :: st) := by
  subst hp; exact fun H locs ls hP hD hS hh => lv_iushr g.1 g.2.1 hdg rfl (k H locs ls hP hD hS hh)
theorem v_ladd (g : CallFix p m c cc nL s args Ts own) {x y : Int64} (hdg : decode cc pc = .ok (.ladd, 1))  (hp : pc + 1 = pc') (k : Vj p l e R s m args below meth c Q D cl A nL kc ks ws pc' lv (.long (x + y) :: st)) : Vj p l e R s m args below meth c Q D cl A nL kc ks ws pc lv (.long y :: .long x :: st) := by
  subst hp; exact fun H locs ls hP hD hS hh => lv_ladd g.1 g.2.1 hdg (k H locs ls hP hD hS hh)
theorem v_lsub (g : CallFix p m c cc nL s args Ts own) {x y : Int64} (hdg : decode cc pc = .ok (.lsub, 1))  (hp : pc + 1 = pc') (k : Vj p l e R s m args below meth c Q D cl A nL kc ks ws pc' lv (.long (x - y) :: st)) : Vj p l e R s m args below meth c Q D cl A nL kc ks ws pc lv (.long y :: .long x :: st) := by
  subst hp; exact fun H locs ls hP hD hS hh => lv_lsub g.1 g.2.1 hdg (k H locs ls hP hD hS hh)
theorem v_lmul (g : CallFix p m c cc nL s args Ts own) {x y : Int64} (hdg : decode cc pc = .ok (.lmul, 1))  (hp : pc + 1 = pc') (k : Vj p l e R s m args below meth c Q D cl A nL kc ks ws pc' lv (.long (x * y) :: st)) : Vj p l e R s m args below meth c Q D cl A nL kc ks ws pc lv (.long y :: .long x :: st) := by
  subst hp; exact fun H locs ls hP hD hS hh => lv_lmul g.1 g.2.1 hdg (k H locs ls hP hD hS hh)
theorem v_land (g : CallFix p m c cc nL s args Ts own) {x y : Int64} (hdg : decode cc pc = .ok (.land, 1))  (hp : pc + 1 = pc') (k : Vj p l e R s m args below meth c Q D cl A nL kc ks ws pc' lv (.long (x &&& y) :: st)) : Vj p l e R s m args below meth c Q D cl A nL kc ks ws pc lv (.long y :: .long x :: st) := by
  subst hp; exact fun H locs ls hP hD hS hh => lv_land g.1 g.2.1 hdg (k H locs ls hP hD hS hh)
theorem v_lor (g : CallFix p m c cc nL s args Ts own) {x y : Int64} (hdg : decode cc pc = .ok (.lor, 1))  (hp : pc + 1 = pc') (k : Vj p l e R s m args below meth c Q D cl A nL kc ks ws pc' lv (.long (x ||| y) :: st)) : Vj p l e R s m args below meth c Q D cl A nL kc ks ws pc lv (.long y :: .long x :: st) := by
  subst hp; exact fun H locs ls hP hD hS hh => lv_lor g.1 g.2.1 hdg (k H locs ls hP hD hS hh)
theorem v_lxor (g : CallFix p m c cc nL s args Ts own) {x y : Int64} (hdg : decode cc pc = .ok (.lxor, 1))  (hp : pc + 1 = pc') (k : Vj p l e R s m args below meth c Q D cl A nL kc ks ws pc' lv (.long (x ^^^ y) :: st)) : Vj p l e R s m args below meth c Q D cl A nL kc ks ws pc lv (.long y :: .long x :: st) := by
  subst hp; exact fun H locs ls hP hD hS hh => lv_lxor g.1 g.2.1 hdg (k H locs ls hP hD hS hh)
theorem v_i2l (g : CallFix p m c cc nL s args Ts own) {x : Int32} (hdg : decode cc pc = .ok (.i2l, 1))  (hp : pc + 1 = pc') (k : Vj p l e R s m args below meth c Q D cl A nL kc ks ws pc' lv (.long x.toInt64 :: st)) : Vj p l e R s m args below meth c Q D cl A nL kc ks ws pc lv (.int x :: st) := by
  subst hp; exact fun H locs ls hP hD hS hh => lv_i2l g.1 g.2.1 hdg rfl (k H locs ls hP hD hS hh)
theorem v_l2i (g : CallFix p m c cc nL s args Ts own) {x : Int64} (hdg : decode cc pc = .ok (.l2i, 1))  (hp : pc + 1 = pc') (k : Vj p l e R s m args below meth c Q D cl A nL kc ks ws pc' lv (.int x.toInt32 :: st)) : Vj p l e R s m args below meth c Q D cl A nL kc ks ws pc lv (.long x :: st) := by
  subst hp; exact fun H locs ls hP hD hS hh => lv_l2i g.1 g.2.1 hdg rfl (k H locs ls hP hD hS hh)
theorem v_lushr (g : CallFix p m c cc nL s args Ts own) {x : Int64} {y : Int32} (hdg : decode cc pc = .ok (.lushr, 1))  (hp : pc + 1 = pc') (k : Vj p l e R s m args below meth c Q D cl A nL kc ks ws pc' lv (.long (x.toUInt64 >>> (y.toInt64.toUInt64 &&& Int64.toUInt64 63)).toInt64 :: st)) : Vj p l e R s m args below meth c Q D cl A nL kc ks ws pc lv (.int y :: .long x :: st) := by
  subst hp; exact fun H locs ls hP hD hS hh => lv_lushr g.1 g.2.1 hdg rfl (k H locs ls hP hD hS hh)
theorem v_lshl (g : CallFix p m c cc nL s args Ts own) {x : Int64} {y : Int32} (hdg : decode cc pc = .ok (.lshl, 1))  (hp : pc + 1 = pc') (k : Vj p l e R s m args below meth c Q D cl A nL kc ks ws pc' lv (.long (x <<< (y.toInt64 &&& 63)) :: st)) : Vj p l e R s m args below meth c Q D cl A nL kc ks ws pc lv (.int y :: .long x :: st) := by
  subst hp; exact fun H locs ls hP hD hS hh => lv_lshl g.1 g.2.1 hdg rfl (k H locs ls hP hD hS hh)
theorem v_lshr (g : CallFix p m c cc nL s args Ts own) {x : Int64} {y : Int32} (hdg : decode cc pc = .ok (.lshr, 1))  (hp : pc + 1 = pc') (k : Vj p l e R s m args below meth c Q D cl A nL kc ks ws pc' lv (.long (x >>> (y.toInt64 &&& 63)) :: st)) : Vj p l e R s m args below meth c Q D cl A nL kc ks ws pc lv (.int y :: .long x :: st) := by
  subst hp; exact fun H locs ls hP hD hS hh => lv_lshr g.1 g.2.1 hdg rfl (k H locs ls hP hD hS hh)
theorem v_lcmp (g : CallFix p m c cc nL s args Ts own) {x y : Int64} (hdg : decode cc pc = .ok (.lcmp, 1))  (hp : pc + 1 = pc') (k : Vj p l e R s m args below meth c Q D cl A nL kc ks ws pc' lv (.int (lg_cmp x y) :: st)) : Vj p l e R s m args below meth c Q D cl A nL kc ks ws pc lv (.long y :: .long x :: st) := by
  subst hp; exact fun H locs ls hP hD hS hh => W.lcmp g.1 g.2.1 hdg (k H locs ls hP hD hS hh)
theorem v_dup (g : CallFix p m c cc nL s args Ts own) {va : Value} (hdg : decode cc pc = .ok (.dup, 1)) (h1 : va.category = 1) (hp : pc + 1 = pc') (k : Vj p l e R s m args below meth c Q D cl A nL kc ks ws pc' lv (va :: va :: st)) : Vj p l e R s m args below meth c Q D cl A nL kc ks ws pc lv (va :: st) := by
  subst hp; exact fun H locs ls hP hD hS hh => lv_dup g.1 g.2.1 hdg h1 (k H locs ls hP hD hS hh)
theorem v_pop (g : CallFix p m c cc nL s args Ts own) {va : Value} (hdg : decode cc pc = .ok (.pop, 1)) (h1 : va.category = 1) (hp : pc + 1 = pc') (k : Vj p l e R s m args below meth c Q D cl A nL kc ks ws pc' lv (st)) : Vj p l e R s m args below meth c Q D cl A nL kc ks ws pc lv (va :: st) := by
  subst hp; exact fun H locs ls hP hD hS hh => lv_pop g.1 g.2.1 hdg h1 (k H locs ls hP hD hS hh)
theorem v_dup_x1 (g : CallFix p m c cc nL s args Ts own) {va vb : Value} (hdg : decode cc pc = .ok (.dup_x1, 1)) (h1 : va.category = 1) (h2 : vb.category = 1) (hp : pc + 1 = pc') (k : Vj p l e R s m args below meth c Q D cl A nL kc ks ws pc' lv (va :: vb :: va :: st)) : Vj p l e R s m args below meth c Q D cl A nL kc ks ws pc lv (va :: vb :: st) := by
  subst hp; exact fun H locs ls hP hD hS hh => lv_dup_x1 g.1 g.2.1 hdg h1 h2 (k H locs ls hP hD hS hh)
theorem v_dup2 (g : CallFix p m c cc nL s args Ts own) {va vb : Value} (hdg : decode cc pc = .ok (.dup2, 1)) (h1 : va.category = 1) (h2 : vb.category = 1) (hp : pc + 1 = pc') (k : Vj p l e R s m args below meth c Q D cl A nL kc ks ws pc' lv (va :: vb :: va :: vb :: st)) : Vj p l e R s m args below meth c Q D cl A nL kc ks ws pc lv (va :: vb :: st) := by
  subst hp; exact fun H locs ls hP hD hS hh => lv_dup2_11 g.1 g.2.1 hdg h1 h2 (k H locs ls hP hD hS hh)
theorem v_goto (g : CallFix p m c cc nL s args Ts own) {off : Int} {tgt : Nat} (hdg : decode cc pc = .ok (.goto off, 3)) (ht : (pc : Int) + off = (tgt : Int)) (k : Vj p l e R s m args below meth c Q D cl A nL kc ks ws tgt lv st) : Vj p l e R s m args below meth c Q D cl A nL kc ks ws pc lv st := fun H locs ls hP hD hS hh => lv_goto g.1 g.2.1 hdg ht (k H locs ls hP hD hS hh)
theorem v_icmp_eq (g : CallFix p m c cc nL s args Ts own) {x y : Int32} {off : Int} {tgt : Nat} (hdg : decode cc pc = .ok (.if_icmp .eq off, 3)) (ht : (pc : Int) + off = (tgt : Int)) (hp : pc + 3 = pc') (kt : x = y → Vj p l e R s m args below meth c Q D cl A nL kc ks ws tgt lv st) (kf : ¬ x = y → Vj p l e R s m args below meth c Q D cl A nL kc ks ws pc' lv st) : Vj p l e R s m args below meth c Q D cl A nL kc ks ws pc lv (.int y :: .int x :: st) := by
  subst hp; exact fun H locs ls hP hD hS hh => lv_icmp_eq g.1 g.2.1 hdg ht (fun h => kt h H locs ls hP hD hS hh) (fun h => kf h H locs ls hP hD hS hh)
theorem v_if_eq (g : CallFix p m c cc nL s args Ts own) {x : Int32} {off : Int} {tgt : Nat} (hdg : decode cc pc = .ok (.ifCond .eq off, 3)) (ht : (pc : Int) + off = (tgt : Int)) (hp : pc + 3 = pc') (kt : x = 0 → Vj p l e R s m args below meth c Q D cl A nL kc ks ws tgt lv st) (kf : ¬ x = 0 → Vj p l e R s m args below meth c Q D cl A nL kc ks ws pc' lv st) : Vj p l e R s m args below meth c Q D cl A nL kc ks ws pc lv (.int x :: st) := by
  subst hp; exact fun H locs ls hP hD hS hh => lv_if_eq g.1 g.2.1 hdg ht (fun h => kt h H locs ls hP hD hS hh) (fun h => kf h H locs ls hP hD hS hh)
theorem v_icmp_ne (g : CallFix p m c cc nL s args Ts own) {x y : Int32} {off : Int} {tgt : Nat} (hdg : decode cc pc = .ok (.if_icmp .ne off, 3)) (ht : (pc : Int) + off = (tgt : Int)) (hp : pc + 3 = pc') (kt : ¬ x = y → Vj p l e R s m args below meth c Q D cl A nL kc ks ws tgt lv st) (kf : x = y → Vj p l e R s m args below meth c Q D cl A nL kc ks ws pc' lv st) : Vj p l e R s m args below meth c Q D cl A nL kc ks ws pc lv (.int y :: .int x :: st) := by
  subst hp; exact fun H locs ls hP hD hS hh => lv_icmp_ne g.1 g.2.1 hdg ht (fun h => kt h H locs ls hP hD hS hh) (fun h => kf h H locs ls hP hD hS hh)
theorem v_if_ne (g : CallFix p m c cc nL s args Ts own) {x : Int32} {off : Int} {tgt : Nat} (hdg : decode cc pc = .ok (.ifCond .ne off, 3)) (ht : (pc : Int) + off = (tgt : Int)) (hp : pc + 3 = pc') (kt : ¬ x = 0 → Vj p l e R s m args below meth c Q D cl A nL kc ks ws tgt lv st) (kf : x = 0 → Vj p l e R s m args below meth c Q D cl A nL kc ks ws pc' lv st) : Vj p l e R s m args below meth c Q D cl A nL kc ks ws pc lv (.int x :: st) := by
  subst hp; exact fun H locs ls hP hD hS hh => lv_if_ne g.1 g.2.1 hdg ht (fun h => kt h H locs ls hP hD hS hh) (fun h => kf h H locs ls hP hD hS hh)
theorem v_icmp_lt (g : CallFix p m c cc nL s args Ts own) {x y : Int32} {off : Int} {tgt : Nat} (hdg : decode cc pc = .ok (.if_icmp .lt off, 3)) (ht : (pc : Int) + off = (tgt : Int)) (hp : pc + 3 = pc') (kt : x < y → Vj p l e R s m args below meth c Q D cl A nL kc ks ws tgt lv st) (kf : ¬ x < y → Vj p l e R s m args below meth c Q D cl A nL kc ks ws pc' lv st) : Vj p l e R s m args below meth c Q D cl A nL kc ks ws pc lv (.int y :: .int x :: st) := by
  subst hp; exact fun H locs ls hP hD hS hh => lv_icmp_lt g.1 g.2.1 hdg ht (fun h => kt h H locs ls hP hD hS hh) (fun h => kf h H locs ls hP hD hS hh)
theorem v_if_lt (g : CallFix p m c cc nL s args Ts own) {x : Int32} {off : Int} {tgt : Nat} (hdg : decode cc pc = .ok (.ifCond .lt off, 3)) (ht : (pc : Int) + off = (tgt : Int)) (hp : pc + 3 = pc') (kt : x < 0 → Vj p l e R s m args below meth c Q D cl A nL kc ks ws tgt lv st) (kf : ¬ x < 0 → Vj p l e R s m args below meth c Q D cl A nL kc ks ws pc' lv st) : Vj p l e R s m args below meth c Q D cl A nL kc ks ws pc lv (.int x :: st) := by
  subst hp; exact fun H locs ls hP hD hS hh => lv_if_lt g.1 g.2.1 hdg ht (fun h => kt h H locs ls hP hD hS hh) (fun h => kf h H locs ls hP hD hS hh)
theorem v_icmp_ge (g : CallFix p m c cc nL s args Ts own) {x y : Int32} {off : Int} {tgt : Nat} (hdg : decode cc pc = .ok (.if_icmp .ge off, 3)) (ht : (pc : Int) + off = (tgt : Int)) (hp : pc + 3 = pc') (kt : y ≤ x → Vj p l e R s m args below meth c Q D cl A nL kc ks ws tgt lv st) (kf : ¬ y ≤ x → Vj p l e R s m args below meth c Q D cl A nL kc ks ws pc' lv st) : Vj p l e R s m args below meth c Q D cl A nL kc ks ws pc lv (.int y :: .int x :: st) := by
  subst hp; exact fun H locs ls hP hD hS hh => lv_icmp_ge g.1 g.2.1 hdg ht (fun h => kt h H locs ls hP hD hS hh) (fun h => kf h H locs ls hP hD hS hh)
theorem v_if_ge (g : CallFix p m c cc nL s args Ts own) {x : Int32} {off : Int} {tgt : Nat} (hdg : decode cc pc = .ok (.ifCond .ge off, 3)) (ht : (pc : Int) + off = (tgt : Int)) (hp : pc + 3 = pc') (kt : 0 ≤ x → Vj p l e R s m args below meth c Q D cl A nL kc ks ws tgt lv st) (kf : ¬ 0 ≤ x → Vj p l e R s m args below meth c Q D cl A nL kc ks ws pc' lv st) : Vj p l e R s m args below meth c Q D cl A nL kc ks ws pc lv (.int x :: st) := by
  subst hp; exact fun H locs ls hP hD hS hh => lv_if_ge g.1 g.2.1 hdg ht (fun h => kt h H locs ls hP hD hS hh) (fun h => kf h H locs ls hP hD hS hh)
theorem v_icmp_gt (g : CallFix p m c cc nL s args Ts own) {x y : Int32} {off : Int} {tgt : Nat} (hdg : decode cc pc = .ok (.if_icmp .gt off, 3)) (ht : (pc : Int) + off = (tgt : Int)) (hp : pc + 3 = pc') (kt : y < x → Vj p l e R s m args below meth c Q D cl A nL kc ks ws tgt lv st) (kf : ¬ y < x → Vj p l e R s m args below meth c Q D cl A nL kc ks ws pc' lv st) : Vj p l e R s m args below meth c Q D cl A nL kc ks ws pc lv (.int y :: .int x :: st) := by
  subst hp; exact fun H locs ls hP hD hS hh => lv_icmp_gt g.1 g.2.1 hdg ht (fun h => kt h H locs ls hP hD hS hh) (fun h => kf h H locs ls hP hD hS hh)
theorem v_if_gt (g : CallFix p m c cc nL s args Ts own) {x : Int32} {off : Int} {tgt : Nat} (hdg : decode cc pc = .ok (.ifCond .gt off, 3)) (ht : (pc : Int) + off = (tgt : Int)) (hp : pc + 3 = pc') (kt : 0 < x → Vj p l e R s m args below meth c Q D cl A nL kc ks ws tgt lv st) (kf : ¬ 0 < x → Vj p l e R s m args below meth c Q D cl A nL kc ks ws pc' lv st) : Vj p l e R s m args below meth c Q D cl A nL kc ks ws pc lv (.int x :: st) := by
  subst hp; exact fun H locs ls hP hD hS hh => lv_if_gt g.1 g.2.1 hdg ht (fun h => kt h H locs ls hP hD hS hh) (fun h => kf h H locs ls hP hD hS hh)
theorem v_icmp_le (g : CallFix p m c cc nL s args Ts own) {x y : Int32} {off : Int} {tgt : Nat} (hdg : decode cc pc = .ok (.if_icmp .le off, 3)) (ht : (pc : Int) + off = (tgt : Int)) (hp : pc + 3 = pc') (kt : x ≤ y → Vj p l e R s m args below meth c Q D cl A nL kc ks ws tgt lv st) (kf : ¬ x ≤ y → Vj p l e R s m args below meth c Q D cl A nL kc ks ws pc' lv st) : Vj p l e R s m args below meth c Q D cl A nL kc ks ws pc lv (.int y :: .int x :: st) := by
  subst hp; exact fun H locs ls hP hD hS hh => lv_icmp_le g.1 g.2.1 hdg ht (fun h => kt h H locs ls hP hD hS hh) (fun h => kf h H locs ls hP hD hS hh)
theorem v_if_le (g : CallFix p m c cc nL s args Ts own) {x : Int32} {off : Int} {tgt : Nat} (hdg : decode cc pc = .ok (.ifCond .le off, 3)) (ht : (pc : Int) + off = (tgt : Int)) (hp : pc + 3 = pc') (kt : x ≤ 0 → Vj p l e R s m args below meth c Q D cl A nL kc ks ws tgt lv st) (kf : ¬ x ≤ 0 → Vj p l e R s m args below meth c Q D cl A nL kc ks ws pc' lv st) : Vj p l e R s m args below meth c Q D cl A nL kc ks ws pc lv (.int x :: st) := by
  subst hp; exact fun H locs ls hP hD hS hh => lv_if_le g.1 g.2.1 hdg ht (fun h => kt h H locs ls hP hD hS hh) (fun h => kf h H locs ls hP hD hS hh)
theorem v_tableIn (g : CallFix p m c cc nL s args Ts own) {dflt lo hi : Int} {offs : Array Int} {len : Nat} {x : Int32} {off : Int} {tgt : Nat} (hdg : decode cc pc = .ok (.tableswitch dflt lo hi offs, len)) (h1 : ¬ x.toInt < lo) (h2 : ¬ hi < x.toInt) (ho : offs[(x.toInt - lo).toNat]? = some off) (ht : (pc : Int) + off = (tgt : Int)) (k : Vj p l e R s m args below meth c Q D cl A nL kc ks ws tgt lv st) : Vj p l e R s m args below meth c Q D cl A nL kc ks ws pc lv (.int x :: st) := fun H locs ls hP hD hS hh => lv_tableIn g.1 g.2.1 hdg h1 h2 ho ht (k H locs ls hP hD hS hh)
theorem v_tableOut (g : CallFix p m c cc nL s args Ts own) {dflt lo hi : Int} {offs : Array Int} {len : Nat} {x : Int32} {tgt : Nat} (hdg : decode cc pc = .ok (.tableswitch dflt lo hi offs, len)) (h : x.toInt < lo ∨ hi < x.toInt) (ht : (pc : Int) + dflt = (tgt : Int)) (k : Vj p l e R s m args below meth c Q D cl A nL kc ks ws tgt lv st) : Vj p l e R s m args below meth c Q D cl A nL kc ks ws pc lv (.int x :: st) := fun H locs ls hP hD hS hh => lv_tableOut g.1 g.2.1 hdg h ht (k H locs ls hP hD hS hh)
theorem v_ldc (g : CallFix p m c cc nL s args Ts own) {index : Nat} {v : Int32} (hdg : decode cc pc = .ok (.ldc index, 2)) (hw : Cond.constant own index v ∈ Ts) (hp : pc + 2 = pc') (k : Vj p l e R s m args below meth c Q D cl A nL kc ks ws pc' lv (.int v :: st)) : Vj p l e R s m args below meth c Q D cl A nL kc ks ws pc lv (st) := by
  subst hp; exact fun H locs ls hP hD hS hh => lv_ldc g.1 g.2.1 g.2.2.2.1 (g.2.2.2.2 _ hw) hdg (k H locs ls hP hD hS hh)
theorem v_ldcw (g : CallFix p m c cc nL s args Ts own) {index : Nat} {v : Int32} (hdg : decode cc pc = .ok (.ldc_w index, 3)) (hw : Cond.constant own index v ∈ Ts) (hp : pc + 3 = pc') (k : Vj p l e R s m args below meth c Q D cl A nL kc ks ws pc' lv (.int v :: st)) : Vj p l e R s m args below meth c Q D cl A nL kc ks ws pc lv (st) := by
  subst hp; exact fun H locs ls hP hD hS hh => lv_ldcw g.1 g.2.1 g.2.2.2.1 (g.2.2.2.2 _ hw) hdg (k H locs ls hP hD hS hh)
theorem v_ldc2 (g : CallFix p m c cc nL s args Ts own) {index : Nat} {v : Int64} (hdg : decode cc pc = .ok (.ldc2_w index, 3)) (hw : Cond.constantLong own index v ∈ Ts) (hp : pc + 3 = pc') (k : Vj p l e R s m args below meth c Q D cl A nL kc ks ws pc' lv (.long v :: st)) : Vj p l e R s m args below meth c Q D cl A nL kc ks ws pc lv (st) := by
  subst hp; exact fun H locs ls hP hD hS hh => lv_ldc2 g.1 g.2.1 g.2.2.2.1 (g.2.2.2.2 _ hw) hdg (k H locs ls hP hD hS hh)
theorem v_sub (is : List Nat) (h : lv_pick lv is = lv') (k : Vj p l e R s m args below meth c Q D cl A nL kc ks ws pc lv' st) : Vj p l e R s m args below meth c Q D cl A nL kc ks ws pc lv st := fun H locs ls hP hD hS hh => k H locs ls hP hD hS (lv_sub hh is h)
theorem v_lv (h : lv = lv') (k : Vj p l e R s m args below meth c Q D cl A nL kc ks ws pc lv' st) : Vj p l e R s m args below meth c Q D cl A nL kc ks ws pc lv st := h ▸ k
theorem v_ws {ws' : va_W} (h : ws = ws') (k : Vj p l e R s m args below meth c Q D cl A nL kc ks ws' pc lv st) : Vj p l e R s m args below meth c Q D cl A nL kc ks ws pc lv st := h ▸ k
theorem v_widen {k' n' : Nat} (h1 : kc ≤ k') (h2 : ks ≤ n') (k : Vj p l e R s m args below meth c Q D cl A nL k' n' ws pc lv st) : Vj p l e R s m args below meth c Q D cl A nL kc ks ws pc lv st := fun H locs ls hP hD hS hh => W.widen h1 h2 (k H locs ls hP hD hS hh)
theorem v_get (g : CallFix p m c cc nL s args Ts own) (hK : va_K D cl tys s) {C : String} {T : u_T} {N ci index a : Nat} (hin : ∀ w ∈ u_ws C T N, w ∈ Ts) (q0 : Nat) {fs : List Value} (he : ws[q0]? = some (a, .inr (ci, fs))) (hc : cl[ci]? = some (C, T, N)) (k : Nat) (hk : k < N) (hlink : Cond.fieldLink own index (T k).1 (T k).2.1 (T k).2.2.1 ∈ Ts) {v : Value} (hv : fs[k]? = some v) (hdg : decode cc pc = .ok (.getfield index, 3)) (hp : pc + 3 = pc') (kk : Vj p l e R s m args below meth c Q D cl A nL kc ks ws pc' lv (v :: st)) : Vj p l e R s m args below meth c Q D cl A nL kc ks ws pc lv (.ref a :: st) := by
  subst hp; exact fun H locs ls hP hD hS hh => va_get g.1 g.2.1 g.2.2.2.2 hin g.2.2.2.1 hK hP q0 he hc k hk (g.2.2.2.2 _ hlink) (fun _ h9 => h9) hv hdg (kk H locs ls hP hD hS hh)
theorem v_put (g : CallFix p m c cc nL s args Ts own) (hK : va_K D cl tys s) {C : String} {T : u_T} {N ci index a : Nat} (hin : ∀ w ∈ u_ws C T N, w ∈ Ts) (ty0 : Nat → FieldType) (hty : ∀ k, k < N → parseFieldDescriptor (T k).2.2.1 = some (ty0 k)) (hnm : ∀ a, a < N → ∀ b, b < N → a ≠ b → (T a).2.1 ≠ (T b).2.1) (q0 : Nat) {fs : List Value} (he : ws[q0]? = some (a, .inr (ci, fs))) (hc : cl[ci]? = some (C, T, N)) (k : Nat) (hk : k < N) (hlink : Cond.fieldLink own index (T k).1 (T k).2.1 (T k).2.2.1 ∈ Ts) (hfin : (T k).2.2.2 = false) {ty : FieldType} {v : Value} (hd : parseFieldDescriptor (T k).2.2.1 = some ty) (hn : narrow ty v = v) (hfit : fits ty v = true) (hl : k < fs.length) {ws' : va_W} (hws : ws.set q0 (a, .inr (ci, fs.set k v)) = ws') (hdg : decode cc pc = .ok (.putfield index, 3)) (hp : pc + 3 = pc') (kk : Vj p l e R s m args below meth c Q D cl A nL kc ks ws' pc' lv st) : Vj p l e R s m args below meth c Q D cl A nL kc ks ws pc lv (v :: .ref a :: st) := by
  subst hp; subst hws; exact fun H locs ls hP hD hS hh => va_put g.1 g.2.1 g.2.2.2.2 hin ty0 hty hnm g.2.2.2.1 hK hP hD hS q0 he hc k hk (g.2.2.2.2 _ hlink) (fun _ h9 => h9) hfin hd hn hfit hl hdg (fun H1 locs1 hP1 hD1 hS1 => kk H1 locs1 ls hP1 hD1 hS1 hh)
/-- an index in range, as a Bool -/
def inb (i : Int32) (n : Nat) : Bool := decide (¬ (i < 0 ∨ n ≤ i.toNatClampNeg))
theorem inb_vp {i : Int32} {n : Nat} (h : inb i n = true) : vp_in i n := by
  have h' : ¬ (i < 0 ∨ n ≤ i.toNatClampNeg) := of_decide_eq_true h
  exact h'
theorem v_iald (g : CallFix p m c cc nL s args Ts own) (hK : va_K D cl tys s) (q0 t0 : Nat) {cA : ClassId} {n a : Nat} {f : Nat → Int32} (ha : ws[q0]? = some (a, .inl (cA, n, .inl f))) (ht : tys[t0]? = some (cA, .int)) {i : Int32} (hin : inb i n = true) (hdg : decode cc pc = .ok (.iaload, 1)) (hp : pc + 1 = pc') (kk : Vj p l e R s m args below meth c Q D cl A nL kc ks ws pc' lv (.int (f i.toNatClampNeg) :: st)) : Vj p l e R s m args below meth c Q D cl A nL kc ks ws pc lv (.int i :: .ref a :: st) := by
  subst hp; exact fun H locs ls hP hD hS hh => va_iald g.1 g.2.1 hK hP q0 t0 ha ht (inb_vp hin) hdg (kk H locs ls hP hD hS hh)
theorem v_zald (g : CallFix p m c cc nL s args Ts own) (hK : va_K D cl tys s) (q0 t0 : Nat) {cA : ClassId} {n a : Nat} {f : Nat → Int32} (ha : ws[q0]? = some (a, .inl (cA, n, .inl f))) (ht : tys[t0]? = some (cA, .boolean)) {i : Int32} (hin : inb i n = true) (hdg : decode cc pc = .ok (.baload, 1)) (hp : pc + 1 = pc') (kk : Vj p l e R s m args below meth c Q D cl A nL kc ks ws pc' lv (.int (f i.toNatClampNeg) :: st)) : Vj p l e R s m args below meth c Q D cl A nL kc ks ws pc lv (.int i :: .ref a :: st) := by
  subst hp; exact fun H locs ls hP hD hS hh => va_zald g.1 g.2.1 hK hP q0 t0 ha ht (inb_vp hin) hdg (kk H locs ls hP hD hS hh)
theorem v_bald (g : CallFix p m c cc nL s args Ts own) (hK : va_K D cl tys s) (q0 t0 : Nat) {cA : ClassId} {n a : Nat} {f : Nat → Int32} (ha : ws[q0]? = some (a, .inl (cA, n, .inl f))) (ht : tys[t0]? = some (cA, .byte)) {i : Int32} (hin : inb i n = true) (hdg : decode cc pc = .ok (.baload, 1)) (hp : pc + 1 = pc') (kk : Vj p l e R s m args below meth c Q D cl A nL kc ks ws pc' lv (.int (f i.toNatClampNeg) :: st)) : Vj p l e R s m args below meth c Q D cl A nL kc ks ws pc lv (.int i :: .ref a :: st) := by
  subst hp; exact fun H locs ls hP hD hS hh => va_bald g.1 g.2.1 hK hP q0 t0 ha ht (inb_vp hin) hdg (kk H locs ls hP hD hS hh)
theorem v_lald (g : CallFix p m c cc nL s args Ts own) (hK : va_K D cl tys s) (q0 t0 : Nat) {cA : ClassId} {n a : Nat} {f : Nat → Int64} (ha : ws[q0]? = some (a, .inl (cA, n, .inr (.inl f)))) (ht : tys[t0]? = some (cA, .long)) {i : Int32} (hin : inb i n = true) (hdg : decode cc pc = .ok (.laload, 1)) (hp : pc + 1 = pc') (kk : Vj p l e R s m args below meth c Q D cl A nL kc ks ws pc' lv (.long (f i.toNatClampNeg) :: st)) : Vj p l e R s m args below meth c Q D cl A nL kc ks ws pc lv (.int i :: .ref a :: st) := by
  subst hp; exact fun H locs ls hP hD hS hh => va_lald g.1 g.2.1 hK hP q0 t0 ha ht (inb_vp hin) hdg (kk H locs ls hP hD hS hh)
theorem v_iast (g : CallFix p m c cc nL s args Ts own) (hK : va_K D cl tys s) (q0 t0 : Nat) {cA : ClassId} {n a : Nat} {f : Nat → Int32} (ha : ws[q0]? = some (a, .inl (cA, n, .inl f))) (ht : tys[t0]? = some (cA, .int)) {i : Int32} {x : Int32} (hin : inb i n = true) {ws' : va_W} (hws : ws.set q0 (a, .inl (cA, n, .inl (upd f i.toNatClampNeg x))) = ws') (hdg : decode cc pc = .ok (.iastore, 1)) (hp : pc + 1 = pc') (kk : Vj p l e R s m args below meth c Q D cl A nL kc ks ws' pc' lv st) : Vj p l e R s m args below meth c Q D cl A nL kc ks ws pc lv (.int x :: .int i :: .ref a :: st) := by
  subst hp; subst hws; exact fun H locs ls hP hD hS hh => va_iast g.1 g.2.1 hK hP hD hS q0 t0 ha ht (inb_vp hin) hdg (fun H1 locs1 hP1 hD1 hS1 => kk H1 locs1 ls hP1 hD1 hS1 hh)
theorem v_zast (g : CallFix p m c cc nL s args Ts own) (hK : va_K D cl tys s) (q0 t0 : Nat) {cA : ClassId} {n a : Nat} {f : Nat → Int32} (ha : ws[q0]? = some (a, .inl (cA, n, .inl f))) (ht : tys[t0]? = some (cA, .boolean)) {i : Int32} {x : Int32} (hin : inb i n = true) {ws' : va_W} (hws : ws.set q0 (a, .inl (cA, n, .inl (upd f i.toNatClampNeg (vp_nar .boolean x)))) = ws') (hdg : decode cc pc = .ok (.bastore, 1)) (hp : pc + 1 = pc') (kk : Vj p l e R s m args below meth c Q D cl A nL kc ks ws' pc' lv st) : Vj p l e R s m args below meth c Q D cl A nL kc ks ws pc lv (.int x :: .int i :: .ref a :: st) := by
  subst hp; subst hws; exact fun H locs ls hP hD hS hh => va_zast g.1 g.2.1 hK hP hD hS q0 t0 ha ht (inb_vp hin) hdg (fun H1 locs1 hP1 hD1 hS1 => kk H1 locs1 ls hP1 hD1 hS1 hh)
theorem v_bast (g : CallFix p m c cc nL s args Ts own) (hK : va_K D cl tys s) (q0 t0 : Nat) {cA : ClassId} {n a : Nat} {f : Nat → Int32} (ha : ws[q0]? = some (a, .inl (cA, n, .inl f))) (ht : tys[t0]? = some (cA, .byte)) {i : Int32} {x : Int32} (hin : inb i n = true) {ws' : va_W} (hws : ws.set q0 (a, .inl (cA, n, .inl (upd f i.toNatClampNeg (vp_nar .byte x)))) = ws') (hdg : decode cc pc = .ok (.bastore, 1)) (hp : pc + 1 = pc') (kk : Vj p l e R s m args below meth c Q D cl A nL kc ks ws' pc' lv st) : Vj p l e R s m args below meth c Q D cl A nL kc ks ws pc lv (.int x :: .int i :: .ref a :: st) := by
  subst hp; subst hws; exact fun H locs ls hP hD hS hh => va_bast g.1 g.2.1 hK hP hD hS q0 t0 ha ht (inb_vp hin) hdg (fun H1 locs1 hP1 hD1 hS1 => kk H1 locs1 ls hP1 hD1 hS1 hh)
theorem v_last (g : CallFix p m c cc nL s args Ts own) (hK : va_K D cl tys s) (q0 t0 : Nat) {cA : ClassId} {n a : Nat} {f : Nat → Int64} (ha : ws[q0]? = some (a, .inl (cA, n, .inr (.inl f)))) (ht : tys[t0]? = some (cA, .long)) {i : Int32} {x : Int64} (hin : inb i n = true) {ws' : va_W} (hws : ws.set q0 (a, .inl (cA, n, .inr (.inl (vp_updL f i.toNatClampNeg x)))) = ws') (hdg : decode cc pc = .ok (.lastore, 1)) (hp : pc + 1 = pc') (kk : Vj p l e R s m args below meth c Q D cl A nL kc ks ws' pc' lv st) : Vj p l e R s m args below meth c Q D cl A nL kc ks ws pc lv (.long x :: .int i :: .ref a :: st) := by
  subst hp; subst hws; exact fun H locs ls hP hD hS hh => va_last g.1 g.2.1 hK hP hD hS q0 t0 ha ht (inb_vp hin) hdg (fun H1 locs1 hP1 hD1 hS1 => kk H1 locs1 ls hP1 hD1 hS1 hh)
theorem v_alen (g : CallFix p m c cc nL s args Ts own) (hK : va_K D cl tys s) (q0 t0 : Nat) {cA : ClassId} {a : Nat} {x : vp_A} (ha : ws[q0]? = some (a, .inl (cA, x))) {ty : FieldType} (ht : tys[t0]? = some (cA, ty)) {v : Int32} (hv : Int32.ofNat x.1 = v) (hdg : decode cc pc = .ok (.arraylength, 1)) (hp : pc + 1 = pc') (kk : Vj p l e R s m args below meth c Q D cl A nL kc ks ws pc' lv (.int v :: st)) : Vj p l e R s m args below meth c Q D cl A nL kc ks ws pc lv (.ref a :: st) := by
  subst hp; exact fun H locs ls hP hD hS hh => va_alen g.1 g.2.1 hK hP q0 t0 ha ht hv hdg (kk H locs ls hP hD hS hh)
end VJ
section VC
variable {p : Program} {l : Launch} {e : Env} {R : Room} {s : State} {m : MethodId} {args : Array Value} {below : List Frame} {meth : Method} {c : Code} {Q : State → Prop} {D : va_G} {cl : List vw_C} {tys : List (ClassId × FieldType)} {A : Nat → Prop} {nL kc ks : Nat} {pc pc' : Nat} {lv : List (Nat × Value)} {cc bytes : ByteArray} {Ts wy : List Cond} {own C : String} {y : MethodName} {maxL index n mc ms b : Nat} {ret : Option FieldType} {rm : Room} {As av rest st : List Value} {σ : Type} {w : σ → va_W} {S : σ}
/-- a contract's start: the world is w0 -/
def pcC (D : va_G) (cl : List vw_C) (tys : List (ClassId × FieldType)) (w0 : va_W) (sz : Nat) (av : List Value) : Array Value → State → Prop := va_Pc av (fun U => U.heap.size = sz ∧ va_P D cl w0 U.heap ∧ va_K D cl tys U ∧ va_D (fun _ => True) w0)
/-- the world behind it -/
def qB {σ : Type} (D : va_G) (cl : List vw_C) (tys : List (ClassId × FieldType)) (w : σ → va_W) (A : Nat → Prop) : σ → State → Prop := fun S' t => va_P D cl (w S') t.heap ∧ va_K D cl tys t ∧ va_D A (w S')
def qI {σ : Type} (D : va_G) (cl : List vw_C) (tys : List (ClassId × FieldType)) (w : σ → va_W) (A : Nat → Prop) (Rm : Int32 × σ) := va_Qi (fun r S' => (r, S') = Rm) (qB D cl tys w A) A
def qL {σ : Type} (D : va_G) (cl : List vw_C) (tys : List (ClassId × FieldType)) (w : σ → va_W) (A : Nat → Prop) (Rm : Int64 × σ) := va_Ql (fun r S' => (r, S') = Rm) (qB D cl tys w A) A
def qV {σ : Type} (D : va_G) (cl : List vw_C) (tys : List (ClassId × FieldType)) (w : σ → va_W) (A : Nat → Prop) (Rm : σ) := va_Qv (fun S' => S' = Rm) (qB D cl tys w A) A
theorem pcC_blind {w0 : va_W} {sz : Nat} : FrameBlind (pcC D cl tys w0 sz av) := fun a U g mk q => by
  obtain ⟨q0, q1, qP, qK, qD⟩ := q
  exact ⟨q0, q1, qP, va_K.moved (u := U) (U := U.calling g mk a) (Vm.Alike.refl U.vm) qK, qD⟩
theorem idx_map {α : Type} (l : List α) : (List.range l.length).map (fun i => l[i]?) = l.map some := by
  apply List.ext_getElem?
  intro i
  simp only [List.getElem?_map, List.getElem?_range]
  by_cases h : i < l.length
  · simp [h, List.getElem?_range]
  · have : l.length ≤ i := Nat.le_of_not_lt h
    simp [List.getElem?_eq_none, this]
/-- a contract out of a walk -/
theorem met_i {Rm : Int32 × σ} (hy : plainName y.cls = true) (hlen : (lg_sl av).length ≤ maxL)
    (body : ∀ (p : Program) (e : Env) (s : State) (m : MethodId) (below : List Frame) (meth : Method) (c : Code) (A : Nat → Prop), CallFix p m c cc maxL s av.toArray Ts y.cls → meth.sig.returnType = some .int → meth.locks = false → va_K D cl tys s → (∀ q, s.heap.size ≤ q → A q) →
      Vj p l e rm s m av.toArray below meth c (MQ below (qI D cl tys w A Rm) av.toArray s mc ms A) D cl A maxL 0 0 (w S) 0 (lv_args 0 av) []) (sz : Nat) :
    Met l y (.code y cc maxL (some .int) :: Ts) rm (pcC D cl tys (w S) sz av) (qI D cl tys w (va_A (w S) sz) Rm) mc ms (va_A (w S) sz) := by
  refine Met.ofW (cc := cc) (maxL := maxL) (ret := (some .int)) hy rfl ?_
  intro p e s m args below meth c s₁ B hml hv
  obtain ⟨rfl, hsz, hP, hK, hD0⟩ := hv
  subst hsz
  have hD := hD0.self (sz := s.heap.size)
  have hts := atoms_spec (ws := .code y cc maxL (some .int) :: Ts) B.pre
  have g : CallFix p m c cc maxL s av.toArray Ts y.cls := ⟨B.exec, B.bytes, hml, findClass_of_methodNamed B.named, fun w hw => hts w (List.mem_cons_of_mem _ hw)⟩
  have hl := lv_entry av (n := maxL) hlen
  rw [lg_entry_eq]
  exact body p e s m below meth c (va_A (w S) s.heap.size) g B.returns B.notSynchronized hK (fun q h => Or.inr h) s.heap [] _ hP hD va_S.rf hl
/-- a contract out of a walk -/
theorem met_z {Rm : Int32 × σ} (hy : plainName y.cls = true) (hlen : (lg_sl av).length ≤ maxL)
    (body : ∀ (p : Program) (e : Env) (s : State) (m : MethodId) (below : List Frame) (meth : Method) (c : Code) (A : Nat → Prop), CallFix p m c cc maxL s av.toArray Ts y.cls → meth.sig.returnType = some .boolean → meth.locks = false → va_K D cl tys s → (∀ q, s.heap.size ≤ q → A q) →
      Vj p l e rm s m av.toArray below meth c (MQ below (qI D cl tys w A Rm) av.toArray s mc ms A) D cl A maxL 0 0 (w S) 0 (lv_args 0 av) []) (sz : Nat) :
    Met l y (.code y cc maxL (some .boolean) :: Ts) rm (pcC D cl tys (w S) sz av) (qI D cl tys w (va_A (w S) sz) Rm) mc ms (va_A (w S) sz) := by
  refine Met.ofW (cc := cc) (maxL := maxL) (ret := (some .boolean)) hy rfl ?_
  intro p e s m args below meth c s₁ B hml hv
  obtain ⟨rfl, hsz, hP, hK, hD0⟩ := hv
  subst hsz
  have hD := hD0.self (sz := s.heap.size)
  have hts := atoms_spec (ws := .code y cc maxL (some .boolean) :: Ts) B.pre
  have g : CallFix p m c cc maxL s av.toArray Ts y.cls := ⟨B.exec, B.bytes, hml, findClass_of_methodNamed B.named, fun w hw => hts w (List.mem_cons_of_mem _ hw)⟩
  have hl := lv_entry av (n := maxL) hlen
  rw [lg_entry_eq]
  exact body p e s m below meth c (va_A (w S) s.heap.size) g B.returns B.notSynchronized hK (fun q h => Or.inr h) s.heap [] _ hP hD va_S.rf hl
/-- a contract out of a walk -/
theorem met_l {Rm : Int64 × σ} (hy : plainName y.cls = true) (hlen : (lg_sl av).length ≤ maxL)
    (body : ∀ (p : Program) (e : Env) (s : State) (m : MethodId) (below : List Frame) (meth : Method) (c : Code) (A : Nat → Prop), CallFix p m c cc maxL s av.toArray Ts y.cls → meth.sig.returnType = some .long → meth.locks = false → va_K D cl tys s → (∀ q, s.heap.size ≤ q → A q) →
      Vj p l e rm s m av.toArray below meth c (MQ below (qL D cl tys w A Rm) av.toArray s mc ms A) D cl A maxL 0 0 (w S) 0 (lv_args 0 av) []) (sz : Nat) :
    Met l y (.code y cc maxL (some .long) :: Ts) rm (pcC D cl tys (w S) sz av) (qL D cl tys w (va_A (w S) sz) Rm) mc ms (va_A (w S) sz) := by
  refine Met.ofW (cc := cc) (maxL := maxL) (ret := (some .long)) hy rfl ?_
  intro p e s m args below meth c s₁ B hml hv
  obtain ⟨rfl, hsz, hP, hK, hD0⟩ := hv
  subst hsz
  have hD := hD0.self (sz := s.heap.size)
  have hts := atoms_spec (ws := .code y cc maxL (some .long) :: Ts) B.pre
  have g : CallFix p m c cc maxL s av.toArray Ts y.cls := ⟨B.exec, B.bytes, hml, findClass_of_methodNamed B.named, fun w hw => hts w (List.mem_cons_of_mem _ hw)⟩
  have hl := lv_entry av (n := maxL) hlen
  rw [lg_entry_eq]
  exact body p e s m below meth c (va_A (w S) s.heap.size) g B.returns B.notSynchronized hK (fun q h => Or.inr h) s.heap [] _ hP hD va_S.rf hl
/-- a contract out of a walk -/
theorem met_v {Rm : σ} (hy : plainName y.cls = true) (hlen : (lg_sl av).length ≤ maxL)
    (body : ∀ (p : Program) (e : Env) (s : State) (m : MethodId) (below : List Frame) (meth : Method) (c : Code) (A : Nat → Prop), CallFix p m c cc maxL s av.toArray Ts y.cls → meth.sig.returnType = none → meth.locks = false → va_K D cl tys s → (∀ q, s.heap.size ≤ q → A q) →
      Vj p l e rm s m av.toArray below meth c (MQ below (qV D cl tys w A Rm) av.toArray s mc ms A) D cl A maxL 0 0 (w S) 0 (lv_args 0 av) []) (sz : Nat) :
    Met l y (.code y cc maxL (none) :: Ts) rm (pcC D cl tys (w S) sz av) (qV D cl tys w (va_A (w S) sz) Rm) mc ms (va_A (w S) sz) := by
  refine Met.ofW (cc := cc) (maxL := maxL) (ret := none) hy rfl ?_
  intro p e s m args below meth c s₁ B hml hv
  obtain ⟨rfl, hsz, hP, hK, hD0⟩ := hv
  subst hsz
  have hD := hD0.self (sz := s.heap.size)
  have hts := atoms_spec (ws := .code y cc maxL (none) :: Ts) B.pre
  have g : CallFix p m c cc maxL s av.toArray Ts y.cls := ⟨B.exec, B.bytes, hml, findClass_of_methodNamed B.named, fun w hw => hts w (List.mem_cons_of_mem _ hw)⟩
  have hl := lv_entry av (n := maxL) hlen
  rw [lg_entry_eq]
  exact body p e s m below meth c (va_A (w S) s.heap.size) g B.returns B.notSynchronized hK (fun q h => Or.inr h) s.heap [] _ hP hD va_S.rf hl
theorem v_iret {v : Int32} {Rm : Int32 × σ} (g : CallFix p m c cc nL s args Ts own) (hr : meth.sig.returnType = some .int) (hlk : meth.locks = false) (hK : va_K D cl tys s) (hf : (v, S) = Rm) (hdg : decode cc pc = .ok (.ireturn, 1)) : Vj p l e R s m args below meth c (MQ below (qI D cl tys w A Rm) args s kc ks A) D cl A nL kc ks (w S) pc lv [.int v] := fun H locs ls hP hD hS hh => W.iret g.1 g.2.1 hr (fun t ht hW => ⟨⟨v, S, rfl, hf, by rw [ht]; exact hP, va_K.moved hW.alike hK, hD⟩, hS.F ht⟩) hS.2.2 hdg hlk
theorem v_lret {v : Int64} {Rm : Int64 × σ} (g : CallFix p m c cc nL s args Ts own) (hr : meth.sig.returnType = some .long) (hlk : meth.locks = false) (hK : va_K D cl tys s) (hf : (v, S) = Rm) (hdg : decode cc pc = .ok (.lreturn, 1)) : Vj p l e R s m args below meth c (MQ below (qL D cl tys w A Rm) args s kc ks A) D cl A nL kc ks (w S) pc lv [.long v] := fun H locs ls hP hD hS hh => W.lret g.1 g.2.1 hr (fun t ht hW => ⟨⟨v, S, rfl, hf, by rw [ht]; exact hP, va_K.moved hW.alike hK, hD⟩, hS.F ht⟩) hS.2.2 hdg hlk
/-- a boolean's word -/
def isB (v : Int32) : Bool := v == 0 || v == 1
theorem isB_nar {v : Int32} (h : isB v = true) : narrow .boolean (.int v) = .int v := by
  have h' : v = 0 ∨ v = 1 := by simpa [isB] using h
  rcases h' with rfl | rfl <;> rfl
theorem v_zret {v : Int32} {Rm : Int32 × σ} (g : CallFix p m c cc nL s args Ts own) (hr : meth.sig.returnType = some .boolean) (hlk : meth.locks = false) (hK : va_K D cl tys s) (hv : isB v = true) (hf : (v, S) = Rm) (hdg : decode cc pc = .ok (.ireturn, 1)) : Vj p l e R s m args below meth c (MQ below (qI D cl tys w A Rm) args s kc ks A) D cl A nL kc ks (w S) pc lv [.int v] := fun H locs ls hP hD hS hh => W.zret g.1 g.2.1 hr (isB_nar hv) (fun t ht hW => ⟨⟨v, S, rfl, hf, by rw [ht]; exact hP, va_K.moved hW.alike hK, hD⟩, hS.F ht⟩) hS.2.2 hdg hlk
theorem v_vret {Rm : σ} (g : CallFix p m c cc nL s args Ts own) (hr : meth.sig.returnType = none) (hlk : meth.locks = false) (hK : va_K D cl tys s) (hf : S = Rm) (hdg : decode cc pc = .ok (.return_, 1)) : Vj p l e R s m args below meth c (MQ below (qV D cl tys w A Rm) args s kc ks A) D cl A nL kc ks (w S) pc lv [] := fun H locs ls hP hD hS hh => W.vret g.1 g.2.1 hr (fun t ht hW => ⟨⟨S, rfl, hf, by rw [ht]; exact hP, va_K.moved hW.alike hK, hD⟩, hS.F ht⟩) hS.2.2 hdg hlk
theorem v_callV_i {r : Int32} {S1 : σ} (g : CallFix p m c cc nL s args Ts own) (hK : va_K D cl tys s) (hA : ∀ q, s.heap.size ≤ q → A q) (hM : ∀ sz, Met l y wy rm (pcC D cl tys (w S) sz (.ref b :: As)) (qI D cl tys w (va_A (w S) sz) (r, S1)) 0 0 (va_A (w S) sz)) (cw : CallW R s args own C index y bytes maxL ret wy rm 0 0 n) {q0 ci : Nat} {qc : vw_C} {fs : List Value} (hc : cl[ci]? = some qc) (hC : qc.1 = C) (he : (w S)[q0]? = some (b, .inr (ci, fs))) (hn : As.length = n) (hst : st = As.reverse ++ .ref b :: rest) (hrm : (rest.map fun v => v.category).sum ≤ 8) (hdg : decode cc pc = .ok (.invokevirtual index, 3)) (hcell : kc + 0 ≤ R.cells) (hslot : ks + 0 ≤ R.slots) (hp : pc + 3 = pc')
    (kk : Vj p l e R s m args below meth c Q D cl A nL kc ks (w S1) pc' lv (.int r :: rest)) : Vj p l e R s m args below meth c Q D cl A nL kc ks (w S) pc lv st := by
  subst hp
  subst hst
  intro H locs ls hP hD hS hh
  have hidx := idx_map (w S)
  have hFc := va_free (wc := w S) hD hS hA (List.range (w S).length) hidx
  refine va_calli (va_runV (As := As) (rest := rest) g (hM H.size) cw ⟨pcC_blind, hC ▸ va_recv hK hP hc he, fun U hU hW => ⟨rfl, by rw [hU], by rw [hU]; exact hP, va_K.moved hW.alike hK, hD.weaken (fun _ _ _ _ => trivial)⟩⟩ rfl hn hh.1 rfl (lv_room hrm) hdg ⟨hcell, hslot⟩) hS (fun q _ h => hFc q h) hFc (fun r9 u t H1 locs1 ht hvm hw hB hz1 hk1 hS1 => ?_)
  obtain ⟨hP1, hK1, hD1⟩ := hB
  rw [ht] at hP1
  obtain ⟨hP2, hD2⟩ := va_join (wr := []) hP hD (List.range (w S).length) [] hidx rfl rfl (fun i hi => by cases hi) hk1 hFc hP1 hD1
  cases hw
  exact kk H1 locs1 ls hP2 hD2 hS1 hh
theorem v_callV_l {r : Int64} {S1 : σ} (g : CallFix p m c cc nL s args Ts own) (hK : va_K D cl tys s) (hA : ∀ q, s.heap.size ≤ q → A q) (hM : ∀ sz, Met l y wy rm (pcC D cl tys (w S) sz (.ref b :: As)) (qL D cl tys w (va_A (w S) sz) (r, S1)) 0 0 (va_A (w S) sz)) (cw : CallW R s args own C index y bytes maxL ret wy rm 0 0 n) {q0 ci : Nat} {qc : vw_C} {fs : List Value} (hc : cl[ci]? = some qc) (hC : qc.1 = C) (he : (w S)[q0]? = some (b, .inr (ci, fs))) (hn : As.length = n) (hst : st = As.reverse ++ .ref b :: rest) (hrm : (rest.map fun v => v.category).sum ≤ 8) (hdg : decode cc pc = .ok (.invokevirtual index, 3)) (hcell : kc + 0 ≤ R.cells) (hslot : ks + 0 ≤ R.slots) (hp : pc + 3 = pc')
    (kk : Vj p l e R s m args below meth c Q D cl A nL kc ks (w S1) pc' lv (.long r :: rest)) : Vj p l e R s m args below meth c Q D cl A nL kc ks (w S) pc lv st := by
  subst hp
  subst hst
  intro H locs ls hP hD hS hh
  have hidx := idx_map (w S)
  have hFc := va_free (wc := w S) hD hS hA (List.range (w S).length) hidx
  refine va_calll (va_runV (As := As) (rest := rest) g (hM H.size) cw ⟨pcC_blind, hC ▸ va_recv hK hP hc he, fun U hU hW => ⟨rfl, by rw [hU], by rw [hU]; exact hP, va_K.moved hW.alike hK, hD.weaken (fun _ _ _ _ => trivial)⟩⟩ rfl hn hh.1 rfl (lv_room hrm) hdg ⟨hcell, hslot⟩) hS (fun q _ h => hFc q h) hFc (fun r9 u t H1 locs1 ht hvm hw hB hz1 hk1 hS1 => ?_)
  obtain ⟨hP1, hK1, hD1⟩ := hB
  rw [ht] at hP1
  obtain ⟨hP2, hD2⟩ := va_join (wr := []) hP hD (List.range (w S).length) [] hidx rfl rfl (fun i hi => by cases hi) hk1 hFc hP1 hD1
  cases hw
  exact kk H1 locs1 ls hP2 hD2 hS1 hh
theorem v_callV_v {S1 : σ} (g : CallFix p m c cc nL s args Ts own) (hK : va_K D cl tys s) (hA : ∀ q, s.heap.size ≤ q → A q) (hM : ∀ sz, Met l y wy rm (pcC D cl tys (w S) sz (.ref b :: As)) (qV D cl tys w (va_A (w S) sz) S1) 0 0 (va_A (w S) sz)) (cw : CallW R s args own C index y bytes maxL ret wy rm 0 0 n) {q0 ci : Nat} {qc : vw_C} {fs : List Value} (hc : cl[ci]? = some qc) (hC : qc.1 = C) (he : (w S)[q0]? = some (b, .inr (ci, fs))) (hn : As.length = n) (hst : st = As.reverse ++ .ref b :: rest) (hrm : (rest.map fun v => v.category).sum ≤ 8) (hdg : decode cc pc = .ok (.invokevirtual index, 3)) (hcell : kc + 0 ≤ R.cells) (hslot : ks + 0 ≤ R.slots) (hp : pc + 3 = pc')
    (kk : Vj p l e R s m args below meth c Q D cl A nL kc ks (w S1) pc' lv rest) : Vj p l e R s m args below meth c Q D cl A nL kc ks (w S) pc lv st := by
  subst hp
  subst hst
  intro H locs ls hP hD hS hh
  have hidx := idx_map (w S)
  have hFc := va_free (wc := w S) hD hS hA (List.range (w S).length) hidx
  refine va_callv (va_runV (As := As) (rest := rest) g (hM H.size) cw ⟨pcC_blind, hC ▸ va_recv hK hP hc he, fun U hU hW => ⟨rfl, by rw [hU], by rw [hU]; exact hP, va_K.moved hW.alike hK, hD.weaken (fun _ _ _ _ => trivial)⟩⟩ rfl hn hh.1 rfl (lv_room hrm) hdg ⟨hcell, hslot⟩) hS (fun q _ h => hFc q h) hFc (fun u t H1 locs1 ht hvm hw hB hz1 hk1 hS1 => ?_)
  obtain ⟨hP1, hK1, hD1⟩ := hB
  rw [ht] at hP1
  obtain ⟨hP2, hD2⟩ := va_join (wr := []) hP hD (List.range (w S).length) [] hidx rfl rfl (fun i hi => by cases hi) hk1 hFc hP1 hD1
  cases hw
  exact kk H1 locs1 ls hP2 hD2 hS1 hh
theorem v_callS_i {r : Int32} {S1 : σ} (g : CallFix p m c cc nL s args Ts own) (hK : va_K D cl tys s) (hA : ∀ q, s.heap.size ≤ q → A q) (hM : ∀ sz, Met l y wy rm (pcC D cl tys (w S) sz As) (qI D cl tys w (va_A (w S) sz) (r, S1)) 0 0 (va_A (w S) sz)) (cw : CallB R s args own index y bytes maxL ret wy rm 0 0 n ∧ (Cond.static y).before args s = true)  (hn : As.length = n) (hst : st = As.reverse ++ rest) (hrm : (rest.map fun v => v.category).sum ≤ 8) (hdg : decode cc pc = .ok (.invokestatic index, 3)) (hcell : kc + 0 ≤ R.cells) (hslot : ks + 0 ≤ R.slots) (hp : pc + 3 = pc')
    (kk : Vj p l e R s m args below meth c Q D cl A nL kc ks (w S1) pc' lv (.int r :: rest)) : Vj p l e R s m args below meth c Q D cl A nL kc ks (w S) pc lv st := by
  subst hp
  subst hst
  intro H locs ls hP hD hS hh
  have hidx := idx_map (w S)
  have hFc := va_free (wc := w S) hD hS hA (List.range (w S).length) hidx
  refine va_calli (va_runS (As := As) (rest := rest) g (hM H.size) cw ⟨pcC_blind, fun U hU hW => ⟨rfl, by rw [hU], by rw [hU]; exact hP, va_K.moved hW.alike hK, hD.weaken (fun _ _ _ _ => trivial)⟩⟩ rfl hn hh.1 rfl (lv_room hrm) hdg ⟨hcell, hslot⟩) hS (fun q _ h => hFc q h) hFc (fun r9 u t H1 locs1 ht hvm hw hB hz1 hk1 hS1 => ?_)
  obtain ⟨hP1, hK1, hD1⟩ := hB
  rw [ht] at hP1
  obtain ⟨hP2, hD2⟩ := va_join (wr := []) hP hD (List.range (w S).length) [] hidx rfl rfl (fun i hi => by cases hi) hk1 hFc hP1 hD1
  cases hw
  exact kk H1 locs1 ls hP2 hD2 hS1 hh
theorem v_callS_l {r : Int64} {S1 : σ} (g : CallFix p m c cc nL s args Ts own) (hK : va_K D cl tys s) (hA : ∀ q, s.heap.size ≤ q → A q) (hM : ∀ sz, Met l y wy rm (pcC D cl tys (w S) sz As) (qL D cl tys w (va_A (w S) sz) (r, S1)) 0 0 (va_A (w S) sz)) (cw : CallB R s args own index y bytes maxL ret wy rm 0 0 n ∧ (Cond.static y).before args s = true)  (hn : As.length = n) (hst : st = As.reverse ++ rest) (hrm : (rest.map fun v => v.category).sum ≤ 8) (hdg : decode cc pc = .ok (.invokestatic index, 3)) (hcell : kc + 0 ≤ R.cells) (hslot : ks + 0 ≤ R.slots) (hp : pc + 3 = pc')
    (kk : Vj p l e R s m args below meth c Q D cl A nL kc ks (w S1) pc' lv (.long r :: rest)) : Vj p l e R s m args below meth c Q D cl A nL kc ks (w S) pc lv st := by
  subst hp
  subst hst
  intro H locs ls hP hD hS hh
  have hidx := idx_map (w S)
  have hFc := va_free (wc := w S) hD hS hA (List.range (w S).length) hidx
  refine va_calll (va_runS (As := As) (rest := rest) g (hM H.size) cw ⟨pcC_blind, fun U hU hW => ⟨rfl, by rw [hU], by rw [hU]; exact hP, va_K.moved hW.alike hK, hD.weaken (fun _ _ _ _ => trivial)⟩⟩ rfl hn hh.1 rfl (lv_room hrm) hdg ⟨hcell, hslot⟩) hS (fun q _ h => hFc q h) hFc (fun r9 u t H1 locs1 ht hvm hw hB hz1 hk1 hS1 => ?_)
  obtain ⟨hP1, hK1, hD1⟩ := hB
  rw [ht] at hP1
  obtain ⟨hP2, hD2⟩ := va_join (wr := []) hP hD (List.range (w S).length) [] hidx rfl rfl (fun i hi => by cases hi) hk1 hFc hP1 hD1
  cases hw
  exact kk H1 locs1 ls hP2 hD2 hS1 hh
theorem v_callS_v {S1 : σ} (g : CallFix p m c cc nL s args Ts own) (hK : va_K D cl tys s) (hA : ∀ q, s.heap.size ≤ q → A q) (hM : ∀ sz, Met l y wy rm (pcC D cl tys (w S) sz As) (qV D cl tys w (va_A (w S) sz) S1) 0 0 (va_A (w S) sz)) (cw : CallB R s args own index y bytes maxL ret wy rm 0 0 n ∧ (Cond.static y).before args s = true)  (hn : As.length = n) (hst : st = As.reverse ++ rest) (hrm : (rest.map fun v => v.category).sum ≤ 8) (hdg : decode cc pc = .ok (.invokestatic index, 3)) (hcell : kc + 0 ≤ R.cells) (hslot : ks + 0 ≤ R.slots) (hp : pc + 3 = pc')
    (kk : Vj p l e R s m args below meth c Q D cl A nL kc ks (w S1) pc' lv rest) : Vj p l e R s m args below meth c Q D cl A nL kc ks (w S) pc lv st := by
  subst hp
  subst hst
  intro H locs ls hP hD hS hh
  have hidx := idx_map (w S)
  have hFc := va_free (wc := w S) hD hS hA (List.range (w S).length) hidx
  refine va_callv (va_runS (As := As) (rest := rest) g (hM H.size) cw ⟨pcC_blind, fun U hU hW => ⟨rfl, by rw [hU], by rw [hU]; exact hP, va_K.moved hW.alike hK, hD.weaken (fun _ _ _ _ => trivial)⟩⟩ rfl hn hh.1 rfl (lv_room hrm) hdg ⟨hcell, hslot⟩) hS (fun q _ h => hFc q h) hFc (fun u t H1 locs1 ht hvm hw hB hz1 hk1 hS1 => ?_)
  obtain ⟨hP1, hK1, hD1⟩ := hB
  rw [ht] at hP1
  obtain ⟨hP2, hD2⟩ := va_join (wr := []) hP hD (List.range (w S).length) [] hidx rfl rfl (fun i hi => by cases hi) hk1 hFc hP1 hD1
  cases hw
  exact kk H1 locs1 ls hP2 hD2 hS1 hh
theorem ifT {α : Type} {c : Prop} {h : Decidable c} {a b : Option α} {r : α} (hc : c) (hf : (@ite _ c h a b) = some r) : a = some r := (if_pos hc).symm.trans hf
theorem ifF {α : Type} {c : Prop} {h : Decidable c} {a b : Option α} {r : α} (hc : ¬ c) (hf : (@ite _ c h a b) = some r) : b = some r := (if_neg hc).symm.trans hf
theorem grd {α : Type} {c : Bool} {a : Option α} {r : α} (hf : (if c = true then a else none) = some r) : c = true ∧ a = some r := by
  cases c with
  | true => exact ⟨rfl, hf⟩
  | false => cases hf
theorem grn {α : Type} {c : Prop} {h : Decidable c} {a : Option α} {r : α} (hf : (@ite _ c h none a) = some r) : ¬ c ∧ a = some r := by
  by_cases hc : c
  · rw [if_pos hc] at hf; cases hf
  · exact ⟨hc, (if_neg hc).symm.trans hf⟩
theorem bnd {α β : Type} {o : Option α} {k : α → Option β} {r : β} (hf : o.bind k = some r) : ∃ q, o = some q ∧ k q = some r := by
  cases o with
  | none => cases hf
  | some q => exact ⟨q, rfl, hf⟩
/-- behind a loop that may return: it left (.inl) or returned (.inr) -/
def exK {α ρ : Type} (o : α ⊕ ρ) (k : α → Option ρ) : Option ρ := match o with
  | .inl a => k a
  | .inr q => some q
/-- the same within a loop -/
def exL {α ρ β : Type} (o : α ⊕ ρ) (k : α → Option (β ⊕ ρ)) : Option (β ⊕ ρ) := match o with
  | .inl a => k a
  | .inr q => some (.inr q)
theorem exKl {α ρ : Type} {y : α} {k : α → Option ρ} {r : ρ} (h : exK (.inl y) k = some r) : k y = some r := h
theorem exLl {α ρ β : Type} {y : α} {k : α → Option (β ⊕ ρ)} {r : β ⊕ ρ} (h : exL (.inl y) k = some r) : k y = some r := h
theorem pinj {α σ' : Type} {v r : α} {S' : σ'} (h : some v = some r) : (v, S') = (r, S') := by rw [Option.some.inj h]
theorem tsOut3 {x : Int32} (h0 : ¬ x = 0) (h1 : ¬ x = 1) (h2 : ¬ x = 2) : x.toInt < 0 ∨ 2 < x.toInt := by
  have a0 := lv_neT (a := 0) h0 rfl
  have a1 := lv_neT (a := 1) h1 rfl
  have a2 := lv_neT (a := 2) h2 rfl
  omega
end VC
abbrev St9 : Type := (Nat → Int32) × (Nat → Int64) × (Nat → Nat → Int32) × (Nat → Nat → Int64)
def gI (S : St9) (k : Nat) : Int32 := S.1 k
def gL (S : St9) (k : Nat) : Int64 := S.2.1 k
def gA (S : St9) (k : Nat) : Nat → Int32 := S.2.2.1 k
def gB (S : St9) (k : Nat) : Nat → Int64 := S.2.2.2 k
def sI (S : St9) (k : Nat) (v : Int32) : St9 := (va_up S.1 k v, S.2)
def sL (S : St9) (k : Nat) (v : Int64) : St9 := (S.1, va_up S.2.1 k v, S.2.2)
def tA (S : St9) (k : Nat) (i v : Int32) : St9 := (S.1, S.2.1, va_up S.2.2.1 k (upd (S.2.2.1 k) i.toNatClampNeg v), S.2.2.2)
def tB (S : St9) (k : Nat) (i : Int32) (v : Int64) : St9 := (S.1, S.2.1, S.2.2.1, va_up S.2.2.2 k (vp_updL (S.2.2.2 k) i.toNatClampNeg v))
def St0 : St9 := (fun _ => 0, fun _ => 0, fun _ _ => 0, fun _ _ => 0)
end
section
section VN
variable {p : Program} {l : Launch} {e : Env} {R : Room} {s : State} {m : MethodId} {args : Array Value} {below : List Frame} {meth : Method} {c : Code} {Q : State → Prop} {D : va_G} {cl : List vw_C} {tys : List (ClassId × FieldType)} {A : Nat → Prop} {nL kc ks : Nat} {ws : va_W} {pc pc' : Nat} {lv : List (Nat × Value)} {st rest : List Value} {cc bytes : ByteArray} {Ts wy : List Cond} {own host : String} {y : MethodName} {maxL index mc ms b : Nat} {rm : Room}
theorem v_newa (g : CallFix p m c cc nL s args Ts own) {atype : ArrayType} (harr : Cond.arrayClass (newarray.typeOf atype) ∈ Ts) {ty : FieldType} (hty : newarray.typeOf atype = ty) (hK : va_K D cl tys s) (hA : ∀ q, s.heap.size ≤ q → A q) {n : Int32} {N' : Nat} {a0 : vp_A} (ha : ∀ cA : ClassId, vp_cell cA a0 = arrV cA N' (fun _ => defaultValue ty)) (hn : ¬ n < 0) (hN : n.toNatClampNeg = N') {B : Nat} (hB : componentBytes ty = B) (hbytes : N' * B ≤ 536870912) (hcells : kc + 1 ≤ R.cells) (hslots : ks + N' ≤ R.slots) (hdg : decode cc pc = .ok (.newarray atype, 2)) (hp : pc + 2 = pc')
    (kk : ∀ (q : Nat) (cA : ClassId), va_K D cl (tys ++ [(cA, ty)]) s → Vj p l e R s m args below meth c Q D cl A nL (kc + 1) (ks + N') (ws ++ [(q, .inl (cA, a0))]) pc' lv (.ref q :: st)) : Vj p l e R s m args below meth c Q D cl A nL kc ks ws pc lv (.int n :: st) := by
  subst hp
  exact fun H locs ls hP hD hS hh => va_newa g.1 g.2.1 (g.2.2.2.2 _ harr) hty hK hP hD hS hA ha hn hN (by rw [hB]; exact hbytes) hcells hslots hdg (fun q cA H1 hK1 hP1 hD1 hS1 => kk q cA hK1 H1 locs ls hP1 hD1 hS1 hh)
theorem v_new (g : CallFix p m c cc nL s args Ts own) {C : String} {T : u_T} {N ci : Nat} (hin : ∀ w ∈ u_ws C T N, w ∈ Ts) (ty : Nat → FieldType) (hty : ∀ k, k < N → parseFieldDescriptor (T k).2.2.1 = some (ty k)) (hcl : Cond.classLink own index C ∈ Ts) (hinst : Cond.instantiable C N ∈ Ts) (hini : Cond.initialized C ∈ Ts) (hK : va_K D cl tys s) (hA : ∀ q, s.heap.size ≤ q → A q) (hc : cl[ci]? = some (C, T, N)) {fs : List Value} (hfs : ∀ j, j < N → defaultValue (ty j) = vp_V fs j) (hcells : kc + 1 ≤ R.cells) (hslots : ks + N ≤ R.slots) (hdg : decode cc pc = .ok (.new index, 3)) (hp : pc + 3 = pc')
    (kk : ∀ (q : Nat), Vj p l e R s m args below meth c Q D cl A nL (kc + 1) (ks + N) (ws ++ [(q, .inr (ci, fs))]) pc' lv (.ref q :: st)) : Vj p l e R s m args below meth c Q D cl A nL kc ks ws pc lv st := by
  subst hp
  exact fun H locs ls hP hD hS hh => va_new g.1 g.2.1 g.2.2.2.2 hin ty hty g.2.2.2.1 (g.2.2.2.2 _ hcl) (g.2.2.2.2 _ hinst) (g.2.2.2.2 _ hini) hK hP hD hS hA hc hfs hcells hslots hdg (fun q H1 hP1 hD1 hS1 => kk q H1 locs ls hP1 hD1 hS1 hh)
theorem v_putF (g : CallFix p m c cc nL s args Ts own) (hin2 : meth.name = "<init>") (hK : va_K D cl tys s) {C : String} {T : u_T} {N ci a : Nat} (hin : ∀ w ∈ u_ws C T N, w ∈ Ts) (ty0 : Nat → FieldType) (hty : ∀ k, k < N → parseFieldDescriptor (T k).2.2.1 = some (ty0 k)) (hnm : ∀ a, a < N → ∀ b, b < N → a ≠ b → (T a).2.1 ≠ (T b).2.1) (q0 : Nat) {fs : List Value} (he : ws[q0]? = some (a, .inr (ci, fs))) (hc : cl[ci]? = some (C, T, N)) (k : Nat) (hk : k < N) (hlink : Cond.fieldLink own index (T k).1 (T k).2.1 (T k).2.2.1 ∈ Ts) (hfin : (T k).2.2.2 = true) (hdecl : (T k).1 = own) {ty : FieldType} {v : Value} (hd : parseFieldDescriptor (T k).2.2.1 = some ty) (hn : narrow ty v = v) (hfit : fits ty v = true) (hl : k < fs.length) {ws' : va_W} (hws : ws.set q0 (a, .inr (ci, fs.set k v)) = ws') (hdg : decode cc pc = .ok (.putfield index, 3)) (hp : pc + 3 = pc') (kk : Vj p l e R s m args below meth c Q D cl A nL kc ks ws' pc' lv st) : Vj p l e R s m args below meth c Q D cl A nL kc ks ws pc lv (v :: .ref a :: st) := by
  subst hp; subst hws
  exact fun H locs ls hP hD hS hh => va_putF g.1 g.2.1 g.2.2.2.2 hin ty0 hty hnm g.2.2.2.1 hK hP hD hS q0 he hc k hk (g.2.2.2.2 _ hlink) (fun _ h9 => h9) hfin hin2 hdecl hd hn hfit hl hdg (fun H1 locs1 hP1 hD1 hS1 => kk H1 locs1 ls hP1 hD1 hS1 hh)
theorem v_objInit (g : CallFix p m c cc nL s args Ts own) {a : Nat} (h1 : Cond.methodLink own index objectInit ∈ Ts) (h2 : Cond.instanceMethod objectInit ∈ Ts) (h3 : Cond.code objectInit ⟨#[0xb1]⟩ 1 none ∈ Ts) (hdg : decode cc pc = .ok (.invokespecial index, 3)) (hfr : 1 ≤ R.frames) (hlo : (rest.map fun v => v.category).sum + 12 ≤ R.locals) (hp : pc + 3 = pc') (kk : Vj p l e R s m args below meth c Q D cl A nL kc ks ws pc' lv rest) : Vj p l e R s m args below meth c Q D cl A nL kc ks ws pc lv (.ref a :: rest) := by
  subst hp
  intro H locs ls hP hD hS hh
  refine W.objInit g.1 g.2.1 g.2.2.2.1 (g.2.2.2.2 _ h1) (g.2.2.2.2 _ h2) (g.2.2.2.2 _ h3) rfl (by rw [g.2.2.1]; exact hh.1) rfl hdg hfr (by simpa [JFrame.monitorRoom] using hlo) ?_
  exact kk H locs ls hP hD hS hh
/-- a constructor's end: some world wx u comes out -/
def qN {υ : Type} (D : va_G) (cl : List vw_C) (wx : υ → va_W) (tx : υ → List (ClassId × FieldType)) (A : Nat → Prop) := va_Qv (fun _ : υ => True) (fun u t => va_P D cl (wx u) t.heap ∧ va_K D cl (tx u) t ∧ va_D A (wx u)) A
variable {υ : Type} {wx : υ → va_W} {tx : υ → List (ClassId × FieldType)} {e0 : va_E}
theorem met_n {Pn : State → Prop} (hy : plainName y.cls = true) (hlen : 1 ≤ maxL)
    (body : ∀ (p : Program) (e : Env) (s : State) (m : MethodId) (below : List Frame) (meth : Method) (c : Code) (A : Nat → Prop), CallFix p m c cc maxL s #[.ref b] Ts y.cls → meth.sig.returnType = none → meth.locks = false → meth.name = "<init>" → va_K D cl [] s → (∀ q, s.heap.size ≤ q → A q) → Pn s →
      Vj p l e rm s m #[.ref b] below meth c (MQ below (qN D cl wx tx A) #[.ref b] s mc ms A) D cl A maxL 0 0 [(b, e0)] 0 [(0, .ref b)] []) (hin : y.name = "<init>") (sz : Nat) :
    Met l y (.code y cc maxL none :: Ts) rm (va_Pc [.ref b] (fun U => U.heap.size = sz ∧ va_P D cl [(b, e0)] U.heap ∧ va_K D cl [] U ∧ va_D (fun _ => True) [(b, e0)] ∧ Pn U)) (qN D cl wx tx (va_A [(b, e0)] sz)) mc ms (va_A [(b, e0)] sz) := by
  refine Met.ofW (cc := cc) (maxL := maxL) (ret := none) hy rfl ?_
  intro p e s m args below meth c s₁ B hml hv
  obtain ⟨rfl, hsz, hP, hK, hD0, hPn⟩ := hv
  subst hsz
  have hD := hD0.self (sz := s.heap.size)
  have hts := atoms_spec (ws := .code y cc maxL none :: Ts) B.pre
  have g : CallFix p m c cc maxL s #[.ref b] Ts y.cls := ⟨B.exec, B.bytes, hml, findClass_of_methodNamed B.named, fun w hw => hts w (List.mem_cons_of_mem _ hw)⟩
  have hl := lv_entry [Value.ref b] (n := maxL) hlen
  have hnm : meth.name = "<init>" := (name_of_methodNamed B.named B.method).1.trans hin
  rw [lg_entry_eq]
  exact body p e s m below meth c (va_A [(b, e0)] s.heap.size) g B.returns B.notSynchronized hnm hK (fun q h => Or.inr h) hPn s.heap [] _ hP hD va_S.rf hl
theorem v_nret {u : υ} (g : CallFix p m c cc nL s args Ts own) (hr : meth.sig.returnType = none) (hlk : meth.locks = false) (hK : va_K D cl (tx u) s) (hdg : decode cc pc = .ok (.return_, 1)) : Vj p l e R s m args below meth c (MQ below (qN D cl wx tx A) args s kc ks A) D cl A nL kc ks (wx u) pc lv [] := fun H locs ls hP hD hS hh => W.vret g.1 g.2.1 hr (fun t ht hW => ⟨⟨u, rfl, trivial, by rw [ht]; exact hP, va_K.moved hW.alike hK, hD⟩, hS.F ht⟩) hS.2.2 hdg hlk
theorem v_ctor {Pn : State → Prop} {wr : va_W} (g : CallFix p m c cc nL s args Ts own) (hK : va_K D cl tys s) (hA : ∀ q, s.heap.size ≤ q → A q) (hM : ∀ sz, Met l y wy rm (va_Pc [.ref b] (fun U => U.heap.size = sz ∧ va_P D cl [(b, e0)] U.heap ∧ va_K D cl [] U ∧ va_D (fun _ => True) [(b, e0)] ∧ Pn U)) (qN D cl wx tx (va_A [(b, e0)] sz)) mc ms (va_A [(b, e0)] sz)) (cw : CallB R s args own index y bytes maxL none wy rm mc ms 0 ∧ y.name = "<init>" ∧ (Cond.instanceMethod y).before args s = true) (hPb : ∀ (U : State) g mk (a : Array Value), Pn U → Pn (U.calling g mk a)) (hPs : ∀ U : State, s.WarmedH U.vm → Pn U) (k0 : Nat) (isR : List Nat) (he : ws[k0]? = some (b, e0)) (hR : isR.map (fun i => ws[i]?) = wr.map some) (hnd : va_nd isR = true) (hdis : ∀ i ∈ isR, i ∉ [k0]) (hrm : (rest.map fun v => v.category).sum ≤ 8) (hdg : decode cc pc = .ok (.invokespecial index, 3)) (hcell : kc + mc ≤ R.cells) (hslot : ks + ms ≤ R.slots) (hp : pc + 3 = pc')
    (kk : ∀ u : υ, va_K D cl (tys ++ tx u) s → Vj p l e R s m args below meth c Q D cl A nL (kc + mc) (ks + ms) (wr ++ wx u) pc' lv rest) : Vj p l e R s m args below meth c Q D cl A nL kc ks ws pc lv (.ref b :: rest) := by
  subst hp
  intro H locs ls hP hD hS hh
  have hC : [k0].map (fun i => ws[i]?) = [(b, e0)].map some := by simp [he]
  have hPc : va_P D cl [(b, e0)] H := hP.sub [k0] (by simp [he])
  have hDc : va_D A [(b, e0)] := hD.sub [k0] rfl hC
  have hFc := va_free (wc := [(b, e0)]) hD hS hA [k0] hC
  refine va_callv (va_runI (As := []) (rest := rest) g (hM H.size) cw ⟨fun a U g mk q => by obtain ⟨q0, q1, qP, qK, qD, qN⟩ := q; exact ⟨q0, q1, qP, va_K.moved (u := U) (U := U.calling g mk a) (Vm.Alike.refl U.vm) qK, qD, hPb U g mk a qN⟩, fun U hU hW => ⟨rfl, by rw [hU], by rw [hU]; exact hPc, va_K.moved hW.alike (hK.sub (tys' := []) [] rfl), hDc.weaken (fun _ _ _ _ => trivial), hPs U hW⟩⟩ rfl rfl hh.1 rfl (lv_room hrm) hdg ⟨hcell, hslot⟩) hS (fun q _ h => hFc q h) hFc (fun u t H1 locs1 ht hvm hw hB hz1 hk1 hS1 => ?_)
  obtain ⟨hP1, hK1, hD1⟩ := hB
  rw [ht] at hP1
  have hK1 := va_K.moved hvm.symm hK1
  obtain ⟨hP2, hD2⟩ := va_join (wr := wr) hP hD [k0] isR hC hR hnd hdis hk1 hFc hP1 hD1
  exact kk u (hK.app hK1) H1 locs1 ls hP2 hD2 hS1 hh
theorem v_ctorN {Pn : State → Prop} {wr : va_W} (g : CallFix p m c cc nL s args Ts own) (hK : va_K D cl tys s) (hA : ∀ q, s.heap.size ≤ q → A q) (hM : ∀ sz, Met l y wy rm (va_Pc [.ref b] (fun U => U.heap.size = sz ∧ va_P D cl [(b, e0)] U.heap ∧ va_K D cl [] U ∧ va_D (fun _ => True) [(b, e0)] ∧ Pn U)) (qN D cl wx tx (va_A [(b, e0)] sz)) mc ms (va_A [(b, e0)] sz)) (cw : va_CN R s args own index y host bytes maxL none wy rm mc ms 0 ∧ y.name = "<init>" ∧ (Cond.instanceMethod y).before args s = true) (hPb : ∀ (U : State) g mk (a : Array Value), Pn U → Pn (U.calling g mk a)) (hPs : ∀ U : State, s.WarmedH U.vm → Pn U) (k0 : Nat) (isR : List Nat) (he : ws[k0]? = some (b, e0)) (hR : isR.map (fun i => ws[i]?) = wr.map some) (hnd : va_nd isR = true) (hdis : ∀ i ∈ isR, i ∉ [k0]) (hrm : (rest.map fun v => v.category).sum ≤ 8) (hdg : decode cc pc = .ok (.invokespecial index, 3)) (hcell : kc + mc ≤ R.cells) (hslot : ks + ms ≤ R.slots) (hp : pc + 3 = pc')
    (kk : ∀ u : υ, va_K D cl (tys ++ tx u) s → Vj p l e R s m args below meth c Q D cl A nL (kc + mc) (ks + ms) (wr ++ wx u) pc' lv rest) : Vj p l e R s m args below meth c Q D cl A nL kc ks ws pc lv (.ref b :: rest) := by
  subst hp
  intro H locs ls hP hD hS hh
  have hC : [k0].map (fun i => ws[i]?) = [(b, e0)].map some := by simp [he]
  have hPc : va_P D cl [(b, e0)] H := hP.sub [k0] (by simp [he])
  have hDc : va_D A [(b, e0)] := hD.sub [k0] rfl hC
  have hFc := va_free (wc := [(b, e0)]) hD hS hA [k0] hC
  refine va_callv (va_runIN (As := []) (rest := rest) g (hM H.size) cw ⟨fun a U g mk q => by obtain ⟨q0, q1, qP, qK, qD, qN⟩ := q; exact ⟨q0, q1, qP, va_K.moved (u := U) (U := U.calling g mk a) (Vm.Alike.refl U.vm) qK, qD, hPb U g mk a qN⟩, fun U hU hW => ⟨rfl, by rw [hU], by rw [hU]; exact hPc, va_K.moved hW.alike (hK.sub (tys' := []) [] rfl), hDc.weaken (fun _ _ _ _ => trivial), hPs U hW⟩⟩ rfl rfl hh.1 rfl (lv_room hrm) hdg ⟨hcell, hslot⟩) hS (fun q _ h => hFc q h) hFc (fun u t H1 locs1 ht hvm hw hB hz1 hk1 hS1 => ?_)
  obtain ⟨hP1, hK1, hD1⟩ := hB
  rw [ht] at hP1
  have hK1 := va_K.moved hvm.symm hK1
  obtain ⟨hP2, hD2⟩ := va_join (wr := wr) hP hD [k0] isR hC hR hnd hdis hk1 hFc hP1 hD1
  exact kk u (hK.app hK1) H1 locs1 ls hP2 hD2 hS1 hh
end VN
end
section
theorem dk_0_init_0 : decode bk_0_init 0 = .ok (.aload_n 0, 1) := by decide +kernel
theorem dk_0_init_1 : decode bk_0_init 1 = .ok (.invokespecial 3, 3) := by decide +kernel
theorem dk_0_init_4 : decode bk_0_init 4 = .ok (.aload_n 0, 1) := by decide +kernel
theorem dk_0_init_5 : decode bk_0_init 5 = .ok (.new 9, 3) := by decide +kernel
theorem dk_0_init_8 : decode bk_0_init 8 = .ok (.dup, 1) := by decide +kernel
theorem dk_0_init_9 : decode bk_0_init 9 = .ok (.invokespecial 11, 3) := by decide +kernel
theorem dk_0_init_12 : decode bk_0_init 12 = .ok (.putfield 12, 3) := by decide +kernel
theorem dk_0_init_15 : decode bk_0_init 15 = .ok (.aload_n 0, 1) := by decide +kernel
theorem dk_0_init_16 : decode bk_0_init 16 = .ok (.new 16, 3) := by decide +kernel
theorem dk_0_init_19 : decode bk_0_init 19 = .ok (.dup, 1) := by decide +kernel
theorem dk_0_init_20 : decode bk_0_init 20 = .ok (.invokespecial 18, 3) := by decide +kernel
theorem dk_0_init_23 : decode bk_0_init 23 = .ok (.putfield 19, 3) := by decide +kernel
theorem dk_0_init_26 : decode bk_0_init 26 = .ok (.aload_n 0, 1) := by decide +kernel
theorem dk_0_init_27 : decode bk_0_init 27 = .ok (.new 23, 3) := by decide +kernel
theorem dk_0_init_30 : decode bk_0_init 30 = .ok (.dup, 1) := by decide +kernel
theorem dk_0_init_31 : decode bk_0_init 31 = .ok (.invokespecial 25, 3) := by decide +kernel
theorem dk_0_init_34 : decode bk_0_init 34 = .ok (.putfield 26, 3) := by decide +kernel
theorem dk_0_init_37 : decode bk_0_init 37 = .ok (.aload_n 0, 1) := by decide +kernel
theorem dk_0_init_38 : decode bk_0_init 38 = .ok (.new 30, 3) := by decide +kernel
theorem dk_0_init_41 : decode bk_0_init 41 = .ok (.dup, 1) := by decide +kernel
theorem dk_0_init_42 : decode bk_0_init 42 = .ok (.invokespecial 32, 3) := by decide +kernel
theorem dk_0_init_45 : decode bk_0_init 45 = .ok (.putfield 33, 3) := by decide +kernel
theorem dk_0_init_48 : decode bk_0_init 48 = .ok (.aload_n 0, 1) := by decide +kernel
theorem dk_0_init_49 : decode bk_0_init 49 = .ok (.new 37, 3) := by decide +kernel
theorem dk_0_init_52 : decode bk_0_init 52 = .ok (.dup, 1) := by decide +kernel
theorem dk_0_init_53 : decode bk_0_init 53 = .ok (.invokespecial 39, 3) := by decide +kernel
theorem dk_0_init_56 : decode bk_0_init 56 = .ok (.putfield 40, 3) := by decide +kernel
theorem dk_0_init_59 : decode bk_0_init 59 = .ok (.aload_n 0, 1) := by decide +kernel
theorem dk_0_init_60 : decode bk_0_init 60 = .ok (.new 44, 3) := by decide +kernel
theorem dk_0_init_63 : decode bk_0_init 63 = .ok (.dup, 1) := by decide +kernel
theorem dk_0_init_64 : decode bk_0_init 64 = .ok (.invokespecial 46, 3) := by decide +kernel
theorem dk_0_init_67 : decode bk_0_init 67 = .ok (.putfield 47, 3) := by decide +kernel
theorem dk_0_init_70 : decode bk_0_init 70 = .ok (.aload_n 0, 1) := by decide +kernel
theorem dk_0_init_71 : decode bk_0_init 71 = .ok (.new 51, 3) := by decide +kernel
theorem dk_0_init_74 : decode bk_0_init 74 = .ok (.dup, 1) := by decide +kernel
theorem dk_0_init_75 : decode bk_0_init 75 = .ok (.invokespecial 53, 3) := by decide +kernel
theorem dk_0_init_78 : decode bk_0_init 78 = .ok (.putfield 54, 3) := by decide +kernel
theorem dk_0_init_81 : decode bk_0_init 81 = .ok (.aload_n 0, 1) := by decide +kernel
theorem dk_0_init_82 : decode bk_0_init 82 = .ok (.new 58, 3) := by decide +kernel
theorem dk_0_init_85 : decode bk_0_init 85 = .ok (.dup, 1) := by decide +kernel
theorem dk_0_init_86 : decode bk_0_init 86 = .ok (.invokespecial 60, 3) := by decide +kernel
theorem dk_0_init_89 : decode bk_0_init 89 = .ok (.putfield 61, 3) := by decide +kernel
theorem dk_0_init_92 : decode bk_0_init 92 = .ok (.aload_n 0, 1) := by decide +kernel
theorem dk_0_init_93 : decode bk_0_init 93 = .ok (.invokestatic 65, 3) := by decide +kernel
theorem dk_0_init_96 : decode bk_0_init 96 = .ok (.putfield 71, 3) := by decide +kernel
theorem dk_0_init_99 : decode bk_0_init 99 = .ok (.return_, 1) := by decide +kernel
theorem dk_0_setting_0 : decode bk_0_setting 0 = .ok (.iload_n 1, 1) := by decide +kernel
theorem dk_0_setting_1 : decode bk_0_setting 1 = .ok (.iconst 1, 1) := by decide +kernel
theorem dk_0_setting_2 : decode bk_0_setting 2 = .ok (.if_icmp .lt 18, 3) := by decide +kernel
theorem dk_0_setting_5 : decode bk_0_setting 5 = .ok (.iload_n 1, 1) := by decide +kernel
theorem dk_0_setting_6 : decode bk_0_setting 6 = .ok (.bipush 8, 2) := by decide +kernel
theorem dk_0_setting_8 : decode bk_0_setting 8 = .ok (.if_icmp .gt 12, 3) := by decide +kernel
theorem dk_0_setting_11 : decode bk_0_setting 11 = .ok (.iload_n 2, 1) := by decide +kernel
theorem dk_0_setting_12 : decode bk_0_setting 12 = .ok (.ifCond .lt 8, 3) := by decide +kernel
theorem dk_0_setting_15 : decode bk_0_setting 15 = .ok (.iload_n 2, 1) := by decide +kernel
theorem dk_0_setting_16 : decode bk_0_setting 16 = .ok (.iload_n 1, 1) := by decide +kernel
theorem dk_0_setting_17 : decode bk_0_setting 17 = .ok (.if_icmp .lt 5, 3) := by decide +kernel
theorem dk_0_setting_20 : decode bk_0_setting 20 = .ok (.iconst (-1), 1) := by decide +kernel
theorem dk_0_setting_21 : decode bk_0_setting 21 = .ok (.ireturn, 1) := by decide +kernel
theorem dk_0_setting_22 : decode bk_0_setting 22 = .ok (.aload_n 0, 1) := by decide +kernel
theorem dk_0_setting_23 : decode bk_0_setting 23 = .ok (.getfield 12, 3) := by decide +kernel
theorem dk_0_setting_26 : decode bk_0_setting 26 = .ok (.iload_n 1, 1) := by decide +kernel
theorem dk_0_setting_27 : decode bk_0_setting 27 = .ok (.iload_n 2, 1) := by decide +kernel
theorem dk_0_setting_28 : decode bk_0_setting 28 = .ok (.iconst (-1), 1) := by decide +kernel
theorem dk_0_setting_29 : decode bk_0_setting 29 = .ok (.invokevirtual 75, 3) := by decide +kernel
theorem dk_0_setting_32 : decode bk_0_setting 32 = .ok (.istore_n 3, 1) := by decide +kernel
theorem dk_0_setting_33 : decode bk_0_setting 33 = .ok (.iload_n 3, 1) := by decide +kernel
theorem dk_0_setting_34 : decode bk_0_setting 34 = .ok (.iconst (-1), 1) := by decide +kernel
theorem dk_0_setting_35 : decode bk_0_setting 35 = .ok (.if_icmp .eq 12, 3) := by decide +kernel
theorem dk_0_setting_38 : decode bk_0_setting 38 = .ok (.aload_n 0, 1) := by decide +kernel
theorem dk_0_setting_39 : decode bk_0_setting 39 = .ok (.getfield 26, 3) := by decide +kernel
theorem dk_0_setting_42 : decode bk_0_setting 42 = .ok (.iload_n 3, 1) := by decide +kernel
theorem dk_0_setting_43 : decode bk_0_setting 43 = .ok (.iload_n 2, 1) := by decide +kernel
theorem dk_0_setting_44 : decode bk_0_setting 44 = .ok (.invokevirtual 79, 3) := by decide +kernel
theorem dk_0_setting_47 : decode bk_0_setting 47 = .ok (.iload_n 3, 1) := by decide +kernel
theorem dk_0_setting_48 : decode bk_0_setting 48 = .ok (.ireturn, 1) := by decide +kernel
theorem dk_0_alias_0 : decode bk_0_alias 0 = .ok (.iload_n 1, 1) := by decide +kernel
theorem dk_0_alias_1 : decode bk_0_alias 1 = .ok (.ifCond .lt 9, 3) := by decide +kernel
theorem dk_0_alias_4 : decode bk_0_alias 4 = .ok (.iload_n 1, 1) := by decide +kernel
theorem dk_0_alias_5 : decode bk_0_alias 5 = .ok (.bipush 16, 2) := by decide +kernel
theorem dk_0_alias_7 : decode bk_0_alias 7 = .ok (.if_icmp .lt 5, 3) := by decide +kernel
theorem dk_0_alias_10 : decode bk_0_alias 10 = .ok (.iconst (-1), 1) := by decide +kernel
theorem dk_0_alias_11 : decode bk_0_alias 11 = .ok (.ireturn, 1) := by decide +kernel
theorem dk_0_alias_12 : decode bk_0_alias 12 = .ok (.aload_n 0, 1) := by decide +kernel
theorem dk_0_alias_13 : decode bk_0_alias 13 = .ok (.getfield 12, 3) := by decide +kernel
theorem dk_0_alias_16 : decode bk_0_alias 16 = .ok (.iconst 0, 1) := by decide +kernel
theorem dk_0_alias_17 : decode bk_0_alias 17 = .ok (.iconst 0, 1) := by decide +kernel
theorem dk_0_alias_18 : decode bk_0_alias 18 = .ok (.iload_n 1, 1) := by decide +kernel
theorem dk_0_alias_19 : decode bk_0_alias 19 = .ok (.invokevirtual 75, 3) := by decide +kernel
theorem dk_0_alias_22 : decode bk_0_alias 22 = .ok (.ireturn, 1) := by decide +kernel
theorem dk_0_base_0 : decode bk_0_base 0 = .ok (.aload_n 0, 1) := by decide +kernel
theorem dk_0_base_1 : decode bk_0_base 1 = .ok (.getfield 12, 3) := by decide +kernel
theorem dk_0_base_4 : decode bk_0_base 4 = .ok (.iload_n 1, 1) := by decide +kernel
theorem dk_0_base_5 : decode bk_0_base 5 = .ok (.invokevirtual 83, 3) := by decide +kernel
theorem dk_0_base_8 : decode bk_0_base 8 = .ok (.ireturn, 1) := by decide +kernel
theorem dk_0_platform_0 : decode bk_0_platform 0 = .ok (.aload_n 0, 1) := by decide +kernel
theorem dk_0_platform_1 : decode bk_0_platform 1 = .ok (.getfield 19, 3) := by decide +kernel
theorem dk_0_platform_4 : decode bk_0_platform 4 = .ok (.invokevirtual 87, 3) := by decide +kernel
theorem dk_0_platform_7 : decode bk_0_platform 7 = .ok (.ireturn, 1) := by decide +kernel
theorem dk_0_has_0 : decode bk_0_has 0 = .ok (.aload_n 0, 1) := by decide +kernel
theorem dk_0_has_1 : decode bk_0_has 1 = .ok (.getfield 19, 3) := by decide +kernel
theorem dk_0_has_4 : decode bk_0_has 4 = .ok (.iload_n 1, 1) := by decide +kernel
theorem dk_0_has_5 : decode bk_0_has 5 = .ok (.invokevirtual 90, 3) := by decide +kernel
theorem dk_0_has_8 : decode bk_0_has 8 = .ok (.ifCond .eq 10, 3) := by decide +kernel
theorem dk_0_has_11 : decode bk_0_has 11 = .ok (.iload_n 2, 1) := by decide +kernel
theorem dk_0_has_12 : decode bk_0_has 12 = .ok (.invokestatic 94, 3) := by decide +kernel
theorem dk_0_has_15 : decode bk_0_has 15 = .ok (.ifCond .ne 5, 3) := by decide +kernel
theorem dk_0_has_18 : decode bk_0_has 18 = .ok (.iconst 0, 1) := by decide +kernel
theorem dk_0_has_19 : decode bk_0_has 19 = .ok (.ireturn, 1) := by decide +kernel
theorem dk_0_has_20 : decode bk_0_has 20 = .ok (.iload_n 3, 1) := by decide +kernel
theorem dk_0_has_21 : decode bk_0_has 21 = .ok (.iconst (-1), 1) := by decide +kernel
theorem dk_0_has_22 : decode bk_0_has 22 = .ok (.if_icmp .eq 10, 3) := by decide +kernel
theorem dk_0_has_25 : decode bk_0_has 25 = .ok (.iload_n 3, 1) := by decide +kernel
theorem dk_0_has_26 : decode bk_0_has 26 = .ok (.invokestatic 97, 3) := by decide +kernel
theorem dk_0_has_29 : decode bk_0_has 29 = .ok (.ifCond .eq 14, 3) := by decide +kernel
theorem dk_0_has_32 : decode bk_0_has 32 = .ok (.aload_n 0, 1) := by decide +kernel
theorem dk_0_has_33 : decode bk_0_has 33 = .ok (.getfield 26, 3) := by decide +kernel
theorem dk_0_has_36 : decode bk_0_has 36 = .ok (.iload_n 1, 1) := by decide +kernel
theorem dk_0_has_37 : decode bk_0_has 37 = .ok (.invokevirtual 100, 3) := by decide +kernel
theorem dk_0_has_40 : decode bk_0_has 40 = .ok (.ifCond .eq 5, 3) := by decide +kernel
theorem dk_0_has_43 : decode bk_0_has 43 = .ok (.iconst 0, 1) := by decide +kernel
theorem dk_0_has_44 : decode bk_0_has 44 = .ok (.ireturn, 1) := by decide +kernel
theorem dk_0_has_45 : decode bk_0_has 45 = .ok (.aload_n 0, 1) := by decide +kernel
theorem dk_0_has_46 : decode bk_0_has 46 = .ok (.getfield 19, 3) := by decide +kernel
theorem dk_0_has_49 : decode bk_0_has 49 = .ok (.iload_n 1, 1) := by decide +kernel
theorem dk_0_has_50 : decode bk_0_has 50 = .ok (.iload_n 2, 1) := by decide +kernel
theorem dk_0_has_51 : decode bk_0_has 51 = .ok (.iload_n 3, 1) := by decide +kernel
theorem dk_0_has_52 : decode bk_0_has 52 = .ok (.invokevirtual 103, 3) := by decide +kernel
theorem dk_0_has_55 : decode bk_0_has 55 = .ok (.iconst 1, 1) := by decide +kernel
theorem dk_0_has_56 : decode bk_0_has 56 = .ok (.ireturn, 1) := by decide +kernel
theorem dk_0_condition_0 : decode bk_0_condition 0 = .ok (.aload_n 0, 1) := by decide +kernel
theorem dk_0_condition_1 : decode bk_0_condition 1 = .ok (.getfield 33, 3) := by decide +kernel
theorem dk_0_condition_4 : decode bk_0_condition 4 = .ok (.invokevirtual 107, 3) := by decide +kernel
theorem dk_0_condition_7 : decode bk_0_condition 7 = .ok (.ireturn, 1) := by decide +kernel
theorem dk_0_asks_0 : decode bk_0_asks 0 = .ok (.aload_n 0, 1) := by decide +kernel
theorem dk_0_asks_1 : decode bk_0_asks 1 = .ok (.getfield 33, 3) := by decide +kernel
theorem dk_0_asks_4 : decode bk_0_asks 4 = .ok (.iload_n 1, 1) := by decide +kernel
theorem dk_0_asks_5 : decode bk_0_asks 5 = .ok (.invokevirtual 108, 3) := by decide +kernel
theorem dk_0_asks_8 : decode bk_0_asks 8 = .ok (.ifCond .eq 11, 3) := by decide +kernel
theorem dk_0_asks_11 : decode bk_0_asks 11 = .ok (.iload 4, 2) := by decide +kernel
theorem dk_0_asks_13 : decode bk_0_asks 13 = .ok (.invokestatic 97, 3) := by decide +kernel
theorem dk_0_asks_16 : decode bk_0_asks 16 = .ok (.ifCond .ne 5, 3) := by decide +kernel
theorem dk_0_asks_19 : decode bk_0_asks 19 = .ok (.iconst 0, 1) := by decide +kernel
theorem dk_0_asks_20 : decode bk_0_asks 20 = .ok (.ireturn, 1) := by decide +kernel
theorem dk_0_asks_21 : decode bk_0_asks 21 = .ok (.iload_n 2, 1) := by decide +kernel
theorem dk_0_asks_22 : decode bk_0_asks 22 = .ok (.ifCond .eq 13, 3) := by decide +kernel
theorem dk_0_asks_25 : decode bk_0_asks 25 = .ok (.iload_n 3, 1) := by decide +kernel
theorem dk_0_asks_26 : decode bk_0_asks 26 = .ok (.invokestatic 94, 3) := by decide +kernel
theorem dk_0_asks_29 : decode bk_0_asks 29 = .ok (.ifCond .ne 19, 3) := by decide +kernel
theorem dk_0_asks_32 : decode bk_0_asks 32 = .ok (.goto 14, 3) := by decide +kernel
theorem dk_0_asks_35 : decode bk_0_asks 35 = .ok (.aload_n 0, 1) := by decide +kernel
theorem dk_0_asks_36 : decode bk_0_asks 36 = .ok (.getfield 12, 3) := by decide +kernel
theorem dk_0_asks_39 : decode bk_0_asks 39 = .ok (.iload_n 3, 1) := by decide +kernel
theorem dk_0_asks_40 : decode bk_0_asks 40 = .ok (.invokevirtual 109, 3) := by decide +kernel
theorem dk_0_asks_43 : decode bk_0_asks 43 = .ok (.ifCond .ne 5, 3) := by decide +kernel
theorem dk_0_asks_46 : decode bk_0_asks 46 = .ok (.iconst 0, 1) := by decide +kernel
theorem dk_0_asks_47 : decode bk_0_asks 47 = .ok (.ireturn, 1) := by decide +kernel
theorem dk_0_asks_48 : decode bk_0_asks 48 = .ok (.aload_n 0, 1) := by decide +kernel
theorem dk_0_asks_49 : decode bk_0_asks 49 = .ok (.getfield 33, 3) := by decide +kernel
theorem dk_0_asks_52 : decode bk_0_asks 52 = .ok (.iload_n 1, 1) := by decide +kernel
theorem dk_0_asks_53 : decode bk_0_asks 53 = .ok (.iload_n 2, 1) := by decide +kernel
theorem dk_0_asks_54 : decode bk_0_asks 54 = .ok (.iload_n 3, 1) := by decide +kernel
theorem dk_0_asks_55 : decode bk_0_asks 55 = .ok (.iload 4, 2) := by decide +kernel
theorem dk_0_asks_57 : decode bk_0_asks 57 = .ok (.invokestatic 110, 3) := by decide +kernel
theorem dk_0_asks_60 : decode bk_0_asks 60 = .ok (.invokevirtual 116, 3) := by decide +kernel
theorem dk_0_asks_63 : decode bk_0_asks 63 = .ok (.ireturn, 1) := by decide +kernel
theorem dk_0_target_0 : decode bk_0_target 0 = .ok (.aload_n 0, 1) := by decide +kernel
theorem dk_0_target_1 : decode bk_0_target 1 = .ok (.getfield 40, 3) := by decide +kernel
theorem dk_0_target_4 : decode bk_0_target 4 = .ok (.invokevirtual 120, 3) := by decide +kernel
theorem dk_0_target_7 : decode bk_0_target 7 = .ok (.ireturn, 1) := by decide +kernel
theorem dk_0_wants_0 : decode bk_0_wants 0 = .ok (.aload_n 0, 1) := by decide +kernel
theorem dk_0_wants_1 : decode bk_0_wants 1 = .ok (.getfield 40, 3) := by decide +kernel
theorem dk_0_wants_4 : decode bk_0_wants 4 = .ok (.iload_n 1, 1) := by decide +kernel
theorem dk_0_wants_5 : decode bk_0_wants 5 = .ok (.invokevirtual 121, 3) := by decide +kernel
theorem dk_0_wants_8 : decode bk_0_wants 8 = .ok (.ifCond .eq 14, 3) := by decide +kernel
theorem dk_0_wants_11 : decode bk_0_wants 11 = .ok (.aload_n 0, 1) := by decide +kernel
theorem dk_0_wants_12 : decode bk_0_wants 12 = .ok (.getfield 33, 3) := by decide +kernel
theorem dk_0_wants_15 : decode bk_0_wants 15 = .ok (.iload_n 2, 1) := by decide +kernel
theorem dk_0_wants_16 : decode bk_0_wants 16 = .ok (.invokevirtual 108, 3) := by decide +kernel
theorem dk_0_wants_19 : decode bk_0_wants 19 = .ok (.ifCond .ne 5, 3) := by decide +kernel
theorem dk_0_wants_22 : decode bk_0_wants 22 = .ok (.iconst 0, 1) := by decide +kernel
theorem dk_0_wants_23 : decode bk_0_wants 23 = .ok (.ireturn, 1) := by decide +kernel
theorem dk_0_wants_24 : decode bk_0_wants 24 = .ok (.aload_n 0, 1) := by decide +kernel
theorem dk_0_wants_25 : decode bk_0_wants 25 = .ok (.getfield 40, 3) := by decide +kernel
theorem dk_0_wants_28 : decode bk_0_wants 28 = .ok (.getfield 122, 3) := by decide +kernel
theorem dk_0_wants_31 : decode bk_0_wants 31 = .ok (.iload_n 1, 1) := by decide +kernel
theorem dk_0_wants_32 : decode bk_0_wants 32 = .ok (.iload_n 2, 1) := by decide +kernel
theorem dk_0_wants_33 : decode bk_0_wants 33 = .ok (.iastore, 1) := by decide +kernel
theorem dk_0_wants_34 : decode bk_0_wants 34 = .ok (.aload_n 0, 1) := by decide +kernel
theorem dk_0_wants_35 : decode bk_0_wants 35 = .ok (.getfield 33, 3) := by decide +kernel
theorem dk_0_wants_38 : decode bk_0_wants 38 = .ok (.getfield 126, 3) := by decide +kernel
theorem dk_0_wants_41 : decode bk_0_wants 41 = .ok (.iload_n 2, 1) := by decide +kernel
theorem dk_0_wants_42 : decode bk_0_wants 42 = .ok (.iconst 1, 1) := by decide +kernel
theorem dk_0_wants_43 : decode bk_0_wants 43 = .ok (.bastore, 1) := by decide +kernel
theorem dk_0_wants_44 : decode bk_0_wants 44 = .ok (.iconst 1, 1) := by decide +kernel
theorem dk_0_wants_45 : decode bk_0_wants 45 = .ok (.ireturn, 1) := by decide +kernel
theorem dk_0_select_0 : decode bk_0_select 0 = .ok (.aload_n 0, 1) := by decide +kernel
theorem dk_0_select_1 : decode bk_0_select 1 = .ok (.getfield 40, 3) := by decide +kernel
theorem dk_0_select_4 : decode bk_0_select 4 = .ok (.iload_n 1, 1) := by decide +kernel
theorem dk_0_select_5 : decode bk_0_select 5 = .ok (.invokevirtual 121, 3) := by decide +kernel
theorem dk_0_select_8 : decode bk_0_select 8 = .ok (.ifCond .eq 14, 3) := by decide +kernel
theorem dk_0_select_11 : decode bk_0_select 11 = .ok (.aload_n 0, 1) := by decide +kernel
theorem dk_0_select_12 : decode bk_0_select 12 = .ok (.getfield 47, 3) := by decide +kernel
theorem dk_0_select_15 : decode bk_0_select 15 = .ok (.iload_n 1, 1) := by decide +kernel
theorem dk_0_select_16 : decode bk_0_select 16 = .ok (.invokevirtual 130, 3) := by decide +kernel
theorem dk_0_select_19 : decode bk_0_select 19 = .ok (.goto 4, 3) := by decide +kernel
theorem dk_0_select_22 : decode bk_0_select 22 = .ok (.iconst (-1), 1) := by decide +kernel
theorem dk_0_select_23 : decode bk_0_select 23 = .ok (.ireturn, 1) := by decide +kernel
theorem dk_0_branch_0 : decode bk_0_branch 0 = .ok (.aload_n 0, 1) := by decide +kernel
theorem dk_0_branch_1 : decode bk_0_branch 1 = .ok (.getfield 47, 3) := by decide +kernel
theorem dk_0_branch_4 : decode bk_0_branch 4 = .ok (.iload_n 1, 1) := by decide +kernel
theorem dk_0_branch_5 : decode bk_0_branch 5 = .ok (.invokevirtual 132, 3) := by decide +kernel
theorem dk_0_branch_8 : decode bk_0_branch 8 = .ok (.ifCond .eq 14, 3) := by decide +kernel
theorem dk_0_branch_11 : decode bk_0_branch 11 = .ok (.aload_n 0, 1) := by decide +kernel
theorem dk_0_branch_12 : decode bk_0_branch 12 = .ok (.getfield 33, 3) := by decide +kernel
theorem dk_0_branch_15 : decode bk_0_branch 15 = .ok (.iload_n 2, 1) := by decide +kernel
theorem dk_0_branch_16 : decode bk_0_branch 16 = .ok (.invokevirtual 108, 3) := by decide +kernel
theorem dk_0_branch_19 : decode bk_0_branch 19 = .ok (.ifCond .ne 5, 3) := by decide +kernel
theorem dk_0_branch_22 : decode bk_0_branch 22 = .ok (.iconst 0, 1) := by decide +kernel
theorem dk_0_branch_23 : decode bk_0_branch 23 = .ok (.ireturn, 1) := by decide +kernel
theorem dk_0_branch_24 : decode bk_0_branch 24 = .ok (.iload_n 3, 1) := by decide +kernel
theorem dk_0_branch_25 : decode bk_0_branch 25 = .ok (.ifCond .eq 18, 3) := by decide +kernel
theorem dk_0_branch_28 : decode bk_0_branch 28 = .ok (.aload_n 0, 1) := by decide +kernel
theorem dk_0_branch_29 : decode bk_0_branch 29 = .ok (.getfield 47, 3) := by decide +kernel
theorem dk_0_branch_32 : decode bk_0_branch 32 = .ok (.iload_n 1, 1) := by decide +kernel
theorem dk_0_branch_33 : decode bk_0_branch 33 = .ok (.iload 4, 2) := by decide +kernel
theorem dk_0_branch_35 : decode bk_0_branch 35 = .ok (.invokevirtual 133, 3) := by decide +kernel
theorem dk_0_branch_38 : decode bk_0_branch 38 = .ok (.ifCond .ne 5, 3) := by decide +kernel
theorem dk_0_branch_41 : decode bk_0_branch 41 = .ok (.iconst 0, 1) := by decide +kernel
theorem dk_0_branch_42 : decode bk_0_branch 42 = .ok (.ireturn, 1) := by decide +kernel
theorem dk_0_branch_43 : decode bk_0_branch 43 = .ok (.aload_n 0, 1) := by decide +kernel
theorem dk_0_branch_44 : decode bk_0_branch 44 = .ok (.getfield 47, 3) := by decide +kernel
theorem dk_0_branch_47 : decode bk_0_branch 47 = .ok (.iload_n 1, 1) := by decide +kernel
theorem dk_0_branch_48 : decode bk_0_branch 48 = .ok (.iload_n 2, 1) := by decide +kernel
theorem dk_0_branch_49 : decode bk_0_branch 49 = .ok (.iload_n 3, 1) := by decide +kernel
theorem dk_0_branch_50 : decode bk_0_branch 50 = .ok (.iload 4, 2) := by decide +kernel
theorem dk_0_branch_52 : decode bk_0_branch 52 = .ok (.invokevirtual 136, 3) := by decide +kernel
theorem dk_0_branch_55 : decode bk_0_branch 55 = .ok (.ifCond .ne 5, 3) := by decide +kernel
theorem dk_0_branch_58 : decode bk_0_branch 58 = .ok (.iconst 0, 1) := by decide +kernel
theorem dk_0_branch_59 : decode bk_0_branch 59 = .ok (.ireturn, 1) := by decide +kernel
theorem dk_0_branch_60 : decode bk_0_branch 60 = .ok (.aload_n 0, 1) := by decide +kernel
theorem dk_0_branch_61 : decode bk_0_branch 61 = .ok (.getfield 33, 3) := by decide +kernel
theorem dk_0_branch_64 : decode bk_0_branch 64 = .ok (.getfield 126, 3) := by decide +kernel
theorem dk_0_branch_67 : decode bk_0_branch 67 = .ok (.iload_n 2, 1) := by decide +kernel
theorem dk_0_branch_68 : decode bk_0_branch 68 = .ok (.iconst 1, 1) := by decide +kernel
theorem dk_0_branch_69 : decode bk_0_branch 69 = .ok (.bastore, 1) := by decide +kernel
theorem dk_0_branch_70 : decode bk_0_branch 70 = .ok (.iconst 1, 1) := by decide +kernel
theorem dk_0_branch_71 : decode bk_0_branch 71 = .ok (.ireturn, 1) := by decide +kernel
theorem dk_0_otherwise_0 : decode bk_0_otherwise 0 = .ok (.aload_n 0, 1) := by decide +kernel
theorem dk_0_otherwise_1 : decode bk_0_otherwise 1 = .ok (.getfield 47, 3) := by decide +kernel
theorem dk_0_otherwise_4 : decode bk_0_otherwise 4 = .ok (.iload_n 1, 1) := by decide +kernel
theorem dk_0_otherwise_5 : decode bk_0_otherwise 5 = .ok (.invokevirtual 132, 3) := by decide +kernel
theorem dk_0_otherwise_8 : decode bk_0_otherwise 8 = .ok (.ifCond .ne 5, 3) := by decide +kernel
theorem dk_0_otherwise_11 : decode bk_0_otherwise 11 = .ok (.iconst 0, 1) := by decide +kernel
theorem dk_0_otherwise_12 : decode bk_0_otherwise 12 = .ok (.ireturn, 1) := by decide +kernel
theorem dk_0_otherwise_13 : decode bk_0_otherwise 13 = .ok (.aload_n 0, 1) := by decide +kernel
theorem dk_0_otherwise_14 : decode bk_0_otherwise 14 = .ok (.getfield 47, 3) := by decide +kernel
theorem dk_0_otherwise_17 : decode bk_0_otherwise 17 = .ok (.getfield 140, 3) := by decide +kernel
theorem dk_0_otherwise_20 : decode bk_0_otherwise 20 = .ok (.iload_n 1, 1) := by decide +kernel
theorem dk_0_otherwise_21 : decode bk_0_otherwise 21 = .ok (.iload_n 2, 1) := by decide +kernel
theorem dk_0_otherwise_22 : decode bk_0_otherwise 22 = .ok (.invokestatic 144, 3) := by decide +kernel
theorem dk_0_otherwise_25 : decode bk_0_otherwise 25 = .ok (.lastore, 1) := by decide +kernel
theorem dk_0_otherwise_26 : decode bk_0_otherwise 26 = .ok (.iconst 1, 1) := by decide +kernel
theorem dk_0_otherwise_27 : decode bk_0_otherwise 27 = .ok (.ireturn, 1) := by decide +kernel
theorem dk_0_configuration_0 : decode bk_0_configuration 0 = .ok (.aload_n 0, 1) := by decide +kernel
theorem dk_0_configuration_1 : decode bk_0_configuration 1 = .ok (.getfield 19, 3) := by decide +kernel
theorem dk_0_configuration_4 : decode bk_0_configuration 4 = .ok (.iload_n 1, 1) := by decide +kernel
theorem dk_0_configuration_5 : decode bk_0_configuration 5 = .ok (.invokevirtual 90, 3) := by decide +kernel
theorem dk_0_configuration_8 : decode bk_0_configuration 8 = .ok (.ifCond .ne 5, 3) := by decide +kernel
theorem dk_0_configuration_11 : decode bk_0_configuration 11 = .ok (.iconst (-1), 1) := by decide +kernel
theorem dk_0_configuration_12 : decode bk_0_configuration 12 = .ok (.ireturn, 1) := by decide +kernel
theorem dk_0_configuration_13 : decode bk_0_configuration 13 = .ok (.aload_n 0, 1) := by decide +kernel
theorem dk_0_configuration_14 : decode bk_0_configuration 14 = .ok (.getfield 26, 3) := by decide +kernel
theorem dk_0_configuration_17 : decode bk_0_configuration 17 = .ok (.aload_n 0, 1) := by decide +kernel
theorem dk_0_configuration_18 : decode bk_0_configuration 18 = .ok (.iload_n 1, 1) := by decide +kernel
theorem dk_0_configuration_19 : decode bk_0_configuration 19 = .ok (.invokestatic 148, 3) := by decide +kernel
theorem dk_0_configuration_22 : decode bk_0_configuration 22 = .ok (.iconst 0, 1) := by decide +kernel
theorem dk_0_configuration_23 : decode bk_0_configuration 23 = .ok (.invokevirtual 153, 3) := by decide +kernel
theorem dk_0_configuration_26 : decode bk_0_configuration 26 = .ok (.invokevirtual 157, 3) := by decide +kernel
theorem dk_0_configuration_29 : decode bk_0_configuration 29 = .ok (.ireturn, 1) := by decide +kernel
theorem dk_0_set_0 : decode bk_0_set 0 = .ok (.aload_n 0, 1) := by decide +kernel
theorem dk_0_set_1 : decode bk_0_set 1 = .ok (.getfield 12, 3) := by decide +kernel
theorem dk_0_set_4 : decode bk_0_set 4 = .ok (.iload_n 2, 1) := by decide +kernel
theorem dk_0_set_5 : decode bk_0_set 5 = .ok (.invokevirtual 83, 3) := by decide +kernel
theorem dk_0_set_8 : decode bk_0_set 8 = .ok (.istore 4, 2) := by decide +kernel
theorem dk_0_set_10 : decode bk_0_set 10 = .ok (.aload_n 0, 1) := by decide +kernel
theorem dk_0_set_11 : decode bk_0_set 11 = .ok (.getfield 26, 3) := by decide +kernel
theorem dk_0_set_14 : decode bk_0_set 14 = .ok (.iload_n 1, 1) := by decide +kernel
theorem dk_0_set_15 : decode bk_0_set 15 = .ok (.invokevirtual 161, 3) := by decide +kernel
theorem dk_0_set_18 : decode bk_0_set 18 = .ok (.ifCond .eq 9, 3) := by decide +kernel
theorem dk_0_set_21 : decode bk_0_set 21 = .ok (.iload 4, 2) := by decide +kernel
theorem dk_0_set_23 : decode bk_0_set 23 = .ok (.iconst (-1), 1) := by decide +kernel
theorem dk_0_set_24 : decode bk_0_set 24 = .ok (.if_icmp .ne 5, 3) := by decide +kernel
theorem dk_0_set_27 : decode bk_0_set 27 = .ok (.iconst (-1), 1) := by decide +kernel
theorem dk_0_set_28 : decode bk_0_set 28 = .ok (.ireturn, 1) := by decide +kernel
theorem dk_0_set_29 : decode bk_0_set 29 = .ok (.iload_n 3, 1) := by decide +kernel
theorem dk_0_set_30 : decode bk_0_set 30 = .ok (.ifCond .lt 17, 3) := by decide +kernel
theorem dk_0_set_33 : decode bk_0_set 33 = .ok (.iload_n 3, 1) := by decide +kernel
theorem dk_0_set_34 : decode bk_0_set 34 = .ok (.aload_n 0, 1) := by decide +kernel
theorem dk_0_set_35 : decode bk_0_set 35 = .ok (.getfield 12, 3) := by decide +kernel
theorem dk_0_set_38 : decode bk_0_set 38 = .ok (.getfield 162, 3) := by decide +kernel
theorem dk_0_set_41 : decode bk_0_set 41 = .ok (.iload 4, 2) := by decide +kernel
theorem dk_0_set_43 : decode bk_0_set 43 = .ok (.iaload, 1) := by decide +kernel
theorem dk_0_set_44 : decode bk_0_set 44 = .ok (.if_icmp .lt 5, 3) := by decide +kernel
theorem dk_0_set_47 : decode bk_0_set 47 = .ok (.iconst (-1), 1) := by decide +kernel
theorem dk_0_set_48 : decode bk_0_set 48 = .ok (.ireturn, 1) := by decide +kernel
theorem dk_0_set_49 : decode bk_0_set 49 = .ok (.aload_n 0, 1) := by decide +kernel
theorem dk_0_set_50 : decode bk_0_set 50 = .ok (.getfield 26, 3) := by decide +kernel
theorem dk_0_set_53 : decode bk_0_set 53 = .ok (.getfield 165, 3) := by decide +kernel
theorem dk_0_set_56 : decode bk_0_set 56 = .ok (.iload_n 1, 1) := by decide +kernel
theorem dk_0_set_57 : decode bk_0_set 57 = .ok (.laload, 1) := by decide +kernel
theorem dk_0_set_58 : decode bk_0_set 58 = .ok (.lstore 5, 2) := by decide +kernel
theorem dk_0_set_60 : decode bk_0_set 60 = .ok (.aload_n 0, 1) := by decide +kernel
theorem dk_0_set_61 : decode bk_0_set 61 = .ok (.getfield 26, 3) := by decide +kernel
theorem dk_0_set_64 : decode bk_0_set 64 = .ok (.lload 5, 2) := by decide +kernel
theorem dk_0_set_66 : decode bk_0_set 66 = .ok (.iload 4, 2) := by decide +kernel
theorem dk_0_set_68 : decode bk_0_set 68 = .ok (.iload_n 3, 1) := by decide +kernel
theorem dk_0_set_69 : decode bk_0_set 69 = .ok (.invokestatic 168, 3) := by decide +kernel
theorem dk_0_set_72 : decode bk_0_set 72 = .ok (.invokevirtual 157, 3) := by decide +kernel
theorem dk_0_set_75 : decode bk_0_set 75 = .ok (.ireturn, 1) := by decide +kernel
theorem dk_0_value_0 : decode bk_0_value 0 = .ok (.aload_n 0, 1) := by decide +kernel
theorem dk_0_value_1 : decode bk_0_value 1 = .ok (.getfield 12, 3) := by decide +kernel
theorem dk_0_value_4 : decode bk_0_value 4 = .ok (.iload_n 2, 1) := by decide +kernel
theorem dk_0_value_5 : decode bk_0_value 5 = .ok (.invokevirtual 83, 3) := by decide +kernel
theorem dk_0_value_8 : decode bk_0_value 8 = .ok (.istore_n 3, 1) := by decide +kernel
theorem dk_0_value_9 : decode bk_0_value 9 = .ok (.aload_n 0, 1) := by decide +kernel
theorem dk_0_value_10 : decode bk_0_value 10 = .ok (.getfield 26, 3) := by decide +kernel
theorem dk_0_value_13 : decode bk_0_value 13 = .ok (.iload_n 1, 1) := by decide +kernel
theorem dk_0_value_14 : decode bk_0_value 14 = .ok (.invokevirtual 161, 3) := by decide +kernel
theorem dk_0_value_17 : decode bk_0_value 17 = .ok (.ifCond .eq 8, 3) := by decide +kernel
theorem dk_0_value_20 : decode bk_0_value 20 = .ok (.iload_n 3, 1) := by decide +kernel
theorem dk_0_value_21 : decode bk_0_value 21 = .ok (.iconst (-1), 1) := by decide +kernel
theorem dk_0_value_22 : decode bk_0_value 22 = .ok (.if_icmp .ne 5, 3) := by decide +kernel
theorem dk_0_value_25 : decode bk_0_value 25 = .ok (.iconst (-1), 1) := by decide +kernel
theorem dk_0_value_26 : decode bk_0_value 26 = .ok (.ireturn, 1) := by decide +kernel
theorem dk_0_value_27 : decode bk_0_value 27 = .ok (.aload_n 0, 1) := by decide +kernel
theorem dk_0_value_28 : decode bk_0_value 28 = .ok (.getfield 26, 3) := by decide +kernel
theorem dk_0_value_31 : decode bk_0_value 31 = .ok (.getfield 165, 3) := by decide +kernel
theorem dk_0_value_34 : decode bk_0_value 34 = .ok (.iload_n 1, 1) := by decide +kernel
theorem dk_0_value_35 : decode bk_0_value 35 = .ok (.laload, 1) := by decide +kernel
theorem dk_0_value_36 : decode bk_0_value 36 = .ok (.iload_n 3, 1) := by decide +kernel
theorem dk_0_value_37 : decode bk_0_value 37 = .ok (.invokestatic 172, 3) := by decide +kernel
theorem dk_0_value_40 : decode bk_0_value 40 = .ok (.ireturn, 1) := by decide +kernel
theorem dk_0_holds_0 : decode bk_0_holds 0 = .ok (.aload_n 0, 1) := by decide +kernel
theorem dk_0_holds_1 : decode bk_0_holds 1 = .ok (.getfield 33, 3) := by decide +kernel
theorem dk_0_holds_4 : decode bk_0_holds 4 = .ok (.iload_n 1, 1) := by decide +kernel
theorem dk_0_holds_5 : decode bk_0_holds 5 = .ok (.invokevirtual 108, 3) := by decide +kernel
theorem dk_0_holds_8 : decode bk_0_holds 8 = .ok (.ifCond .eq 14, 3) := by decide +kernel
theorem dk_0_holds_11 : decode bk_0_holds 11 = .ok (.aload_n 0, 1) := by decide +kernel
theorem dk_0_holds_12 : decode bk_0_holds 12 = .ok (.getfield 26, 3) := by decide +kernel
theorem dk_0_holds_15 : decode bk_0_holds 15 = .ok (.iload_n 2, 1) := by decide +kernel
theorem dk_0_holds_16 : decode bk_0_holds 16 = .ok (.invokevirtual 161, 3) := by decide +kernel
theorem dk_0_holds_19 : decode bk_0_holds 19 = .ok (.ifCond .ne 5, 3) := by decide +kernel
theorem dk_0_holds_22 : decode bk_0_holds 22 = .ok (.iconst 0, 1) := by decide +kernel
theorem dk_0_holds_23 : decode bk_0_holds 23 = .ok (.ireturn, 1) := by decide +kernel
theorem dk_0_holds_24 : decode bk_0_holds 24 = .ok (.aload_n 0, 1) := by decide +kernel
theorem dk_0_holds_25 : decode bk_0_holds 25 = .ok (.iload_n 1, 1) := by decide +kernel
theorem dk_0_holds_26 : decode bk_0_holds 26 = .ok (.aload_n 0, 1) := by decide +kernel
theorem dk_0_holds_27 : decode bk_0_holds 27 = .ok (.getfield 26, 3) := by decide +kernel
theorem dk_0_holds_30 : decode bk_0_holds 30 = .ok (.getfield 165, 3) := by decide +kernel
theorem dk_0_holds_33 : decode bk_0_holds 33 = .ok (.iload_n 2, 1) := by decide +kernel
theorem dk_0_holds_34 : decode bk_0_holds 34 = .ok (.laload, 1) := by decide +kernel
theorem dk_0_holds_35 : decode bk_0_holds 35 = .ok (.invokevirtual 176, 3) := by decide +kernel
theorem dk_0_holds_38 : decode bk_0_holds 38 = .ok (.ireturn, 1) := by decide +kernel
theorem dk_0_choose_0 : decode bk_0_choose 0 = .ok (.aload_n 0, 1) := by decide +kernel
theorem dk_0_choose_1 : decode bk_0_choose 1 = .ok (.getfield 47, 3) := by decide +kernel
theorem dk_0_choose_4 : decode bk_0_choose 4 = .ok (.iload_n 1, 1) := by decide +kernel
theorem dk_0_choose_5 : decode bk_0_choose 5 = .ok (.invokevirtual 132, 3) := by decide +kernel
theorem dk_0_choose_8 : decode bk_0_choose 8 = .ok (.ifCond .eq 14, 3) := by decide +kernel
theorem dk_0_choose_11 : decode bk_0_choose 11 = .ok (.aload_n 0, 1) := by decide +kernel
theorem dk_0_choose_12 : decode bk_0_choose 12 = .ok (.getfield 26, 3) := by decide +kernel
theorem dk_0_choose_15 : decode bk_0_choose 15 = .ok (.iload_n 2, 1) := by decide +kernel
theorem dk_0_choose_16 : decode bk_0_choose 16 = .ok (.invokevirtual 161, 3) := by decide +kernel
theorem dk_0_choose_19 : decode bk_0_choose 19 = .ok (.ifCond .ne 5, 3) := by decide +kernel
theorem dk_0_choose_22 : decode bk_0_choose 22 = .ok (.iconst (-1), 1) := by decide +kernel
theorem dk_0_choose_23 : decode bk_0_choose 23 = .ok (.ireturn, 1) := by decide +kernel
theorem dk_0_choose_24 : decode bk_0_choose 24 = .ok (.aload_n 0, 1) := by decide +kernel
theorem dk_0_choose_25 : decode bk_0_choose 25 = .ok (.aload_n 0, 1) := by decide +kernel
theorem dk_0_choose_26 : decode bk_0_choose 26 = .ok (.iload_n 1, 1) := by decide +kernel
theorem dk_0_choose_27 : decode bk_0_choose 27 = .ok (.aload_n 0, 1) := by decide +kernel
theorem dk_0_choose_28 : decode bk_0_choose 28 = .ok (.getfield 26, 3) := by decide +kernel
theorem dk_0_choose_31 : decode bk_0_choose 31 = .ok (.getfield 165, 3) := by decide +kernel
theorem dk_0_choose_34 : decode bk_0_choose 34 = .ok (.iload_n 2, 1) := by decide +kernel
theorem dk_0_choose_35 : decode bk_0_choose 35 = .ok (.laload, 1) := by decide +kernel
theorem dk_0_choose_36 : decode bk_0_choose 36 = .ok (.iconst 0, 1) := by decide +kernel
theorem dk_0_choose_37 : decode bk_0_choose 37 = .ok (.invokevirtual 180, 3) := by decide +kernel
theorem dk_0_choose_40 : decode bk_0_choose 40 = .ok (.putfield 71, 3) := by decide +kernel
theorem dk_0_choose_43 : decode bk_0_choose 43 = .ok (.aload_n 0, 1) := by decide +kernel
theorem dk_0_choose_44 : decode bk_0_choose 44 = .ok (.getfield 71, 3) := by decide +kernel
theorem dk_0_choose_47 : decode bk_0_choose 47 = .ok (.invokestatic 184, 3) := by decide +kernel
theorem dk_0_choose_50 : decode bk_0_choose 50 = .ok (.ireturn, 1) := by decide +kernel
theorem dk_0_chosen_0 : decode bk_0_chosen 0 = .ok (.aload_n 0, 1) := by decide +kernel
theorem dk_0_chosen_1 : decode bk_0_chosen 1 = .ok (.getfield 71, 3) := by decide +kernel
theorem dk_0_chosen_4 : decode bk_0_chosen 4 = .ok (.invokestatic 184, 3) := by decide +kernel
theorem dk_0_chosen_7 : decode bk_0_chosen 7 = .ok (.istore_n 2, 1) := by decide +kernel
theorem dk_0_chosen_8 : decode bk_0_chosen 8 = .ok (.iload_n 2, 1) := by decide +kernel
theorem dk_0_chosen_9 : decode bk_0_chosen 9 = .ok (.iconst 1, 1) := by decide +kernel
theorem dk_0_chosen_10 : decode bk_0_chosen 10 = .ok (.if_icmp .ne 15, 3) := by decide +kernel
theorem dk_0_chosen_13 : decode bk_0_chosen 13 = .ok (.iload_n 1, 1) := by decide +kernel
theorem dk_0_chosen_14 : decode bk_0_chosen 14 = .ok (.ifCond .ne 11, 3) := by decide +kernel
theorem dk_0_chosen_17 : decode bk_0_chosen 17 = .ok (.aload_n 0, 1) := by decide +kernel
theorem dk_0_chosen_18 : decode bk_0_chosen 18 = .ok (.getfield 71, 3) := by decide +kernel
theorem dk_0_chosen_21 : decode bk_0_chosen 21 = .ok (.invokestatic 187, 3) := by decide +kernel
theorem dk_0_chosen_24 : decode bk_0_chosen 24 = .ok (.ireturn, 1) := by decide +kernel
theorem dk_0_chosen_25 : decode bk_0_chosen 25 = .ok (.iload_n 2, 1) := by decide +kernel
theorem dk_0_chosen_26 : decode bk_0_chosen 26 = .ok (.iconst 2, 1) := by decide +kernel
theorem dk_0_chosen_27 : decode bk_0_chosen 27 = .ok (.if_icmp .ne 15, 3) := by decide +kernel
theorem dk_0_chosen_30 : decode bk_0_chosen 30 = .ok (.iload_n 1, 1) := by decide +kernel
theorem dk_0_chosen_31 : decode bk_0_chosen 31 = .ok (.ifCond .ne 11, 3) := by decide +kernel
theorem dk_0_chosen_34 : decode bk_0_chosen 34 = .ok (.aload_n 0, 1) := by decide +kernel
theorem dk_0_chosen_35 : decode bk_0_chosen 35 = .ok (.getfield 71, 3) := by decide +kernel
theorem dk_0_chosen_38 : decode bk_0_chosen 38 = .ok (.invokestatic 190, 3) := by decide +kernel
theorem dk_0_chosen_41 : decode bk_0_chosen 41 = .ok (.ireturn, 1) := by decide +kernel
theorem dk_0_chosen_42 : decode bk_0_chosen 42 = .ok (.iload_n 2, 1) := by decide +kernel
theorem dk_0_chosen_43 : decode bk_0_chosen 43 = .ok (.iconst 2, 1) := by decide +kernel
theorem dk_0_chosen_44 : decode bk_0_chosen 44 = .ok (.if_icmp .ne 16, 3) := by decide +kernel
theorem dk_0_chosen_47 : decode bk_0_chosen 47 = .ok (.iload_n 1, 1) := by decide +kernel
theorem dk_0_chosen_48 : decode bk_0_chosen 48 = .ok (.iconst 1, 1) := by decide +kernel
theorem dk_0_chosen_49 : decode bk_0_chosen 49 = .ok (.if_icmp .ne 11, 3) := by decide +kernel
theorem dk_0_chosen_52 : decode bk_0_chosen 52 = .ok (.aload_n 0, 1) := by decide +kernel
theorem dk_0_chosen_53 : decode bk_0_chosen 53 = .ok (.getfield 71, 3) := by decide +kernel
theorem dk_0_chosen_56 : decode bk_0_chosen 56 = .ok (.invokestatic 193, 3) := by decide +kernel
theorem dk_0_chosen_59 : decode bk_0_chosen 59 = .ok (.ireturn, 1) := by decide +kernel
theorem dk_0_chosen_60 : decode bk_0_chosen 60 = .ok (.iconst (-1), 1) := by decide +kernel
theorem dk_0_chosen_61 : decode bk_0_chosen 61 = .ok (.ireturn, 1) := by decide +kernel
theorem dk_0_need_0 : decode bk_0_need 0 = .ok (.aload_n 0, 1) := by decide +kernel
theorem dk_0_need_1 : decode bk_0_need 1 = .ok (.getfield 40, 3) := by decide +kernel
theorem dk_0_need_4 : decode bk_0_need 4 = .ok (.iload_n 1, 1) := by decide +kernel
theorem dk_0_need_5 : decode bk_0_need 5 = .ok (.invokevirtual 121, 3) := by decide +kernel
theorem dk_0_need_8 : decode bk_0_need 8 = .ok (.ifCond .eq 14, 3) := by decide +kernel
theorem dk_0_need_11 : decode bk_0_need 11 = .ok (.aload_n 0, 1) := by decide +kernel
theorem dk_0_need_12 : decode bk_0_need 12 = .ok (.getfield 40, 3) := by decide +kernel
theorem dk_0_need_15 : decode bk_0_need 15 = .ok (.iload_n 2, 1) := by decide +kernel
theorem dk_0_need_16 : decode bk_0_need 16 = .ok (.invokevirtual 121, 3) := by decide +kernel
theorem dk_0_need_19 : decode bk_0_need 19 = .ok (.ifCond .ne 5, 3) := by decide +kernel
theorem dk_0_need_22 : decode bk_0_need 22 = .ok (.iconst (-1), 1) := by decide +kernel
theorem dk_0_need_23 : decode bk_0_need 23 = .ok (.ireturn, 1) := by decide +kernel
theorem dk_0_need_24 : decode bk_0_need 24 = .ok (.aload_n 0, 1) := by decide +kernel
theorem dk_0_need_25 : decode bk_0_need 25 = .ok (.getfield 54, 3) := by decide +kernel
theorem dk_0_need_28 : decode bk_0_need 28 = .ok (.iload_n 1, 1) := by decide +kernel
theorem dk_0_need_29 : decode bk_0_need 29 = .ok (.iload_n 2, 1) := by decide +kernel
theorem dk_0_need_30 : decode bk_0_need 30 = .ok (.invokevirtual 196, 3) := by decide +kernel
theorem dk_0_need_33 : decode bk_0_need 33 = .ok (.ireturn, 1) := by decide +kernel
end
section
theorem dk_0_change_0 : decode bk_0_change 0 = .ok (.iload_n 3, 1) := by decide +kernel
theorem dk_0_change_1 : decode bk_0_change 1 = .ok (.sipush 255, 3) := by decide +kernel
theorem dk_0_change_4 : decode bk_0_change 4 = .ok (.iand, 1) := by decide +kernel
theorem dk_0_change_5 : decode bk_0_change 5 = .ok (.istore 4, 2) := by decide +kernel
theorem dk_0_change_7 : decode bk_0_change 7 = .ok (.aload_n 0, 1) := by decide +kernel
theorem dk_0_change_8 : decode bk_0_change 8 = .ok (.getfield 54, 3) := by decide +kernel
theorem dk_0_change_11 : decode bk_0_change 11 = .ok (.iload_n 1, 1) := by decide +kernel
theorem dk_0_change_12 : decode bk_0_change 12 = .ok (.invokevirtual 199, 3) := by decide +kernel
theorem dk_0_change_15 : decode bk_0_change 15 = .ok (.ifCond .eq 19, 3) := by decide +kernel
theorem dk_0_change_18 : decode bk_0_change 18 = .ok (.aload_n 0, 1) := by decide +kernel
theorem dk_0_change_19 : decode bk_0_change 19 = .ok (.getfield 12, 3) := by decide +kernel
theorem dk_0_change_22 : decode bk_0_change 22 = .ok (.iload_n 2, 1) := by decide +kernel
theorem dk_0_change_23 : decode bk_0_change 23 = .ok (.invokevirtual 109, 3) := by decide +kernel
theorem dk_0_change_26 : decode bk_0_change 26 = .ok (.ifCond .eq 8, 3) := by decide +kernel
theorem dk_0_change_29 : decode bk_0_change 29 = .ok (.iload 4, 2) := by decide +kernel
theorem dk_0_change_31 : decode bk_0_change 31 = .ok (.ifCond .ne 5, 3) := by decide +kernel
theorem dk_0_change_34 : decode bk_0_change 34 = .ok (.iconst 0, 1) := by decide +kernel
theorem dk_0_change_35 : decode bk_0_change 35 = .ok (.ireturn, 1) := by decide +kernel
theorem dk_0_change_36 : decode bk_0_change 36 = .ok (.aload_n 0, 1) := by decide +kernel
theorem dk_0_change_37 : decode bk_0_change 37 = .ok (.getfield 54, 3) := by decide +kernel
theorem dk_0_change_40 : decode bk_0_change 40 = .ok (.iload_n 1, 1) := by decide +kernel
theorem dk_0_change_41 : decode bk_0_change 41 = .ok (.iload_n 2, 1) := by decide +kernel
theorem dk_0_change_42 : decode bk_0_change 42 = .ok (.iload 4, 2) := by decide +kernel
theorem dk_0_change_44 : decode bk_0_change 44 = .ok (.invokevirtual 200, 3) := by decide +kernel
theorem dk_0_change_47 : decode bk_0_change 47 = .ok (.ireturn, 1) := by decide +kernel
theorem dk_0_reads_0 : decode bk_0_reads 0 = .ok (.aload_n 0, 1) := by decide +kernel
theorem dk_0_reads_1 : decode bk_0_reads 1 = .ok (.getfield 40, 3) := by decide +kernel
theorem dk_0_reads_4 : decode bk_0_reads 4 = .ok (.iload_n 1, 1) := by decide +kernel
theorem dk_0_reads_5 : decode bk_0_reads 5 = .ok (.invokevirtual 121, 3) := by decide +kernel
theorem dk_0_reads_8 : decode bk_0_reads 8 = .ok (.ifCond .ne 5, 3) := by decide +kernel
theorem dk_0_reads_11 : decode bk_0_reads 11 = .ok (.iconst 0, 1) := by decide +kernel
theorem dk_0_reads_12 : decode bk_0_reads 12 = .ok (.ireturn, 1) := by decide +kernel
theorem dk_0_reads_13 : decode bk_0_reads 13 = .ok (.aload_n 0, 1) := by decide +kernel
theorem dk_0_reads_14 : decode bk_0_reads 14 = .ok (.invokevirtual 204, 3) := by decide +kernel
theorem dk_0_reads_17 : decode bk_0_reads 17 = .ok (.aload_n 0, 1) := by decide +kernel
theorem dk_0_reads_18 : decode bk_0_reads 18 = .ok (.getfield 40, 3) := by decide +kernel
theorem dk_0_reads_21 : decode bk_0_reads 21 = .ok (.getfield 207, 3) := by decide +kernel
theorem dk_0_reads_24 : decode bk_0_reads 24 = .ok (.iload_n 1, 1) := by decide +kernel
theorem dk_0_reads_25 : decode bk_0_reads 25 = .ok (.iaload, 1) := by decide +kernel
theorem dk_0_reads_26 : decode bk_0_reads 26 = .ok (.ireturn, 1) := by decide +kernel
theorem dk_0_trim_0 : decode bk_0_trim 0 = .ok (.aload_n 0, 1) := by decide +kernel
theorem dk_0_trim_1 : decode bk_0_trim 1 = .ok (.getfield 40, 3) := by decide +kernel
theorem dk_0_trim_4 : decode bk_0_trim 4 = .ok (.iload_n 1, 1) := by decide +kernel
theorem dk_0_trim_5 : decode bk_0_trim 5 = .ok (.invokevirtual 121, 3) := by decide +kernel
theorem dk_0_trim_8 : decode bk_0_trim 8 = .ok (.ifCond .eq 14, 3) := by decide +kernel
theorem dk_0_trim_11 : decode bk_0_trim 11 = .ok (.aload_n 0, 1) := by decide +kernel
theorem dk_0_trim_12 : decode bk_0_trim 12 = .ok (.getfield 26, 3) := by decide +kernel
theorem dk_0_trim_15 : decode bk_0_trim 15 = .ok (.iload_n 2, 1) := by decide +kernel
theorem dk_0_trim_16 : decode bk_0_trim 16 = .ok (.invokevirtual 161, 3) := by decide +kernel
theorem dk_0_trim_19 : decode bk_0_trim 19 = .ok (.ifCond .ne 5, 3) := by decide +kernel
theorem dk_0_trim_22 : decode bk_0_trim 22 = .ok (.iconst (-1), 1) := by decide +kernel
theorem dk_0_trim_23 : decode bk_0_trim 23 = .ok (.ireturn, 1) := by decide +kernel
theorem dk_0_trim_24 : decode bk_0_trim 24 = .ok (.aload_n 0, 1) := by decide +kernel
theorem dk_0_trim_25 : decode bk_0_trim 25 = .ok (.invokevirtual 204, 3) := by decide +kernel
theorem dk_0_trim_28 : decode bk_0_trim 28 = .ok (.aload_n 0, 1) := by decide +kernel
theorem dk_0_trim_29 : decode bk_0_trim 29 = .ok (.getfield 26, 3) := by decide +kernel
theorem dk_0_trim_32 : decode bk_0_trim 32 = .ok (.getfield 165, 3) := by decide +kernel
theorem dk_0_trim_35 : decode bk_0_trim 35 = .ok (.iload_n 2, 1) := by decide +kernel
theorem dk_0_trim_36 : decode bk_0_trim 36 = .ok (.laload, 1) := by decide +kernel
theorem dk_0_trim_37 : decode bk_0_trim 37 = .ok (.lstore_n 3, 1) := by decide +kernel
theorem dk_0_trim_38 : decode bk_0_trim 38 = .ok (.aload_n 0, 1) := by decide +kernel
theorem dk_0_trim_39 : decode bk_0_trim 39 = .ok (.getfield 26, 3) := by decide +kernel
theorem dk_0_trim_42 : decode bk_0_trim 42 = .ok (.aload_n 0, 1) := by decide +kernel
theorem dk_0_trim_43 : decode bk_0_trim 43 = .ok (.lload_n 3, 1) := by decide +kernel
theorem dk_0_trim_44 : decode bk_0_trim 44 = .ok (.aload_n 0, 1) := by decide +kernel
theorem dk_0_trim_45 : decode bk_0_trim 45 = .ok (.getfield 40, 3) := by decide +kernel
theorem dk_0_trim_48 : decode bk_0_trim 48 = .ok (.getfield 207, 3) := by decide +kernel
theorem dk_0_trim_51 : decode bk_0_trim 51 = .ok (.iload_n 1, 1) := by decide +kernel
theorem dk_0_trim_52 : decode bk_0_trim 52 = .ok (.iaload, 1) := by decide +kernel
theorem dk_0_trim_53 : decode bk_0_trim 53 = .ok (.invokevirtual 153, 3) := by decide +kernel
theorem dk_0_trim_56 : decode bk_0_trim 56 = .ok (.invokevirtual 157, 3) := by decide +kernel
theorem dk_0_trim_59 : decode bk_0_trim 59 = .ok (.ireturn, 1) := by decide +kernel
theorem dk_0_expand_0 : decode bk_0_expand 0 = .ok (.aload_n 0, 1) := by decide +kernel
theorem dk_0_expand_1 : decode bk_0_expand 1 = .ok (.getfield 40, 3) := by decide +kernel
theorem dk_0_expand_4 : decode bk_0_expand 4 = .ok (.iload_n 1, 1) := by decide +kernel
theorem dk_0_expand_5 : decode bk_0_expand 5 = .ok (.invokevirtual 121, 3) := by decide +kernel
theorem dk_0_expand_8 : decode bk_0_expand 8 = .ok (.ifCond .eq 14, 3) := by decide +kernel
theorem dk_0_expand_11 : decode bk_0_expand 11 = .ok (.aload_n 0, 1) := by decide +kernel
theorem dk_0_expand_12 : decode bk_0_expand 12 = .ok (.getfield 26, 3) := by decide +kernel
theorem dk_0_expand_15 : decode bk_0_expand 15 = .ok (.iload_n 2, 1) := by decide +kernel
theorem dk_0_expand_16 : decode bk_0_expand 16 = .ok (.invokevirtual 161, 3) := by decide +kernel
theorem dk_0_expand_19 : decode bk_0_expand 19 = .ok (.ifCond .ne 5, 3) := by decide +kernel
theorem dk_0_expand_22 : decode bk_0_expand 22 = .ok (.iconst (-1), 1) := by decide +kernel
theorem dk_0_expand_23 : decode bk_0_expand 23 = .ok (.ireturn, 1) := by decide +kernel
theorem dk_0_expand_24 : decode bk_0_expand 24 = .ok (.aload_n 0, 1) := by decide +kernel
theorem dk_0_expand_25 : decode bk_0_expand 25 = .ok (.invokevirtual 204, 3) := by decide +kernel
theorem dk_0_expand_28 : decode bk_0_expand 28 = .ok (.aload_n 0, 1) := by decide +kernel
theorem dk_0_expand_29 : decode bk_0_expand 29 = .ok (.getfield 61, 3) := by decide +kernel
theorem dk_0_expand_32 : decode bk_0_expand 32 = .ok (.invokevirtual 210, 3) := by decide +kernel
theorem dk_0_expand_35 : decode bk_0_expand 35 = .ok (.aload_n 0, 1) := by decide +kernel
theorem dk_0_expand_36 : decode bk_0_expand 36 = .ok (.iload_n 1, 1) := by decide +kernel
theorem dk_0_expand_37 : decode bk_0_expand 37 = .ok (.aload_n 0, 1) := by decide +kernel
theorem dk_0_expand_38 : decode bk_0_expand 38 = .ok (.getfield 26, 3) := by decide +kernel
theorem dk_0_expand_41 : decode bk_0_expand 41 = .ok (.getfield 165, 3) := by decide +kernel
theorem dk_0_expand_44 : decode bk_0_expand 44 = .ok (.iload_n 2, 1) := by decide +kernel
theorem dk_0_expand_45 : decode bk_0_expand 45 = .ok (.laload, 1) := by decide +kernel
theorem dk_0_expand_46 : decode bk_0_expand 46 = .ok (.invokevirtual 213, 3) := by decide +kernel
theorem dk_0_expand_49 : decode bk_0_expand 49 = .ok (.ifCond .ne 13, 3) := by decide +kernel
theorem dk_0_expand_52 : decode bk_0_expand 52 = .ok (.aload_n 0, 1) := by decide +kernel
theorem dk_0_expand_53 : decode bk_0_expand 53 = .ok (.getfield 61, 3) := by decide +kernel
theorem dk_0_expand_56 : decode bk_0_expand 56 = .ok (.invokevirtual 210, 3) := by decide +kernel
theorem dk_0_expand_59 : decode bk_0_expand 59 = .ok (.bipush (-2), 2) := by decide +kernel
theorem dk_0_expand_61 : decode bk_0_expand 61 = .ok (.ireturn, 1) := by decide +kernel
theorem dk_0_expand_62 : decode bk_0_expand 62 = .ok (.aload_n 0, 1) := by decide +kernel
theorem dk_0_expand_63 : decode bk_0_expand 63 = .ok (.invokevirtual 216, 3) := by decide +kernel
theorem dk_0_expand_66 : decode bk_0_expand 66 = .ok (.aload_n 0, 1) := by decide +kernel
theorem dk_0_expand_67 : decode bk_0_expand 67 = .ok (.getfield 61, 3) := by decide +kernel
theorem dk_0_expand_70 : decode bk_0_expand 70 = .ok (.invokevirtual 219, 3) := by decide +kernel
theorem dk_0_expand_73 : decode bk_0_expand 73 = .ok (.aload_n 0, 1) := by decide +kernel
theorem dk_0_expand_74 : decode bk_0_expand 74 = .ok (.getfield 61, 3) := by decide +kernel
theorem dk_0_expand_77 : decode bk_0_expand 77 = .ok (.getfield 222, 3) := by decide +kernel
theorem dk_0_expand_80 : decode bk_0_expand 80 = .ok (.ireturn, 1) := by decide +kernel
theorem dk_0_pair_0 : decode bk_0_pair 0 = .ok (.aload_n 0, 1) := by decide +kernel
theorem dk_0_pair_1 : decode bk_0_pair 1 = .ok (.getfield 61, 3) := by decide +kernel
theorem dk_0_pair_4 : decode bk_0_pair 4 = .ok (.iload_n 1, 1) := by decide +kernel
theorem dk_0_pair_5 : decode bk_0_pair 5 = .ok (.invokevirtual 226, 3) := by decide +kernel
theorem dk_0_pair_8 : decode bk_0_pair 8 = .ok (.ifCond .ne 5, 3) := by decide +kernel
theorem dk_0_pair_11 : decode bk_0_pair 11 = .ok (.iconst (-1), 1) := by decide +kernel
theorem dk_0_pair_12 : decode bk_0_pair 12 = .ok (.ireturn, 1) := by decide +kernel
theorem dk_0_pair_13 : decode bk_0_pair 13 = .ok (.iload_n 2, 1) := by decide +kernel
theorem dk_0_pair_14 : decode bk_0_pair 14 = .ok (.tableswitch 56 0 2 #[26, 36, 46], 26) := by decide +kernel
theorem dk_0_pair_40 : decode bk_0_pair 40 = .ok (.aload_n 0, 1) := by decide +kernel
theorem dk_0_pair_41 : decode bk_0_pair 41 = .ok (.getfield 61, 3) := by decide +kernel
theorem dk_0_pair_44 : decode bk_0_pair 44 = .ok (.getfield 227, 3) := by decide +kernel
theorem dk_0_pair_47 : decode bk_0_pair 47 = .ok (.iload_n 1, 1) := by decide +kernel
theorem dk_0_pair_48 : decode bk_0_pair 48 = .ok (.iaload, 1) := by decide +kernel
theorem dk_0_pair_49 : decode bk_0_pair 49 = .ok (.ireturn, 1) := by decide +kernel
theorem dk_0_pair_50 : decode bk_0_pair 50 = .ok (.aload_n 0, 1) := by decide +kernel
theorem dk_0_pair_51 : decode bk_0_pair 51 = .ok (.getfield 61, 3) := by decide +kernel
theorem dk_0_pair_54 : decode bk_0_pair 54 = .ok (.getfield 230, 3) := by decide +kernel
theorem dk_0_pair_57 : decode bk_0_pair 57 = .ok (.iload_n 1, 1) := by decide +kernel
theorem dk_0_pair_58 : decode bk_0_pair 58 = .ok (.iaload, 1) := by decide +kernel
theorem dk_0_pair_59 : decode bk_0_pair 59 = .ok (.ireturn, 1) := by decide +kernel
theorem dk_0_pair_60 : decode bk_0_pair 60 = .ok (.aload_n 0, 1) := by decide +kernel
theorem dk_0_pair_61 : decode bk_0_pair 61 = .ok (.getfield 61, 3) := by decide +kernel
theorem dk_0_pair_64 : decode bk_0_pair 64 = .ok (.getfield 233, 3) := by decide +kernel
theorem dk_0_pair_67 : decode bk_0_pair 67 = .ok (.iload_n 1, 1) := by decide +kernel
theorem dk_0_pair_68 : decode bk_0_pair 68 = .ok (.iaload, 1) := by decide +kernel
theorem dk_0_pair_69 : decode bk_0_pair 69 = .ok (.ireturn, 1) := by decide +kernel
theorem dk_0_pair_70 : decode bk_0_pair 70 = .ok (.iconst (-1), 1) := by decide +kernel
theorem dk_0_pair_71 : decode bk_0_pair 71 = .ok (.ireturn, 1) := by decide +kernel
theorem dk_0_isAxis_0 : decode bk_0_isAxis 0 = .ok (.iload_n 0, 1) := by decide +kernel
theorem dk_0_isAxis_1 : decode bk_0_isAxis 1 = .ok (.ifCond .lt 13, 3) := by decide +kernel
theorem dk_0_isAxis_4 : decode bk_0_isAxis 4 = .ok (.iload_n 0, 1) := by decide +kernel
theorem dk_0_isAxis_5 : decode bk_0_isAxis 5 = .ok (.bipush 8, 2) := by decide +kernel
theorem dk_0_isAxis_7 : decode bk_0_isAxis 7 = .ok (.if_icmp .ge 7, 3) := by decide +kernel
theorem dk_0_isAxis_10 : decode bk_0_isAxis 10 = .ok (.iconst 1, 1) := by decide +kernel
theorem dk_0_isAxis_11 : decode bk_0_isAxis 11 = .ok (.goto 4, 3) := by decide +kernel
theorem dk_0_isAxis_14 : decode bk_0_isAxis 14 = .ok (.iconst 0, 1) := by decide +kernel
theorem dk_0_isAxis_15 : decode bk_0_isAxis 15 = .ok (.ireturn, 1) := by decide +kernel
theorem dk_0_isValue_0 : decode bk_0_isValue 0 = .ok (.iload_n 0, 1) := by decide +kernel
theorem dk_0_isValue_1 : decode bk_0_isValue 1 = .ok (.ifCond .lt 13, 3) := by decide +kernel
theorem dk_0_isValue_4 : decode bk_0_isValue 4 = .ok (.iload_n 0, 1) := by decide +kernel
theorem dk_0_isValue_5 : decode bk_0_isValue 5 = .ok (.bipush 8, 2) := by decide +kernel
theorem dk_0_isValue_7 : decode bk_0_isValue 7 = .ok (.if_icmp .ge 7, 3) := by decide +kernel
theorem dk_0_isValue_10 : decode bk_0_isValue 10 = .ok (.iconst 1, 1) := by decide +kernel
theorem dk_0_isValue_11 : decode bk_0_isValue 11 = .ok (.goto 4, 3) := by decide +kernel
theorem dk_0_isValue_14 : decode bk_0_isValue 14 = .ok (.iconst 0, 1) := by decide +kernel
theorem dk_0_isValue_15 : decode bk_0_isValue 15 = .ok (.ireturn, 1) := by decide +kernel
theorem dk_0_hasBit_0 : decode bk_0_hasBit 0 = .ok (.iload_n 0, 1) := by decide +kernel
theorem dk_0_hasBit_1 : decode bk_0_hasBit 1 = .ok (.iload_n 1, 1) := by decide +kernel
theorem dk_0_hasBit_2 : decode bk_0_hasBit 2 = .ok (.iushr, 1) := by decide +kernel
theorem dk_0_hasBit_3 : decode bk_0_hasBit 3 = .ok (.iconst 1, 1) := by decide +kernel
theorem dk_0_hasBit_4 : decode bk_0_hasBit 4 = .ok (.iand, 1) := by decide +kernel
theorem dk_0_hasBit_5 : decode bk_0_hasBit 5 = .ok (.ifCond .eq 7, 3) := by decide +kernel
theorem dk_0_hasBit_8 : decode bk_0_hasBit 8 = .ok (.iconst 1, 1) := by decide +kernel
theorem dk_0_hasBit_9 : decode bk_0_hasBit 9 = .ok (.goto 4, 3) := by decide +kernel
theorem dk_0_hasBit_12 : decode bk_0_hasBit 12 = .ok (.iconst 0, 1) := by decide +kernel
theorem dk_0_hasBit_13 : decode bk_0_hasBit 13 = .ok (.ireturn, 1) := by decide +kernel
theorem dk_0_isMet_0 : decode bk_0_isMet 0 = .ok (.iconst 0, 1) := by decide +kernel
theorem dk_0_isMet_1 : decode bk_0_isMet 1 = .ok (.istore 4, 2) := by decide +kernel
theorem dk_0_isMet_3 : decode bk_0_isMet 3 = .ok (.iload 4, 2) := by decide +kernel
theorem dk_0_isMet_5 : decode bk_0_isMet 5 = .ok (.aload_n 0, 1) := by decide +kernel
theorem dk_0_isMet_6 : decode bk_0_isMet 6 = .ok (.getfield 33, 3) := by decide +kernel
theorem dk_0_isMet_9 : decode bk_0_isMet 9 = .ok (.getfield 236, 3) := by decide +kernel
theorem dk_0_isMet_12 : decode bk_0_isMet 12 = .ok (.iload_n 1, 1) := by decide +kernel
theorem dk_0_isMet_13 : decode bk_0_isMet 13 = .ok (.iaload, 1) := by decide +kernel
theorem dk_0_isMet_14 : decode bk_0_isMet 14 = .ok (.if_icmp .ge 29, 3) := by decide +kernel
theorem dk_0_isMet_17 : decode bk_0_isMet 17 = .ok (.aload_n 0, 1) := by decide +kernel
theorem dk_0_isMet_18 : decode bk_0_isMet 18 = .ok (.aload_n 0, 1) := by decide +kernel
theorem dk_0_isMet_19 : decode bk_0_isMet 19 = .ok (.getfield 33, 3) := by decide +kernel
theorem dk_0_isMet_22 : decode bk_0_isMet 22 = .ok (.iload_n 1, 1) := by decide +kernel
theorem dk_0_isMet_23 : decode bk_0_isMet 23 = .ok (.iload 4, 2) := by decide +kernel
theorem dk_0_isMet_25 : decode bk_0_isMet 25 = .ok (.invokevirtual 239, 3) := by decide +kernel
theorem dk_0_isMet_28 : decode bk_0_isMet 28 = .ok (.lload_n 2, 1) := by decide +kernel
theorem dk_0_isMet_29 : decode bk_0_isMet 29 = .ok (.invokevirtual 242, 3) := by decide +kernel
theorem dk_0_isMet_32 : decode bk_0_isMet 32 = .ok (.ifCond .ne 5, 3) := by decide +kernel
theorem dk_0_isMet_35 : decode bk_0_isMet 35 = .ok (.iconst 0, 1) := by decide +kernel
theorem dk_0_isMet_36 : decode bk_0_isMet 36 = .ok (.ireturn, 1) := by decide +kernel
theorem dk_0_isMet_37 : decode bk_0_isMet 37 = .ok (.iinc 4 1, 3) := by decide +kernel
theorem dk_0_isMet_40 : decode bk_0_isMet 40 = .ok (.goto (-37), 3) := by decide +kernel
theorem dk_0_isMet_43 : decode bk_0_isMet 43 = .ok (.iconst 1, 1) := by decide +kernel
theorem dk_0_isMet_44 : decode bk_0_isMet 44 = .ok (.ireturn, 1) := by decide +kernel
theorem dk_0_isAskingMet_0 : decode bk_0_isAskingMet 0 = .ok (.iload_n 1, 1) := by decide +kernel
theorem dk_0_isAskingMet_1 : decode bk_0_isAskingMet 1 = .ok (.invokestatic 245, 3) := by decide +kernel
theorem dk_0_isAskingMet_4 : decode bk_0_isAskingMet 4 = .ok (.istore 4, 2) := by decide +kernel
theorem dk_0_isAskingMet_6 : decode bk_0_isAskingMet 6 = .ok (.iload_n 1, 1) := by decide +kernel
theorem dk_0_isAskingMet_7 : decode bk_0_isAskingMet 7 = .ok (.invokestatic 248, 3) := by decide +kernel
theorem dk_0_isAskingMet_10 : decode bk_0_isAskingMet 10 = .ok (.istore 5, 2) := by decide +kernel
theorem dk_0_isAskingMet_12 : decode bk_0_isAskingMet 12 = .ok (.iload_n 1, 1) := by decide +kernel
theorem dk_0_isAskingMet_13 : decode bk_0_isAskingMet 13 = .ok (.invokestatic 250, 3) := by decide +kernel
theorem dk_0_isAskingMet_16 : decode bk_0_isAskingMet 16 = .ok (.ifCond .eq 27, 3) := by decide +kernel
theorem dk_0_isAskingMet_19 : decode bk_0_isAskingMet 19 = .ok (.aload_n 0, 1) := by decide +kernel
theorem dk_0_isAskingMet_20 : decode bk_0_isAskingMet 20 = .ok (.getfield 19, 3) := by decide +kernel
theorem dk_0_isAskingMet_23 : decode bk_0_isAskingMet 23 = .ok (.lload_n 2, 1) := by decide +kernel
theorem dk_0_isAskingMet_24 : decode bk_0_isAskingMet 24 = .ok (.invokestatic 253, 3) := by decide +kernel
theorem dk_0_isAskingMet_27 : decode bk_0_isAskingMet 27 = .ok (.iload 4, 2) := by decide +kernel
theorem dk_0_isAskingMet_29 : decode bk_0_isAskingMet 29 = .ok (.invokevirtual 256, 3) := by decide +kernel
theorem dk_0_isAskingMet_32 : decode bk_0_isAskingMet 32 = .ok (.iload 5, 2) := by decide +kernel
theorem dk_0_isAskingMet_34 : decode bk_0_isAskingMet 34 = .ok (.if_icmp .ne 7, 3) := by decide +kernel
theorem dk_0_isAskingMet_37 : decode bk_0_isAskingMet 37 = .ok (.iconst 1, 1) := by decide +kernel
theorem dk_0_isAskingMet_38 : decode bk_0_isAskingMet 38 = .ok (.goto 4, 3) := by decide +kernel
theorem dk_0_isAskingMet_41 : decode bk_0_isAskingMet 41 = .ok (.iconst 0, 1) := by decide +kernel
theorem dk_0_isAskingMet_42 : decode bk_0_isAskingMet 42 = .ok (.ireturn, 1) := by decide +kernel
theorem dk_0_isAskingMet_43 : decode bk_0_isAskingMet 43 = .ok (.aload_n 0, 1) := by decide +kernel
theorem dk_0_isAskingMet_44 : decode bk_0_isAskingMet 44 = .ok (.getfield 12, 3) := by decide +kernel
theorem dk_0_isAskingMet_47 : decode bk_0_isAskingMet 47 = .ok (.iload 4, 2) := by decide +kernel
theorem dk_0_isAskingMet_49 : decode bk_0_isAskingMet 49 = .ok (.invokevirtual 83, 3) := by decide +kernel
theorem dk_0_isAskingMet_52 : decode bk_0_isAskingMet 52 = .ok (.istore 6, 2) := by decide +kernel
theorem dk_0_isAskingMet_54 : decode bk_0_isAskingMet 54 = .ok (.iload 6, 2) := by decide +kernel
theorem dk_0_isAskingMet_56 : decode bk_0_isAskingMet 56 = .ok (.iconst (-1), 1) := by decide +kernel
theorem dk_0_isAskingMet_57 : decode bk_0_isAskingMet 57 = .ok (.if_icmp .eq 18, 3) := by decide +kernel
theorem dk_0_isAskingMet_60 : decode bk_0_isAskingMet 60 = .ok (.lload_n 2, 1) := by decide +kernel
theorem dk_0_isAskingMet_61 : decode bk_0_isAskingMet 61 = .ok (.iload 6, 2) := by decide +kernel
theorem dk_0_isAskingMet_63 : decode bk_0_isAskingMet 63 = .ok (.invokestatic 172, 3) := by decide +kernel
theorem dk_0_isAskingMet_66 : decode bk_0_isAskingMet 66 = .ok (.iload 5, 2) := by decide +kernel
theorem dk_0_isAskingMet_68 : decode bk_0_isAskingMet 68 = .ok (.if_icmp .ne 7, 3) := by decide +kernel
theorem dk_0_isAskingMet_71 : decode bk_0_isAskingMet 71 = .ok (.iconst 1, 1) := by decide +kernel
theorem dk_0_isAskingMet_72 : decode bk_0_isAskingMet 72 = .ok (.goto 4, 3) := by decide +kernel
theorem dk_0_isAskingMet_75 : decode bk_0_isAskingMet 75 = .ok (.iconst 0, 1) := by decide +kernel
theorem dk_0_isAskingMet_76 : decode bk_0_isAskingMet 76 = .ok (.ireturn, 1) := by decide +kernel
theorem dk_0_askedBy_0 : decode bk_0_askedBy 0 = .ok (.iconst 0, 1) := by decide +kernel
theorem dk_0_askedBy_1 : decode bk_0_askedBy 1 = .ok (.istore_n 2, 1) := by decide +kernel
theorem dk_0_askedBy_2 : decode bk_0_askedBy 2 = .ok (.iconst 0, 1) := by decide +kernel
theorem dk_0_askedBy_3 : decode bk_0_askedBy 3 = .ok (.istore_n 3, 1) := by decide +kernel
theorem dk_0_askedBy_4 : decode bk_0_askedBy 4 = .ok (.iload_n 3, 1) := by decide +kernel
theorem dk_0_askedBy_5 : decode bk_0_askedBy 5 = .ok (.aload_n 0, 1) := by decide +kernel
theorem dk_0_askedBy_6 : decode bk_0_askedBy 6 = .ok (.getfield 33, 3) := by decide +kernel
theorem dk_0_askedBy_9 : decode bk_0_askedBy 9 = .ok (.getfield 236, 3) := by decide +kernel
theorem dk_0_askedBy_12 : decode bk_0_askedBy 12 = .ok (.iload_n 1, 1) := by decide +kernel
theorem dk_0_askedBy_13 : decode bk_0_askedBy 13 = .ok (.iaload, 1) := by decide +kernel
theorem dk_0_askedBy_14 : decode bk_0_askedBy 14 = .ok (.if_icmp .ge 76, 3) := by decide +kernel
theorem dk_0_askedBy_17 : decode bk_0_askedBy 17 = .ok (.aload_n 0, 1) := by decide +kernel
theorem dk_0_askedBy_18 : decode bk_0_askedBy 18 = .ok (.getfield 33, 3) := by decide +kernel
theorem dk_0_askedBy_21 : decode bk_0_askedBy 21 = .ok (.iload_n 1, 1) := by decide +kernel
theorem dk_0_askedBy_22 : decode bk_0_askedBy 22 = .ok (.iload_n 3, 1) := by decide +kernel
theorem dk_0_askedBy_23 : decode bk_0_askedBy 23 = .ok (.invokevirtual 239, 3) := by decide +kernel
theorem dk_0_askedBy_26 : decode bk_0_askedBy 26 = .ok (.istore 4, 2) := by decide +kernel
theorem dk_0_askedBy_28 : decode bk_0_askedBy 28 = .ok (.iload 4, 2) := by decide +kernel
theorem dk_0_askedBy_30 : decode bk_0_askedBy 30 = .ok (.invokestatic 245, 3) := by decide +kernel
theorem dk_0_askedBy_33 : decode bk_0_askedBy 33 = .ok (.istore 5, 2) := by decide +kernel
theorem dk_0_askedBy_35 : decode bk_0_askedBy 35 = .ok (.iload 4, 2) := by decide +kernel
theorem dk_0_askedBy_37 : decode bk_0_askedBy 37 = .ok (.invokestatic 250, 3) := by decide +kernel
theorem dk_0_askedBy_40 : decode bk_0_askedBy 40 = .ok (.ifCond .eq 16, 3) := by decide +kernel
theorem dk_0_askedBy_43 : decode bk_0_askedBy 43 = .ok (.iload_n 2, 1) := by decide +kernel
theorem dk_0_askedBy_44 : decode bk_0_askedBy 44 = .ok (.iconst 1, 1) := by decide +kernel
theorem dk_0_askedBy_45 : decode bk_0_askedBy 45 = .ok (.bipush 16, 2) := by decide +kernel
theorem dk_0_askedBy_47 : decode bk_0_askedBy 47 = .ok (.iload 5, 2) := by decide +kernel
theorem dk_0_askedBy_49 : decode bk_0_askedBy 49 = .ok (.iadd, 1) := by decide +kernel
theorem dk_0_askedBy_50 : decode bk_0_askedBy 50 = .ok (.ishl, 1) := by decide +kernel
theorem dk_0_askedBy_51 : decode bk_0_askedBy 51 = .ok (.ior, 1) := by decide +kernel
theorem dk_0_askedBy_52 : decode bk_0_askedBy 52 = .ok (.istore_n 2, 1) := by decide +kernel
theorem dk_0_askedBy_53 : decode bk_0_askedBy 53 = .ok (.goto 31, 3) := by decide +kernel
theorem dk_0_askedBy_56 : decode bk_0_askedBy 56 = .ok (.aload_n 0, 1) := by decide +kernel
theorem dk_0_askedBy_57 : decode bk_0_askedBy 57 = .ok (.getfield 12, 3) := by decide +kernel
theorem dk_0_askedBy_60 : decode bk_0_askedBy 60 = .ok (.iload 5, 2) := by decide +kernel
theorem dk_0_askedBy_62 : decode bk_0_askedBy 62 = .ok (.invokevirtual 83, 3) := by decide +kernel
theorem dk_0_askedBy_65 : decode bk_0_askedBy 65 = .ok (.istore 6, 2) := by decide +kernel
theorem dk_0_askedBy_67 : decode bk_0_askedBy 67 = .ok (.iload_n 2, 1) := by decide +kernel
theorem dk_0_askedBy_68 : decode bk_0_askedBy 68 = .ok (.iload 6, 2) := by decide +kernel
theorem dk_0_askedBy_70 : decode bk_0_askedBy 70 = .ok (.iconst (-1), 1) := by decide +kernel
theorem dk_0_askedBy_71 : decode bk_0_askedBy 71 = .ok (.if_icmp .ne 7, 3) := by decide +kernel
theorem dk_0_askedBy_74 : decode bk_0_askedBy 74 = .ok (.iconst 0, 1) := by decide +kernel
theorem dk_0_askedBy_75 : decode bk_0_askedBy 75 = .ok (.goto 7, 3) := by decide +kernel
theorem dk_0_askedBy_78 : decode bk_0_askedBy 78 = .ok (.iconst 1, 1) := by decide +kernel
theorem dk_0_askedBy_79 : decode bk_0_askedBy 79 = .ok (.iload 6, 2) := by decide +kernel
theorem dk_0_askedBy_81 : decode bk_0_askedBy 81 = .ok (.ishl, 1) := by decide +kernel
theorem dk_0_askedBy_82 : decode bk_0_askedBy 82 = .ok (.ior, 1) := by decide +kernel
theorem dk_0_askedBy_83 : decode bk_0_askedBy 83 = .ok (.istore_n 2, 1) := by decide +kernel
theorem dk_0_askedBy_84 : decode bk_0_askedBy 84 = .ok (.iinc 3 1, 3) := by decide +kernel
theorem dk_0_askedBy_87 : decode bk_0_askedBy 87 = .ok (.goto (-83), 3) := by decide +kernel
theorem dk_0_askedBy_90 : decode bk_0_askedBy 90 = .ok (.iload_n 2, 1) := by decide +kernel
theorem dk_0_askedBy_91 : decode bk_0_askedBy 91 = .ok (.ireturn, 1) := by decide +kernel
theorem dk_0_choosing_0 : decode bk_0_choosing 0 = .ok (.aload_n 0, 1) := by decide +kernel
theorem dk_0_choosing_1 : decode bk_0_choosing 1 = .ok (.iload_n 1, 1) := by decide +kernel
theorem dk_0_choosing_2 : decode bk_0_choosing 2 = .ok (.aload_n 0, 1) := by decide +kernel
theorem dk_0_choosing_3 : decode bk_0_choosing 3 = .ok (.iload_n 1, 1) := by decide +kernel
theorem dk_0_choosing_4 : decode bk_0_choosing 4 = .ok (.lload_n 2, 1) := by decide +kernel
theorem dk_0_choosing_5 : decode bk_0_choosing 5 = .ok (.invokevirtual 259, 3) := by decide +kernel
theorem dk_0_choosing_8 : decode bk_0_choosing 8 = .ok (.invokevirtual 263, 3) := by decide +kernel
theorem dk_0_choosing_11 : decode bk_0_choosing 11 = .ok (.istore 5, 2) := by decide +kernel
theorem dk_0_choosing_13 : decode bk_0_choosing 13 = .ok (.iload 5, 2) := by decide +kernel
theorem dk_0_choosing_15 : decode bk_0_choosing 15 = .ok (.ifCond .ne 13, 3) := by decide +kernel
theorem dk_0_choosing_18 : decode bk_0_choosing 18 = .ok (.aload_n 0, 1) := by decide +kernel
theorem dk_0_choosing_19 : decode bk_0_choosing 19 = .ok (.getfield 47, 3) := by decide +kernel
theorem dk_0_choosing_22 : decode bk_0_choosing 22 = .ok (.getfield 140, 3) := by decide +kernel
theorem dk_0_choosing_25 : decode bk_0_choosing 25 = .ok (.iload_n 1, 1) := by decide +kernel
theorem dk_0_choosing_26 : decode bk_0_choosing 26 = .ok (.laload, 1) := by decide +kernel
theorem dk_0_choosing_27 : decode bk_0_choosing 27 = .ok (.lreturn, 1) := by decide +kernel
theorem dk_0_choosing_28 : decode bk_0_choosing 28 = .ok (.iconst (-1), 1) := by decide +kernel
theorem dk_0_choosing_29 : decode bk_0_choosing 29 = .ok (.istore 6, 2) := by decide +kernel
theorem dk_0_choosing_31 : decode bk_0_choosing 31 = .ok (.invokestatic 65, 3) := by decide +kernel
theorem dk_0_choosing_34 : decode bk_0_choosing 34 = .ok (.lstore 7, 2) := by decide +kernel
theorem dk_0_choosing_36 : decode bk_0_choosing 36 = .ok (.iconst 0, 1) := by decide +kernel
theorem dk_0_choosing_37 : decode bk_0_choosing 37 = .ok (.istore 9, 2) := by decide +kernel
theorem dk_0_choosing_39 : decode bk_0_choosing 39 = .ok (.iload 9, 2) := by decide +kernel
theorem dk_0_choosing_41 : decode bk_0_choosing 41 = .ok (.aload_n 0, 1) := by decide +kernel
theorem dk_0_choosing_42 : decode bk_0_choosing 42 = .ok (.getfield 47, 3) := by decide +kernel
theorem dk_0_choosing_45 : decode bk_0_choosing 45 = .ok (.getfield 266, 3) := by decide +kernel
theorem dk_0_choosing_48 : decode bk_0_choosing 48 = .ok (.iload_n 1, 1) := by decide +kernel
theorem dk_0_choosing_49 : decode bk_0_choosing 49 = .ok (.iaload, 1) := by decide +kernel
theorem dk_0_choosing_50 : decode bk_0_choosing 50 = .ok (.if_icmp .ge 72, 3) := by decide +kernel
theorem dk_0_choosing_53 : decode bk_0_choosing 53 = .ok (.iload 5, 2) := by decide +kernel
theorem dk_0_choosing_55 : decode bk_0_choosing 55 = .ok (.iload 9, 2) := by decide +kernel
theorem dk_0_choosing_57 : decode bk_0_choosing 57 = .ok (.invokestatic 269, 3) := by decide +kernel
theorem dk_0_choosing_60 : decode bk_0_choosing 60 = .ok (.ifCond .ne 6, 3) := by decide +kernel
theorem dk_0_choosing_63 : decode bk_0_choosing 63 = .ok (.goto 53, 3) := by decide +kernel
theorem dk_0_choosing_66 : decode bk_0_choosing 66 = .ok (.aload_n 0, 1) := by decide +kernel
theorem dk_0_choosing_67 : decode bk_0_choosing 67 = .ok (.iload_n 1, 1) := by decide +kernel
theorem dk_0_choosing_68 : decode bk_0_choosing 68 = .ok (.iload 9, 2) := by decide +kernel
theorem dk_0_choosing_70 : decode bk_0_choosing 70 = .ok (.invokestatic 272, 3) := by decide +kernel
theorem dk_0_choosing_73 : decode bk_0_choosing 73 = .ok (.lload_n 2, 1) := by decide +kernel
theorem dk_0_choosing_74 : decode bk_0_choosing 74 = .ok (.iload 4, 2) := by decide +kernel
theorem dk_0_choosing_76 : decode bk_0_choosing 76 = .ok (.invokevirtual 275, 3) := by decide +kernel
theorem dk_0_choosing_79 : decode bk_0_choosing 79 = .ok (.lstore 10, 2) := by decide +kernel
theorem dk_0_choosing_81 : decode bk_0_choosing 81 = .ok (.iload 6, 2) := by decide +kernel
theorem dk_0_choosing_83 : decode bk_0_choosing 83 = .ok (.iconst (-1), 1) := by decide +kernel
theorem dk_0_choosing_84 : decode bk_0_choosing 84 = .ok (.if_icmp .ne 14, 3) := by decide +kernel
theorem dk_0_choosing_87 : decode bk_0_choosing 87 = .ok (.iload 9, 2) := by decide +kernel
theorem dk_0_choosing_89 : decode bk_0_choosing 89 = .ok (.istore 6, 2) := by decide +kernel
theorem dk_0_choosing_91 : decode bk_0_choosing 91 = .ok (.lload 10, 2) := by decide +kernel
theorem dk_0_choosing_93 : decode bk_0_choosing 93 = .ok (.lstore 7, 2) := by decide +kernel
theorem dk_0_choosing_95 : decode bk_0_choosing 95 = .ok (.goto 21, 3) := by decide +kernel
theorem dk_0_choosing_98 : decode bk_0_choosing 98 = .ok (.lload 7, 2) := by decide +kernel
theorem dk_0_choosing_100 : decode bk_0_choosing 100 = .ok (.lload 10, 2) := by decide +kernel
theorem dk_0_choosing_102 : decode bk_0_choosing 102 = .ok (.invokestatic 278, 3) := by decide +kernel
theorem dk_0_choosing_105 : decode bk_0_choosing 105 = .ok (.ifCond .ne 11, 3) := by decide +kernel
theorem dk_0_choosing_108 : decode bk_0_choosing 108 = .ok (.iload 6, 2) := by decide +kernel
theorem dk_0_choosing_110 : decode bk_0_choosing 110 = .ok (.iload 9, 2) := by decide +kernel
theorem dk_0_choosing_112 : decode bk_0_choosing 112 = .ok (.invokestatic 282, 3) := by decide +kernel
theorem dk_0_choosing_115 : decode bk_0_choosing 115 = .ok (.lreturn, 1) := by decide +kernel
theorem dk_0_choosing_116 : decode bk_0_choosing 116 = .ok (.iinc 9 1, 3) := by decide +kernel
theorem dk_0_choosing_119 : decode bk_0_choosing 119 = .ok (.goto (-80), 3) := by decide +kernel
theorem dk_0_choosing_122 : decode bk_0_choosing 122 = .ok (.lload 7, 2) := by decide +kernel
theorem dk_0_choosing_124 : decode bk_0_choosing 124 = .ok (.lreturn, 1) := by decide +kernel
theorem dk_0_givenBy_0 : decode bk_0_givenBy 0 = .ok (.aload_n 0, 1) := by decide +kernel
theorem dk_0_givenBy_1 : decode bk_0_givenBy 1 = .ok (.getfield 47, 3) := by decide +kernel
theorem dk_0_givenBy_4 : decode bk_0_givenBy 4 = .ok (.getfield 286, 3) := by decide +kernel
theorem dk_0_givenBy_7 : decode bk_0_givenBy 7 = .ok (.iload_n 1, 1) := by decide +kernel
theorem dk_0_givenBy_8 : decode bk_0_givenBy 8 = .ok (.baload, 1) := by decide +kernel
theorem dk_0_givenBy_9 : decode bk_0_givenBy 9 = .ok (.ifCond .ne 16, 3) := by decide +kernel
theorem dk_0_givenBy_12 : decode bk_0_givenBy 12 = .ok (.aload_n 0, 1) := by decide +kernel
theorem dk_0_givenBy_13 : decode bk_0_givenBy 13 = .ok (.getfield 47, 3) := by decide +kernel
theorem dk_0_givenBy_16 : decode bk_0_givenBy 16 = .ok (.getfield 289, 3) := by decide +kernel
theorem dk_0_givenBy_19 : decode bk_0_givenBy 19 = .ok (.iload_n 1, 1) := by decide +kernel
theorem dk_0_givenBy_20 : decode bk_0_givenBy 20 = .ok (.iaload, 1) := by decide +kernel
theorem dk_0_givenBy_21 : decode bk_0_givenBy 21 = .ok (.invokestatic 144, 3) := by decide +kernel
theorem dk_0_givenBy_24 : decode bk_0_givenBy 24 = .ok (.lreturn, 1) := by decide +kernel
theorem dk_0_givenBy_25 : decode bk_0_givenBy 25 = .ok (.iload 4, 2) := by decide +kernel
theorem dk_0_givenBy_27 : decode bk_0_givenBy 27 = .ok (.iconst 1, 1) := by decide +kernel
theorem dk_0_givenBy_28 : decode bk_0_givenBy 28 = .ok (.if_icmp .lt 7, 3) := by decide +kernel
theorem dk_0_givenBy_31 : decode bk_0_givenBy 31 = .ok (.invokestatic 65, 3) := by decide +kernel
theorem dk_0_givenBy_34 : decode bk_0_givenBy 34 = .ok (.lreturn, 1) := by decide +kernel
theorem dk_0_givenBy_35 : decode bk_0_givenBy 35 = .ok (.aload_n 0, 1) := by decide +kernel
theorem dk_0_givenBy_36 : decode bk_0_givenBy 36 = .ok (.aload_n 0, 1) := by decide +kernel
theorem dk_0_givenBy_37 : decode bk_0_givenBy 37 = .ok (.getfield 47, 3) := by decide +kernel
theorem dk_0_givenBy_40 : decode bk_0_givenBy 40 = .ok (.getfield 289, 3) := by decide +kernel
theorem dk_0_givenBy_43 : decode bk_0_givenBy 43 = .ok (.iload_n 1, 1) := by decide +kernel
theorem dk_0_givenBy_44 : decode bk_0_givenBy 44 = .ok (.iaload, 1) := by decide +kernel
theorem dk_0_givenBy_45 : decode bk_0_givenBy 45 = .ok (.lload_n 2, 1) := by decide +kernel
theorem dk_0_givenBy_46 : decode bk_0_givenBy 46 = .ok (.iload 4, 2) := by decide +kernel
theorem dk_0_givenBy_48 : decode bk_0_givenBy 48 = .ok (.iconst 1, 1) := by decide +kernel
theorem dk_0_givenBy_49 : decode bk_0_givenBy 49 = .ok (.iadd, 1) := by decide +kernel
theorem dk_0_givenBy_50 : decode bk_0_givenBy 50 = .ok (.invokevirtual 180, 3) := by decide +kernel
theorem dk_0_givenBy_53 : decode bk_0_givenBy 53 = .ok (.lreturn, 1) := by decide +kernel
theorem dk_0_holdingBranches_0 : decode bk_0_holdingBranches 0 = .ok (.iconst 0, 1) := by decide +kernel
theorem dk_0_holdingBranches_1 : decode bk_0_holdingBranches 1 = .ok (.istore 4, 2) := by decide +kernel
theorem dk_0_holdingBranches_3 : decode bk_0_holdingBranches 3 = .ok (.iconst 0, 1) := by decide +kernel
theorem dk_0_holdingBranches_4 : decode bk_0_holdingBranches 4 = .ok (.istore 5, 2) := by decide +kernel
theorem dk_0_holdingBranches_6 : decode bk_0_holdingBranches 6 = .ok (.iload 5, 2) := by decide +kernel
theorem dk_0_holdingBranches_8 : decode bk_0_holdingBranches 8 = .ok (.aload_n 0, 1) := by decide +kernel
theorem dk_0_holdingBranches_9 : decode bk_0_holdingBranches 9 = .ok (.getfield 47, 3) := by decide +kernel
theorem dk_0_holdingBranches_12 : decode bk_0_holdingBranches 12 = .ok (.getfield 266, 3) := by decide +kernel
theorem dk_0_holdingBranches_15 : decode bk_0_holdingBranches 15 = .ok (.iload_n 1, 1) := by decide +kernel
theorem dk_0_holdingBranches_16 : decode bk_0_holdingBranches 16 = .ok (.iaload, 1) := by decide +kernel
theorem dk_0_holdingBranches_17 : decode bk_0_holdingBranches 17 = .ok (.if_icmp .ge 36, 3) := by decide +kernel
theorem dk_0_holdingBranches_20 : decode bk_0_holdingBranches 20 = .ok (.aload_n 0, 1) := by decide +kernel
theorem dk_0_holdingBranches_21 : decode bk_0_holdingBranches 21 = .ok (.aload_n 0, 1) := by decide +kernel
theorem dk_0_holdingBranches_22 : decode bk_0_holdingBranches 22 = .ok (.getfield 47, 3) := by decide +kernel
theorem dk_0_holdingBranches_25 : decode bk_0_holdingBranches 25 = .ok (.iload_n 1, 1) := by decide +kernel
theorem dk_0_holdingBranches_26 : decode bk_0_holdingBranches 26 = .ok (.iload 5, 2) := by decide +kernel
theorem dk_0_holdingBranches_28 : decode bk_0_holdingBranches 28 = .ok (.invokevirtual 292, 3) := by decide +kernel
theorem dk_0_holdingBranches_31 : decode bk_0_holdingBranches 31 = .ok (.lload_n 2, 1) := by decide +kernel
theorem dk_0_holdingBranches_32 : decode bk_0_holdingBranches 32 = .ok (.invokevirtual 176, 3) := by decide +kernel
theorem dk_0_holdingBranches_35 : decode bk_0_holdingBranches 35 = .ok (.ifCond .eq 12, 3) := by decide +kernel
theorem dk_0_holdingBranches_38 : decode bk_0_holdingBranches 38 = .ok (.iload 4, 2) := by decide +kernel
theorem dk_0_holdingBranches_40 : decode bk_0_holdingBranches 40 = .ok (.iconst 1, 1) := by decide +kernel
theorem dk_0_holdingBranches_41 : decode bk_0_holdingBranches 41 = .ok (.iload 5, 2) := by decide +kernel
theorem dk_0_holdingBranches_43 : decode bk_0_holdingBranches 43 = .ok (.ishl, 1) := by decide +kernel
theorem dk_0_holdingBranches_44 : decode bk_0_holdingBranches 44 = .ok (.ior, 1) := by decide +kernel
theorem dk_0_holdingBranches_45 : decode bk_0_holdingBranches 45 = .ok (.istore 4, 2) := by decide +kernel
theorem dk_0_holdingBranches_47 : decode bk_0_holdingBranches 47 = .ok (.iinc 5 1, 3) := by decide +kernel
theorem dk_0_holdingBranches_50 : decode bk_0_holdingBranches 50 = .ok (.goto (-44), 3) := by decide +kernel
theorem dk_0_holdingBranches_53 : decode bk_0_holdingBranches 53 = .ok (.iload 4, 2) := by decide +kernel
theorem dk_0_holdingBranches_55 : decode bk_0_holdingBranches 55 = .ok (.ireturn, 1) := by decide +kernel
end
section
theorem dk_0_mostSpecialBranches_0 : decode bk_0_mostSpecialBranches 0 = .ok (.iconst 0, 1) := by decide +kernel
theorem dk_0_mostSpecialBranches_1 : decode bk_0_mostSpecialBranches 1 = .ok (.istore_n 3, 1) := by decide +kernel
theorem dk_0_mostSpecialBranches_2 : decode bk_0_mostSpecialBranches 2 = .ok (.iconst 0, 1) := by decide +kernel
theorem dk_0_mostSpecialBranches_3 : decode bk_0_mostSpecialBranches 3 = .ok (.istore 4, 2) := by decide +kernel
theorem dk_0_mostSpecialBranches_5 : decode bk_0_mostSpecialBranches 5 = .ok (.iload 4, 2) := by decide +kernel
theorem dk_0_mostSpecialBranches_7 : decode bk_0_mostSpecialBranches 7 = .ok (.aload_n 0, 1) := by decide +kernel
theorem dk_0_mostSpecialBranches_8 : decode bk_0_mostSpecialBranches 8 = .ok (.getfield 47, 3) := by decide +kernel
theorem dk_0_mostSpecialBranches_11 : decode bk_0_mostSpecialBranches 11 = .ok (.getfield 266, 3) := by decide +kernel
theorem dk_0_mostSpecialBranches_14 : decode bk_0_mostSpecialBranches 14 = .ok (.iload_n 1, 1) := by decide +kernel
theorem dk_0_mostSpecialBranches_15 : decode bk_0_mostSpecialBranches 15 = .ok (.iaload, 1) := by decide +kernel
theorem dk_0_mostSpecialBranches_16 : decode bk_0_mostSpecialBranches 16 = .ok (.if_icmp .ge 36, 3) := by decide +kernel
theorem dk_0_mostSpecialBranches_19 : decode bk_0_mostSpecialBranches 19 = .ok (.iload_n 2, 1) := by decide +kernel
theorem dk_0_mostSpecialBranches_20 : decode bk_0_mostSpecialBranches 20 = .ok (.iload 4, 2) := by decide +kernel
theorem dk_0_mostSpecialBranches_22 : decode bk_0_mostSpecialBranches 22 = .ok (.invokestatic 269, 3) := by decide +kernel
theorem dk_0_mostSpecialBranches_25 : decode bk_0_mostSpecialBranches 25 = .ok (.ifCond .eq 21, 3) := by decide +kernel
theorem dk_0_mostSpecialBranches_28 : decode bk_0_mostSpecialBranches 28 = .ok (.aload_n 0, 1) := by decide +kernel
theorem dk_0_mostSpecialBranches_29 : decode bk_0_mostSpecialBranches 29 = .ok (.iload_n 1, 1) := by decide +kernel
theorem dk_0_mostSpecialBranches_30 : decode bk_0_mostSpecialBranches 30 = .ok (.iload 4, 2) := by decide +kernel
theorem dk_0_mostSpecialBranches_32 : decode bk_0_mostSpecialBranches 32 = .ok (.iload_n 2, 1) := by decide +kernel
theorem dk_0_mostSpecialBranches_33 : decode bk_0_mostSpecialBranches 33 = .ok (.invokevirtual 295, 3) := by decide +kernel
theorem dk_0_mostSpecialBranches_36 : decode bk_0_mostSpecialBranches 36 = .ok (.ifCond .ne 10, 3) := by decide +kernel
theorem dk_0_mostSpecialBranches_39 : decode bk_0_mostSpecialBranches 39 = .ok (.iload_n 3, 1) := by decide +kernel
theorem dk_0_mostSpecialBranches_40 : decode bk_0_mostSpecialBranches 40 = .ok (.iconst 1, 1) := by decide +kernel
theorem dk_0_mostSpecialBranches_41 : decode bk_0_mostSpecialBranches 41 = .ok (.iload 4, 2) := by decide +kernel
theorem dk_0_mostSpecialBranches_43 : decode bk_0_mostSpecialBranches 43 = .ok (.ishl, 1) := by decide +kernel
theorem dk_0_mostSpecialBranches_44 : decode bk_0_mostSpecialBranches 44 = .ok (.ior, 1) := by decide +kernel
theorem dk_0_mostSpecialBranches_45 : decode bk_0_mostSpecialBranches 45 = .ok (.istore_n 3, 1) := by decide +kernel
theorem dk_0_mostSpecialBranches_46 : decode bk_0_mostSpecialBranches 46 = .ok (.iinc 4 1, 3) := by decide +kernel
theorem dk_0_mostSpecialBranches_49 : decode bk_0_mostSpecialBranches 49 = .ok (.goto (-44), 3) := by decide +kernel
theorem dk_0_mostSpecialBranches_52 : decode bk_0_mostSpecialBranches 52 = .ok (.iload_n 3, 1) := by decide +kernel
theorem dk_0_mostSpecialBranches_53 : decode bk_0_mostSpecialBranches 53 = .ok (.ireturn, 1) := by decide +kernel
theorem dk_0_isOutdone_0 : decode bk_0_isOutdone 0 = .ok (.aload_n 0, 1) := by decide +kernel
theorem dk_0_isOutdone_1 : decode bk_0_isOutdone 1 = .ok (.aload_n 0, 1) := by decide +kernel
theorem dk_0_isOutdone_2 : decode bk_0_isOutdone 2 = .ok (.getfield 47, 3) := by decide +kernel
theorem dk_0_isOutdone_5 : decode bk_0_isOutdone 5 = .ok (.iload_n 1, 1) := by decide +kernel
theorem dk_0_isOutdone_6 : decode bk_0_isOutdone 6 = .ok (.iload_n 2, 1) := by decide +kernel
theorem dk_0_isOutdone_7 : decode bk_0_isOutdone 7 = .ok (.invokevirtual 292, 3) := by decide +kernel
theorem dk_0_isOutdone_10 : decode bk_0_isOutdone 10 = .ok (.invokevirtual 298, 3) := by decide +kernel
theorem dk_0_isOutdone_13 : decode bk_0_isOutdone 13 = .ok (.istore 4, 2) := by decide +kernel
theorem dk_0_isOutdone_15 : decode bk_0_isOutdone 15 = .ok (.iconst 0, 1) := by decide +kernel
theorem dk_0_isOutdone_16 : decode bk_0_isOutdone 16 = .ok (.istore 5, 2) := by decide +kernel
theorem dk_0_isOutdone_18 : decode bk_0_isOutdone 18 = .ok (.iload 5, 2) := by decide +kernel
theorem dk_0_isOutdone_20 : decode bk_0_isOutdone 20 = .ok (.aload_n 0, 1) := by decide +kernel
theorem dk_0_isOutdone_21 : decode bk_0_isOutdone 21 = .ok (.getfield 47, 3) := by decide +kernel
theorem dk_0_isOutdone_24 : decode bk_0_isOutdone 24 = .ok (.getfield 266, 3) := by decide +kernel
theorem dk_0_isOutdone_27 : decode bk_0_isOutdone 27 = .ok (.iload_n 1, 1) := by decide +kernel
theorem dk_0_isOutdone_28 : decode bk_0_isOutdone 28 = .ok (.iaload, 1) := by decide +kernel
theorem dk_0_isOutdone_29 : decode bk_0_isOutdone 29 = .ok (.if_icmp .ge 53, 3) := by decide +kernel
theorem dk_0_isOutdone_32 : decode bk_0_isOutdone 32 = .ok (.iload_n 3, 1) := by decide +kernel
theorem dk_0_isOutdone_33 : decode bk_0_isOutdone 33 = .ok (.iload 5, 2) := by decide +kernel
theorem dk_0_isOutdone_35 : decode bk_0_isOutdone 35 = .ok (.invokestatic 269, 3) := by decide +kernel
theorem dk_0_isOutdone_38 : decode bk_0_isOutdone 38 = .ok (.ifCond .eq 38, 3) := by decide +kernel
theorem dk_0_isOutdone_41 : decode bk_0_isOutdone 41 = .ok (.aload_n 0, 1) := by decide +kernel
theorem dk_0_isOutdone_42 : decode bk_0_isOutdone 42 = .ok (.aload_n 0, 1) := by decide +kernel
theorem dk_0_isOutdone_43 : decode bk_0_isOutdone 43 = .ok (.getfield 47, 3) := by decide +kernel
theorem dk_0_isOutdone_46 : decode bk_0_isOutdone 46 = .ok (.iload_n 1, 1) := by decide +kernel
theorem dk_0_isOutdone_47 : decode bk_0_isOutdone 47 = .ok (.iload 5, 2) := by decide +kernel
theorem dk_0_isOutdone_49 : decode bk_0_isOutdone 49 = .ok (.invokevirtual 292, 3) := by decide +kernel
theorem dk_0_isOutdone_52 : decode bk_0_isOutdone 52 = .ok (.invokevirtual 298, 3) := by decide +kernel
theorem dk_0_isOutdone_55 : decode bk_0_isOutdone 55 = .ok (.istore 6, 2) := by decide +kernel
theorem dk_0_isOutdone_57 : decode bk_0_isOutdone 57 = .ok (.iload 6, 2) := by decide +kernel
theorem dk_0_isOutdone_59 : decode bk_0_isOutdone 59 = .ok (.iload 4, 2) := by decide +kernel
theorem dk_0_isOutdone_61 : decode bk_0_isOutdone 61 = .ok (.if_icmp .eq 15, 3) := by decide +kernel
theorem dk_0_isOutdone_64 : decode bk_0_isOutdone 64 = .ok (.iload 6, 2) := by decide +kernel
theorem dk_0_isOutdone_66 : decode bk_0_isOutdone 66 = .ok (.iload 4, 2) := by decide +kernel
theorem dk_0_isOutdone_68 : decode bk_0_isOutdone 68 = .ok (.iand, 1) := by decide +kernel
theorem dk_0_isOutdone_69 : decode bk_0_isOutdone 69 = .ok (.iload 4, 2) := by decide +kernel
theorem dk_0_isOutdone_71 : decode bk_0_isOutdone 71 = .ok (.if_icmp .ne 5, 3) := by decide +kernel
theorem dk_0_isOutdone_74 : decode bk_0_isOutdone 74 = .ok (.iconst 1, 1) := by decide +kernel
theorem dk_0_isOutdone_75 : decode bk_0_isOutdone 75 = .ok (.ireturn, 1) := by decide +kernel
theorem dk_0_isOutdone_76 : decode bk_0_isOutdone 76 = .ok (.iinc 5 1, 3) := by decide +kernel
theorem dk_0_isOutdone_79 : decode bk_0_isOutdone 79 = .ok (.goto (-61), 3) := by decide +kernel
theorem dk_0_isOutdone_82 : decode bk_0_isOutdone 82 = .ok (.iconst 0, 1) := by decide +kernel
theorem dk_0_isOutdone_83 : decode bk_0_isOutdone 83 = .ok (.ireturn, 1) := by decide +kernel
theorem dk_0_findWhatTargetsRead_0 : decode bk_0_findWhatTargetsRead 0 = .ok (.iconst 0, 1) := by decide +kernel
theorem dk_0_findWhatTargetsRead_1 : decode bk_0_findWhatTargetsRead 1 = .ok (.istore_n 1, 1) := by decide +kernel
theorem dk_0_findWhatTargetsRead_2 : decode bk_0_findWhatTargetsRead 2 = .ok (.iload_n 1, 1) := by decide +kernel
theorem dk_0_findWhatTargetsRead_3 : decode bk_0_findWhatTargetsRead 3 = .ok (.aload_n 0, 1) := by decide +kernel
theorem dk_0_findWhatTargetsRead_4 : decode bk_0_findWhatTargetsRead 4 = .ok (.getfield 40, 3) := by decide +kernel
theorem dk_0_findWhatTargetsRead_7 : decode bk_0_findWhatTargetsRead 7 = .ok (.getfield 301, 3) := by decide +kernel
theorem dk_0_findWhatTargetsRead_10 : decode bk_0_findWhatTargetsRead 10 = .ok (.if_icmp .ge 46, 3) := by decide +kernel
theorem dk_0_findWhatTargetsRead_13 : decode bk_0_findWhatTargetsRead 13 = .ok (.aload_n 0, 1) := by decide +kernel
theorem dk_0_findWhatTargetsRead_14 : decode bk_0_findWhatTargetsRead 14 = .ok (.getfield 40, 3) := by decide +kernel
theorem dk_0_findWhatTargetsRead_17 : decode bk_0_findWhatTargetsRead 17 = .ok (.getfield 122, 3) := by decide +kernel
theorem dk_0_findWhatTargetsRead_20 : decode bk_0_findWhatTargetsRead 20 = .ok (.iload_n 1, 1) := by decide +kernel
theorem dk_0_findWhatTargetsRead_21 : decode bk_0_findWhatTargetsRead 21 = .ok (.iaload, 1) := by decide +kernel
theorem dk_0_findWhatTargetsRead_22 : decode bk_0_findWhatTargetsRead 22 = .ok (.istore_n 2, 1) := by decide +kernel
theorem dk_0_findWhatTargetsRead_23 : decode bk_0_findWhatTargetsRead 23 = .ok (.aload_n 0, 1) := by decide +kernel
theorem dk_0_findWhatTargetsRead_24 : decode bk_0_findWhatTargetsRead 24 = .ok (.getfield 40, 3) := by decide +kernel
theorem dk_0_findWhatTargetsRead_27 : decode bk_0_findWhatTargetsRead 27 = .ok (.getfield 207, 3) := by decide +kernel
theorem dk_0_findWhatTargetsRead_30 : decode bk_0_findWhatTargetsRead 30 = .ok (.iload_n 1, 1) := by decide +kernel
theorem dk_0_findWhatTargetsRead_31 : decode bk_0_findWhatTargetsRead 31 = .ok (.iload_n 2, 1) := by decide +kernel
theorem dk_0_findWhatTargetsRead_32 : decode bk_0_findWhatTargetsRead 32 = .ok (.iconst (-1), 1) := by decide +kernel
theorem dk_0_findWhatTargetsRead_33 : decode bk_0_findWhatTargetsRead 33 = .ok (.if_icmp .ne 7, 3) := by decide +kernel
theorem dk_0_findWhatTargetsRead_36 : decode bk_0_findWhatTargetsRead 36 = .ok (.iconst 0, 1) := by decide +kernel
theorem dk_0_findWhatTargetsRead_37 : decode bk_0_findWhatTargetsRead 37 = .ok (.goto 12, 3) := by decide +kernel
theorem dk_0_findWhatTargetsRead_40 : decode bk_0_findWhatTargetsRead 40 = .ok (.aload_n 0, 1) := by decide +kernel
theorem dk_0_findWhatTargetsRead_41 : decode bk_0_findWhatTargetsRead 41 = .ok (.iload_n 2, 1) := by decide +kernel
theorem dk_0_findWhatTargetsRead_42 : decode bk_0_findWhatTargetsRead 42 = .ok (.invokevirtual 298, 3) := by decide +kernel
theorem dk_0_findWhatTargetsRead_45 : decode bk_0_findWhatTargetsRead 45 = .ok (.ldc_w 302, 3) := by decide +kernel
theorem dk_0_findWhatTargetsRead_48 : decode bk_0_findWhatTargetsRead 48 = .ok (.iand, 1) := by decide +kernel
theorem dk_0_findWhatTargetsRead_49 : decode bk_0_findWhatTargetsRead 49 = .ok (.iastore, 1) := by decide +kernel
theorem dk_0_findWhatTargetsRead_50 : decode bk_0_findWhatTargetsRead 50 = .ok (.iinc 1 1, 3) := by decide +kernel
theorem dk_0_findWhatTargetsRead_53 : decode bk_0_findWhatTargetsRead 53 = .ok (.goto (-51), 3) := by decide +kernel
theorem dk_0_findWhatTargetsRead_56 : decode bk_0_findWhatTargetsRead 56 = .ok (.iconst 0, 1) := by decide +kernel
theorem dk_0_findWhatTargetsRead_57 : decode bk_0_findWhatTargetsRead 57 = .ok (.istore_n 1, 1) := by decide +kernel
theorem dk_0_findWhatTargetsRead_58 : decode bk_0_findWhatTargetsRead 58 = .ok (.iload_n 1, 1) := by decide +kernel
theorem dk_0_findWhatTargetsRead_59 : decode bk_0_findWhatTargetsRead 59 = .ok (.aload_n 0, 1) := by decide +kernel
theorem dk_0_findWhatTargetsRead_60 : decode bk_0_findWhatTargetsRead 60 = .ok (.getfield 47, 3) := by decide +kernel
theorem dk_0_findWhatTargetsRead_63 : decode bk_0_findWhatTargetsRead 63 = .ok (.getfield 303, 3) := by decide +kernel
theorem dk_0_findWhatTargetsRead_66 : decode bk_0_findWhatTargetsRead 66 = .ok (.if_icmp .ge 69, 3) := by decide +kernel
theorem dk_0_findWhatTargetsRead_69 : decode bk_0_findWhatTargetsRead 69 = .ok (.iconst 0, 1) := by decide +kernel
theorem dk_0_findWhatTargetsRead_70 : decode bk_0_findWhatTargetsRead 70 = .ok (.istore_n 2, 1) := by decide +kernel
theorem dk_0_findWhatTargetsRead_71 : decode bk_0_findWhatTargetsRead 71 = .ok (.iload_n 2, 1) := by decide +kernel
theorem dk_0_findWhatTargetsRead_72 : decode bk_0_findWhatTargetsRead 72 = .ok (.aload_n 0, 1) := by decide +kernel
theorem dk_0_findWhatTargetsRead_73 : decode bk_0_findWhatTargetsRead 73 = .ok (.getfield 47, 3) := by decide +kernel
theorem dk_0_findWhatTargetsRead_76 : decode bk_0_findWhatTargetsRead 76 = .ok (.getfield 266, 3) := by decide +kernel
theorem dk_0_findWhatTargetsRead_79 : decode bk_0_findWhatTargetsRead 79 = .ok (.iload_n 1, 1) := by decide +kernel
theorem dk_0_findWhatTargetsRead_80 : decode bk_0_findWhatTargetsRead 80 = .ok (.iaload, 1) := by decide +kernel
theorem dk_0_findWhatTargetsRead_81 : decode bk_0_findWhatTargetsRead 81 = .ok (.if_icmp .ge 48, 3) := by decide +kernel
theorem dk_0_findWhatTargetsRead_84 : decode bk_0_findWhatTargetsRead 84 = .ok (.aload_n 0, 1) := by decide +kernel
theorem dk_0_findWhatTargetsRead_85 : decode bk_0_findWhatTargetsRead 85 = .ok (.aload_n 0, 1) := by decide +kernel
theorem dk_0_findWhatTargetsRead_86 : decode bk_0_findWhatTargetsRead 86 = .ok (.getfield 47, 3) := by decide +kernel
theorem dk_0_findWhatTargetsRead_89 : decode bk_0_findWhatTargetsRead 89 = .ok (.iload_n 1, 1) := by decide +kernel
theorem dk_0_findWhatTargetsRead_90 : decode bk_0_findWhatTargetsRead 90 = .ok (.iload_n 2, 1) := by decide +kernel
theorem dk_0_findWhatTargetsRead_91 : decode bk_0_findWhatTargetsRead 91 = .ok (.invokevirtual 292, 3) := by decide +kernel
theorem dk_0_findWhatTargetsRead_94 : decode bk_0_findWhatTargetsRead 94 = .ok (.invokevirtual 298, 3) := by decide +kernel
theorem dk_0_findWhatTargetsRead_97 : decode bk_0_findWhatTargetsRead 97 = .ok (.istore_n 3, 1) := by decide +kernel
theorem dk_0_findWhatTargetsRead_98 : decode bk_0_findWhatTargetsRead 98 = .ok (.aload_n 0, 1) := by decide +kernel
theorem dk_0_findWhatTargetsRead_99 : decode bk_0_findWhatTargetsRead 99 = .ok (.getfield 40, 3) := by decide +kernel
theorem dk_0_findWhatTargetsRead_102 : decode bk_0_findWhatTargetsRead 102 = .ok (.getfield 207, 3) := by decide +kernel
theorem dk_0_findWhatTargetsRead_105 : decode bk_0_findWhatTargetsRead 105 = .ok (.aload_n 0, 1) := by decide +kernel
theorem dk_0_findWhatTargetsRead_106 : decode bk_0_findWhatTargetsRead 106 = .ok (.getfield 47, 3) := by decide +kernel
theorem dk_0_findWhatTargetsRead_109 : decode bk_0_findWhatTargetsRead 109 = .ok (.getfield 304, 3) := by decide +kernel
theorem dk_0_findWhatTargetsRead_112 : decode bk_0_findWhatTargetsRead 112 = .ok (.iload_n 1, 1) := by decide +kernel
theorem dk_0_findWhatTargetsRead_113 : decode bk_0_findWhatTargetsRead 113 = .ok (.iaload, 1) := by decide +kernel
theorem dk_0_findWhatTargetsRead_114 : decode bk_0_findWhatTargetsRead 114 = .ok (.dup2, 1) := by decide +kernel
theorem dk_0_findWhatTargetsRead_115 : decode bk_0_findWhatTargetsRead 115 = .ok (.iaload, 1) := by decide +kernel
theorem dk_0_findWhatTargetsRead_116 : decode bk_0_findWhatTargetsRead 116 = .ok (.iload_n 3, 1) := by decide +kernel
theorem dk_0_findWhatTargetsRead_117 : decode bk_0_findWhatTargetsRead 117 = .ok (.ldc_w 302, 3) := by decide +kernel
theorem dk_0_findWhatTargetsRead_120 : decode bk_0_findWhatTargetsRead 120 = .ok (.iand, 1) := by decide +kernel
theorem dk_0_findWhatTargetsRead_121 : decode bk_0_findWhatTargetsRead 121 = .ok (.ior, 1) := by decide +kernel
theorem dk_0_findWhatTargetsRead_122 : decode bk_0_findWhatTargetsRead 122 = .ok (.iastore, 1) := by decide +kernel
theorem dk_0_findWhatTargetsRead_123 : decode bk_0_findWhatTargetsRead 123 = .ok (.iinc 2 1, 3) := by decide +kernel
theorem dk_0_findWhatTargetsRead_126 : decode bk_0_findWhatTargetsRead 126 = .ok (.goto (-55), 3) := by decide +kernel
theorem dk_0_findWhatTargetsRead_129 : decode bk_0_findWhatTargetsRead 129 = .ok (.iinc 1 1, 3) := by decide +kernel
theorem dk_0_findWhatTargetsRead_132 : decode bk_0_findWhatTargetsRead 132 = .ok (.goto (-74), 3) := by decide +kernel
theorem dk_0_findWhatTargetsRead_135 : decode bk_0_findWhatTargetsRead 135 = .ok (.iconst 0, 1) := by decide +kernel
theorem dk_0_findWhatTargetsRead_136 : decode bk_0_findWhatTargetsRead 136 = .ok (.istore_n 1, 1) := by decide +kernel
theorem dk_0_findWhatTargetsRead_137 : decode bk_0_findWhatTargetsRead 137 = .ok (.iload_n 1, 1) := by decide +kernel
theorem dk_0_findWhatTargetsRead_138 : decode bk_0_findWhatTargetsRead 138 = .ok (.bipush 16, 2) := by decide +kernel
theorem dk_0_findWhatTargetsRead_140 : decode bk_0_findWhatTargetsRead 140 = .ok (.if_icmp .ge 65, 3) := by decide +kernel
theorem dk_0_findWhatTargetsRead_143 : decode bk_0_findWhatTargetsRead 143 = .ok (.iconst 0, 1) := by decide +kernel
theorem dk_0_findWhatTargetsRead_144 : decode bk_0_findWhatTargetsRead 144 = .ok (.istore_n 2, 1) := by decide +kernel
theorem dk_0_findWhatTargetsRead_145 : decode bk_0_findWhatTargetsRead 145 = .ok (.iload_n 2, 1) := by decide +kernel
theorem dk_0_findWhatTargetsRead_146 : decode bk_0_findWhatTargetsRead 146 = .ok (.aload_n 0, 1) := by decide +kernel
theorem dk_0_findWhatTargetsRead_147 : decode bk_0_findWhatTargetsRead 147 = .ok (.getfield 54, 3) := by decide +kernel
theorem dk_0_findWhatTargetsRead_150 : decode bk_0_findWhatTargetsRead 150 = .ok (.getfield 305, 3) := by decide +kernel
theorem dk_0_findWhatTargetsRead_153 : decode bk_0_findWhatTargetsRead 153 = .ok (.if_icmp .ge 46, 3) := by decide +kernel
theorem dk_0_findWhatTargetsRead_156 : decode bk_0_findWhatTargetsRead 156 = .ok (.aload_n 0, 1) := by decide +kernel
theorem dk_0_findWhatTargetsRead_157 : decode bk_0_findWhatTargetsRead 157 = .ok (.getfield 40, 3) := by decide +kernel
theorem dk_0_findWhatTargetsRead_160 : decode bk_0_findWhatTargetsRead 160 = .ok (.getfield 207, 3) := by decide +kernel
theorem dk_0_findWhatTargetsRead_163 : decode bk_0_findWhatTargetsRead 163 = .ok (.aload_n 0, 1) := by decide +kernel
theorem dk_0_findWhatTargetsRead_164 : decode bk_0_findWhatTargetsRead 164 = .ok (.getfield 54, 3) := by decide +kernel
theorem dk_0_findWhatTargetsRead_167 : decode bk_0_findWhatTargetsRead 167 = .ok (.getfield 306, 3) := by decide +kernel
theorem dk_0_findWhatTargetsRead_170 : decode bk_0_findWhatTargetsRead 170 = .ok (.iload_n 2, 1) := by decide +kernel
theorem dk_0_findWhatTargetsRead_171 : decode bk_0_findWhatTargetsRead 171 = .ok (.iaload, 1) := by decide +kernel
theorem dk_0_findWhatTargetsRead_172 : decode bk_0_findWhatTargetsRead 172 = .ok (.dup2, 1) := by decide +kernel
theorem dk_0_findWhatTargetsRead_173 : decode bk_0_findWhatTargetsRead 173 = .ok (.iaload, 1) := by decide +kernel
theorem dk_0_findWhatTargetsRead_174 : decode bk_0_findWhatTargetsRead 174 = .ok (.aload_n 0, 1) := by decide +kernel
theorem dk_0_findWhatTargetsRead_175 : decode bk_0_findWhatTargetsRead 175 = .ok (.getfield 40, 3) := by decide +kernel
theorem dk_0_findWhatTargetsRead_178 : decode bk_0_findWhatTargetsRead 178 = .ok (.getfield 207, 3) := by decide +kernel
theorem dk_0_findWhatTargetsRead_181 : decode bk_0_findWhatTargetsRead 181 = .ok (.aload_n 0, 1) := by decide +kernel
theorem dk_0_findWhatTargetsRead_182 : decode bk_0_findWhatTargetsRead 182 = .ok (.getfield 54, 3) := by decide +kernel
theorem dk_0_findWhatTargetsRead_185 : decode bk_0_findWhatTargetsRead 185 = .ok (.getfield 307, 3) := by decide +kernel
theorem dk_0_findWhatTargetsRead_188 : decode bk_0_findWhatTargetsRead 188 = .ok (.iload_n 2, 1) := by decide +kernel
theorem dk_0_findWhatTargetsRead_189 : decode bk_0_findWhatTargetsRead 189 = .ok (.iaload, 1) := by decide +kernel
theorem dk_0_findWhatTargetsRead_190 : decode bk_0_findWhatTargetsRead 190 = .ok (.iaload, 1) := by decide +kernel
theorem dk_0_findWhatTargetsRead_191 : decode bk_0_findWhatTargetsRead 191 = .ok (.ior, 1) := by decide +kernel
theorem dk_0_findWhatTargetsRead_192 : decode bk_0_findWhatTargetsRead 192 = .ok (.iastore, 1) := by decide +kernel
theorem dk_0_findWhatTargetsRead_193 : decode bk_0_findWhatTargetsRead 193 = .ok (.iinc 2 1, 3) := by decide +kernel
theorem dk_0_findWhatTargetsRead_196 : decode bk_0_findWhatTargetsRead 196 = .ok (.goto (-51), 3) := by decide +kernel
theorem dk_0_findWhatTargetsRead_199 : decode bk_0_findWhatTargetsRead 199 = .ok (.iinc 1 1, 3) := by decide +kernel
theorem dk_0_findWhatTargetsRead_202 : decode bk_0_findWhatTargetsRead 202 = .ok (.goto (-65), 3) := by decide +kernel
theorem dk_0_findWhatTargetsRead_205 : decode bk_0_findWhatTargetsRead 205 = .ok (.return_, 1) := by decide +kernel
theorem dk_0_trimmed_0 : decode bk_0_trimmed 0 = .ok (.lload_n 1, 1) := by decide +kernel
theorem dk_0_trimmed_1 : decode bk_0_trimmed 1 = .ok (.lstore 4, 2) := by decide +kernel
theorem dk_0_trimmed_3 : decode bk_0_trimmed 3 = .ok (.iconst 0, 1) := by decide +kernel
theorem dk_0_trimmed_4 : decode bk_0_trimmed 4 = .ok (.istore 6, 2) := by decide +kernel
theorem dk_0_trimmed_6 : decode bk_0_trimmed 6 = .ok (.iload 6, 2) := by decide +kernel
theorem dk_0_trimmed_8 : decode bk_0_trimmed 8 = .ok (.aload_n 0, 1) := by decide +kernel
theorem dk_0_trimmed_9 : decode bk_0_trimmed 9 = .ok (.getfield 12, 3) := by decide +kernel
theorem dk_0_trimmed_12 : decode bk_0_trimmed 12 = .ok (.getfield 310, 3) := by decide +kernel
theorem dk_0_trimmed_15 : decode bk_0_trimmed 15 = .ok (.if_icmp .ge 37, 3) := by decide +kernel
theorem dk_0_trimmed_18 : decode bk_0_trimmed 18 = .ok (.iload_n 3, 1) := by decide +kernel
theorem dk_0_trimmed_19 : decode bk_0_trimmed 19 = .ok (.iload 6, 2) := by decide +kernel
theorem dk_0_trimmed_21 : decode bk_0_trimmed 21 = .ok (.invokestatic 269, 3) := by decide +kernel
theorem dk_0_trimmed_24 : decode bk_0_trimmed 24 = .ok (.ifCond .ne 22, 3) := by decide +kernel
theorem dk_0_trimmed_27 : decode bk_0_trimmed 27 = .ok (.lload 4, 2) := by decide +kernel
theorem dk_0_trimmed_29 : decode bk_0_trimmed 29 = .ok (.iload 6, 2) := by decide +kernel
theorem dk_0_trimmed_31 : decode bk_0_trimmed 31 = .ok (.aload_n 0, 1) := by decide +kernel
theorem dk_0_trimmed_32 : decode bk_0_trimmed 32 = .ok (.getfield 12, 3) := by decide +kernel
theorem dk_0_trimmed_35 : decode bk_0_trimmed 35 = .ok (.getfield 311, 3) := by decide +kernel
theorem dk_0_trimmed_38 : decode bk_0_trimmed 38 = .ok (.iload 6, 2) := by decide +kernel
theorem dk_0_trimmed_40 : decode bk_0_trimmed 40 = .ok (.iaload, 1) := by decide +kernel
theorem dk_0_trimmed_41 : decode bk_0_trimmed 41 = .ok (.invokestatic 168, 3) := by decide +kernel
theorem dk_0_trimmed_44 : decode bk_0_trimmed 44 = .ok (.lstore 4, 2) := by decide +kernel
theorem dk_0_trimmed_46 : decode bk_0_trimmed 46 = .ok (.iinc 6 1, 3) := by decide +kernel
theorem dk_0_trimmed_49 : decode bk_0_trimmed 49 = .ok (.goto (-43), 3) := by decide +kernel
theorem dk_0_trimmed_52 : decode bk_0_trimmed 52 = .ok (.lload 4, 2) := by decide +kernel
theorem dk_0_trimmed_54 : decode bk_0_trimmed 54 = .ok (.lreturn, 1) := by decide +kernel
theorem dk_0_findPairs_0 : decode bk_0_findPairs 0 = .ok (.aload_n 0, 1) := by decide +kernel
theorem dk_0_findPairs_1 : decode bk_0_findPairs 1 = .ok (.iload_n 1, 1) := by decide +kernel
theorem dk_0_findPairs_2 : decode bk_0_findPairs 2 = .ok (.lload_n 2, 1) := by decide +kernel
theorem dk_0_findPairs_3 : decode bk_0_findPairs 3 = .ok (.invokevirtual 314, 3) := by decide +kernel
theorem dk_0_findPairs_6 : decode bk_0_findPairs 6 = .ok (.iconst (-1), 1) := by decide +kernel
theorem dk_0_findPairs_7 : decode bk_0_findPairs 7 = .ok (.if_icmp .ne 5, 3) := by decide +kernel
theorem dk_0_findPairs_10 : decode bk_0_findPairs 10 = .ok (.iconst 0, 1) := by decide +kernel
theorem dk_0_findPairs_11 : decode bk_0_findPairs 11 = .ok (.ireturn, 1) := by decide +kernel
theorem dk_0_findPairs_12 : decode bk_0_findPairs 12 = .ok (.iconst 0, 1) := by decide +kernel
theorem dk_0_findPairs_13 : decode bk_0_findPairs 13 = .ok (.istore 4, 2) := by decide +kernel
theorem dk_0_findPairs_15 : decode bk_0_findPairs 15 = .ok (.iload 4, 2) := by decide +kernel
theorem dk_0_findPairs_17 : decode bk_0_findPairs 17 = .ok (.bipush 60, 2) := by decide +kernel
theorem dk_0_findPairs_19 : decode bk_0_findPairs 19 = .ok (.if_icmp .ge 78, 3) := by decide +kernel
theorem dk_0_findPairs_22 : decode bk_0_findPairs 22 = .ok (.iload 4, 2) := by decide +kernel
theorem dk_0_findPairs_24 : decode bk_0_findPairs 24 = .ok (.aload_n 0, 1) := by decide +kernel
theorem dk_0_findPairs_25 : decode bk_0_findPairs 25 = .ok (.getfield 61, 3) := by decide +kernel
theorem dk_0_findPairs_28 : decode bk_0_findPairs 28 = .ok (.getfield 222, 3) := by decide +kernel
theorem dk_0_findPairs_31 : decode bk_0_findPairs 31 = .ok (.if_icmp .ge 66, 3) := by decide +kernel
theorem dk_0_findPairs_34 : decode bk_0_findPairs 34 = .ok (.iconst 0, 1) := by decide +kernel
theorem dk_0_findPairs_35 : decode bk_0_findPairs 35 = .ok (.istore 5, 2) := by decide +kernel
theorem dk_0_findPairs_37 : decode bk_0_findPairs 37 = .ok (.iload 5, 2) := by decide +kernel
theorem dk_0_findPairs_39 : decode bk_0_findPairs 39 = .ok (.aload_n 0, 1) := by decide +kernel
theorem dk_0_findPairs_40 : decode bk_0_findPairs 40 = .ok (.getfield 54, 3) := by decide +kernel
theorem dk_0_findPairs_43 : decode bk_0_findPairs 43 = .ok (.getfield 305, 3) := by decide +kernel
theorem dk_0_findPairs_46 : decode bk_0_findPairs 46 = .ok (.if_icmp .ge 45, 3) := by decide +kernel
theorem dk_0_findPairs_49 : decode bk_0_findPairs 49 = .ok (.aload_n 0, 1) := by decide +kernel
theorem dk_0_findPairs_50 : decode bk_0_findPairs 50 = .ok (.getfield 54, 3) := by decide +kernel
theorem dk_0_findPairs_53 : decode bk_0_findPairs 53 = .ok (.getfield 306, 3) := by decide +kernel
theorem dk_0_findPairs_56 : decode bk_0_findPairs 56 = .ok (.iload 5, 2) := by decide +kernel
theorem dk_0_findPairs_58 : decode bk_0_findPairs 58 = .ok (.iaload, 1) := by decide +kernel
theorem dk_0_findPairs_59 : decode bk_0_findPairs 59 = .ok (.aload_n 0, 1) := by decide +kernel
theorem dk_0_findPairs_60 : decode bk_0_findPairs 60 = .ok (.getfield 61, 3) := by decide +kernel
theorem dk_0_findPairs_63 : decode bk_0_findPairs 63 = .ok (.getfield 227, 3) := by decide +kernel
theorem dk_0_findPairs_66 : decode bk_0_findPairs 66 = .ok (.iload 4, 2) := by decide +kernel
theorem dk_0_findPairs_68 : decode bk_0_findPairs 68 = .ok (.iaload, 1) := by decide +kernel
theorem dk_0_findPairs_69 : decode bk_0_findPairs 69 = .ok (.if_icmp .ne 16, 3) := by decide +kernel
theorem dk_0_findPairs_72 : decode bk_0_findPairs 72 = .ok (.aload_n 0, 1) := by decide +kernel
theorem dk_0_findPairs_73 : decode bk_0_findPairs 73 = .ok (.iload 4, 2) := by decide +kernel
theorem dk_0_findPairs_75 : decode bk_0_findPairs 75 = .ok (.iload 5, 2) := by decide +kernel
theorem dk_0_findPairs_77 : decode bk_0_findPairs 77 = .ok (.invokevirtual 317, 3) := by decide +kernel
theorem dk_0_findPairs_80 : decode bk_0_findPairs 80 = .ok (.ifCond .ne 5, 3) := by decide +kernel
theorem dk_0_findPairs_83 : decode bk_0_findPairs 83 = .ok (.iconst 0, 1) := by decide +kernel
theorem dk_0_findPairs_84 : decode bk_0_findPairs 84 = .ok (.ireturn, 1) := by decide +kernel
theorem dk_0_findPairs_85 : decode bk_0_findPairs 85 = .ok (.iinc 5 1, 3) := by decide +kernel
theorem dk_0_findPairs_88 : decode bk_0_findPairs 88 = .ok (.goto (-51), 3) := by decide +kernel
theorem dk_0_findPairs_91 : decode bk_0_findPairs 91 = .ok (.iinc 4 1, 3) := by decide +kernel
theorem dk_0_findPairs_94 : decode bk_0_findPairs 94 = .ok (.goto (-79), 3) := by decide +kernel
theorem dk_0_findPairs_97 : decode bk_0_findPairs 97 = .ok (.iconst 1, 1) := by decide +kernel
theorem dk_0_findPairs_98 : decode bk_0_findPairs 98 = .ok (.ireturn, 1) := by decide +kernel
theorem dk_0_followNeed_0 : decode bk_0_followNeed 0 = .ok (.aload_n 0, 1) := by decide +kernel
theorem dk_0_followNeed_1 : decode bk_0_followNeed 1 = .ok (.getfield 26, 3) := by decide +kernel
theorem dk_0_followNeed_4 : decode bk_0_followNeed 4 = .ok (.getfield 165, 3) := by decide +kernel
theorem dk_0_followNeed_7 : decode bk_0_followNeed 7 = .ok (.aload_n 0, 1) := by decide +kernel
theorem dk_0_followNeed_8 : decode bk_0_followNeed 8 = .ok (.getfield 61, 3) := by decide +kernel
theorem dk_0_followNeed_11 : decode bk_0_followNeed 11 = .ok (.getfield 230, 3) := by decide +kernel
theorem dk_0_followNeed_14 : decode bk_0_followNeed 14 = .ok (.iload_n 1, 1) := by decide +kernel
theorem dk_0_followNeed_15 : decode bk_0_followNeed 15 = .ok (.iaload, 1) := by decide +kernel
theorem dk_0_followNeed_16 : decode bk_0_followNeed 16 = .ok (.laload, 1) := by decide +kernel
theorem dk_0_followNeed_17 : decode bk_0_followNeed 17 = .ok (.lstore_n 3, 1) := by decide +kernel
theorem dk_0_followNeed_18 : decode bk_0_followNeed 18 = .ok (.aload_n 0, 1) := by decide +kernel
theorem dk_0_followNeed_19 : decode bk_0_followNeed 19 = .ok (.iload_n 2, 1) := by decide +kernel
theorem dk_0_followNeed_20 : decode bk_0_followNeed 20 = .ok (.iconst 0, 1) := by decide +kernel
theorem dk_0_followNeed_21 : decode bk_0_followNeed 21 = .ok (.invokevirtual 320, 3) := by decide +kernel
theorem dk_0_followNeed_24 : decode bk_0_followNeed 24 = .ok (.istore 5, 2) := by decide +kernel
theorem dk_0_followNeed_26 : decode bk_0_followNeed 26 = .ok (.aload_n 0, 1) := by decide +kernel
theorem dk_0_followNeed_27 : decode bk_0_followNeed 27 = .ok (.iload_n 2, 1) := by decide +kernel
theorem dk_0_followNeed_28 : decode bk_0_followNeed 28 = .ok (.iconst 1, 1) := by decide +kernel
theorem dk_0_followNeed_29 : decode bk_0_followNeed 29 = .ok (.invokevirtual 320, 3) := by decide +kernel
theorem dk_0_followNeed_32 : decode bk_0_followNeed 32 = .ok (.istore 6, 2) := by decide +kernel
theorem dk_0_followNeed_34 : decode bk_0_followNeed 34 = .ok (.aload_n 0, 1) := by decide +kernel
theorem dk_0_followNeed_35 : decode bk_0_followNeed 35 = .ok (.iload_n 2, 1) := by decide +kernel
theorem dk_0_followNeed_36 : decode bk_0_followNeed 36 = .ok (.iconst 0, 1) := by decide +kernel
theorem dk_0_followNeed_37 : decode bk_0_followNeed 37 = .ok (.iload 5, 2) := by decide +kernel
theorem dk_0_followNeed_39 : decode bk_0_followNeed 39 = .ok (.invokevirtual 323, 3) := by decide +kernel
theorem dk_0_followNeed_42 : decode bk_0_followNeed 42 = .ok (.istore 7, 2) := by decide +kernel
theorem dk_0_followNeed_44 : decode bk_0_followNeed 44 = .ok (.aload_n 0, 1) := by decide +kernel
theorem dk_0_followNeed_45 : decode bk_0_followNeed 45 = .ok (.iload_n 2, 1) := by decide +kernel
theorem dk_0_followNeed_46 : decode bk_0_followNeed 46 = .ok (.iconst 1, 1) := by decide +kernel
theorem dk_0_followNeed_47 : decode bk_0_followNeed 47 = .ok (.iload 6, 2) := by decide +kernel
theorem dk_0_followNeed_49 : decode bk_0_followNeed 49 = .ok (.invokevirtual 323, 3) := by decide +kernel
theorem dk_0_followNeed_52 : decode bk_0_followNeed 52 = .ok (.istore 8, 2) := by decide +kernel
theorem dk_0_followNeed_54 : decode bk_0_followNeed 54 = .ok (.iconst 0, 1) := by decide +kernel
theorem dk_0_followNeed_55 : decode bk_0_followNeed 55 = .ok (.istore 9, 2) := by decide +kernel
theorem dk_0_followNeed_57 : decode bk_0_followNeed 57 = .ok (.iload 9, 2) := by decide +kernel
theorem dk_0_followNeed_59 : decode bk_0_followNeed 59 = .ok (.bipush 8, 2) := by decide +kernel
theorem dk_0_followNeed_61 : decode bk_0_followNeed 61 = .ok (.if_icmp .ge 109, 3) := by decide +kernel
theorem dk_0_followNeed_64 : decode bk_0_followNeed 64 = .ok (.iload 7, 2) := by decide +kernel
theorem dk_0_followNeed_66 : decode bk_0_followNeed 66 = .ok (.iload 9, 2) := by decide +kernel
theorem dk_0_followNeed_68 : decode bk_0_followNeed 68 = .ok (.invokestatic 269, 3) := by decide +kernel
theorem dk_0_followNeed_71 : decode bk_0_followNeed 71 = .ok (.ifCond .ne 6, 3) := by decide +kernel
theorem dk_0_followNeed_74 : decode bk_0_followNeed 74 = .ok (.goto 90, 3) := by decide +kernel
theorem dk_0_followNeed_77 : decode bk_0_followNeed 77 = .ok (.lload_n 3, 1) := by decide +kernel
theorem dk_0_followNeed_78 : decode bk_0_followNeed 78 = .ok (.iload 5, 2) := by decide +kernel
theorem dk_0_followNeed_80 : decode bk_0_followNeed 80 = .ok (.iload 9, 2) := by decide +kernel
theorem dk_0_followNeed_82 : decode bk_0_followNeed 82 = .ok (.invokestatic 326, 3) := by decide +kernel
theorem dk_0_followNeed_85 : decode bk_0_followNeed 85 = .ok (.lstore 10, 2) := by decide +kernel
theorem dk_0_followNeed_87 : decode bk_0_followNeed 87 = .ok (.iconst 0, 1) := by decide +kernel
theorem dk_0_followNeed_88 : decode bk_0_followNeed 88 = .ok (.istore 12, 2) := by decide +kernel
theorem dk_0_followNeed_90 : decode bk_0_followNeed 90 = .ok (.iload 12, 2) := by decide +kernel
theorem dk_0_followNeed_92 : decode bk_0_followNeed 92 = .ok (.bipush 8, 2) := by decide +kernel
theorem dk_0_followNeed_94 : decode bk_0_followNeed 94 = .ok (.if_icmp .ge 70, 3) := by decide +kernel
theorem dk_0_followNeed_97 : decode bk_0_followNeed 97 = .ok (.iload 8, 2) := by decide +kernel
theorem dk_0_followNeed_99 : decode bk_0_followNeed 99 = .ok (.iload 12, 2) := by decide +kernel
theorem dk_0_followNeed_101 : decode bk_0_followNeed 101 = .ok (.invokestatic 269, 3) := by decide +kernel
theorem dk_0_followNeed_104 : decode bk_0_followNeed 104 = .ok (.ifCond .ne 6, 3) := by decide +kernel
theorem dk_0_followNeed_107 : decode bk_0_followNeed 107 = .ok (.goto 51, 3) := by decide +kernel
theorem dk_0_followNeed_110 : decode bk_0_followNeed 110 = .ok (.aload_n 0, 1) := by decide +kernel
theorem dk_0_followNeed_111 : decode bk_0_followNeed 111 = .ok (.aload_n 0, 1) := by decide +kernel
theorem dk_0_followNeed_112 : decode bk_0_followNeed 112 = .ok (.getfield 54, 3) := by decide +kernel
theorem dk_0_followNeed_115 : decode bk_0_followNeed 115 = .ok (.getfield 307, 3) := by decide +kernel
theorem dk_0_followNeed_118 : decode bk_0_followNeed 118 = .ok (.iload_n 2, 1) := by decide +kernel
theorem dk_0_followNeed_119 : decode bk_0_followNeed 119 = .ok (.iaload, 1) := by decide +kernel
theorem dk_0_followNeed_120 : decode bk_0_followNeed 120 = .ok (.lload 10, 2) := by decide +kernel
theorem dk_0_followNeed_122 : decode bk_0_followNeed 122 = .ok (.iload 6, 2) := by decide +kernel
theorem dk_0_followNeed_124 : decode bk_0_followNeed 124 = .ok (.iload 12, 2) := by decide +kernel
theorem dk_0_followNeed_126 : decode bk_0_followNeed 126 = .ok (.invokestatic 326, 3) := by decide +kernel
theorem dk_0_followNeed_129 : decode bk_0_followNeed 129 = .ok (.invokevirtual 314, 3) := by decide +kernel
theorem dk_0_followNeed_132 : decode bk_0_followNeed 132 = .ok (.istore 13, 2) := by decide +kernel
theorem dk_0_followNeed_134 : decode bk_0_followNeed 134 = .ok (.iload 13, 2) := by decide +kernel
theorem dk_0_followNeed_136 : decode bk_0_followNeed 136 = .ok (.iconst (-1), 1) := by decide +kernel
theorem dk_0_followNeed_137 : decode bk_0_followNeed 137 = .ok (.if_icmp .ne 5, 3) := by decide +kernel
theorem dk_0_followNeed_140 : decode bk_0_followNeed 140 = .ok (.iconst 0, 1) := by decide +kernel
theorem dk_0_followNeed_141 : decode bk_0_followNeed 141 = .ok (.ireturn, 1) := by decide +kernel
theorem dk_0_followNeed_142 : decode bk_0_followNeed 142 = .ok (.aload_n 0, 1) := by decide +kernel
theorem dk_0_followNeed_143 : decode bk_0_followNeed 143 = .ok (.getfield 61, 3) := by decide +kernel
theorem dk_0_followNeed_146 : decode bk_0_followNeed 146 = .ok (.getfield 329, 3) := by decide +kernel
theorem dk_0_followNeed_149 : decode bk_0_followNeed 149 = .ok (.iload_n 1, 1) := by decide +kernel
theorem dk_0_followNeed_150 : decode bk_0_followNeed 150 = .ok (.dup2, 1) := by decide +kernel
theorem dk_0_followNeed_151 : decode bk_0_followNeed 151 = .ok (.laload, 1) := by decide +kernel
theorem dk_0_followNeed_152 : decode bk_0_followNeed 152 = .ok (.lconst 1, 1) := by decide +kernel
theorem dk_0_followNeed_153 : decode bk_0_followNeed 153 = .ok (.iload 13, 2) := by decide +kernel
theorem dk_0_followNeed_155 : decode bk_0_followNeed 155 = .ok (.lshl, 1) := by decide +kernel
theorem dk_0_followNeed_156 : decode bk_0_followNeed 156 = .ok (.lor, 1) := by decide +kernel
theorem dk_0_followNeed_157 : decode bk_0_followNeed 157 = .ok (.lastore, 1) := by decide +kernel
theorem dk_0_followNeed_158 : decode bk_0_followNeed 158 = .ok (.iinc 12 1, 3) := by decide +kernel
theorem dk_0_followNeed_161 : decode bk_0_followNeed 161 = .ok (.goto (-71), 3) := by decide +kernel
theorem dk_0_followNeed_164 : decode bk_0_followNeed 164 = .ok (.iinc 9 1, 3) := by decide +kernel
theorem dk_0_followNeed_167 : decode bk_0_followNeed 167 = .ok (.goto (-110), 3) := by decide +kernel
theorem dk_0_followNeed_170 : decode bk_0_followNeed 170 = .ok (.iconst 1, 1) := by decide +kernel
theorem dk_0_followNeed_171 : decode bk_0_followNeed 171 = .ok (.ireturn, 1) := by decide +kernel
theorem dk_0_changedBase_0 : decode bk_0_changedBase 0 = .ok (.iload_n 2, 1) := by decide +kernel
theorem dk_0_changedBase_1 : decode bk_0_changedBase 1 = .ok (.aload_n 0, 1) := by decide +kernel
theorem dk_0_changedBase_2 : decode bk_0_changedBase 2 = .ok (.getfield 54, 3) := by decide +kernel
theorem dk_0_changedBase_5 : decode bk_0_changedBase 5 = .ok (.getfield 332, 3) := by decide +kernel
theorem dk_0_changedBase_8 : decode bk_0_changedBase 8 = .ok (.iload_n 1, 1) := by decide +kernel
theorem dk_0_changedBase_9 : decode bk_0_changedBase 9 = .ok (.iaload, 1) := by decide +kernel
theorem dk_0_changedBase_10 : decode bk_0_changedBase 10 = .ok (.if_icmp .ge 22, 3) := by decide +kernel
theorem dk_0_changedBase_13 : decode bk_0_changedBase 13 = .ok (.aload_n 0, 1) := by decide +kernel
theorem dk_0_changedBase_14 : decode bk_0_changedBase 14 = .ok (.getfield 12, 3) := by decide +kernel
theorem dk_0_changedBase_17 : decode bk_0_changedBase 17 = .ok (.aload_n 0, 1) := by decide +kernel
theorem dk_0_changedBase_18 : decode bk_0_changedBase 18 = .ok (.getfield 54, 3) := by decide +kernel
theorem dk_0_changedBase_21 : decode bk_0_changedBase 21 = .ok (.iload_n 1, 1) := by decide +kernel
theorem dk_0_changedBase_22 : decode bk_0_changedBase 22 = .ok (.iload_n 2, 1) := by decide +kernel
theorem dk_0_changedBase_23 : decode bk_0_changedBase 23 = .ok (.invokevirtual 335, 3) := by decide +kernel
theorem dk_0_changedBase_26 : decode bk_0_changedBase 26 = .ok (.invokevirtual 83, 3) := by decide +kernel
theorem dk_0_changedBase_29 : decode bk_0_changedBase 29 = .ok (.goto 4, 3) := by decide +kernel
theorem dk_0_changedBase_32 : decode bk_0_changedBase 32 = .ok (.iconst (-1), 1) := by decide +kernel
theorem dk_0_changedBase_33 : decode bk_0_changedBase 33 = .ok (.ireturn, 1) := by decide +kernel
end
section
theorem dk_0_turnsOf_0 : decode bk_0_turnsOf 0 = .ok (.iload_n 3, 1) := by decide +kernel
theorem dk_0_turnsOf_1 : decode bk_0_turnsOf 1 = .ok (.iconst (-1), 1) := by decide +kernel
theorem dk_0_turnsOf_2 : decode bk_0_turnsOf 2 = .ok (.if_icmp .ne 5, 3) := by decide +kernel
theorem dk_0_turnsOf_5 : decode bk_0_turnsOf 5 = .ok (.iconst 1, 1) := by decide +kernel
theorem dk_0_turnsOf_6 : decode bk_0_turnsOf 6 = .ok (.ireturn, 1) := by decide +kernel
theorem dk_0_turnsOf_7 : decode bk_0_turnsOf 7 = .ok (.aload_n 0, 1) := by decide +kernel
theorem dk_0_turnsOf_8 : decode bk_0_turnsOf 8 = .ok (.getfield 54, 3) := by decide +kernel
theorem dk_0_turnsOf_11 : decode bk_0_turnsOf 11 = .ok (.iload_n 1, 1) := by decide +kernel
theorem dk_0_turnsOf_12 : decode bk_0_turnsOf 12 = .ok (.iload_n 2, 1) := by decide +kernel
theorem dk_0_turnsOf_13 : decode bk_0_turnsOf 13 = .ok (.invokevirtual 338, 3) := by decide +kernel
theorem dk_0_turnsOf_16 : decode bk_0_turnsOf 16 = .ok (.iconst 1, 1) := by decide +kernel
theorem dk_0_turnsOf_17 : decode bk_0_turnsOf 17 = .ok (.aload_n 0, 1) := by decide +kernel
theorem dk_0_turnsOf_18 : decode bk_0_turnsOf 18 = .ok (.getfield 12, 3) := by decide +kernel
theorem dk_0_turnsOf_21 : decode bk_0_turnsOf 21 = .ok (.getfield 162, 3) := by decide +kernel
theorem dk_0_turnsOf_24 : decode bk_0_turnsOf 24 = .ok (.iload_n 3, 1) := by decide +kernel
theorem dk_0_turnsOf_25 : decode bk_0_turnsOf 25 = .ok (.iaload, 1) := by decide +kernel
theorem dk_0_turnsOf_26 : decode bk_0_turnsOf 26 = .ok (.ishl, 1) := by decide +kernel
theorem dk_0_turnsOf_27 : decode bk_0_turnsOf 27 = .ok (.iconst 1, 1) := by decide +kernel
theorem dk_0_turnsOf_28 : decode bk_0_turnsOf 28 = .ok (.isub, 1) := by decide +kernel
theorem dk_0_turnsOf_29 : decode bk_0_turnsOf 29 = .ok (.iand, 1) := by decide +kernel
theorem dk_0_turnsOf_30 : decode bk_0_turnsOf 30 = .ok (.ireturn, 1) := by decide +kernel
theorem dk_0_afterChange_0 : decode bk_0_afterChange 0 = .ok (.iload_n 2, 1) := by decide +kernel
theorem dk_0_afterChange_1 : decode bk_0_afterChange 1 = .ok (.iconst (-1), 1) := by decide +kernel
theorem dk_0_afterChange_2 : decode bk_0_afterChange 2 = .ok (.if_icmp .ne 7, 3) := by decide +kernel
theorem dk_0_afterChange_5 : decode bk_0_afterChange 5 = .ok (.lload_n 0, 1) := by decide +kernel
theorem dk_0_afterChange_6 : decode bk_0_afterChange 6 = .ok (.goto 9, 3) := by decide +kernel
theorem dk_0_afterChange_9 : decode bk_0_afterChange 9 = .ok (.lload_n 0, 1) := by decide +kernel
theorem dk_0_afterChange_10 : decode bk_0_afterChange 10 = .ok (.iload_n 2, 1) := by decide +kernel
theorem dk_0_afterChange_11 : decode bk_0_afterChange 11 = .ok (.iload_n 3, 1) := by decide +kernel
theorem dk_0_afterChange_12 : decode bk_0_afterChange 12 = .ok (.invokestatic 168, 3) := by decide +kernel
theorem dk_0_afterChange_15 : decode bk_0_afterChange 15 = .ok (.lreturn, 1) := by decide +kernel
theorem dk_0_pairOf_0 : decode bk_0_pairOf 0 = .ok (.aload_n 0, 1) := by decide +kernel
theorem dk_0_pairOf_1 : decode bk_0_pairOf 1 = .ok (.getfield 26, 3) := by decide +kernel
theorem dk_0_pairOf_4 : decode bk_0_pairOf 4 = .ok (.aload_n 0, 1) := by decide +kernel
theorem dk_0_pairOf_5 : decode bk_0_pairOf 5 = .ok (.lload_n 2, 1) := by decide +kernel
theorem dk_0_pairOf_6 : decode bk_0_pairOf 6 = .ok (.aload_n 0, 1) := by decide +kernel
theorem dk_0_pairOf_7 : decode bk_0_pairOf 7 = .ok (.getfield 40, 3) := by decide +kernel
theorem dk_0_pairOf_10 : decode bk_0_pairOf 10 = .ok (.getfield 207, 3) := by decide +kernel
theorem dk_0_pairOf_13 : decode bk_0_pairOf 13 = .ok (.iload_n 1, 1) := by decide +kernel
theorem dk_0_pairOf_14 : decode bk_0_pairOf 14 = .ok (.iaload, 1) := by decide +kernel
theorem dk_0_pairOf_15 : decode bk_0_pairOf 15 = .ok (.invokevirtual 153, 3) := by decide +kernel
theorem dk_0_pairOf_18 : decode bk_0_pairOf 18 = .ok (.invokevirtual 157, 3) := by decide +kernel
theorem dk_0_pairOf_21 : decode bk_0_pairOf 21 = .ok (.istore 4, 2) := by decide +kernel
theorem dk_0_pairOf_23 : decode bk_0_pairOf 23 = .ok (.iload 4, 2) := by decide +kernel
theorem dk_0_pairOf_25 : decode bk_0_pairOf 25 = .ok (.iconst (-1), 1) := by decide +kernel
theorem dk_0_pairOf_26 : decode bk_0_pairOf 26 = .ok (.if_icmp .ne 7, 3) := by decide +kernel
theorem dk_0_pairOf_29 : decode bk_0_pairOf 29 = .ok (.iconst (-1), 1) := by decide +kernel
theorem dk_0_pairOf_30 : decode bk_0_pairOf 30 = .ok (.goto 13, 3) := by decide +kernel
theorem dk_0_pairOf_33 : decode bk_0_pairOf 33 = .ok (.aload_n 0, 1) := by decide +kernel
theorem dk_0_pairOf_34 : decode bk_0_pairOf 34 = .ok (.getfield 61, 3) := by decide +kernel
theorem dk_0_pairOf_37 : decode bk_0_pairOf 37 = .ok (.iload_n 1, 1) := by decide +kernel
theorem dk_0_pairOf_38 : decode bk_0_pairOf 38 = .ok (.iload 4, 2) := by decide +kernel
theorem dk_0_pairOf_40 : decode bk_0_pairOf 40 = .ok (.invokevirtual 341, 3) := by decide +kernel
theorem dk_0_pairOf_43 : decode bk_0_pairOf 43 = .ok (.ireturn, 1) := by decide +kernel
theorem dk_0_leaveOutByWants_0 : decode bk_0_leaveOutByWants 0 = .ok (.iconst 0, 1) := by decide +kernel
theorem dk_0_leaveOutByWants_1 : decode bk_0_leaveOutByWants 1 = .ok (.istore_n 1, 1) := by decide +kernel
theorem dk_0_leaveOutByWants_2 : decode bk_0_leaveOutByWants 2 = .ok (.iload_n 1, 1) := by decide +kernel
theorem dk_0_leaveOutByWants_3 : decode bk_0_leaveOutByWants 3 = .ok (.aload_n 0, 1) := by decide +kernel
theorem dk_0_leaveOutByWants_4 : decode bk_0_leaveOutByWants 4 = .ok (.getfield 61, 3) := by decide +kernel
theorem dk_0_leaveOutByWants_7 : decode bk_0_leaveOutByWants 7 = .ok (.getfield 222, 3) := by decide +kernel
theorem dk_0_leaveOutByWants_10 : decode bk_0_leaveOutByWants 10 = .ok (.if_icmp .ge 69, 3) := by decide +kernel
theorem dk_0_leaveOutByWants_13 : decode bk_0_leaveOutByWants 13 = .ok (.aload_n 0, 1) := by decide +kernel
theorem dk_0_leaveOutByWants_14 : decode bk_0_leaveOutByWants 14 = .ok (.getfield 40, 3) := by decide +kernel
theorem dk_0_leaveOutByWants_17 : decode bk_0_leaveOutByWants 17 = .ok (.getfield 122, 3) := by decide +kernel
theorem dk_0_leaveOutByWants_20 : decode bk_0_leaveOutByWants 20 = .ok (.aload_n 0, 1) := by decide +kernel
theorem dk_0_leaveOutByWants_21 : decode bk_0_leaveOutByWants 21 = .ok (.getfield 61, 3) := by decide +kernel
theorem dk_0_leaveOutByWants_24 : decode bk_0_leaveOutByWants 24 = .ok (.getfield 227, 3) := by decide +kernel
theorem dk_0_leaveOutByWants_27 : decode bk_0_leaveOutByWants 27 = .ok (.iload_n 1, 1) := by decide +kernel
theorem dk_0_leaveOutByWants_28 : decode bk_0_leaveOutByWants 28 = .ok (.iaload, 1) := by decide +kernel
theorem dk_0_leaveOutByWants_29 : decode bk_0_leaveOutByWants 29 = .ok (.iaload, 1) := by decide +kernel
theorem dk_0_leaveOutByWants_30 : decode bk_0_leaveOutByWants 30 = .ok (.istore_n 2, 1) := by decide +kernel
theorem dk_0_leaveOutByWants_31 : decode bk_0_leaveOutByWants 31 = .ok (.aload_n 0, 1) := by decide +kernel
theorem dk_0_leaveOutByWants_32 : decode bk_0_leaveOutByWants 32 = .ok (.getfield 26, 3) := by decide +kernel
theorem dk_0_leaveOutByWants_35 : decode bk_0_leaveOutByWants 35 = .ok (.getfield 165, 3) := by decide +kernel
theorem dk_0_leaveOutByWants_38 : decode bk_0_leaveOutByWants 38 = .ok (.aload_n 0, 1) := by decide +kernel
theorem dk_0_leaveOutByWants_39 : decode bk_0_leaveOutByWants 39 = .ok (.getfield 61, 3) := by decide +kernel
theorem dk_0_leaveOutByWants_42 : decode bk_0_leaveOutByWants 42 = .ok (.getfield 230, 3) := by decide +kernel
theorem dk_0_leaveOutByWants_45 : decode bk_0_leaveOutByWants 45 = .ok (.iload_n 1, 1) := by decide +kernel
theorem dk_0_leaveOutByWants_46 : decode bk_0_leaveOutByWants 46 = .ok (.iaload, 1) := by decide +kernel
theorem dk_0_leaveOutByWants_47 : decode bk_0_leaveOutByWants 47 = .ok (.laload, 1) := by decide +kernel
theorem dk_0_leaveOutByWants_48 : decode bk_0_leaveOutByWants 48 = .ok (.lstore_n 3, 1) := by decide +kernel
theorem dk_0_leaveOutByWants_49 : decode bk_0_leaveOutByWants 49 = .ok (.iload_n 2, 1) := by decide +kernel
theorem dk_0_leaveOutByWants_50 : decode bk_0_leaveOutByWants 50 = .ok (.iconst (-1), 1) := by decide +kernel
theorem dk_0_leaveOutByWants_51 : decode bk_0_leaveOutByWants 51 = .ok (.if_icmp .eq 22, 3) := by decide +kernel
theorem dk_0_leaveOutByWants_54 : decode bk_0_leaveOutByWants 54 = .ok (.aload_n 0, 1) := by decide +kernel
theorem dk_0_leaveOutByWants_55 : decode bk_0_leaveOutByWants 55 = .ok (.iload_n 2, 1) := by decide +kernel
theorem dk_0_leaveOutByWants_56 : decode bk_0_leaveOutByWants 56 = .ok (.lload_n 3, 1) := by decide +kernel
theorem dk_0_leaveOutByWants_57 : decode bk_0_leaveOutByWants 57 = .ok (.invokevirtual 176, 3) := by decide +kernel
theorem dk_0_leaveOutByWants_60 : decode bk_0_leaveOutByWants 60 = .ok (.ifCond .ne 13, 3) := by decide +kernel
theorem dk_0_leaveOutByWants_63 : decode bk_0_leaveOutByWants 63 = .ok (.aload_n 0, 1) := by decide +kernel
theorem dk_0_leaveOutByWants_64 : decode bk_0_leaveOutByWants 64 = .ok (.getfield 61, 3) := by decide +kernel
theorem dk_0_leaveOutByWants_67 : decode bk_0_leaveOutByWants 67 = .ok (.getfield 233, 3) := by decide +kernel
theorem dk_0_leaveOutByWants_70 : decode bk_0_leaveOutByWants 70 = .ok (.iload_n 1, 1) := by decide +kernel
theorem dk_0_leaveOutByWants_71 : decode bk_0_leaveOutByWants 71 = .ok (.iconst 1, 1) := by decide +kernel
theorem dk_0_leaveOutByWants_72 : decode bk_0_leaveOutByWants 72 = .ok (.iastore, 1) := by decide +kernel
theorem dk_0_leaveOutByWants_73 : decode bk_0_leaveOutByWants 73 = .ok (.iinc 1 1, 3) := by decide +kernel
theorem dk_0_leaveOutByWants_76 : decode bk_0_leaveOutByWants 76 = .ok (.goto (-74), 3) := by decide +kernel
theorem dk_0_leaveOutByWants_79 : decode bk_0_leaveOutByWants 79 = .ok (.return_, 1) := by decide +kernel
theorem dk_2_codeOf_0 : decode bk_2_codeOf 0 = .ok (.iload_n 0, 1) := by decide +kernel
theorem dk_2_codeOf_1 : decode bk_2_codeOf 1 = .ok (.ifCond .eq 9, 3) := by decide +kernel
theorem dk_2_codeOf_4 : decode bk_2_codeOf 4 = .ok (.sipush 128, 3) := by decide +kernel
theorem dk_2_codeOf_7 : decode bk_2_codeOf 7 = .ok (.goto 4, 3) := by decide +kernel
theorem dk_2_codeOf_10 : decode bk_2_codeOf 10 = .ok (.iconst 0, 1) := by decide +kernel
theorem dk_2_codeOf_11 : decode bk_2_codeOf 11 = .ok (.iload_n 1, 1) := by decide +kernel
theorem dk_2_codeOf_12 : decode bk_2_codeOf 12 = .ok (.bipush 8, 2) := by decide +kernel
theorem dk_2_codeOf_14 : decode bk_2_codeOf 14 = .ok (.imul, 1) := by decide +kernel
theorem dk_2_codeOf_15 : decode bk_2_codeOf 15 = .ok (.iadd, 1) := by decide +kernel
theorem dk_2_codeOf_16 : decode bk_2_codeOf 16 = .ok (.iload_n 2, 1) := by decide +kernel
theorem dk_2_codeOf_17 : decode bk_2_codeOf 17 = .ok (.iadd, 1) := by decide +kernel
theorem dk_2_codeOf_18 : decode bk_2_codeOf 18 = .ok (.ireturn, 1) := by decide +kernel
theorem dk_2_isAboutAxis_0 : decode bk_2_isAboutAxis 0 = .ok (.iload_n 0, 1) := by decide +kernel
theorem dk_2_isAboutAxis_1 : decode bk_2_isAboutAxis 1 = .ok (.sipush 128, 3) := by decide +kernel
theorem dk_2_isAboutAxis_4 : decode bk_2_isAboutAxis 4 = .ok (.if_icmp .lt 7, 3) := by decide +kernel
theorem dk_2_isAboutAxis_7 : decode bk_2_isAboutAxis 7 = .ok (.iconst 1, 1) := by decide +kernel
theorem dk_2_isAboutAxis_8 : decode bk_2_isAboutAxis 8 = .ok (.goto 4, 3) := by decide +kernel
theorem dk_2_isAboutAxis_11 : decode bk_2_isAboutAxis 11 = .ok (.iconst 0, 1) := by decide +kernel
theorem dk_2_isAboutAxis_12 : decode bk_2_isAboutAxis 12 = .ok (.ireturn, 1) := by decide +kernel
theorem dk_2_whichOf_0 : decode bk_2_whichOf 0 = .ok (.iload_n 0, 1) := by decide +kernel
theorem dk_2_whichOf_1 : decode bk_2_whichOf 1 = .ok (.invokestatic 11, 3) := by decide +kernel
theorem dk_2_whichOf_4 : decode bk_2_whichOf 4 = .ok (.ifCond .eq 11, 3) := by decide +kernel
theorem dk_2_whichOf_7 : decode bk_2_whichOf 7 = .ok (.iload_n 0, 1) := by decide +kernel
theorem dk_2_whichOf_8 : decode bk_2_whichOf 8 = .ok (.sipush 128, 3) := by decide +kernel
theorem dk_2_whichOf_11 : decode bk_2_whichOf 11 = .ok (.isub, 1) := by decide +kernel
theorem dk_2_whichOf_12 : decode bk_2_whichOf 12 = .ok (.goto 4, 3) := by decide +kernel
theorem dk_2_whichOf_15 : decode bk_2_whichOf 15 = .ok (.iload_n 0, 1) := by decide +kernel
theorem dk_2_whichOf_16 : decode bk_2_whichOf 16 = .ok (.bipush 8, 2) := by decide +kernel
theorem dk_2_whichOf_18 : decode bk_2_whichOf 18 = .ok (.idiv, 1) := by decide +kernel
theorem dk_2_whichOf_19 : decode bk_2_whichOf 19 = .ok (.ireturn, 1) := by decide +kernel
theorem dk_2_valueOf_0 : decode bk_2_valueOf 0 = .ok (.iload_n 0, 1) := by decide +kernel
theorem dk_2_valueOf_1 : decode bk_2_valueOf 1 = .ok (.bipush 8, 2) := by decide +kernel
theorem dk_2_valueOf_3 : decode bk_2_valueOf 3 = .ok (.irem, 1) := by decide +kernel
theorem dk_2_valueOf_4 : decode bk_2_valueOf 4 = .ok (.ireturn, 1) := by decide +kernel
theorem dk_3_nothing_0 : decode bk_3_nothing 0 = .ok (.lconst 0, 1) := by decide +kernel
theorem dk_3_nothing_1 : decode bk_3_nothing 1 = .ok (.lreturn, 1) := by decide +kernel
theorem dk_3_ofValue_0 : decode bk_3_ofValue 0 = .ok (.ldc2_w 11, 3) := by decide +kernel
theorem dk_3_ofValue_3 : decode bk_3_ofValue 3 = .ok (.iload_n 0, 1) := by decide +kernel
theorem dk_3_ofValue_4 : decode bk_3_ofValue 4 = .ok (.i2l, 1) := by decide +kernel
theorem dk_3_ofValue_5 : decode bk_3_ofValue 5 = .ok (.ldc2_w 13, 3) := by decide +kernel
theorem dk_3_ofValue_8 : decode bk_3_ofValue 8 = .ok (.land, 1) := by decide +kernel
theorem dk_3_ofValue_9 : decode bk_3_ofValue 9 = .ok (.lor, 1) := by decide +kernel
theorem dk_3_ofValue_10 : decode bk_3_ofValue 10 = .ok (.lreturn, 1) := by decide +kernel
theorem dk_3_ofClash_0 : decode bk_3_ofClash 0 = .ok (.ldc2_w 15, 3) := by decide +kernel
theorem dk_3_ofClash_3 : decode bk_3_ofClash 3 = .ok (.iload_n 0, 1) := by decide +kernel
theorem dk_3_ofClash_4 : decode bk_3_ofClash 4 = .ok (.bipush 8, 2) := by decide +kernel
theorem dk_3_ofClash_6 : decode bk_3_ofClash 6 = .ok (.imul, 1) := by decide +kernel
theorem dk_3_ofClash_7 : decode bk_3_ofClash 7 = .ok (.iload_n 1, 1) := by decide +kernel
theorem dk_3_ofClash_8 : decode bk_3_ofClash 8 = .ok (.iadd, 1) := by decide +kernel
theorem dk_3_ofClash_9 : decode bk_3_ofClash 9 = .ok (.i2l, 1) := by decide +kernel
theorem dk_3_ofClash_10 : decode bk_3_ofClash 10 = .ok (.lor, 1) := by decide +kernel
theorem dk_3_ofClash_11 : decode bk_3_ofClash 11 = .ok (.lreturn, 1) := by decide +kernel
theorem dk_3_kindOf_0 : decode bk_3_kindOf 0 = .ok (.lload_n 0, 1) := by decide +kernel
theorem dk_3_kindOf_1 : decode bk_3_kindOf 1 = .ok (.bipush 32, 2) := by decide +kernel
theorem dk_3_kindOf_3 : decode bk_3_kindOf 3 = .ok (.lushr, 1) := by decide +kernel
theorem dk_3_kindOf_4 : decode bk_3_kindOf 4 = .ok (.l2i, 1) := by decide +kernel
theorem dk_3_kindOf_5 : decode bk_3_kindOf 5 = .ok (.ireturn, 1) := by decide +kernel
theorem dk_3_valueOf_0 : decode bk_3_valueOf 0 = .ok (.lload_n 0, 1) := by decide +kernel
theorem dk_3_valueOf_1 : decode bk_3_valueOf 1 = .ok (.l2i, 1) := by decide +kernel
theorem dk_3_valueOf_2 : decode bk_3_valueOf 2 = .ok (.ireturn, 1) := by decide +kernel
theorem dk_3_firstOf_0 : decode bk_3_firstOf 0 = .ok (.lload_n 0, 1) := by decide +kernel
theorem dk_3_firstOf_1 : decode bk_3_firstOf 1 = .ok (.l2i, 1) := by decide +kernel
theorem dk_3_firstOf_2 : decode bk_3_firstOf 2 = .ok (.bipush 8, 2) := by decide +kernel
theorem dk_3_firstOf_4 : decode bk_3_firstOf 4 = .ok (.idiv, 1) := by decide +kernel
theorem dk_3_firstOf_5 : decode bk_3_firstOf 5 = .ok (.ireturn, 1) := by decide +kernel
theorem dk_3_secondOf_0 : decode bk_3_secondOf 0 = .ok (.lload_n 0, 1) := by decide +kernel
theorem dk_3_secondOf_1 : decode bk_3_secondOf 1 = .ok (.l2i, 1) := by decide +kernel
theorem dk_3_secondOf_2 : decode bk_3_secondOf 2 = .ok (.bipush 8, 2) := by decide +kernel
theorem dk_3_secondOf_4 : decode bk_3_secondOf 4 = .ok (.irem, 1) := by decide +kernel
theorem dk_3_secondOf_5 : decode bk_3_secondOf 5 = .ok (.ireturn, 1) := by decide +kernel
theorem dk_3_areAlike_0 : decode bk_3_areAlike 0 = .ok (.lload_n 0, 1) := by decide +kernel
theorem dk_3_areAlike_1 : decode bk_3_areAlike 1 = .ok (.invokestatic 17, 3) := by decide +kernel
theorem dk_3_areAlike_4 : decode bk_3_areAlike 4 = .ok (.lload_n 2, 1) := by decide +kernel
theorem dk_3_areAlike_5 : decode bk_3_areAlike 5 = .ok (.invokestatic 17, 3) := by decide +kernel
theorem dk_3_areAlike_8 : decode bk_3_areAlike 8 = .ok (.if_icmp .ne 21, 3) := by decide +kernel
theorem dk_3_areAlike_11 : decode bk_3_areAlike 11 = .ok (.lload_n 0, 1) := by decide +kernel
theorem dk_3_areAlike_12 : decode bk_3_areAlike 12 = .ok (.invokestatic 17, 3) := by decide +kernel
theorem dk_3_areAlike_15 : decode bk_3_areAlike 15 = .ok (.iconst 1, 1) := by decide +kernel
theorem dk_3_areAlike_16 : decode bk_3_areAlike 16 = .ok (.if_icmp .ne 9, 3) := by decide +kernel
theorem dk_3_areAlike_19 : decode bk_3_areAlike 19 = .ok (.lload_n 0, 1) := by decide +kernel
theorem dk_3_areAlike_20 : decode bk_3_areAlike 20 = .ok (.lload_n 2, 1) := by decide +kernel
theorem dk_3_areAlike_21 : decode bk_3_areAlike 21 = .ok (.lcmp, 1) := by decide +kernel
theorem dk_3_areAlike_22 : decode bk_3_areAlike 22 = .ok (.ifCond .ne 7, 3) := by decide +kernel
theorem dk_3_areAlike_25 : decode bk_3_areAlike 25 = .ok (.iconst 1, 1) := by decide +kernel
theorem dk_3_areAlike_26 : decode bk_3_areAlike 26 = .ok (.goto 4, 3) := by decide +kernel
theorem dk_3_areAlike_29 : decode bk_3_areAlike 29 = .ok (.iconst 0, 1) := by decide +kernel
theorem dk_3_areAlike_30 : decode bk_3_areAlike 30 = .ok (.ireturn, 1) := by decide +kernel
theorem dk_4_onPlatform_0 : decode bk_4_onPlatform 0 = .ok (.iload_n 0, 1) := by decide +kernel
theorem dk_4_onPlatform_1 : decode bk_4_onPlatform 1 = .ok (.i2l, 1) := by decide +kernel
theorem dk_4_onPlatform_2 : decode bk_4_onPlatform 2 = .ok (.bipush 48, 2) := by decide +kernel
theorem dk_4_onPlatform_4 : decode bk_4_onPlatform 4 = .ok (.lshl, 1) := by decide +kernel
theorem dk_4_onPlatform_5 : decode bk_4_onPlatform 5 = .ok (.lreturn, 1) := by decide +kernel
theorem dk_4_platformIn_0 : decode bk_4_platformIn 0 = .ok (.lload_n 0, 1) := by decide +kernel
theorem dk_4_platformIn_1 : decode bk_4_platformIn 1 = .ok (.bipush 48, 2) := by decide +kernel
theorem dk_4_platformIn_3 : decode bk_4_platformIn 3 = .ok (.lushr, 1) := by decide +kernel
theorem dk_4_platformIn_4 : decode bk_4_platformIn 4 = .ok (.l2i, 1) := by decide +kernel
theorem dk_4_platformIn_5 : decode bk_4_platformIn 5 = .ok (.ireturn, 1) := by decide +kernel
theorem dk_4_valueIn_0 : decode bk_4_valueIn 0 = .ok (.lload_n 0, 1) := by decide +kernel
theorem dk_4_valueIn_1 : decode bk_4_valueIn 1 = .ok (.iload_n 2, 1) := by decide +kernel
theorem dk_4_valueIn_2 : decode bk_4_valueIn 2 = .ok (.iconst 3, 1) := by decide +kernel
theorem dk_4_valueIn_3 : decode bk_4_valueIn 3 = .ok (.imul, 1) := by decide +kernel
theorem dk_4_valueIn_4 : decode bk_4_valueIn 4 = .ok (.lushr, 1) := by decide +kernel
theorem dk_4_valueIn_5 : decode bk_4_valueIn 5 = .ok (.ldc2_w 11, 3) := by decide +kernel
theorem dk_4_valueIn_8 : decode bk_4_valueIn 8 = .ok (.land, 1) := by decide +kernel
theorem dk_4_valueIn_9 : decode bk_4_valueIn 9 = .ok (.l2i, 1) := by decide +kernel
theorem dk_4_valueIn_10 : decode bk_4_valueIn 10 = .ok (.ireturn, 1) := by decide +kernel
theorem dk_4_withValue_0 : decode bk_4_withValue 0 = .ok (.iload_n 2, 1) := by decide +kernel
theorem dk_4_withValue_1 : decode bk_4_withValue 1 = .ok (.iconst 3, 1) := by decide +kernel
theorem dk_4_withValue_2 : decode bk_4_withValue 2 = .ok (.imul, 1) := by decide +kernel
theorem dk_4_withValue_3 : decode bk_4_withValue 3 = .ok (.istore 4, 2) := by decide +kernel
theorem dk_4_withValue_5 : decode bk_4_withValue 5 = .ok (.lload_n 0, 1) := by decide +kernel
theorem dk_4_withValue_6 : decode bk_4_withValue 6 = .ok (.ldc2_w 11, 3) := by decide +kernel
theorem dk_4_withValue_9 : decode bk_4_withValue 9 = .ok (.iload 4, 2) := by decide +kernel
theorem dk_4_withValue_11 : decode bk_4_withValue 11 = .ok (.lshl, 1) := by decide +kernel
theorem dk_4_withValue_12 : decode bk_4_withValue 12 = .ok (.ldc2_w 13, 3) := by decide +kernel
theorem dk_4_withValue_15 : decode bk_4_withValue 15 = .ok (.lxor, 1) := by decide +kernel
theorem dk_4_withValue_16 : decode bk_4_withValue 16 = .ok (.land, 1) := by decide +kernel
theorem dk_4_withValue_17 : decode bk_4_withValue 17 = .ok (.iload_n 3, 1) := by decide +kernel
theorem dk_4_withValue_18 : decode bk_4_withValue 18 = .ok (.i2l, 1) := by decide +kernel
theorem dk_4_withValue_19 : decode bk_4_withValue 19 = .ok (.iload 4, 2) := by decide +kernel
theorem dk_4_withValue_21 : decode bk_4_withValue 21 = .ok (.lshl, 1) := by decide +kernel
theorem dk_4_withValue_22 : decode bk_4_withValue 22 = .ok (.lor, 1) := by decide +kernel
theorem dk_4_withValue_23 : decode bk_4_withValue 23 = .ok (.lreturn, 1) := by decide +kernel
theorem dk_5_init_0 : decode bk_5_init 0 = .ok (.aload_n 0, 1) := by decide +kernel
theorem dk_5_init_1 : decode bk_5_init 1 = .ok (.invokespecial 3, 3) := by decide +kernel
theorem dk_5_init_4 : decode bk_5_init 4 = .ok (.aload_n 0, 1) := by decide +kernel
theorem dk_5_init_5 : decode bk_5_init 5 = .ok (.bipush 40, 2) := by decide +kernel
theorem dk_5_init_7 : decode bk_5_init 7 = .ok (.newarray .int, 2) := by decide +kernel
theorem dk_5_init_9 : decode bk_5_init 9 = .ok (.putfield 9, 3) := by decide +kernel
theorem dk_5_init_12 : decode bk_5_init 12 = .ok (.aload_n 0, 1) := by decide +kernel
theorem dk_5_init_13 : decode bk_5_init 13 = .ok (.sipush 240, 3) := by decide +kernel
theorem dk_5_init_16 : decode bk_5_init 16 = .ok (.newarray .int, 2) := by decide +kernel
theorem dk_5_init_18 : decode bk_5_init 18 = .ok (.putfield 15, 3) := by decide +kernel
theorem dk_5_init_21 : decode bk_5_init 21 = .ok (.aload_n 0, 1) := by decide +kernel
theorem dk_5_init_22 : decode bk_5_init 22 = .ok (.bipush 40, 2) := by decide +kernel
theorem dk_5_init_24 : decode bk_5_init 24 = .ok (.newarray .boolean, 2) := by decide +kernel
theorem dk_5_init_26 : decode bk_5_init 26 = .ok (.putfield 18, 3) := by decide +kernel
theorem dk_5_init_29 : decode bk_5_init 29 = .ok (.return_, 1) := by decide +kernel
theorem dk_5_isThere_0 : decode bk_5_isThere 0 = .ok (.iload_n 1, 1) := by decide +kernel
theorem dk_5_isThere_1 : decode bk_5_isThere 1 = .ok (.ifCond .lt 15, 3) := by decide +kernel
theorem dk_5_isThere_4 : decode bk_5_isThere 4 = .ok (.iload_n 1, 1) := by decide +kernel
theorem dk_5_isThere_5 : decode bk_5_isThere 5 = .ok (.aload_n 0, 1) := by decide +kernel
theorem dk_5_isThere_6 : decode bk_5_isThere 6 = .ok (.getfield 22, 3) := by decide +kernel
theorem dk_5_isThere_9 : decode bk_5_isThere 9 = .ok (.if_icmp .ge 7, 3) := by decide +kernel
theorem dk_5_isThere_12 : decode bk_5_isThere 12 = .ok (.iconst 1, 1) := by decide +kernel
theorem dk_5_isThere_13 : decode bk_5_isThere 13 = .ok (.goto 4, 3) := by decide +kernel
theorem dk_5_isThere_16 : decode bk_5_isThere 16 = .ok (.iconst 0, 1) := by decide +kernel
theorem dk_5_isThere_17 : decode bk_5_isThere 17 = .ok (.ireturn, 1) := by decide +kernel
theorem dk_5_add_0 : decode bk_5_add 0 = .ok (.aload_n 0, 1) := by decide +kernel
theorem dk_5_add_1 : decode bk_5_add 1 = .ok (.getfield 22, 3) := by decide +kernel
theorem dk_5_add_4 : decode bk_5_add 4 = .ok (.bipush 40, 2) := by decide +kernel
theorem dk_5_add_6 : decode bk_5_add 6 = .ok (.if_icmp .lt 7, 3) := by decide +kernel
theorem dk_5_add_9 : decode bk_5_add 9 = .ok (.iconst (-1), 1) := by decide +kernel
theorem dk_5_add_10 : decode bk_5_add 10 = .ok (.goto 14, 3) := by decide +kernel
theorem dk_5_add_13 : decode bk_5_add 13 = .ok (.aload_n 0, 1) := by decide +kernel
theorem dk_5_add_14 : decode bk_5_add 14 = .ok (.dup, 1) := by decide +kernel
theorem dk_5_add_15 : decode bk_5_add 15 = .ok (.getfield 22, 3) := by decide +kernel
theorem dk_5_add_18 : decode bk_5_add 18 = .ok (.dup_x1, 1) := by decide +kernel
theorem dk_5_add_19 : decode bk_5_add 19 = .ok (.iconst 1, 1) := by decide +kernel
theorem dk_5_add_20 : decode bk_5_add 20 = .ok (.iadd, 1) := by decide +kernel
theorem dk_5_add_21 : decode bk_5_add 21 = .ok (.putfield 22, 3) := by decide +kernel
theorem dk_5_add_24 : decode bk_5_add 24 = .ok (.ireturn, 1) := by decide +kernel
theorem dk_5_askingAt_0 : decode bk_5_askingAt 0 = .ok (.aload_n 0, 1) := by decide +kernel
theorem dk_5_askingAt_1 : decode bk_5_askingAt 1 = .ok (.getfield 15, 3) := by decide +kernel
theorem dk_5_askingAt_4 : decode bk_5_askingAt 4 = .ok (.iload_n 1, 1) := by decide +kernel
theorem dk_5_askingAt_5 : decode bk_5_askingAt 5 = .ok (.bipush 6, 2) := by decide +kernel
theorem dk_5_askingAt_7 : decode bk_5_askingAt 7 = .ok (.imul, 1) := by decide +kernel
theorem dk_5_askingAt_8 : decode bk_5_askingAt 8 = .ok (.iload_n 2, 1) := by decide +kernel
theorem dk_5_askingAt_9 : decode bk_5_askingAt 9 = .ok (.iadd, 1) := by decide +kernel
theorem dk_5_askingAt_10 : decode bk_5_askingAt 10 = .ok (.iaload, 1) := by decide +kernel
theorem dk_5_askingAt_11 : decode bk_5_askingAt 11 = .ok (.ireturn, 1) := by decide +kernel
theorem dk_5_addAsking_0 : decode bk_5_addAsking 0 = .ok (.aload_n 0, 1) := by decide +kernel
theorem dk_5_addAsking_1 : decode bk_5_addAsking 1 = .ok (.getfield 9, 3) := by decide +kernel
theorem dk_5_addAsking_4 : decode bk_5_addAsking 4 = .ok (.iload_n 1, 1) := by decide +kernel
theorem dk_5_addAsking_5 : decode bk_5_addAsking 5 = .ok (.iaload, 1) := by decide +kernel
theorem dk_5_addAsking_6 : decode bk_5_addAsking 6 = .ok (.istore_n 3, 1) := by decide +kernel
theorem dk_5_addAsking_7 : decode bk_5_addAsking 7 = .ok (.aload_n 0, 1) := by decide +kernel
theorem dk_5_addAsking_8 : decode bk_5_addAsking 8 = .ok (.getfield 18, 3) := by decide +kernel
theorem dk_5_addAsking_11 : decode bk_5_addAsking 11 = .ok (.iload_n 1, 1) := by decide +kernel
theorem dk_5_addAsking_12 : decode bk_5_addAsking 12 = .ok (.baload, 1) := by decide +kernel
theorem dk_5_addAsking_13 : decode bk_5_addAsking 13 = .ok (.ifCond .ne 9, 3) := by decide +kernel
theorem dk_5_addAsking_16 : decode bk_5_addAsking 16 = .ok (.iload_n 3, 1) := by decide +kernel
theorem dk_5_addAsking_17 : decode bk_5_addAsking 17 = .ok (.bipush 6, 2) := by decide +kernel
theorem dk_5_addAsking_19 : decode bk_5_addAsking 19 = .ok (.if_icmp .lt 5, 3) := by decide +kernel
theorem dk_5_addAsking_22 : decode bk_5_addAsking 22 = .ok (.iconst 0, 1) := by decide +kernel
theorem dk_5_addAsking_23 : decode bk_5_addAsking 23 = .ok (.ireturn, 1) := by decide +kernel
theorem dk_5_addAsking_24 : decode bk_5_addAsking 24 = .ok (.iconst 0, 1) := by decide +kernel
theorem dk_5_addAsking_25 : decode bk_5_addAsking 25 = .ok (.istore 4, 2) := by decide +kernel
theorem dk_5_addAsking_27 : decode bk_5_addAsking 27 = .ok (.iload 4, 2) := by decide +kernel
theorem dk_5_addAsking_29 : decode bk_5_addAsking 29 = .ok (.iload_n 3, 1) := by decide +kernel
theorem dk_5_addAsking_30 : decode bk_5_addAsking 30 = .ok (.if_icmp .ge 22, 3) := by decide +kernel
theorem dk_5_addAsking_33 : decode bk_5_addAsking 33 = .ok (.aload_n 0, 1) := by decide +kernel
theorem dk_5_addAsking_34 : decode bk_5_addAsking 34 = .ok (.iload_n 1, 1) := by decide +kernel
theorem dk_5_addAsking_35 : decode bk_5_addAsking 35 = .ok (.iload 4, 2) := by decide +kernel
theorem dk_5_addAsking_37 : decode bk_5_addAsking 37 = .ok (.invokevirtual 26, 3) := by decide +kernel
theorem dk_5_addAsking_40 : decode bk_5_addAsking 40 = .ok (.iload_n 2, 1) := by decide +kernel
theorem dk_5_addAsking_41 : decode bk_5_addAsking 41 = .ok (.if_icmp .ne 5, 3) := by decide +kernel
theorem dk_5_addAsking_44 : decode bk_5_addAsking 44 = .ok (.iconst 0, 1) := by decide +kernel
theorem dk_5_addAsking_45 : decode bk_5_addAsking 45 = .ok (.ireturn, 1) := by decide +kernel
theorem dk_5_addAsking_46 : decode bk_5_addAsking 46 = .ok (.iinc 4 1, 3) := by decide +kernel
theorem dk_5_addAsking_49 : decode bk_5_addAsking 49 = .ok (.goto (-22), 3) := by decide +kernel
theorem dk_5_addAsking_52 : decode bk_5_addAsking 52 = .ok (.aload_n 0, 1) := by decide +kernel
theorem dk_5_addAsking_53 : decode bk_5_addAsking 53 = .ok (.getfield 15, 3) := by decide +kernel
theorem dk_5_addAsking_56 : decode bk_5_addAsking 56 = .ok (.iload_n 1, 1) := by decide +kernel
theorem dk_5_addAsking_57 : decode bk_5_addAsking 57 = .ok (.bipush 6, 2) := by decide +kernel
theorem dk_5_addAsking_59 : decode bk_5_addAsking 59 = .ok (.imul, 1) := by decide +kernel
theorem dk_5_addAsking_60 : decode bk_5_addAsking 60 = .ok (.iload_n 3, 1) := by decide +kernel
theorem dk_5_addAsking_61 : decode bk_5_addAsking 61 = .ok (.iadd, 1) := by decide +kernel
theorem dk_5_addAsking_62 : decode bk_5_addAsking 62 = .ok (.iload_n 2, 1) := by decide +kernel
theorem dk_5_addAsking_63 : decode bk_5_addAsking 63 = .ok (.iastore, 1) := by decide +kernel
theorem dk_5_addAsking_64 : decode bk_5_addAsking 64 = .ok (.aload_n 0, 1) := by decide +kernel
theorem dk_5_addAsking_65 : decode bk_5_addAsking 65 = .ok (.getfield 9, 3) := by decide +kernel
theorem dk_5_addAsking_68 : decode bk_5_addAsking 68 = .ok (.iload_n 1, 1) := by decide +kernel
theorem dk_5_addAsking_69 : decode bk_5_addAsking 69 = .ok (.iload_n 3, 1) := by decide +kernel
theorem dk_5_addAsking_70 : decode bk_5_addAsking 70 = .ok (.iconst 1, 1) := by decide +kernel
theorem dk_5_addAsking_71 : decode bk_5_addAsking 71 = .ok (.iadd, 1) := by decide +kernel
theorem dk_5_addAsking_72 : decode bk_5_addAsking 72 = .ok (.iastore, 1) := by decide +kernel
theorem dk_5_addAsking_73 : decode bk_5_addAsking 73 = .ok (.iconst 1, 1) := by decide +kernel
theorem dk_5_addAsking_74 : decode bk_5_addAsking 74 = .ok (.ireturn, 1) := by decide +kernel
theorem dk_6_init_0 : decode bk_6_init 0 = .ok (.aload_n 0, 1) := by decide +kernel
theorem dk_6_init_1 : decode bk_6_init 1 = .ok (.invokespecial 3, 3) := by decide +kernel
theorem dk_6_init_4 : decode bk_6_init 4 = .ok (.aload_n 0, 1) := by decide +kernel
theorem dk_6_init_5 : decode bk_6_init 5 = .ok (.bipush 60, 2) := by decide +kernel
theorem dk_6_init_7 : decode bk_6_init 7 = .ok (.newarray .long, 2) := by decide +kernel
theorem dk_6_init_9 : decode bk_6_init 9 = .ok (.putfield 9, 3) := by decide +kernel
theorem dk_6_init_12 : decode bk_6_init 12 = .ok (.return_, 1) := by decide +kernel
theorem dk_6_isThere_0 : decode bk_6_isThere 0 = .ok (.iload_n 1, 1) := by decide +kernel
theorem dk_6_isThere_1 : decode bk_6_isThere 1 = .ok (.ifCond .lt 15, 3) := by decide +kernel
theorem dk_6_isThere_4 : decode bk_6_isThere 4 = .ok (.iload_n 1, 1) := by decide +kernel
theorem dk_6_isThere_5 : decode bk_6_isThere 5 = .ok (.aload_n 0, 1) := by decide +kernel
theorem dk_6_isThere_6 : decode bk_6_isThere 6 = .ok (.getfield 15, 3) := by decide +kernel
theorem dk_6_isThere_9 : decode bk_6_isThere 9 = .ok (.if_icmp .ge 7, 3) := by decide +kernel
theorem dk_6_isThere_12 : decode bk_6_isThere 12 = .ok (.iconst 1, 1) := by decide +kernel
theorem dk_6_isThere_13 : decode bk_6_isThere 13 = .ok (.goto 4, 3) := by decide +kernel
theorem dk_6_isThere_16 : decode bk_6_isThere 16 = .ok (.iconst 0, 1) := by decide +kernel
theorem dk_6_isThere_17 : decode bk_6_isThere 17 = .ok (.ireturn, 1) := by decide +kernel
theorem dk_6_numberOf_0 : decode bk_6_numberOf 0 = .ok (.iconst 0, 1) := by decide +kernel
theorem dk_6_numberOf_1 : decode bk_6_numberOf 1 = .ok (.istore_n 3, 1) := by decide +kernel
theorem dk_6_numberOf_2 : decode bk_6_numberOf 2 = .ok (.iload_n 3, 1) := by decide +kernel
theorem dk_6_numberOf_3 : decode bk_6_numberOf 3 = .ok (.aload_n 0, 1) := by decide +kernel
theorem dk_6_numberOf_4 : decode bk_6_numberOf 4 = .ok (.getfield 15, 3) := by decide +kernel
theorem dk_6_numberOf_7 : decode bk_6_numberOf 7 = .ok (.if_icmp .ge 22, 3) := by decide +kernel
theorem dk_6_numberOf_10 : decode bk_6_numberOf 10 = .ok (.aload_n 0, 1) := by decide +kernel
theorem dk_6_numberOf_11 : decode bk_6_numberOf 11 = .ok (.getfield 9, 3) := by decide +kernel
theorem dk_6_numberOf_14 : decode bk_6_numberOf 14 = .ok (.iload_n 3, 1) := by decide +kernel
theorem dk_6_numberOf_15 : decode bk_6_numberOf 15 = .ok (.laload, 1) := by decide +kernel
theorem dk_6_numberOf_16 : decode bk_6_numberOf 16 = .ok (.lload_n 1, 1) := by decide +kernel
theorem dk_6_numberOf_17 : decode bk_6_numberOf 17 = .ok (.lcmp, 1) := by decide +kernel
theorem dk_6_numberOf_18 : decode bk_6_numberOf 18 = .ok (.ifCond .ne 5, 3) := by decide +kernel
theorem dk_6_numberOf_21 : decode bk_6_numberOf 21 = .ok (.iload_n 3, 1) := by decide +kernel
theorem dk_6_numberOf_22 : decode bk_6_numberOf 22 = .ok (.ireturn, 1) := by decide +kernel
theorem dk_6_numberOf_23 : decode bk_6_numberOf 23 = .ok (.iinc 3 1, 3) := by decide +kernel
theorem dk_6_numberOf_26 : decode bk_6_numberOf 26 = .ok (.goto (-24), 3) := by decide +kernel
theorem dk_6_numberOf_29 : decode bk_6_numberOf 29 = .ok (.aload_n 0, 1) := by decide +kernel
theorem dk_6_numberOf_30 : decode bk_6_numberOf 30 = .ok (.getfield 15, 3) := by decide +kernel
theorem dk_6_numberOf_33 : decode bk_6_numberOf 33 = .ok (.bipush 60, 2) := by decide +kernel
theorem dk_6_numberOf_35 : decode bk_6_numberOf 35 = .ok (.if_icmp .lt 5, 3) := by decide +kernel
theorem dk_6_numberOf_38 : decode bk_6_numberOf 38 = .ok (.iconst (-1), 1) := by decide +kernel
theorem dk_6_numberOf_39 : decode bk_6_numberOf 39 = .ok (.ireturn, 1) := by decide +kernel
theorem dk_6_numberOf_40 : decode bk_6_numberOf 40 = .ok (.aload_n 0, 1) := by decide +kernel
theorem dk_6_numberOf_41 : decode bk_6_numberOf 41 = .ok (.getfield 9, 3) := by decide +kernel
theorem dk_6_numberOf_44 : decode bk_6_numberOf 44 = .ok (.aload_n 0, 1) := by decide +kernel
theorem dk_6_numberOf_45 : decode bk_6_numberOf 45 = .ok (.getfield 15, 3) := by decide +kernel
theorem dk_6_numberOf_48 : decode bk_6_numberOf 48 = .ok (.lload_n 1, 1) := by decide +kernel
theorem dk_6_numberOf_49 : decode bk_6_numberOf 49 = .ok (.lastore, 1) := by decide +kernel
theorem dk_6_numberOf_50 : decode bk_6_numberOf 50 = .ok (.aload_n 0, 1) := by decide +kernel
theorem dk_6_numberOf_51 : decode bk_6_numberOf 51 = .ok (.dup, 1) := by decide +kernel
theorem dk_6_numberOf_52 : decode bk_6_numberOf 52 = .ok (.getfield 15, 3) := by decide +kernel
theorem dk_6_numberOf_55 : decode bk_6_numberOf 55 = .ok (.dup_x1, 1) := by decide +kernel
theorem dk_6_numberOf_56 : decode bk_6_numberOf 56 = .ok (.iconst 1, 1) := by decide +kernel
theorem dk_6_numberOf_57 : decode bk_6_numberOf 57 = .ok (.iadd, 1) := by decide +kernel
theorem dk_6_numberOf_58 : decode bk_6_numberOf 58 = .ok (.putfield 15, 3) := by decide +kernel
theorem dk_6_numberOf_61 : decode bk_6_numberOf 61 = .ok (.ireturn, 1) := by decide +kernel
theorem dk_6_anyOn_0 : decode bk_6_anyOn 0 = .ok (.iconst 0, 1) := by decide +kernel
theorem dk_6_anyOn_1 : decode bk_6_anyOn 1 = .ok (.istore_n 2, 1) := by decide +kernel
theorem dk_6_anyOn_2 : decode bk_6_anyOn 2 = .ok (.iload_n 2, 1) := by decide +kernel
theorem dk_6_anyOn_3 : decode bk_6_anyOn 3 = .ok (.aload_n 0, 1) := by decide +kernel
theorem dk_6_anyOn_4 : decode bk_6_anyOn 4 = .ok (.getfield 15, 3) := by decide +kernel
theorem dk_6_anyOn_7 : decode bk_6_anyOn 7 = .ok (.if_icmp .ge 24, 3) := by decide +kernel
theorem dk_6_anyOn_10 : decode bk_6_anyOn 10 = .ok (.aload_n 0, 1) := by decide +kernel
theorem dk_6_anyOn_11 : decode bk_6_anyOn 11 = .ok (.getfield 9, 3) := by decide +kernel
theorem dk_6_anyOn_14 : decode bk_6_anyOn 14 = .ok (.iload_n 2, 1) := by decide +kernel
theorem dk_6_anyOn_15 : decode bk_6_anyOn 15 = .ok (.laload, 1) := by decide +kernel
theorem dk_6_anyOn_16 : decode bk_6_anyOn 16 = .ok (.invokestatic 19, 3) := by decide +kernel
theorem dk_6_anyOn_19 : decode bk_6_anyOn 19 = .ok (.iload_n 1, 1) := by decide +kernel
theorem dk_6_anyOn_20 : decode bk_6_anyOn 20 = .ok (.if_icmp .ne 5, 3) := by decide +kernel
theorem dk_6_anyOn_23 : decode bk_6_anyOn 23 = .ok (.iconst 1, 1) := by decide +kernel
theorem dk_6_anyOn_24 : decode bk_6_anyOn 24 = .ok (.ireturn, 1) := by decide +kernel
theorem dk_6_anyOn_25 : decode bk_6_anyOn 25 = .ok (.iinc 2 1, 3) := by decide +kernel
theorem dk_6_anyOn_28 : decode bk_6_anyOn 28 = .ok (.goto (-26), 3) := by decide +kernel
theorem dk_6_anyOn_31 : decode bk_6_anyOn 31 = .ok (.iconst 0, 1) := by decide +kernel
theorem dk_6_anyOn_32 : decode bk_6_anyOn 32 = .ok (.ireturn, 1) := by decide +kernel
theorem dk_6_giveAll_0 : decode bk_6_giveAll 0 = .ok (.iconst 0, 1) := by decide +kernel
theorem dk_6_giveAll_1 : decode bk_6_giveAll 1 = .ok (.istore_n 3, 1) := by decide +kernel
theorem dk_6_giveAll_2 : decode bk_6_giveAll 2 = .ok (.iload_n 3, 1) := by decide +kernel
theorem dk_6_giveAll_3 : decode bk_6_giveAll 3 = .ok (.aload_n 0, 1) := by decide +kernel
theorem dk_6_giveAll_4 : decode bk_6_giveAll 4 = .ok (.getfield 15, 3) := by decide +kernel
theorem dk_6_giveAll_7 : decode bk_6_giveAll 7 = .ok (.if_icmp .ge 26, 3) := by decide +kernel
theorem dk_6_giveAll_10 : decode bk_6_giveAll 10 = .ok (.aload_n 0, 1) := by decide +kernel
theorem dk_6_giveAll_11 : decode bk_6_giveAll 11 = .ok (.getfield 9, 3) := by decide +kernel
theorem dk_6_giveAll_14 : decode bk_6_giveAll 14 = .ok (.iload_n 3, 1) := by decide +kernel
theorem dk_6_giveAll_15 : decode bk_6_giveAll 15 = .ok (.aload_n 0, 1) := by decide +kernel
theorem dk_6_giveAll_16 : decode bk_6_giveAll 16 = .ok (.getfield 9, 3) := by decide +kernel
theorem dk_6_giveAll_19 : decode bk_6_giveAll 19 = .ok (.iload_n 3, 1) := by decide +kernel
theorem dk_6_giveAll_20 : decode bk_6_giveAll 20 = .ok (.laload, 1) := by decide +kernel
theorem dk_6_giveAll_21 : decode bk_6_giveAll 21 = .ok (.iload_n 1, 1) := by decide +kernel
theorem dk_6_giveAll_22 : decode bk_6_giveAll 22 = .ok (.iload_n 2, 1) := by decide +kernel
theorem dk_6_giveAll_23 : decode bk_6_giveAll 23 = .ok (.invokestatic 25, 3) := by decide +kernel
theorem dk_6_giveAll_26 : decode bk_6_giveAll 26 = .ok (.lastore, 1) := by decide +kernel
theorem dk_6_giveAll_27 : decode bk_6_giveAll 27 = .ok (.iinc 3 1, 3) := by decide +kernel
theorem dk_6_giveAll_30 : decode bk_6_giveAll 30 = .ok (.goto (-28), 3) := by decide +kernel
theorem dk_6_giveAll_33 : decode bk_6_giveAll 33 = .ok (.return_, 1) := by decide +kernel
end
section
theorem dk_7_init_0 : decode bk_7_init 0 = .ok (.aload_n 0, 1) := by decide +kernel
theorem dk_7_init_1 : decode bk_7_init 1 = .ok (.invokespecial 3, 3) := by decide +kernel
theorem dk_7_init_4 : decode bk_7_init 4 = .ok (.aload_n 0, 1) := by decide +kernel
theorem dk_7_init_5 : decode bk_7_init 5 = .ok (.bipush 40, 2) := by decide +kernel
theorem dk_7_init_7 : decode bk_7_init 7 = .ok (.newarray .int, 2) := by decide +kernel
theorem dk_7_init_9 : decode bk_7_init 9 = .ok (.putfield 9, 3) := by decide +kernel
theorem dk_7_init_12 : decode bk_7_init 12 = .ok (.aload_n 0, 1) := by decide +kernel
theorem dk_7_init_13 : decode bk_7_init 13 = .ok (.bipush 40, 2) := by decide +kernel
theorem dk_7_init_15 : decode bk_7_init 15 = .ok (.newarray .int, 2) := by decide +kernel
theorem dk_7_init_17 : decode bk_7_init 17 = .ok (.putfield 15, 3) := by decide +kernel
theorem dk_7_init_20 : decode bk_7_init 20 = .ok (.aload_n 0, 1) := by decide +kernel
theorem dk_7_init_21 : decode bk_7_init 21 = .ok (.bipush 40, 2) := by decide +kernel
theorem dk_7_init_23 : decode bk_7_init 23 = .ok (.newarray .int, 2) := by decide +kernel
theorem dk_7_init_25 : decode bk_7_init 25 = .ok (.putfield 18, 3) := by decide +kernel
theorem dk_7_init_28 : decode bk_7_init 28 = .ok (.aload_n 0, 1) := by decide +kernel
theorem dk_7_init_29 : decode bk_7_init 29 = .ok (.bipush 80, 2) := by decide +kernel
theorem dk_7_init_31 : decode bk_7_init 31 = .ok (.newarray .int, 2) := by decide +kernel
theorem dk_7_init_33 : decode bk_7_init 33 = .ok (.putfield 21, 3) := by decide +kernel
theorem dk_7_init_36 : decode bk_7_init 36 = .ok (.aload_n 0, 1) := by decide +kernel
theorem dk_7_init_37 : decode bk_7_init 37 = .ok (.bipush 80, 2) := by decide +kernel
theorem dk_7_init_39 : decode bk_7_init 39 = .ok (.newarray .int, 2) := by decide +kernel
theorem dk_7_init_41 : decode bk_7_init 41 = .ok (.putfield 24, 3) := by decide +kernel
theorem dk_7_init_44 : decode bk_7_init 44 = .ok (.return_, 1) := by decide +kernel
theorem dk_7_isThere_0 : decode bk_7_isThere 0 = .ok (.iload_n 1, 1) := by decide +kernel
theorem dk_7_isThere_1 : decode bk_7_isThere 1 = .ok (.ifCond .lt 15, 3) := by decide +kernel
theorem dk_7_isThere_4 : decode bk_7_isThere 4 = .ok (.iload_n 1, 1) := by decide +kernel
theorem dk_7_isThere_5 : decode bk_7_isThere 5 = .ok (.aload_n 0, 1) := by decide +kernel
theorem dk_7_isThere_6 : decode bk_7_isThere 6 = .ok (.getfield 27, 3) := by decide +kernel
theorem dk_7_isThere_9 : decode bk_7_isThere 9 = .ok (.if_icmp .ge 7, 3) := by decide +kernel
theorem dk_7_isThere_12 : decode bk_7_isThere 12 = .ok (.iconst 1, 1) := by decide +kernel
theorem dk_7_isThere_13 : decode bk_7_isThere 13 = .ok (.goto 4, 3) := by decide +kernel
theorem dk_7_isThere_16 : decode bk_7_isThere 16 = .ok (.iconst 0, 1) := by decide +kernel
theorem dk_7_isThere_17 : decode bk_7_isThere 17 = .ok (.ireturn, 1) := by decide +kernel
theorem dk_7_add_0 : decode bk_7_add 0 = .ok (.aload_n 0, 1) := by decide +kernel
theorem dk_7_add_1 : decode bk_7_add 1 = .ok (.getfield 27, 3) := by decide +kernel
theorem dk_7_add_4 : decode bk_7_add 4 = .ok (.bipush 40, 2) := by decide +kernel
theorem dk_7_add_6 : decode bk_7_add 6 = .ok (.if_icmp .lt 5, 3) := by decide +kernel
theorem dk_7_add_9 : decode bk_7_add 9 = .ok (.iconst (-1), 1) := by decide +kernel
theorem dk_7_add_10 : decode bk_7_add 10 = .ok (.ireturn, 1) := by decide +kernel
theorem dk_7_add_11 : decode bk_7_add 11 = .ok (.aload_n 0, 1) := by decide +kernel
theorem dk_7_add_12 : decode bk_7_add 12 = .ok (.getfield 9, 3) := by decide +kernel
theorem dk_7_add_15 : decode bk_7_add 15 = .ok (.aload_n 0, 1) := by decide +kernel
theorem dk_7_add_16 : decode bk_7_add 16 = .ok (.getfield 27, 3) := by decide +kernel
theorem dk_7_add_19 : decode bk_7_add 19 = .ok (.iload_n 1, 1) := by decide +kernel
theorem dk_7_add_20 : decode bk_7_add 20 = .ok (.iastore, 1) := by decide +kernel
theorem dk_7_add_21 : decode bk_7_add 21 = .ok (.aload_n 0, 1) := by decide +kernel
theorem dk_7_add_22 : decode bk_7_add 22 = .ok (.getfield 15, 3) := by decide +kernel
theorem dk_7_add_25 : decode bk_7_add 25 = .ok (.aload_n 0, 1) := by decide +kernel
theorem dk_7_add_26 : decode bk_7_add 26 = .ok (.getfield 27, 3) := by decide +kernel
theorem dk_7_add_29 : decode bk_7_add 29 = .ok (.iload_n 2, 1) := by decide +kernel
theorem dk_7_add_30 : decode bk_7_add 30 = .ok (.iastore, 1) := by decide +kernel
theorem dk_7_add_31 : decode bk_7_add 31 = .ok (.aload_n 0, 1) := by decide +kernel
theorem dk_7_add_32 : decode bk_7_add 32 = .ok (.dup, 1) := by decide +kernel
theorem dk_7_add_33 : decode bk_7_add 33 = .ok (.getfield 27, 3) := by decide +kernel
theorem dk_7_add_36 : decode bk_7_add 36 = .ok (.dup_x1, 1) := by decide +kernel
theorem dk_7_add_37 : decode bk_7_add 37 = .ok (.iconst 1, 1) := by decide +kernel
theorem dk_7_add_38 : decode bk_7_add 38 = .ok (.iadd, 1) := by decide +kernel
theorem dk_7_add_39 : decode bk_7_add 39 = .ok (.putfield 27, 3) := by decide +kernel
theorem dk_7_add_42 : decode bk_7_add 42 = .ok (.ireturn, 1) := by decide +kernel
theorem dk_7_addChange_0 : decode bk_7_addChange 0 = .ok (.aload_n 0, 1) := by decide +kernel
theorem dk_7_addChange_1 : decode bk_7_addChange 1 = .ok (.getfield 18, 3) := by decide +kernel
theorem dk_7_addChange_4 : decode bk_7_addChange 4 = .ok (.iload_n 1, 1) := by decide +kernel
theorem dk_7_addChange_5 : decode bk_7_addChange 5 = .ok (.iaload, 1) := by decide +kernel
theorem dk_7_addChange_6 : decode bk_7_addChange 6 = .ok (.iconst 2, 1) := by decide +kernel
theorem dk_7_addChange_7 : decode bk_7_addChange 7 = .ok (.if_icmp .lt 5, 3) := by decide +kernel
theorem dk_7_addChange_10 : decode bk_7_addChange 10 = .ok (.iconst 0, 1) := by decide +kernel
theorem dk_7_addChange_11 : decode bk_7_addChange 11 = .ok (.ireturn, 1) := by decide +kernel
theorem dk_7_addChange_12 : decode bk_7_addChange 12 = .ok (.iload_n 1, 1) := by decide +kernel
theorem dk_7_addChange_13 : decode bk_7_addChange 13 = .ok (.iconst 2, 1) := by decide +kernel
theorem dk_7_addChange_14 : decode bk_7_addChange 14 = .ok (.imul, 1) := by decide +kernel
theorem dk_7_addChange_15 : decode bk_7_addChange 15 = .ok (.aload_n 0, 1) := by decide +kernel
theorem dk_7_addChange_16 : decode bk_7_addChange 16 = .ok (.getfield 18, 3) := by decide +kernel
theorem dk_7_addChange_19 : decode bk_7_addChange 19 = .ok (.iload_n 1, 1) := by decide +kernel
theorem dk_7_addChange_20 : decode bk_7_addChange 20 = .ok (.iaload, 1) := by decide +kernel
theorem dk_7_addChange_21 : decode bk_7_addChange 21 = .ok (.iadd, 1) := by decide +kernel
theorem dk_7_addChange_22 : decode bk_7_addChange 22 = .ok (.istore 4, 2) := by decide +kernel
theorem dk_7_addChange_24 : decode bk_7_addChange 24 = .ok (.aload_n 0, 1) := by decide +kernel
theorem dk_7_addChange_25 : decode bk_7_addChange 25 = .ok (.getfield 21, 3) := by decide +kernel
theorem dk_7_addChange_28 : decode bk_7_addChange 28 = .ok (.iload 4, 2) := by decide +kernel
theorem dk_7_addChange_30 : decode bk_7_addChange 30 = .ok (.iload_n 2, 1) := by decide +kernel
theorem dk_7_addChange_31 : decode bk_7_addChange 31 = .ok (.iastore, 1) := by decide +kernel
theorem dk_7_addChange_32 : decode bk_7_addChange 32 = .ok (.aload_n 0, 1) := by decide +kernel
theorem dk_7_addChange_33 : decode bk_7_addChange 33 = .ok (.getfield 24, 3) := by decide +kernel
theorem dk_7_addChange_36 : decode bk_7_addChange 36 = .ok (.iload 4, 2) := by decide +kernel
theorem dk_7_addChange_38 : decode bk_7_addChange 38 = .ok (.iload_n 3, 1) := by decide +kernel
theorem dk_7_addChange_39 : decode bk_7_addChange 39 = .ok (.iastore, 1) := by decide +kernel
theorem dk_7_addChange_40 : decode bk_7_addChange 40 = .ok (.aload_n 0, 1) := by decide +kernel
theorem dk_7_addChange_41 : decode bk_7_addChange 41 = .ok (.getfield 18, 3) := by decide +kernel
theorem dk_7_addChange_44 : decode bk_7_addChange 44 = .ok (.iload_n 1, 1) := by decide +kernel
theorem dk_7_addChange_45 : decode bk_7_addChange 45 = .ok (.dup2, 1) := by decide +kernel
theorem dk_7_addChange_46 : decode bk_7_addChange 46 = .ok (.iaload, 1) := by decide +kernel
theorem dk_7_addChange_47 : decode bk_7_addChange 47 = .ok (.iconst 1, 1) := by decide +kernel
theorem dk_7_addChange_48 : decode bk_7_addChange 48 = .ok (.iadd, 1) := by decide +kernel
theorem dk_7_addChange_49 : decode bk_7_addChange 49 = .ok (.iastore, 1) := by decide +kernel
theorem dk_7_addChange_50 : decode bk_7_addChange 50 = .ok (.iconst 1, 1) := by decide +kernel
theorem dk_7_addChange_51 : decode bk_7_addChange 51 = .ok (.ireturn, 1) := by decide +kernel
theorem dk_7_settingAt_0 : decode bk_7_settingAt 0 = .ok (.aload_n 0, 1) := by decide +kernel
theorem dk_7_settingAt_1 : decode bk_7_settingAt 1 = .ok (.getfield 21, 3) := by decide +kernel
theorem dk_7_settingAt_4 : decode bk_7_settingAt 4 = .ok (.iload_n 1, 1) := by decide +kernel
theorem dk_7_settingAt_5 : decode bk_7_settingAt 5 = .ok (.iconst 2, 1) := by decide +kernel
theorem dk_7_settingAt_6 : decode bk_7_settingAt 6 = .ok (.imul, 1) := by decide +kernel
theorem dk_7_settingAt_7 : decode bk_7_settingAt 7 = .ok (.iload_n 2, 1) := by decide +kernel
theorem dk_7_settingAt_8 : decode bk_7_settingAt 8 = .ok (.iadd, 1) := by decide +kernel
theorem dk_7_settingAt_9 : decode bk_7_settingAt 9 = .ok (.iaload, 1) := by decide +kernel
theorem dk_7_settingAt_10 : decode bk_7_settingAt 10 = .ok (.ireturn, 1) := by decide +kernel
theorem dk_7_valuesAt_0 : decode bk_7_valuesAt 0 = .ok (.aload_n 0, 1) := by decide +kernel
theorem dk_7_valuesAt_1 : decode bk_7_valuesAt 1 = .ok (.getfield 24, 3) := by decide +kernel
theorem dk_7_valuesAt_4 : decode bk_7_valuesAt 4 = .ok (.iload_n 1, 1) := by decide +kernel
theorem dk_7_valuesAt_5 : decode bk_7_valuesAt 5 = .ok (.iconst 2, 1) := by decide +kernel
theorem dk_7_valuesAt_6 : decode bk_7_valuesAt 6 = .ok (.imul, 1) := by decide +kernel
theorem dk_7_valuesAt_7 : decode bk_7_valuesAt 7 = .ok (.iload_n 2, 1) := by decide +kernel
theorem dk_7_valuesAt_8 : decode bk_7_valuesAt 8 = .ok (.iadd, 1) := by decide +kernel
theorem dk_7_valuesAt_9 : decode bk_7_valuesAt 9 = .ok (.iaload, 1) := by decide +kernel
theorem dk_7_valuesAt_10 : decode bk_7_valuesAt 10 = .ok (.ireturn, 1) := by decide +kernel
theorem dk_8_init_0 : decode bk_8_init 0 = .ok (.aload_n 0, 1) := by decide +kernel
theorem dk_8_init_1 : decode bk_8_init 1 = .ok (.invokespecial 3, 3) := by decide +kernel
theorem dk_8_init_4 : decode bk_8_init 4 = .ok (.aload_n 0, 1) := by decide +kernel
theorem dk_8_init_5 : decode bk_8_init 5 = .ok (.bipush 60, 2) := by decide +kernel
theorem dk_8_init_7 : decode bk_8_init 7 = .ok (.newarray .int, 2) := by decide +kernel
theorem dk_8_init_9 : decode bk_8_init 9 = .ok (.putfield 9, 3) := by decide +kernel
theorem dk_8_init_12 : decode bk_8_init 12 = .ok (.aload_n 0, 1) := by decide +kernel
theorem dk_8_init_13 : decode bk_8_init 13 = .ok (.bipush 60, 2) := by decide +kernel
theorem dk_8_init_15 : decode bk_8_init 15 = .ok (.newarray .int, 2) := by decide +kernel
theorem dk_8_init_17 : decode bk_8_init 17 = .ok (.putfield 15, 3) := by decide +kernel
theorem dk_8_init_20 : decode bk_8_init 20 = .ok (.aload_n 0, 1) := by decide +kernel
theorem dk_8_init_21 : decode bk_8_init 21 = .ok (.bipush 60, 2) := by decide +kernel
theorem dk_8_init_23 : decode bk_8_init 23 = .ok (.newarray .int, 2) := by decide +kernel
theorem dk_8_init_25 : decode bk_8_init 25 = .ok (.putfield 18, 3) := by decide +kernel
theorem dk_8_init_28 : decode bk_8_init 28 = .ok (.aload_n 0, 1) := by decide +kernel
theorem dk_8_init_29 : decode bk_8_init 29 = .ok (.bipush 60, 2) := by decide +kernel
theorem dk_8_init_31 : decode bk_8_init 31 = .ok (.newarray .long, 2) := by decide +kernel
theorem dk_8_init_33 : decode bk_8_init 33 = .ok (.putfield 21, 3) := by decide +kernel
theorem dk_8_init_36 : decode bk_8_init 36 = .ok (.return_, 1) := by decide +kernel
theorem dk_8_clear_0 : decode bk_8_clear 0 = .ok (.aload_n 0, 1) := by decide +kernel
theorem dk_8_clear_1 : decode bk_8_clear 1 = .ok (.iconst 0, 1) := by decide +kernel
theorem dk_8_clear_2 : decode bk_8_clear 2 = .ok (.putfield 25, 3) := by decide +kernel
theorem dk_8_clear_5 : decode bk_8_clear 5 = .ok (.return_, 1) := by decide +kernel
theorem dk_8_isThere_0 : decode bk_8_isThere 0 = .ok (.iload_n 1, 1) := by decide +kernel
theorem dk_8_isThere_1 : decode bk_8_isThere 1 = .ok (.ifCond .lt 15, 3) := by decide +kernel
theorem dk_8_isThere_4 : decode bk_8_isThere 4 = .ok (.iload_n 1, 1) := by decide +kernel
theorem dk_8_isThere_5 : decode bk_8_isThere 5 = .ok (.aload_n 0, 1) := by decide +kernel
theorem dk_8_isThere_6 : decode bk_8_isThere 6 = .ok (.getfield 25, 3) := by decide +kernel
theorem dk_8_isThere_9 : decode bk_8_isThere 9 = .ok (.if_icmp .ge 7, 3) := by decide +kernel
theorem dk_8_isThere_12 : decode bk_8_isThere 12 = .ok (.iconst 1, 1) := by decide +kernel
theorem dk_8_isThere_13 : decode bk_8_isThere 13 = .ok (.goto 4, 3) := by decide +kernel
theorem dk_8_isThere_16 : decode bk_8_isThere 16 = .ok (.iconst 0, 1) := by decide +kernel
theorem dk_8_isThere_17 : decode bk_8_isThere 17 = .ok (.ireturn, 1) := by decide +kernel
theorem dk_8_numberOf_0 : decode bk_8_numberOf 0 = .ok (.iconst 0, 1) := by decide +kernel
theorem dk_8_numberOf_1 : decode bk_8_numberOf 1 = .ok (.istore_n 3, 1) := by decide +kernel
theorem dk_8_numberOf_2 : decode bk_8_numberOf 2 = .ok (.iload_n 3, 1) := by decide +kernel
theorem dk_8_numberOf_3 : decode bk_8_numberOf 3 = .ok (.aload_n 0, 1) := by decide +kernel
theorem dk_8_numberOf_4 : decode bk_8_numberOf 4 = .ok (.getfield 25, 3) := by decide +kernel
theorem dk_8_numberOf_7 : decode bk_8_numberOf 7 = .ok (.if_icmp .ge 31, 3) := by decide +kernel
theorem dk_8_numberOf_10 : decode bk_8_numberOf 10 = .ok (.aload_n 0, 1) := by decide +kernel
theorem dk_8_numberOf_11 : decode bk_8_numberOf 11 = .ok (.getfield 9, 3) := by decide +kernel
theorem dk_8_numberOf_14 : decode bk_8_numberOf 14 = .ok (.iload_n 3, 1) := by decide +kernel
theorem dk_8_numberOf_15 : decode bk_8_numberOf 15 = .ok (.iaload, 1) := by decide +kernel
theorem dk_8_numberOf_16 : decode bk_8_numberOf 16 = .ok (.iload_n 1, 1) := by decide +kernel
theorem dk_8_numberOf_17 : decode bk_8_numberOf 17 = .ok (.if_icmp .ne 15, 3) := by decide +kernel
theorem dk_8_numberOf_20 : decode bk_8_numberOf 20 = .ok (.aload_n 0, 1) := by decide +kernel
theorem dk_8_numberOf_21 : decode bk_8_numberOf 21 = .ok (.getfield 15, 3) := by decide +kernel
theorem dk_8_numberOf_24 : decode bk_8_numberOf 24 = .ok (.iload_n 3, 1) := by decide +kernel
theorem dk_8_numberOf_25 : decode bk_8_numberOf 25 = .ok (.iaload, 1) := by decide +kernel
theorem dk_8_numberOf_26 : decode bk_8_numberOf 26 = .ok (.iload_n 2, 1) := by decide +kernel
theorem dk_8_numberOf_27 : decode bk_8_numberOf 27 = .ok (.if_icmp .ne 5, 3) := by decide +kernel
theorem dk_8_numberOf_30 : decode bk_8_numberOf 30 = .ok (.iload_n 3, 1) := by decide +kernel
theorem dk_8_numberOf_31 : decode bk_8_numberOf 31 = .ok (.ireturn, 1) := by decide +kernel
theorem dk_8_numberOf_32 : decode bk_8_numberOf 32 = .ok (.iinc 3 1, 3) := by decide +kernel
theorem dk_8_numberOf_35 : decode bk_8_numberOf 35 = .ok (.goto (-33), 3) := by decide +kernel
theorem dk_8_numberOf_38 : decode bk_8_numberOf 38 = .ok (.aload_n 0, 1) := by decide +kernel
theorem dk_8_numberOf_39 : decode bk_8_numberOf 39 = .ok (.getfield 25, 3) := by decide +kernel
theorem dk_8_numberOf_42 : decode bk_8_numberOf 42 = .ok (.bipush 60, 2) := by decide +kernel
theorem dk_8_numberOf_44 : decode bk_8_numberOf 44 = .ok (.if_icmp .lt 5, 3) := by decide +kernel
theorem dk_8_numberOf_47 : decode bk_8_numberOf 47 = .ok (.iconst (-1), 1) := by decide +kernel
theorem dk_8_numberOf_48 : decode bk_8_numberOf 48 = .ok (.ireturn, 1) := by decide +kernel
theorem dk_8_numberOf_49 : decode bk_8_numberOf 49 = .ok (.aload_n 0, 1) := by decide +kernel
theorem dk_8_numberOf_50 : decode bk_8_numberOf 50 = .ok (.getfield 9, 3) := by decide +kernel
theorem dk_8_numberOf_53 : decode bk_8_numberOf 53 = .ok (.aload_n 0, 1) := by decide +kernel
theorem dk_8_numberOf_54 : decode bk_8_numberOf 54 = .ok (.getfield 25, 3) := by decide +kernel
theorem dk_8_numberOf_57 : decode bk_8_numberOf 57 = .ok (.iload_n 1, 1) := by decide +kernel
theorem dk_8_numberOf_58 : decode bk_8_numberOf 58 = .ok (.iastore, 1) := by decide +kernel
theorem dk_8_numberOf_59 : decode bk_8_numberOf 59 = .ok (.aload_n 0, 1) := by decide +kernel
theorem dk_8_numberOf_60 : decode bk_8_numberOf 60 = .ok (.getfield 15, 3) := by decide +kernel
theorem dk_8_numberOf_63 : decode bk_8_numberOf 63 = .ok (.aload_n 0, 1) := by decide +kernel
theorem dk_8_numberOf_64 : decode bk_8_numberOf 64 = .ok (.getfield 25, 3) := by decide +kernel
theorem dk_8_numberOf_67 : decode bk_8_numberOf 67 = .ok (.iload_n 2, 1) := by decide +kernel
theorem dk_8_numberOf_68 : decode bk_8_numberOf 68 = .ok (.iastore, 1) := by decide +kernel
theorem dk_8_numberOf_69 : decode bk_8_numberOf 69 = .ok (.aload_n 0, 1) := by decide +kernel
theorem dk_8_numberOf_70 : decode bk_8_numberOf 70 = .ok (.getfield 18, 3) := by decide +kernel
theorem dk_8_numberOf_73 : decode bk_8_numberOf 73 = .ok (.aload_n 0, 1) := by decide +kernel
theorem dk_8_numberOf_74 : decode bk_8_numberOf 74 = .ok (.getfield 25, 3) := by decide +kernel
theorem dk_8_numberOf_77 : decode bk_8_numberOf 77 = .ok (.iconst 0, 1) := by decide +kernel
theorem dk_8_numberOf_78 : decode bk_8_numberOf 78 = .ok (.iastore, 1) := by decide +kernel
theorem dk_8_numberOf_79 : decode bk_8_numberOf 79 = .ok (.aload_n 0, 1) := by decide +kernel
theorem dk_8_numberOf_80 : decode bk_8_numberOf 80 = .ok (.getfield 21, 3) := by decide +kernel
theorem dk_8_numberOf_83 : decode bk_8_numberOf 83 = .ok (.aload_n 0, 1) := by decide +kernel
theorem dk_8_numberOf_84 : decode bk_8_numberOf 84 = .ok (.getfield 25, 3) := by decide +kernel
theorem dk_8_numberOf_87 : decode bk_8_numberOf 87 = .ok (.lconst 0, 1) := by decide +kernel
theorem dk_8_numberOf_88 : decode bk_8_numberOf 88 = .ok (.lastore, 1) := by decide +kernel
theorem dk_8_numberOf_89 : decode bk_8_numberOf 89 = .ok (.aload_n 0, 1) := by decide +kernel
theorem dk_8_numberOf_90 : decode bk_8_numberOf 90 = .ok (.dup, 1) := by decide +kernel
theorem dk_8_numberOf_91 : decode bk_8_numberOf 91 = .ok (.getfield 25, 3) := by decide +kernel
theorem dk_8_numberOf_94 : decode bk_8_numberOf 94 = .ok (.dup_x1, 1) := by decide +kernel
theorem dk_8_numberOf_95 : decode bk_8_numberOf 95 = .ok (.iconst 1, 1) := by decide +kernel
theorem dk_8_numberOf_96 : decode bk_8_numberOf 96 = .ok (.iadd, 1) := by decide +kernel
theorem dk_8_numberOf_97 : decode bk_8_numberOf 97 = .ok (.putfield 25, 3) := by decide +kernel
theorem dk_8_numberOf_100 : decode bk_8_numberOf 100 = .ok (.ireturn, 1) := by decide +kernel
theorem dk_8_leaveOutByNeeds_0 : decode bk_8_leaveOutByNeeds 0 = .ok (.iconst 0, 1) := by decide +kernel
theorem dk_8_leaveOutByNeeds_1 : decode bk_8_leaveOutByNeeds 1 = .ok (.istore_n 1, 1) := by decide +kernel
theorem dk_8_leaveOutByNeeds_2 : decode bk_8_leaveOutByNeeds 2 = .ok (.iload_n 1, 1) := by decide +kernel
theorem dk_8_leaveOutByNeeds_3 : decode bk_8_leaveOutByNeeds 3 = .ok (.bipush 60, 2) := by decide +kernel
theorem dk_8_leaveOutByNeeds_5 : decode bk_8_leaveOutByNeeds 5 = .ok (.if_icmp .ge 74, 3) := by decide +kernel
theorem dk_8_leaveOutByNeeds_8 : decode bk_8_leaveOutByNeeds 8 = .ok (.aload_n 0, 1) := by decide +kernel
theorem dk_8_leaveOutByNeeds_9 : decode bk_8_leaveOutByNeeds 9 = .ok (.invokevirtual 29, 3) := by decide +kernel
theorem dk_8_leaveOutByNeeds_12 : decode bk_8_leaveOutByNeeds 12 = .ok (.lstore_n 2, 1) := by decide +kernel
theorem dk_8_leaveOutByNeeds_13 : decode bk_8_leaveOutByNeeds 13 = .ok (.iconst 0, 1) := by decide +kernel
theorem dk_8_leaveOutByNeeds_14 : decode bk_8_leaveOutByNeeds 14 = .ok (.istore 4, 2) := by decide +kernel
theorem dk_8_leaveOutByNeeds_16 : decode bk_8_leaveOutByNeeds 16 = .ok (.iload 4, 2) := by decide +kernel
theorem dk_8_leaveOutByNeeds_18 : decode bk_8_leaveOutByNeeds 18 = .ok (.aload_n 0, 1) := by decide +kernel
theorem dk_8_leaveOutByNeeds_19 : decode bk_8_leaveOutByNeeds 19 = .ok (.getfield 25, 3) := by decide +kernel
theorem dk_8_leaveOutByNeeds_22 : decode bk_8_leaveOutByNeeds 22 = .ok (.if_icmp .ge 41, 3) := by decide +kernel
theorem dk_8_leaveOutByNeeds_25 : decode bk_8_leaveOutByNeeds 25 = .ok (.aload_n 0, 1) := by decide +kernel
theorem dk_8_leaveOutByNeeds_26 : decode bk_8_leaveOutByNeeds 26 = .ok (.getfield 18, 3) := by decide +kernel
theorem dk_8_leaveOutByNeeds_29 : decode bk_8_leaveOutByNeeds 29 = .ok (.iload 4, 2) := by decide +kernel
theorem dk_8_leaveOutByNeeds_31 : decode bk_8_leaveOutByNeeds 31 = .ok (.iaload, 1) := by decide +kernel
theorem dk_8_leaveOutByNeeds_32 : decode bk_8_leaveOutByNeeds 32 = .ok (.ifCond .ne 25, 3) := by decide +kernel
theorem dk_8_leaveOutByNeeds_35 : decode bk_8_leaveOutByNeeds 35 = .ok (.aload_n 0, 1) := by decide +kernel
theorem dk_8_leaveOutByNeeds_36 : decode bk_8_leaveOutByNeeds 36 = .ok (.getfield 21, 3) := by decide +kernel
theorem dk_8_leaveOutByNeeds_39 : decode bk_8_leaveOutByNeeds 39 = .ok (.iload 4, 2) := by decide +kernel
theorem dk_8_leaveOutByNeeds_41 : decode bk_8_leaveOutByNeeds 41 = .ok (.laload, 1) := by decide +kernel
theorem dk_8_leaveOutByNeeds_42 : decode bk_8_leaveOutByNeeds 42 = .ok (.lload_n 2, 1) := by decide +kernel
theorem dk_8_leaveOutByNeeds_43 : decode bk_8_leaveOutByNeeds 43 = .ok (.land, 1) := by decide +kernel
theorem dk_8_leaveOutByNeeds_44 : decode bk_8_leaveOutByNeeds 44 = .ok (.lconst 0, 1) := by decide +kernel
theorem dk_8_leaveOutByNeeds_45 : decode bk_8_leaveOutByNeeds 45 = .ok (.lcmp, 1) := by decide +kernel
theorem dk_8_leaveOutByNeeds_46 : decode bk_8_leaveOutByNeeds 46 = .ok (.ifCond .eq 11, 3) := by decide +kernel
theorem dk_8_leaveOutByNeeds_49 : decode bk_8_leaveOutByNeeds 49 = .ok (.aload_n 0, 1) := by decide +kernel
theorem dk_8_leaveOutByNeeds_50 : decode bk_8_leaveOutByNeeds 50 = .ok (.getfield 18, 3) := by decide +kernel
theorem dk_8_leaveOutByNeeds_53 : decode bk_8_leaveOutByNeeds 53 = .ok (.iload 4, 2) := by decide +kernel
theorem dk_8_leaveOutByNeeds_55 : decode bk_8_leaveOutByNeeds 55 = .ok (.iconst 2, 1) := by decide +kernel
theorem dk_8_leaveOutByNeeds_56 : decode bk_8_leaveOutByNeeds 56 = .ok (.iastore, 1) := by decide +kernel
theorem dk_8_leaveOutByNeeds_57 : decode bk_8_leaveOutByNeeds 57 = .ok (.iinc 4 1, 3) := by decide +kernel
theorem dk_8_leaveOutByNeeds_60 : decode bk_8_leaveOutByNeeds 60 = .ok (.goto (-44), 3) := by decide +kernel
theorem dk_8_leaveOutByNeeds_63 : decode bk_8_leaveOutByNeeds 63 = .ok (.aload_n 0, 1) := by decide +kernel
theorem dk_8_leaveOutByNeeds_64 : decode bk_8_leaveOutByNeeds 64 = .ok (.invokevirtual 29, 3) := by decide +kernel
theorem dk_8_leaveOutByNeeds_67 : decode bk_8_leaveOutByNeeds 67 = .ok (.lload_n 2, 1) := by decide +kernel
theorem dk_8_leaveOutByNeeds_68 : decode bk_8_leaveOutByNeeds 68 = .ok (.lcmp, 1) := by decide +kernel
theorem dk_8_leaveOutByNeeds_69 : decode bk_8_leaveOutByNeeds 69 = .ok (.ifCond .ne 4, 3) := by decide +kernel
theorem dk_8_leaveOutByNeeds_72 : decode bk_8_leaveOutByNeeds 72 = .ok (.return_, 1) := by decide +kernel
theorem dk_8_leaveOutByNeeds_73 : decode bk_8_leaveOutByNeeds 73 = .ok (.iinc 1 1, 3) := by decide +kernel
theorem dk_8_leaveOutByNeeds_76 : decode bk_8_leaveOutByNeeds 76 = .ok (.goto (-74), 3) := by decide +kernel
theorem dk_8_leaveOutByNeeds_79 : decode bk_8_leaveOutByNeeds 79 = .ok (.return_, 1) := by decide +kernel
theorem dk_8_allLeftOut_0 : decode bk_8_allLeftOut 0 = .ok (.lconst 0, 1) := by decide +kernel
theorem dk_8_allLeftOut_1 : decode bk_8_allLeftOut 1 = .ok (.lstore_n 1, 1) := by decide +kernel
theorem dk_8_allLeftOut_2 : decode bk_8_allLeftOut 2 = .ok (.iconst 0, 1) := by decide +kernel
theorem dk_8_allLeftOut_3 : decode bk_8_allLeftOut 3 = .ok (.istore_n 3, 1) := by decide +kernel
theorem dk_8_allLeftOut_4 : decode bk_8_allLeftOut 4 = .ok (.iload_n 3, 1) := by decide +kernel
theorem dk_8_allLeftOut_5 : decode bk_8_allLeftOut 5 = .ok (.aload_n 0, 1) := by decide +kernel
theorem dk_8_allLeftOut_6 : decode bk_8_allLeftOut 6 = .ok (.getfield 25, 3) := by decide +kernel
theorem dk_8_allLeftOut_9 : decode bk_8_allLeftOut 9 = .ok (.if_icmp .ge 24, 3) := by decide +kernel
theorem dk_8_allLeftOut_12 : decode bk_8_allLeftOut 12 = .ok (.aload_n 0, 1) := by decide +kernel
theorem dk_8_allLeftOut_13 : decode bk_8_allLeftOut 13 = .ok (.getfield 18, 3) := by decide +kernel
theorem dk_8_allLeftOut_16 : decode bk_8_allLeftOut 16 = .ok (.iload_n 3, 1) := by decide +kernel
theorem dk_8_allLeftOut_17 : decode bk_8_allLeftOut 17 = .ok (.iaload, 1) := by decide +kernel
theorem dk_8_allLeftOut_18 : decode bk_8_allLeftOut 18 = .ok (.ifCond .eq 9, 3) := by decide +kernel
theorem dk_8_allLeftOut_21 : decode bk_8_allLeftOut 21 = .ok (.lload_n 1, 1) := by decide +kernel
theorem dk_8_allLeftOut_22 : decode bk_8_allLeftOut 22 = .ok (.lconst 1, 1) := by decide +kernel
theorem dk_8_allLeftOut_23 : decode bk_8_allLeftOut 23 = .ok (.iload_n 3, 1) := by decide +kernel
theorem dk_8_allLeftOut_24 : decode bk_8_allLeftOut 24 = .ok (.lshl, 1) := by decide +kernel
theorem dk_8_allLeftOut_25 : decode bk_8_allLeftOut 25 = .ok (.lor, 1) := by decide +kernel
theorem dk_8_allLeftOut_26 : decode bk_8_allLeftOut 26 = .ok (.lstore_n 1, 1) := by decide +kernel
theorem dk_8_allLeftOut_27 : decode bk_8_allLeftOut 27 = .ok (.iinc 3 1, 3) := by decide +kernel
theorem dk_8_allLeftOut_30 : decode bk_8_allLeftOut 30 = .ok (.goto (-26), 3) := by decide +kernel
theorem dk_8_allLeftOut_33 : decode bk_8_allLeftOut 33 = .ok (.lload_n 1, 1) := by decide +kernel
theorem dk_8_allLeftOut_34 : decode bk_8_allLeftOut 34 = .ok (.lreturn, 1) := by decide +kernel
theorem dk_9_init_0 : decode bk_9_init 0 = .ok (.aload_n 0, 1) := by decide +kernel
theorem dk_9_init_1 : decode bk_9_init 1 = .ok (.invokespecial 3, 3) := by decide +kernel
theorem dk_9_init_4 : decode bk_9_init 4 = .ok (.aload_n 0, 1) := by decide +kernel
theorem dk_9_init_5 : decode bk_9_init 5 = .ok (.bipush 64, 2) := by decide +kernel
theorem dk_9_init_7 : decode bk_9_init 7 = .ok (.newarray .int, 2) := by decide +kernel
theorem dk_9_init_9 : decode bk_9_init 9 = .ok (.putfield 9, 3) := by decide +kernel
theorem dk_9_init_12 : decode bk_9_init 12 = .ok (.return_, 1) := by decide +kernel
theorem dk_9_isThere_0 : decode bk_9_isThere 0 = .ok (.iload_n 1, 1) := by decide +kernel
theorem dk_9_isThere_1 : decode bk_9_isThere 1 = .ok (.ifCond .lt 15, 3) := by decide +kernel
theorem dk_9_isThere_4 : decode bk_9_isThere 4 = .ok (.iload_n 1, 1) := by decide +kernel
theorem dk_9_isThere_5 : decode bk_9_isThere 5 = .ok (.aload_n 0, 1) := by decide +kernel
theorem dk_9_isThere_6 : decode bk_9_isThere 6 = .ok (.getfield 15, 3) := by decide +kernel
theorem dk_9_isThere_9 : decode bk_9_isThere 9 = .ok (.if_icmp .ge 7, 3) := by decide +kernel
theorem dk_9_isThere_12 : decode bk_9_isThere 12 = .ok (.iconst 1, 1) := by decide +kernel
theorem dk_9_isThere_13 : decode bk_9_isThere 13 = .ok (.goto 4, 3) := by decide +kernel
theorem dk_9_isThere_16 : decode bk_9_isThere 16 = .ok (.iconst 0, 1) := by decide +kernel
theorem dk_9_isThere_17 : decode bk_9_isThere 17 = .ok (.ireturn, 1) := by decide +kernel
theorem dk_9_add_0 : decode bk_9_add 0 = .ok (.aload_n 0, 1) := by decide +kernel
theorem dk_9_add_1 : decode bk_9_add 1 = .ok (.getfield 15, 3) := by decide +kernel
theorem dk_9_add_4 : decode bk_9_add 4 = .ok (.bipush 8, 2) := by decide +kernel
theorem dk_9_add_6 : decode bk_9_add 6 = .ok (.if_icmp .lt 5, 3) := by decide +kernel
theorem dk_9_add_9 : decode bk_9_add 9 = .ok (.iconst (-1), 1) := by decide +kernel
theorem dk_9_add_10 : decode bk_9_add 10 = .ok (.ireturn, 1) := by decide +kernel
theorem dk_9_add_11 : decode bk_9_add 11 = .ok (.iconst 0, 1) := by decide +kernel
theorem dk_9_add_12 : decode bk_9_add 12 = .ok (.istore_n 1, 1) := by decide +kernel
theorem dk_9_add_13 : decode bk_9_add 13 = .ok (.iload_n 1, 1) := by decide +kernel
theorem dk_9_add_14 : decode bk_9_add 14 = .ok (.bipush 8, 2) := by decide +kernel
theorem dk_9_add_16 : decode bk_9_add 16 = .ok (.if_icmp .ge 19, 3) := by decide +kernel
theorem dk_9_add_19 : decode bk_9_add 19 = .ok (.aload_n 0, 1) := by decide +kernel
theorem dk_9_add_20 : decode bk_9_add 20 = .ok (.aload_n 0, 1) := by decide +kernel
theorem dk_9_add_21 : decode bk_9_add 21 = .ok (.getfield 15, 3) := by decide +kernel
theorem dk_9_add_24 : decode bk_9_add 24 = .ok (.iload_n 1, 1) := by decide +kernel
theorem dk_9_add_25 : decode bk_9_add 25 = .ok (.iconst (-1), 1) := by decide +kernel
theorem dk_9_add_26 : decode bk_9_add 26 = .ok (.invokevirtual 19, 3) := by decide +kernel
theorem dk_9_add_29 : decode bk_9_add 29 = .ok (.iinc 1 1, 3) := by decide +kernel
theorem dk_9_add_32 : decode bk_9_add 32 = .ok (.goto (-19), 3) := by decide +kernel
theorem dk_9_add_35 : decode bk_9_add 35 = .ok (.aload_n 0, 1) := by decide +kernel
theorem dk_9_add_36 : decode bk_9_add 36 = .ok (.dup, 1) := by decide +kernel
theorem dk_9_add_37 : decode bk_9_add 37 = .ok (.getfield 15, 3) := by decide +kernel
theorem dk_9_add_40 : decode bk_9_add 40 = .ok (.dup_x1, 1) := by decide +kernel
theorem dk_9_add_41 : decode bk_9_add 41 = .ok (.iconst 1, 1) := by decide +kernel
theorem dk_9_add_42 : decode bk_9_add 42 = .ok (.iadd, 1) := by decide +kernel
theorem dk_9_add_43 : decode bk_9_add 43 = .ok (.putfield 15, 3) := by decide +kernel
theorem dk_9_add_46 : decode bk_9_add 46 = .ok (.ireturn, 1) := by decide +kernel
theorem dk_9_put_0 : decode bk_9_put 0 = .ok (.aload_n 0, 1) := by decide +kernel
theorem dk_9_put_1 : decode bk_9_put 1 = .ok (.getfield 9, 3) := by decide +kernel
theorem dk_9_put_4 : decode bk_9_put 4 = .ok (.iload_n 1, 1) := by decide +kernel
theorem dk_9_put_5 : decode bk_9_put 5 = .ok (.bipush 8, 2) := by decide +kernel
theorem dk_9_put_7 : decode bk_9_put 7 = .ok (.imul, 1) := by decide +kernel
theorem dk_9_put_8 : decode bk_9_put 8 = .ok (.iload_n 2, 1) := by decide +kernel
theorem dk_9_put_9 : decode bk_9_put 9 = .ok (.iadd, 1) := by decide +kernel
theorem dk_9_put_10 : decode bk_9_put 10 = .ok (.iload_n 3, 1) := by decide +kernel
theorem dk_9_put_11 : decode bk_9_put 11 = .ok (.iastore, 1) := by decide +kernel
theorem dk_9_put_12 : decode bk_9_put 12 = .ok (.return_, 1) := by decide +kernel
theorem dk_9_valueAt_0 : decode bk_9_valueAt 0 = .ok (.aload_n 0, 1) := by decide +kernel
theorem dk_9_valueAt_1 : decode bk_9_valueAt 1 = .ok (.getfield 9, 3) := by decide +kernel
theorem dk_9_valueAt_4 : decode bk_9_valueAt 4 = .ok (.iload_n 1, 1) := by decide +kernel
theorem dk_9_valueAt_5 : decode bk_9_valueAt 5 = .ok (.bipush 8, 2) := by decide +kernel
theorem dk_9_valueAt_7 : decode bk_9_valueAt 7 = .ok (.imul, 1) := by decide +kernel
theorem dk_9_valueAt_8 : decode bk_9_valueAt 8 = .ok (.iload_n 2, 1) := by decide +kernel
theorem dk_9_valueAt_9 : decode bk_9_valueAt 9 = .ok (.iadd, 1) := by decide +kernel
theorem dk_9_valueAt_10 : decode bk_9_valueAt 10 = .ok (.iaload, 1) := by decide +kernel
theorem dk_9_valueAt_11 : decode bk_9_valueAt 11 = .ok (.ireturn, 1) := by decide +kernel
theorem dk_10_init_0 : decode bk_10_init 0 = .ok (.aload_n 0, 1) := by decide +kernel
theorem dk_10_init_1 : decode bk_10_init 1 = .ok (.invokespecial 3, 3) := by decide +kernel
theorem dk_10_init_4 : decode bk_10_init 4 = .ok (.aload_n 0, 1) := by decide +kernel
theorem dk_10_init_5 : decode bk_10_init 5 = .ok (.bipush 24, 2) := by decide +kernel
theorem dk_10_init_7 : decode bk_10_init 7 = .ok (.newarray .int, 2) := by decide +kernel
theorem dk_10_init_9 : decode bk_10_init 9 = .ok (.putfield 9, 3) := by decide +kernel
theorem dk_10_init_12 : decode bk_10_init 12 = .ok (.aload_n 0, 1) := by decide +kernel
theorem dk_10_init_13 : decode bk_10_init 13 = .ok (.bipush 24, 2) := by decide +kernel
theorem dk_10_init_15 : decode bk_10_init 15 = .ok (.newarray .long, 2) := by decide +kernel
theorem dk_10_init_17 : decode bk_10_init 17 = .ok (.putfield 15, 3) := by decide +kernel
theorem dk_10_init_20 : decode bk_10_init 20 = .ok (.aload_n 0, 1) := by decide +kernel
theorem dk_10_init_21 : decode bk_10_init 21 = .ok (.bipush 24, 2) := by decide +kernel
theorem dk_10_init_23 : decode bk_10_init 23 = .ok (.newarray .boolean, 2) := by decide +kernel
theorem dk_10_init_25 : decode bk_10_init 25 = .ok (.putfield 19, 3) := by decide +kernel
theorem dk_10_init_28 : decode bk_10_init 28 = .ok (.aload_n 0, 1) := by decide +kernel
theorem dk_10_init_29 : decode bk_10_init 29 = .ok (.bipush 24, 2) := by decide +kernel
theorem dk_10_init_31 : decode bk_10_init 31 = .ok (.newarray .boolean, 2) := by decide +kernel
theorem dk_10_init_33 : decode bk_10_init 33 = .ok (.putfield 23, 3) := by decide +kernel
theorem dk_10_init_36 : decode bk_10_init 36 = .ok (.aload_n 0, 1) := by decide +kernel
theorem dk_10_init_37 : decode bk_10_init 37 = .ok (.bipush 24, 2) := by decide +kernel
theorem dk_10_init_39 : decode bk_10_init 39 = .ok (.newarray .int, 2) := by decide +kernel
theorem dk_10_init_41 : decode bk_10_init 41 = .ok (.putfield 26, 3) := by decide +kernel
theorem dk_10_init_44 : decode bk_10_init 44 = .ok (.aload_n 0, 1) := by decide +kernel
theorem dk_10_init_45 : decode bk_10_init 45 = .ok (.sipush 192, 3) := by decide +kernel
theorem dk_10_init_48 : decode bk_10_init 48 = .ok (.newarray .int, 2) := by decide +kernel
theorem dk_10_init_50 : decode bk_10_init 50 = .ok (.putfield 29, 3) := by decide +kernel
theorem dk_10_init_53 : decode bk_10_init 53 = .ok (.aload_n 0, 1) := by decide +kernel
theorem dk_10_init_54 : decode bk_10_init 54 = .ok (.sipush 192, 3) := by decide +kernel
theorem dk_10_init_57 : decode bk_10_init 57 = .ok (.newarray .boolean, 2) := by decide +kernel
theorem dk_10_init_59 : decode bk_10_init 59 = .ok (.putfield 32, 3) := by decide +kernel
theorem dk_10_init_62 : decode bk_10_init 62 = .ok (.aload_n 0, 1) := by decide +kernel
theorem dk_10_init_63 : decode bk_10_init 63 = .ok (.sipush 192, 3) := by decide +kernel
theorem dk_10_init_66 : decode bk_10_init 66 = .ok (.newarray .int, 2) := by decide +kernel
theorem dk_10_init_68 : decode bk_10_init 68 = .ok (.putfield 35, 3) := by decide +kernel
theorem dk_10_init_71 : decode bk_10_init 71 = .ok (.return_, 1) := by decide +kernel
theorem dk_10_place_0 : decode bk_10_place 0 = .ok (.iload_n 0, 1) := by decide +kernel
theorem dk_10_place_1 : decode bk_10_place 1 = .ok (.bipush 8, 2) := by decide +kernel
theorem dk_10_place_3 : decode bk_10_place 3 = .ok (.imul, 1) := by decide +kernel
theorem dk_10_place_4 : decode bk_10_place 4 = .ok (.iload_n 1, 1) := by decide +kernel
theorem dk_10_place_5 : decode bk_10_place 5 = .ok (.iadd, 1) := by decide +kernel
theorem dk_10_place_6 : decode bk_10_place 6 = .ok (.ireturn, 1) := by decide +kernel
theorem dk_10_isThere_0 : decode bk_10_isThere 0 = .ok (.iload_n 1, 1) := by decide +kernel
theorem dk_10_isThere_1 : decode bk_10_isThere 1 = .ok (.ifCond .lt 15, 3) := by decide +kernel
theorem dk_10_isThere_4 : decode bk_10_isThere 4 = .ok (.iload_n 1, 1) := by decide +kernel
theorem dk_10_isThere_5 : decode bk_10_isThere 5 = .ok (.aload_n 0, 1) := by decide +kernel
theorem dk_10_isThere_6 : decode bk_10_isThere 6 = .ok (.getfield 38, 3) := by decide +kernel
theorem dk_10_isThere_9 : decode bk_10_isThere 9 = .ok (.if_icmp .ge 7, 3) := by decide +kernel
theorem dk_10_isThere_12 : decode bk_10_isThere 12 = .ok (.iconst 1, 1) := by decide +kernel
theorem dk_10_isThere_13 : decode bk_10_isThere 13 = .ok (.goto 4, 3) := by decide +kernel
theorem dk_10_isThere_16 : decode bk_10_isThere 16 = .ok (.iconst 0, 1) := by decide +kernel
theorem dk_10_isThere_17 : decode bk_10_isThere 17 = .ok (.ireturn, 1) := by decide +kernel
theorem dk_10_add_0 : decode bk_10_add 0 = .ok (.aload_n 0, 1) := by decide +kernel
theorem dk_10_add_1 : decode bk_10_add 1 = .ok (.getfield 38, 3) := by decide +kernel
theorem dk_10_add_4 : decode bk_10_add 4 = .ok (.bipush 24, 2) := by decide +kernel
theorem dk_10_add_6 : decode bk_10_add 6 = .ok (.if_icmp .lt 5, 3) := by decide +kernel
theorem dk_10_add_9 : decode bk_10_add 9 = .ok (.iconst (-1), 1) := by decide +kernel
theorem dk_10_add_10 : decode bk_10_add 10 = .ok (.ireturn, 1) := by decide +kernel
theorem dk_10_add_11 : decode bk_10_add 11 = .ok (.aload_n 0, 1) := by decide +kernel
theorem dk_10_add_12 : decode bk_10_add 12 = .ok (.getfield 9, 3) := by decide +kernel
theorem dk_10_add_15 : decode bk_10_add 15 = .ok (.aload_n 0, 1) := by decide +kernel
theorem dk_10_add_16 : decode bk_10_add 16 = .ok (.getfield 38, 3) := by decide +kernel
theorem dk_10_add_19 : decode bk_10_add 19 = .ok (.iload_n 1, 1) := by decide +kernel
theorem dk_10_add_20 : decode bk_10_add 20 = .ok (.iastore, 1) := by decide +kernel
theorem dk_10_add_21 : decode bk_10_add 21 = .ok (.aload_n 0, 1) := by decide +kernel
theorem dk_10_add_22 : decode bk_10_add 22 = .ok (.getfield 15, 3) := by decide +kernel
theorem dk_10_add_25 : decode bk_10_add 25 = .ok (.aload_n 0, 1) := by decide +kernel
theorem dk_10_add_26 : decode bk_10_add 26 = .ok (.getfield 38, 3) := by decide +kernel
theorem dk_10_add_29 : decode bk_10_add 29 = .ok (.invokestatic 42, 3) := by decide +kernel
theorem dk_10_add_32 : decode bk_10_add 32 = .ok (.lastore, 1) := by decide +kernel
theorem dk_10_add_33 : decode bk_10_add 33 = .ok (.aload_n 0, 1) := by decide +kernel
theorem dk_10_add_34 : decode bk_10_add 34 = .ok (.dup, 1) := by decide +kernel
theorem dk_10_add_35 : decode bk_10_add 35 = .ok (.getfield 38, 3) := by decide +kernel
theorem dk_10_add_38 : decode bk_10_add 38 = .ok (.dup_x1, 1) := by decide +kernel
theorem dk_10_add_39 : decode bk_10_add 39 = .ok (.iconst 1, 1) := by decide +kernel
theorem dk_10_add_40 : decode bk_10_add 40 = .ok (.iadd, 1) := by decide +kernel
theorem dk_10_add_41 : decode bk_10_add 41 = .ok (.putfield 38, 3) := by decide +kernel
theorem dk_10_add_44 : decode bk_10_add 44 = .ok (.ireturn, 1) := by decide +kernel
theorem dk_10_conditionAt_0 : decode bk_10_conditionAt 0 = .ok (.aload_n 0, 1) := by decide +kernel
theorem dk_10_conditionAt_1 : decode bk_10_conditionAt 1 = .ok (.getfield 29, 3) := by decide +kernel
theorem dk_10_conditionAt_4 : decode bk_10_conditionAt 4 = .ok (.iload_n 1, 1) := by decide +kernel
theorem dk_10_conditionAt_5 : decode bk_10_conditionAt 5 = .ok (.iload_n 2, 1) := by decide +kernel
theorem dk_10_conditionAt_6 : decode bk_10_conditionAt 6 = .ok (.invokestatic 48, 3) := by decide +kernel
theorem dk_10_conditionAt_9 : decode bk_10_conditionAt 9 = .ok (.iaload, 1) := by decide +kernel
theorem dk_10_conditionAt_10 : decode bk_10_conditionAt 10 = .ok (.ireturn, 1) := by decide +kernel
end
section
theorem dk_10_mayNest_0 : decode bk_10_mayNest 0 = .ok (.iload_n 2, 1) := by decide +kernel
theorem dk_10_mayNest_1 : decode bk_10_mayNest 1 = .ok (.ifCond .lt 45, 3) := by decide +kernel
theorem dk_10_mayNest_4 : decode bk_10_mayNest 4 = .ok (.iload_n 2, 1) := by decide +kernel
theorem dk_10_mayNest_5 : decode bk_10_mayNest 5 = .ok (.iload_n 1, 1) := by decide +kernel
theorem dk_10_mayNest_6 : decode bk_10_mayNest 6 = .ok (.if_icmp .ge 40, 3) := by decide +kernel
theorem dk_10_mayNest_9 : decode bk_10_mayNest 9 = .ok (.aload_n 0, 1) := by decide +kernel
theorem dk_10_mayNest_10 : decode bk_10_mayNest 10 = .ok (.getfield 9, 3) := by decide +kernel
theorem dk_10_mayNest_13 : decode bk_10_mayNest 13 = .ok (.iload_n 2, 1) := by decide +kernel
theorem dk_10_mayNest_14 : decode bk_10_mayNest 14 = .ok (.iaload, 1) := by decide +kernel
theorem dk_10_mayNest_15 : decode bk_10_mayNest 15 = .ok (.aload_n 0, 1) := by decide +kernel
theorem dk_10_mayNest_16 : decode bk_10_mayNest 16 = .ok (.getfield 9, 3) := by decide +kernel
theorem dk_10_mayNest_19 : decode bk_10_mayNest 19 = .ok (.iload_n 1, 1) := by decide +kernel
theorem dk_10_mayNest_20 : decode bk_10_mayNest 20 = .ok (.iaload, 1) := by decide +kernel
theorem dk_10_mayNest_21 : decode bk_10_mayNest 21 = .ok (.if_icmp .ne 25, 3) := by decide +kernel
theorem dk_10_mayNest_24 : decode bk_10_mayNest 24 = .ok (.aload_n 0, 1) := by decide +kernel
theorem dk_10_mayNest_25 : decode bk_10_mayNest 25 = .ok (.getfield 23, 3) := by decide +kernel
theorem dk_10_mayNest_28 : decode bk_10_mayNest 28 = .ok (.iload_n 2, 1) := by decide +kernel
theorem dk_10_mayNest_29 : decode bk_10_mayNest 29 = .ok (.baload, 1) := by decide +kernel
theorem dk_10_mayNest_30 : decode bk_10_mayNest 30 = .ok (.ifCond .ne 16, 3) := by decide +kernel
theorem dk_10_mayNest_33 : decode bk_10_mayNest 33 = .ok (.aload_n 0, 1) := by decide +kernel
theorem dk_10_mayNest_34 : decode bk_10_mayNest 34 = .ok (.getfield 19, 3) := by decide +kernel
theorem dk_10_mayNest_37 : decode bk_10_mayNest 37 = .ok (.iload_n 1, 1) := by decide +kernel
theorem dk_10_mayNest_38 : decode bk_10_mayNest 38 = .ok (.baload, 1) := by decide +kernel
theorem dk_10_mayNest_39 : decode bk_10_mayNest 39 = .ok (.ifCond .ne 7, 3) := by decide +kernel
theorem dk_10_mayNest_42 : decode bk_10_mayNest 42 = .ok (.iconst 1, 1) := by decide +kernel
theorem dk_10_mayNest_43 : decode bk_10_mayNest 43 = .ok (.goto 4, 3) := by decide +kernel
theorem dk_10_mayNest_46 : decode bk_10_mayNest 46 = .ok (.iconst 0, 1) := by decide +kernel
theorem dk_10_mayNest_47 : decode bk_10_mayNest 47 = .ok (.ireturn, 1) := by decide +kernel
theorem dk_10_addBranch_0 : decode bk_10_addBranch 0 = .ok (.aload_n 0, 1) := by decide +kernel
theorem dk_10_addBranch_1 : decode bk_10_addBranch 1 = .ok (.getfield 26, 3) := by decide +kernel
theorem dk_10_addBranch_4 : decode bk_10_addBranch 4 = .ok (.iload_n 1, 1) := by decide +kernel
theorem dk_10_addBranch_5 : decode bk_10_addBranch 5 = .ok (.iaload, 1) := by decide +kernel
theorem dk_10_addBranch_6 : decode bk_10_addBranch 6 = .ok (.bipush 8, 2) := by decide +kernel
theorem dk_10_addBranch_8 : decode bk_10_addBranch 8 = .ok (.if_icmp .lt 5, 3) := by decide +kernel
theorem dk_10_addBranch_11 : decode bk_10_addBranch 11 = .ok (.iconst 0, 1) := by decide +kernel
theorem dk_10_addBranch_12 : decode bk_10_addBranch 12 = .ok (.ireturn, 1) := by decide +kernel
theorem dk_10_addBranch_13 : decode bk_10_addBranch 13 = .ok (.iload_n 1, 1) := by decide +kernel
theorem dk_10_addBranch_14 : decode bk_10_addBranch 14 = .ok (.aload_n 0, 1) := by decide +kernel
theorem dk_10_addBranch_15 : decode bk_10_addBranch 15 = .ok (.getfield 26, 3) := by decide +kernel
theorem dk_10_addBranch_18 : decode bk_10_addBranch 18 = .ok (.iload_n 1, 1) := by decide +kernel
theorem dk_10_addBranch_19 : decode bk_10_addBranch 19 = .ok (.iaload, 1) := by decide +kernel
theorem dk_10_addBranch_20 : decode bk_10_addBranch 20 = .ok (.invokestatic 48, 3) := by decide +kernel
theorem dk_10_addBranch_23 : decode bk_10_addBranch 23 = .ok (.istore 5, 2) := by decide +kernel
theorem dk_10_addBranch_25 : decode bk_10_addBranch 25 = .ok (.aload_n 0, 1) := by decide +kernel
theorem dk_10_addBranch_26 : decode bk_10_addBranch 26 = .ok (.getfield 29, 3) := by decide +kernel
theorem dk_10_addBranch_29 : decode bk_10_addBranch 29 = .ok (.iload 5, 2) := by decide +kernel
theorem dk_10_addBranch_31 : decode bk_10_addBranch 31 = .ok (.iload_n 2, 1) := by decide +kernel
theorem dk_10_addBranch_32 : decode bk_10_addBranch 32 = .ok (.iastore, 1) := by decide +kernel
theorem dk_10_addBranch_33 : decode bk_10_addBranch 33 = .ok (.aload_n 0, 1) := by decide +kernel
theorem dk_10_addBranch_34 : decode bk_10_addBranch 34 = .ok (.getfield 32, 3) := by decide +kernel
theorem dk_10_addBranch_37 : decode bk_10_addBranch 37 = .ok (.iload 5, 2) := by decide +kernel
theorem dk_10_addBranch_39 : decode bk_10_addBranch 39 = .ok (.iload_n 3, 1) := by decide +kernel
theorem dk_10_addBranch_40 : decode bk_10_addBranch 40 = .ok (.bastore, 1) := by decide +kernel
theorem dk_10_addBranch_41 : decode bk_10_addBranch 41 = .ok (.aload_n 0, 1) := by decide +kernel
theorem dk_10_addBranch_42 : decode bk_10_addBranch 42 = .ok (.getfield 35, 3) := by decide +kernel
theorem dk_10_addBranch_45 : decode bk_10_addBranch 45 = .ok (.iload 5, 2) := by decide +kernel
theorem dk_10_addBranch_47 : decode bk_10_addBranch 47 = .ok (.iload 4, 2) := by decide +kernel
theorem dk_10_addBranch_49 : decode bk_10_addBranch 49 = .ok (.iastore, 1) := by decide +kernel
theorem dk_10_addBranch_50 : decode bk_10_addBranch 50 = .ok (.aload_n 0, 1) := by decide +kernel
theorem dk_10_addBranch_51 : decode bk_10_addBranch 51 = .ok (.getfield 26, 3) := by decide +kernel
theorem dk_10_addBranch_54 : decode bk_10_addBranch 54 = .ok (.iload_n 1, 1) := by decide +kernel
theorem dk_10_addBranch_55 : decode bk_10_addBranch 55 = .ok (.dup2, 1) := by decide +kernel
theorem dk_10_addBranch_56 : decode bk_10_addBranch 56 = .ok (.iaload, 1) := by decide +kernel
theorem dk_10_addBranch_57 : decode bk_10_addBranch 57 = .ok (.iconst 1, 1) := by decide +kernel
theorem dk_10_addBranch_58 : decode bk_10_addBranch 58 = .ok (.iadd, 1) := by decide +kernel
theorem dk_10_addBranch_59 : decode bk_10_addBranch 59 = .ok (.iastore, 1) := by decide +kernel
theorem dk_10_addBranch_60 : decode bk_10_addBranch 60 = .ok (.iload_n 3, 1) := by decide +kernel
theorem dk_10_addBranch_61 : decode bk_10_addBranch 61 = .ok (.ifCond .eq 18, 3) := by decide +kernel
theorem dk_10_addBranch_64 : decode bk_10_addBranch 64 = .ok (.aload_n 0, 1) := by decide +kernel
theorem dk_10_addBranch_65 : decode bk_10_addBranch 65 = .ok (.getfield 23, 3) := by decide +kernel
theorem dk_10_addBranch_68 : decode bk_10_addBranch 68 = .ok (.iload_n 1, 1) := by decide +kernel
theorem dk_10_addBranch_69 : decode bk_10_addBranch 69 = .ok (.iconst 1, 1) := by decide +kernel
theorem dk_10_addBranch_70 : decode bk_10_addBranch 70 = .ok (.bastore, 1) := by decide +kernel
theorem dk_10_addBranch_71 : decode bk_10_addBranch 71 = .ok (.aload_n 0, 1) := by decide +kernel
theorem dk_10_addBranch_72 : decode bk_10_addBranch 72 = .ok (.getfield 19, 3) := by decide +kernel
theorem dk_10_addBranch_75 : decode bk_10_addBranch 75 = .ok (.iload 4, 2) := by decide +kernel
theorem dk_10_addBranch_77 : decode bk_10_addBranch 77 = .ok (.iconst 1, 1) := by decide +kernel
theorem dk_10_addBranch_78 : decode bk_10_addBranch 78 = .ok (.bastore, 1) := by decide +kernel
theorem dk_10_addBranch_79 : decode bk_10_addBranch 79 = .ok (.iconst 1, 1) := by decide +kernel
theorem dk_10_addBranch_80 : decode bk_10_addBranch 80 = .ok (.ireturn, 1) := by decide +kernel
theorem dk_11_init_0 : decode bk_11_init 0 = .ok (.aload_n 0, 1) := by decide +kernel
theorem dk_11_init_1 : decode bk_11_init 1 = .ok (.invokespecial 3, 3) := by decide +kernel
theorem dk_11_init_4 : decode bk_11_init 4 = .ok (.aload_n 0, 1) := by decide +kernel
theorem dk_11_init_5 : decode bk_11_init 5 = .ok (.bipush 16, 2) := by decide +kernel
theorem dk_11_init_7 : decode bk_11_init 7 = .ok (.newarray .int, 2) := by decide +kernel
theorem dk_11_init_9 : decode bk_11_init 9 = .ok (.putfield 9, 3) := by decide +kernel
theorem dk_11_init_12 : decode bk_11_init 12 = .ok (.aload_n 0, 1) := by decide +kernel
theorem dk_11_init_13 : decode bk_11_init 13 = .ok (.bipush 16, 2) := by decide +kernel
theorem dk_11_init_15 : decode bk_11_init 15 = .ok (.newarray .int, 2) := by decide +kernel
theorem dk_11_init_17 : decode bk_11_init 17 = .ok (.putfield 15, 3) := by decide +kernel
theorem dk_11_init_20 : decode bk_11_init 20 = .ok (.aload_n 0, 1) := by decide +kernel
theorem dk_11_init_21 : decode bk_11_init 21 = .ok (.bipush 16, 2) := by decide +kernel
theorem dk_11_init_23 : decode bk_11_init 23 = .ok (.newarray .int, 2) := by decide +kernel
theorem dk_11_init_25 : decode bk_11_init 25 = .ok (.putfield 18, 3) := by decide +kernel
theorem dk_11_init_28 : decode bk_11_init 28 = .ok (.return_, 1) := by decide +kernel
theorem dk_11_isThere_0 : decode bk_11_isThere 0 = .ok (.iload_n 1, 1) := by decide +kernel
theorem dk_11_isThere_1 : decode bk_11_isThere 1 = .ok (.ifCond .lt 15, 3) := by decide +kernel
theorem dk_11_isThere_4 : decode bk_11_isThere 4 = .ok (.iload_n 1, 1) := by decide +kernel
theorem dk_11_isThere_5 : decode bk_11_isThere 5 = .ok (.aload_n 0, 1) := by decide +kernel
theorem dk_11_isThere_6 : decode bk_11_isThere 6 = .ok (.getfield 21, 3) := by decide +kernel
theorem dk_11_isThere_9 : decode bk_11_isThere 9 = .ok (.if_icmp .ge 7, 3) := by decide +kernel
theorem dk_11_isThere_12 : decode bk_11_isThere 12 = .ok (.iconst 1, 1) := by decide +kernel
theorem dk_11_isThere_13 : decode bk_11_isThere 13 = .ok (.goto 4, 3) := by decide +kernel
theorem dk_11_isThere_16 : decode bk_11_isThere 16 = .ok (.iconst 0, 1) := by decide +kernel
theorem dk_11_isThere_17 : decode bk_11_isThere 17 = .ok (.ireturn, 1) := by decide +kernel
theorem dk_11_add_0 : decode bk_11_add 0 = .ok (.aload_n 0, 1) := by decide +kernel
theorem dk_11_add_1 : decode bk_11_add 1 = .ok (.getfield 21, 3) := by decide +kernel
theorem dk_11_add_4 : decode bk_11_add 4 = .ok (.bipush 16, 2) := by decide +kernel
theorem dk_11_add_6 : decode bk_11_add 6 = .ok (.if_icmp .lt 5, 3) := by decide +kernel
theorem dk_11_add_9 : decode bk_11_add 9 = .ok (.iconst (-1), 1) := by decide +kernel
theorem dk_11_add_10 : decode bk_11_add 10 = .ok (.ireturn, 1) := by decide +kernel
theorem dk_11_add_11 : decode bk_11_add 11 = .ok (.aload_n 0, 1) := by decide +kernel
theorem dk_11_add_12 : decode bk_11_add 12 = .ok (.getfield 9, 3) := by decide +kernel
theorem dk_11_add_15 : decode bk_11_add 15 = .ok (.aload_n 0, 1) := by decide +kernel
theorem dk_11_add_16 : decode bk_11_add 16 = .ok (.getfield 21, 3) := by decide +kernel
theorem dk_11_add_19 : decode bk_11_add 19 = .ok (.iload_n 1, 1) := by decide +kernel
theorem dk_11_add_20 : decode bk_11_add 20 = .ok (.iastore, 1) := by decide +kernel
theorem dk_11_add_21 : decode bk_11_add 21 = .ok (.aload_n 0, 1) := by decide +kernel
theorem dk_11_add_22 : decode bk_11_add 22 = .ok (.getfield 15, 3) := by decide +kernel
theorem dk_11_add_25 : decode bk_11_add 25 = .ok (.aload_n 0, 1) := by decide +kernel
theorem dk_11_add_26 : decode bk_11_add 26 = .ok (.getfield 21, 3) := by decide +kernel
theorem dk_11_add_29 : decode bk_11_add 29 = .ok (.iload_n 2, 1) := by decide +kernel
theorem dk_11_add_30 : decode bk_11_add 30 = .ok (.iastore, 1) := by decide +kernel
theorem dk_11_add_31 : decode bk_11_add 31 = .ok (.aload_n 0, 1) := by decide +kernel
theorem dk_11_add_32 : decode bk_11_add 32 = .ok (.getfield 18, 3) := by decide +kernel
theorem dk_11_add_35 : decode bk_11_add 35 = .ok (.aload_n 0, 1) := by decide +kernel
theorem dk_11_add_36 : decode bk_11_add 36 = .ok (.getfield 21, 3) := by decide +kernel
theorem dk_11_add_39 : decode bk_11_add 39 = .ok (.iload_n 3, 1) := by decide +kernel
theorem dk_11_add_40 : decode bk_11_add 40 = .ok (.iastore, 1) := by decide +kernel
theorem dk_11_add_41 : decode bk_11_add 41 = .ok (.aload_n 0, 1) := by decide +kernel
theorem dk_11_add_42 : decode bk_11_add 42 = .ok (.dup, 1) := by decide +kernel
theorem dk_11_add_43 : decode bk_11_add 43 = .ok (.getfield 21, 3) := by decide +kernel
theorem dk_11_add_46 : decode bk_11_add 46 = .ok (.dup_x1, 1) := by decide +kernel
theorem dk_11_add_47 : decode bk_11_add 47 = .ok (.iconst 1, 1) := by decide +kernel
theorem dk_11_add_48 : decode bk_11_add 48 = .ok (.iadd, 1) := by decide +kernel
theorem dk_11_add_49 : decode bk_11_add 49 = .ok (.putfield 21, 3) := by decide +kernel
theorem dk_11_add_52 : decode bk_11_add 52 = .ok (.ireturn, 1) := by decide +kernel
theorem dk_11_baseOf_0 : decode bk_11_baseOf 0 = .ok (.iload_n 1, 1) := by decide +kernel
theorem dk_11_baseOf_1 : decode bk_11_baseOf 1 = .ok (.istore_n 2, 1) := by decide +kernel
theorem dk_11_baseOf_2 : decode bk_11_baseOf 2 = .ok (.iconst 0, 1) := by decide +kernel
theorem dk_11_baseOf_3 : decode bk_11_baseOf 3 = .ok (.istore_n 3, 1) := by decide +kernel
theorem dk_11_baseOf_4 : decode bk_11_baseOf 4 = .ok (.iload_n 3, 1) := by decide +kernel
theorem dk_11_baseOf_5 : decode bk_11_baseOf 5 = .ok (.bipush 16, 2) := by decide +kernel
theorem dk_11_baseOf_7 : decode bk_11_baseOf 7 = .ok (.if_icmp .ge 38, 3) := by decide +kernel
theorem dk_11_baseOf_10 : decode bk_11_baseOf 10 = .ok (.aload_n 0, 1) := by decide +kernel
theorem dk_11_baseOf_11 : decode bk_11_baseOf 11 = .ok (.iload_n 2, 1) := by decide +kernel
theorem dk_11_baseOf_12 : decode bk_11_baseOf 12 = .ok (.invokevirtual 25, 3) := by decide +kernel
theorem dk_11_baseOf_15 : decode bk_11_baseOf 15 = .ok (.ifCond .ne 5, 3) := by decide +kernel
theorem dk_11_baseOf_18 : decode bk_11_baseOf 18 = .ok (.iconst (-1), 1) := by decide +kernel
theorem dk_11_baseOf_19 : decode bk_11_baseOf 19 = .ok (.ireturn, 1) := by decide +kernel
theorem dk_11_baseOf_20 : decode bk_11_baseOf 20 = .ok (.aload_n 0, 1) := by decide +kernel
theorem dk_11_baseOf_21 : decode bk_11_baseOf 21 = .ok (.getfield 18, 3) := by decide +kernel
theorem dk_11_baseOf_24 : decode bk_11_baseOf 24 = .ok (.iload_n 2, 1) := by decide +kernel
theorem dk_11_baseOf_25 : decode bk_11_baseOf 25 = .ok (.iaload, 1) := by decide +kernel
theorem dk_11_baseOf_26 : decode bk_11_baseOf 26 = .ok (.iconst (-1), 1) := by decide +kernel
theorem dk_11_baseOf_27 : decode bk_11_baseOf 27 = .ok (.if_icmp .ne 5, 3) := by decide +kernel
theorem dk_11_baseOf_30 : decode bk_11_baseOf 30 = .ok (.iload_n 2, 1) := by decide +kernel
theorem dk_11_baseOf_31 : decode bk_11_baseOf 31 = .ok (.ireturn, 1) := by decide +kernel
theorem dk_11_baseOf_32 : decode bk_11_baseOf 32 = .ok (.aload_n 0, 1) := by decide +kernel
theorem dk_11_baseOf_33 : decode bk_11_baseOf 33 = .ok (.getfield 18, 3) := by decide +kernel
theorem dk_11_baseOf_36 : decode bk_11_baseOf 36 = .ok (.iload_n 2, 1) := by decide +kernel
theorem dk_11_baseOf_37 : decode bk_11_baseOf 37 = .ok (.iaload, 1) := by decide +kernel
theorem dk_11_baseOf_38 : decode bk_11_baseOf 38 = .ok (.istore_n 2, 1) := by decide +kernel
theorem dk_11_baseOf_39 : decode bk_11_baseOf 39 = .ok (.iinc 3 1, 3) := by decide +kernel
theorem dk_11_baseOf_42 : decode bk_11_baseOf 42 = .ok (.goto (-38), 3) := by decide +kernel
theorem dk_11_baseOf_45 : decode bk_11_baseOf 45 = .ok (.iconst (-1), 1) := by decide +kernel
theorem dk_11_baseOf_46 : decode bk_11_baseOf 46 = .ok (.ireturn, 1) := by decide +kernel
theorem dk_12_init_0 : decode bk_12_init 0 = .ok (.aload_n 0, 1) := by decide +kernel
theorem dk_12_init_1 : decode bk_12_init 1 = .ok (.invokespecial 3, 3) := by decide +kernel
theorem dk_12_init_4 : decode bk_12_init 4 = .ok (.aload_n 0, 1) := by decide +kernel
theorem dk_12_init_5 : decode bk_12_init 5 = .ok (.bipush 16, 2) := by decide +kernel
theorem dk_12_init_7 : decode bk_12_init 7 = .ok (.newarray .int, 2) := by decide +kernel
theorem dk_12_init_9 : decode bk_12_init 9 = .ok (.putfield 9, 3) := by decide +kernel
theorem dk_12_init_12 : decode bk_12_init 12 = .ok (.aload_n 0, 1) := by decide +kernel
theorem dk_12_init_13 : decode bk_12_init 13 = .ok (.bipush 16, 2) := by decide +kernel
theorem dk_12_init_15 : decode bk_12_init 15 = .ok (.newarray .int, 2) := by decide +kernel
theorem dk_12_init_17 : decode bk_12_init 17 = .ok (.putfield 15, 3) := by decide +kernel
theorem dk_12_init_20 : decode bk_12_init 20 = .ok (.return_, 1) := by decide +kernel
theorem dk_12_isThere_0 : decode bk_12_isThere 0 = .ok (.iload_n 1, 1) := by decide +kernel
theorem dk_12_isThere_1 : decode bk_12_isThere 1 = .ok (.ifCond .lt 15, 3) := by decide +kernel
theorem dk_12_isThere_4 : decode bk_12_isThere 4 = .ok (.iload_n 1, 1) := by decide +kernel
theorem dk_12_isThere_5 : decode bk_12_isThere 5 = .ok (.aload_n 0, 1) := by decide +kernel
theorem dk_12_isThere_6 : decode bk_12_isThere 6 = .ok (.getfield 18, 3) := by decide +kernel
theorem dk_12_isThere_9 : decode bk_12_isThere 9 = .ok (.if_icmp .ge 7, 3) := by decide +kernel
theorem dk_12_isThere_12 : decode bk_12_isThere 12 = .ok (.iconst 1, 1) := by decide +kernel
theorem dk_12_isThere_13 : decode bk_12_isThere 13 = .ok (.goto 4, 3) := by decide +kernel
theorem dk_12_isThere_16 : decode bk_12_isThere 16 = .ok (.iconst 0, 1) := by decide +kernel
theorem dk_12_isThere_17 : decode bk_12_isThere 17 = .ok (.ireturn, 1) := by decide +kernel
theorem dk_12_add_0 : decode bk_12_add 0 = .ok (.aload_n 0, 1) := by decide +kernel
theorem dk_12_add_1 : decode bk_12_add 1 = .ok (.getfield 18, 3) := by decide +kernel
theorem dk_12_add_4 : decode bk_12_add 4 = .ok (.bipush 16, 2) := by decide +kernel
theorem dk_12_add_6 : decode bk_12_add 6 = .ok (.if_icmp .lt 5, 3) := by decide +kernel
theorem dk_12_add_9 : decode bk_12_add 9 = .ok (.iconst (-1), 1) := by decide +kernel
theorem dk_12_add_10 : decode bk_12_add 10 = .ok (.ireturn, 1) := by decide +kernel
theorem dk_12_add_11 : decode bk_12_add 11 = .ok (.aload_n 0, 1) := by decide +kernel
theorem dk_12_add_12 : decode bk_12_add 12 = .ok (.getfield 9, 3) := by decide +kernel
theorem dk_12_add_15 : decode bk_12_add 15 = .ok (.aload_n 0, 1) := by decide +kernel
theorem dk_12_add_16 : decode bk_12_add 16 = .ok (.getfield 18, 3) := by decide +kernel
theorem dk_12_add_19 : decode bk_12_add 19 = .ok (.iconst (-1), 1) := by decide +kernel
theorem dk_12_add_20 : decode bk_12_add 20 = .ok (.iastore, 1) := by decide +kernel
theorem dk_12_add_21 : decode bk_12_add 21 = .ok (.aload_n 0, 1) := by decide +kernel
theorem dk_12_add_22 : decode bk_12_add 22 = .ok (.dup, 1) := by decide +kernel
theorem dk_12_add_23 : decode bk_12_add 23 = .ok (.getfield 18, 3) := by decide +kernel
theorem dk_12_add_26 : decode bk_12_add 26 = .ok (.dup_x1, 1) := by decide +kernel
theorem dk_12_add_27 : decode bk_12_add 27 = .ok (.iconst 1, 1) := by decide +kernel
theorem dk_12_add_28 : decode bk_12_add 28 = .ok (.iadd, 1) := by decide +kernel
theorem dk_12_add_29 : decode bk_12_add 29 = .ok (.putfield 18, 3) := by decide +kernel
theorem dk_12_add_32 : decode bk_12_add 32 = .ok (.ireturn, 1) := by decide +kernel
end
section
/-! the state's numbers: gL 0 = SelectConfig.latestChoice; gI 0 = SelectConfig$Settings.count; gA 0 = SelectConfig$Settings.values [16] [I; gA 1 = SelectConfig$Settings.fallback [16] [I; gA 2 = SelectConfig$Settings.other [16] [I; gI 1 = SelectConfig$Platforms.count; gA 3 = SelectConfig$Platforms.axisValue [64] [I; gI 2 = SelectConfig$Configurations.count; gB 0 = SelectConfig$Configurations.codes [60]; gI 3 = SelectConfig$Conditions.count; gA 4 = SelectConfig$Conditions.askingCount [40] [I; gA 5 = SelectConfig$Conditions.askings [240] [I; gA 6 = SelectConfig$Conditions.used [40] [Z; gI 4 = SelectConfig$Targets.count; gA 7 = SelectConfig$Targets.wanted [16] [I; gA 8 = SelectConfig$Targets.read [16] [I; gI 5 = SelectConfig$Selects.count; gA 9 = SelectConfig$Selects.target [24] [I; gB 1 = SelectConfig$Selects.otherwise [24]; gA 10 = SelectConfig$Selects.isWithin [24] [Z; gA 11 = SelectConfig$Selects.hasWithin [24] [Z; gA 12 = SelectConfig$Selects.branchCount [24] [I; gA 13 = SelectConfig$Selects.branchCondition [192] [I; gA 14 = SelectConfig$Selects.branchNested [192] [Z; gA 15 = SelectConfig$Selects.branchValue [192] [I; gI 6 = SelectConfig$Needs.count; gA 16 = SelectConfig$Needs.target [40] [I; gA 17 = SelectConfig$Needs.other [40] [I; gA 18 = SelectConfig$Needs.changeCount [40] [I; gA 19 = SelectConfig$Needs.changeSetting [80] [I; gA 20 = SelectConfig$Needs.changeValues [80] [I; gI 7 = SelectConfig$Pairs.count; gA 21 = SelectConfig$Pairs.target [60] [I; gA 22 = SelectConfig$Pairs.configuration [60] [I; gA 23 = SelectConfig$Pairs.leftOut [60] [I; gB 2 = SelectConfig$Pairs.leadsTo [60] -/
abbrev StC : Type := St9
def wdC (ad : Nat → Nat) (ca : Nat → ClassId) (S : StC) : va_W := [(ad 0, .inr (0, [.ref (ad 1), .ref (ad 5), .ref (ad 7), .ref (ad 9), .ref (ad 13), .ref (ad 16), .ref (ad 25), .ref (ad 31), .long (gL S 0)])),
  (ad 1, .inr (8, [.int (gI S 0), .ref (ad 2), .ref (ad 3), .ref (ad 4)])),
  (ad 2, .inl (ca 2, 16, .inl (gA S 0))),
  (ad 3, .inl (ca 3, 16, .inl (gA S 1))),
  (ad 4, .inl (ca 4, 16, .inl (gA S 2))),
  (ad 5, .inr (6, [.int (gI S 1), .ref (ad 6)])),
  (ad 6, .inl (ca 6, 64, .inl (gA S 3))),
  (ad 7, .inr (3, [.int (gI S 2), .ref (ad 8)])),
  (ad 8, .inl (ca 8, 60, .inr (.inl (gB S 0)))),
  (ad 9, .inr (2, [.int (gI S 3), .ref (ad 10), .ref (ad 11), .ref (ad 12)])),
  (ad 10, .inl (ca 10, 40, .inl (gA S 4))),
  (ad 11, .inl (ca 11, 240, .inl (gA S 5))),
  (ad 12, .inl (ca 12, 40, .inl (gA S 6))),
  (ad 13, .inr (9, [.int (gI S 4), .ref (ad 14), .ref (ad 15)])),
  (ad 14, .inl (ca 14, 16, .inl (gA S 7))),
  (ad 15, .inl (ca 15, 16, .inl (gA S 8))),
  (ad 16, .inr (7, [.int (gI S 5), .ref (ad 17), .ref (ad 18), .ref (ad 19), .ref (ad 20), .ref (ad 21), .ref (ad 22), .ref (ad 23), .ref (ad 24)])),
  (ad 17, .inl (ca 17, 24, .inl (gA S 9))),
  (ad 18, .inl (ca 18, 24, .inr (.inl (gB S 1)))),
  (ad 19, .inl (ca 19, 24, .inl (gA S 10))),
  (ad 20, .inl (ca 20, 24, .inl (gA S 11))),
  (ad 21, .inl (ca 21, 24, .inl (gA S 12))),
  (ad 22, .inl (ca 22, 192, .inl (gA S 13))),
  (ad 23, .inl (ca 23, 192, .inl (gA S 14))),
  (ad 24, .inl (ca 24, 192, .inl (gA S 15))),
  (ad 25, .inr (4, [.int (gI S 6), .ref (ad 26), .ref (ad 27), .ref (ad 28), .ref (ad 29), .ref (ad 30)])),
  (ad 26, .inl (ca 26, 40, .inl (gA S 16))),
  (ad 27, .inl (ca 27, 40, .inl (gA S 17))),
  (ad 28, .inl (ca 28, 40, .inl (gA S 18))),
  (ad 29, .inl (ca 29, 80, .inl (gA S 19))),
  (ad 30, .inl (ca 30, 80, .inl (gA S 20))),
  (ad 31, .inr (5, [.int (gI S 7), .ref (ad 32), .ref (ad 33), .ref (ad 34), .ref (ad 35)])),
  (ad 32, .inl (ca 32, 60, .inl (gA S 21))),
  (ad 33, .inl (ca 33, 60, .inl (gA S 22))),
  (ad 34, .inl (ca 34, 60, .inl (gA S 23))),
  (ad 35, .inl (ca 35, 60, .inr (.inl (gB S 2))))]
def tyC (ca : Nat → ClassId) : List (ClassId × FieldType) := [(ca 2, .int), (ca 3, .int), (ca 4, .int), (ca 6, .int), (ca 8, .long), (ca 10, .int), (ca 11, .int), (ca 12, .boolean), (ca 14, .int), (ca 15, .int), (ca 17, .int), (ca 18, .long), (ca 19, .boolean), (ca 20, .boolean), (ca 21, .int), (ca 22, .int), (ca 23, .boolean), (ca 24, .int), (ca 26, .int), (ca 27, .int), (ca 28, .int), (ca 29, .int), (ca 30, .int), (ca 32, .int), (ca 33, .int), (ca 34, .int), (ca 35, .long)]
abbrev KIC (l : Launch) (D : va_G) (ad : Nat → Nat) (ca : Nat → ClassId) (y : MethodName) (wy : List Cond) (rm : Room) (av : List Value) (S : StC) (Rm : Int32 × StC) : Prop := ∀ sz, Met l y wy rm (pcC D vwCl (tyC ca) (wdC ad ca S) sz av) (qI D vwCl (tyC ca) (wdC ad ca) (va_A (wdC ad ca S) sz) Rm) 0 0 (va_A (wdC ad ca S) sz)
abbrev KLC (l : Launch) (D : va_G) (ad : Nat → Nat) (ca : Nat → ClassId) (y : MethodName) (wy : List Cond) (rm : Room) (av : List Value) (S : StC) (Rm : Int64 × StC) : Prop := ∀ sz, Met l y wy rm (pcC D vwCl (tyC ca) (wdC ad ca S) sz av) (qL D vwCl (tyC ca) (wdC ad ca) (va_A (wdC ad ca S) sz) Rm) 0 0 (va_A (wdC ad ca S) sz)
abbrev KVC (l : Launch) (D : va_G) (ad : Nat → Nat) (ca : Nat → ClassId) (y : MethodName) (wy : List Cond) (rm : Room) (av : List Value) (S : StC) (Rm : StC) : Prop := ∀ sz, Met l y wy rm (pcC D vwCl (tyC ca) (wdC ad ca S) sz av) (qV D vwCl (tyC ca) (wdC ad ca) (va_A (wdC ad ca S) sz) Rm) 0 0 (va_A (wdC ad ca S) sz)
section
variable {p : Program} {l : Launch} {e : Env} {R : Room} {s : State} {m : MethodId} {args : Array Value} {below : List Frame} {meth : Method} {c : Code} {Q : State → Prop} {D : va_G} {A : Nat → Prop} {nL kc ks : Nat} {pc pc' : Nat} {lv : List (Nat × Value)} {st : List Value} {cc : ByteArray} {own : String} {ad : Nat → Nat} {ca : Nat → ClassId} {S : StC}
theorem gfC_X_12 (g : CallFix p m c cc nL s args tb Rk_0) (hK : va_K D vwCl (tyC ca) s) (hdg : decode cc pc = .ok (.getfield 12, 3)) (hp : pc + 3 = pc') (kk : Vj p l e R s m args below meth c Q D vwCl A nL kc ks (wdC ad ca S) pc' lv (.ref (ad 1) :: st)) : Vj p l e R s m args below meth c Q D vwCl A nL kc ks (wdC ad ca S) pc lv (.ref (ad 0) :: st) := v_get g hK ik_0 0 rfl rfl 0 (by decide) (tb_1 213 rfl rfl) rfl hdg hp kk
theorem gfC_X_19 (g : CallFix p m c cc nL s args tb Rk_0) (hK : va_K D vwCl (tyC ca) s) (hdg : decode cc pc = .ok (.getfield 19, 3)) (hp : pc + 3 = pc') (kk : Vj p l e R s m args below meth c Q D vwCl A nL kc ks (wdC ad ca S) pc' lv (.ref (ad 5) :: st)) : Vj p l e R s m args below meth c Q D vwCl A nL kc ks (wdC ad ca S) pc lv (.ref (ad 0) :: st) := v_get g hK ik_0 0 rfl rfl 1 (by decide) (tb_1 214 rfl rfl) rfl hdg hp kk
theorem gfC_X_26 (g : CallFix p m c cc nL s args tb Rk_0) (hK : va_K D vwCl (tyC ca) s) (hdg : decode cc pc = .ok (.getfield 26, 3)) (hp : pc + 3 = pc') (kk : Vj p l e R s m args below meth c Q D vwCl A nL kc ks (wdC ad ca S) pc' lv (.ref (ad 7) :: st)) : Vj p l e R s m args below meth c Q D vwCl A nL kc ks (wdC ad ca S) pc lv (.ref (ad 0) :: st) := v_get g hK ik_0 0 rfl rfl 2 (by decide) (tb_1 215 rfl rfl) rfl hdg hp kk
theorem gfC_X_33 (g : CallFix p m c cc nL s args tb Rk_0) (hK : va_K D vwCl (tyC ca) s) (hdg : decode cc pc = .ok (.getfield 33, 3)) (hp : pc + 3 = pc') (kk : Vj p l e R s m args below meth c Q D vwCl A nL kc ks (wdC ad ca S) pc' lv (.ref (ad 9) :: st)) : Vj p l e R s m args below meth c Q D vwCl A nL kc ks (wdC ad ca S) pc lv (.ref (ad 0) :: st) := v_get g hK ik_0 0 rfl rfl 3 (by decide) (tb_1 216 rfl rfl) rfl hdg hp kk
theorem gfC_X_40 (g : CallFix p m c cc nL s args tb Rk_0) (hK : va_K D vwCl (tyC ca) s) (hdg : decode cc pc = .ok (.getfield 40, 3)) (hp : pc + 3 = pc') (kk : Vj p l e R s m args below meth c Q D vwCl A nL kc ks (wdC ad ca S) pc' lv (.ref (ad 13) :: st)) : Vj p l e R s m args below meth c Q D vwCl A nL kc ks (wdC ad ca S) pc lv (.ref (ad 0) :: st) := v_get g hK ik_0 0 rfl rfl 4 (by decide) (tb_1 217 rfl rfl) rfl hdg hp kk
theorem gfC_X_47 (g : CallFix p m c cc nL s args tb Rk_0) (hK : va_K D vwCl (tyC ca) s) (hdg : decode cc pc = .ok (.getfield 47, 3)) (hp : pc + 3 = pc') (kk : Vj p l e R s m args below meth c Q D vwCl A nL kc ks (wdC ad ca S) pc' lv (.ref (ad 16) :: st)) : Vj p l e R s m args below meth c Q D vwCl A nL kc ks (wdC ad ca S) pc lv (.ref (ad 0) :: st) := v_get g hK ik_0 0 rfl rfl 5 (by decide) (tb_1 218 rfl rfl) rfl hdg hp kk
theorem gfC_X_54 (g : CallFix p m c cc nL s args tb Rk_0) (hK : va_K D vwCl (tyC ca) s) (hdg : decode cc pc = .ok (.getfield 54, 3)) (hp : pc + 3 = pc') (kk : Vj p l e R s m args below meth c Q D vwCl A nL kc ks (wdC ad ca S) pc' lv (.ref (ad 25) :: st)) : Vj p l e R s m args below meth c Q D vwCl A nL kc ks (wdC ad ca S) pc lv (.ref (ad 0) :: st) := v_get g hK ik_0 0 rfl rfl 6 (by decide) (tb_1 219 rfl rfl) rfl hdg hp kk
theorem gfC_X_61 (g : CallFix p m c cc nL s args tb Rk_0) (hK : va_K D vwCl (tyC ca) s) (hdg : decode cc pc = .ok (.getfield 61, 3)) (hp : pc + 3 = pc') (kk : Vj p l e R s m args below meth c Q D vwCl A nL kc ks (wdC ad ca S) pc' lv (.ref (ad 31) :: st)) : Vj p l e R s m args below meth c Q D vwCl A nL kc ks (wdC ad ca S) pc lv (.ref (ad 0) :: st) := v_get g hK ik_0 0 rfl rfl 7 (by decide) (tb_1 220 rfl rfl) rfl hdg hp kk
theorem gfC_X_71 (g : CallFix p m c cc nL s args tb Rk_0) (hK : va_K D vwCl (tyC ca) s) (hdg : decode cc pc = .ok (.getfield 71, 3)) (hp : pc + 3 = pc') (kk : Vj p l e R s m args below meth c Q D vwCl A nL kc ks (wdC ad ca S) pc' lv (.long (gL S 0) :: st)) : Vj p l e R s m args below meth c Q D vwCl A nL kc ks (wdC ad ca S) pc lv (.ref (ad 0) :: st) := v_get g hK ik_0 0 rfl rfl 8 (by decide) (tb_1 221 rfl rfl) rfl hdg hp kk
theorem gfC_X_122 (g : CallFix p m c cc nL s args tb Rk_0) (hK : va_K D vwCl (tyC ca) s) (hdg : decode cc pc = .ok (.getfield 122, 3)) (hp : pc + 3 = pc') (kk : Vj p l e R s m args below meth c Q D vwCl A nL kc ks (wdC ad ca S) pc' lv (.ref (ad 14) :: st)) : Vj p l e R s m args below meth c Q D vwCl A nL kc ks (wdC ad ca S) pc lv (.ref (ad 13) :: st) := v_get g hK ik_12 13 rfl rfl 1 (by decide) (tb_1 104 rfl rfl) rfl hdg hp kk
theorem gfC_X_126 (g : CallFix p m c cc nL s args tb Rk_0) (hK : va_K D vwCl (tyC ca) s) (hdg : decode cc pc = .ok (.getfield 126, 3)) (hp : pc + 3 = pc') (kk : Vj p l e R s m args below meth c Q D vwCl A nL kc ks (wdC ad ca S) pc' lv (.ref (ad 12) :: st)) : Vj p l e R s m args below meth c Q D vwCl A nL kc ks (wdC ad ca S) pc lv (.ref (ad 9) :: st) := v_get g hK ik_5 9 rfl rfl 3 (by decide) (tb_1 84 rfl rfl) rfl hdg hp kk
theorem gfC_X_140 (g : CallFix p m c cc nL s args tb Rk_0) (hK : va_K D vwCl (tyC ca) s) (hdg : decode cc pc = .ok (.getfield 140, 3)) (hp : pc + 3 = pc') (kk : Vj p l e R s m args below meth c Q D vwCl A nL kc ks (wdC ad ca S) pc' lv (.ref (ad 18) :: st)) : Vj p l e R s m args below meth c Q D vwCl A nL kc ks (wdC ad ca S) pc lv (.ref (ad 16) :: st) := v_get g hK ik_10 16 rfl rfl 2 (by decide) (tb_1 125 rfl rfl) rfl hdg hp kk
theorem gfC_X_162 (g : CallFix p m c cc nL s args tb Rk_0) (hK : va_K D vwCl (tyC ca) s) (hdg : decode cc pc = .ok (.getfield 162, 3)) (hp : pc + 3 = pc') (kk : Vj p l e R s m args below meth c Q D vwCl A nL kc ks (wdC ad ca S) pc' lv (.ref (ad 2) :: st)) : Vj p l e R s m args below meth c Q D vwCl A nL kc ks (wdC ad ca S) pc lv (.ref (ad 1) :: st) := v_get g hK ik_11 1 rfl rfl 1 (by decide) (tb_1 31 rfl rfl) rfl hdg hp kk
theorem gfC_X_165 (g : CallFix p m c cc nL s args tb Rk_0) (hK : va_K D vwCl (tyC ca) s) (hdg : decode cc pc = .ok (.getfield 165, 3)) (hp : pc + 3 = pc') (kk : Vj p l e R s m args below meth c Q D vwCl A nL kc ks (wdC ad ca S) pc' lv (.ref (ad 8) :: st)) : Vj p l e R s m args below meth c Q D vwCl A nL kc ks (wdC ad ca S) pc lv (.ref (ad 7) :: st) := v_get g hK ik_6 7 rfl rfl 1 (by decide) (tb_1 66 rfl rfl) rfl hdg hp kk
theorem gfC_X_207 (g : CallFix p m c cc nL s args tb Rk_0) (hK : va_K D vwCl (tyC ca) s) (hdg : decode cc pc = .ok (.getfield 207, 3)) (hp : pc + 3 = pc') (kk : Vj p l e R s m args below meth c Q D vwCl A nL kc ks (wdC ad ca S) pc' lv (.ref (ad 15) :: st)) : Vj p l e R s m args below meth c Q D vwCl A nL kc ks (wdC ad ca S) pc lv (.ref (ad 13) :: st) := v_get g hK ik_12 13 rfl rfl 2 (by decide) (tb_1 106 rfl rfl) rfl hdg hp kk
theorem gfC_X_222 (g : CallFix p m c cc nL s args tb Rk_0) (hK : va_K D vwCl (tyC ca) s) (hdg : decode cc pc = .ok (.getfield 222, 3)) (hp : pc + 3 = pc') (kk : Vj p l e R s m args below meth c Q D vwCl A nL kc ks (wdC ad ca S) pc' lv (.int (gI S 7) :: st)) : Vj p l e R s m args below meth c Q D vwCl A nL kc ks (wdC ad ca S) pc lv (.ref (ad 31) :: st) := v_get g hK ik_8 31 rfl rfl 0 (by decide) (tb_1 190 rfl rfl) rfl hdg hp kk
theorem gfC_X_227 (g : CallFix p m c cc nL s args tb Rk_0) (hK : va_K D vwCl (tyC ca) s) (hdg : decode cc pc = .ok (.getfield 227, 3)) (hp : pc + 3 = pc') (kk : Vj p l e R s m args below meth c Q D vwCl A nL kc ks (wdC ad ca S) pc' lv (.ref (ad 32) :: st)) : Vj p l e R s m args below meth c Q D vwCl A nL kc ks (wdC ad ca S) pc lv (.ref (ad 31) :: st) := v_get g hK ik_8 31 rfl rfl 1 (by decide) (tb_1 192 rfl rfl) rfl hdg hp kk
theorem gfC_X_230 (g : CallFix p m c cc nL s args tb Rk_0) (hK : va_K D vwCl (tyC ca) s) (hdg : decode cc pc = .ok (.getfield 230, 3)) (hp : pc + 3 = pc') (kk : Vj p l e R s m args below meth c Q D vwCl A nL kc ks (wdC ad ca S) pc' lv (.ref (ad 33) :: st)) : Vj p l e R s m args below meth c Q D vwCl A nL kc ks (wdC ad ca S) pc lv (.ref (ad 31) :: st) := v_get g hK ik_8 31 rfl rfl 2 (by decide) (tb_1 194 rfl rfl) rfl hdg hp kk
theorem gfC_X_233 (g : CallFix p m c cc nL s args tb Rk_0) (hK : va_K D vwCl (tyC ca) s) (hdg : decode cc pc = .ok (.getfield 233, 3)) (hp : pc + 3 = pc') (kk : Vj p l e R s m args below meth c Q D vwCl A nL kc ks (wdC ad ca S) pc' lv (.ref (ad 34) :: st)) : Vj p l e R s m args below meth c Q D vwCl A nL kc ks (wdC ad ca S) pc lv (.ref (ad 31) :: st) := v_get g hK ik_8 31 rfl rfl 3 (by decide) (tb_1 196 rfl rfl) rfl hdg hp kk
theorem gfC_X_236 (g : CallFix p m c cc nL s args tb Rk_0) (hK : va_K D vwCl (tyC ca) s) (hdg : decode cc pc = .ok (.getfield 236, 3)) (hp : pc + 3 = pc') (kk : Vj p l e R s m args below meth c Q D vwCl A nL kc ks (wdC ad ca S) pc' lv (.ref (ad 10) :: st)) : Vj p l e R s m args below meth c Q D vwCl A nL kc ks (wdC ad ca S) pc lv (.ref (ad 9) :: st) := v_get g hK ik_5 9 rfl rfl 1 (by decide) (tb_1 81 rfl rfl) rfl hdg hp kk
theorem gfC_X_266 (g : CallFix p m c cc nL s args tb Rk_0) (hK : va_K D vwCl (tyC ca) s) (hdg : decode cc pc = .ok (.getfield 266, 3)) (hp : pc + 3 = pc') (kk : Vj p l e R s m args below meth c Q D vwCl A nL kc ks (wdC ad ca S) pc' lv (.ref (ad 21) :: st)) : Vj p l e R s m args below meth c Q D vwCl A nL kc ks (wdC ad ca S) pc lv (.ref (ad 16) :: st) := v_get g hK ik_10 16 rfl rfl 5 (by decide) (tb_1 129 rfl rfl) rfl hdg hp kk
theorem gfC_X_286 (g : CallFix p m c cc nL s args tb Rk_0) (hK : va_K D vwCl (tyC ca) s) (hdg : decode cc pc = .ok (.getfield 286, 3)) (hp : pc + 3 = pc') (kk : Vj p l e R s m args below meth c Q D vwCl A nL kc ks (wdC ad ca S) pc' lv (.ref (ad 23) :: st)) : Vj p l e R s m args below meth c Q D vwCl A nL kc ks (wdC ad ca S) pc lv (.ref (ad 16) :: st) := v_get g hK ik_10 16 rfl rfl 7 (by decide) (tb_1 132 rfl rfl) rfl hdg hp kk
theorem gfC_X_289 (g : CallFix p m c cc nL s args tb Rk_0) (hK : va_K D vwCl (tyC ca) s) (hdg : decode cc pc = .ok (.getfield 289, 3)) (hp : pc + 3 = pc') (kk : Vj p l e R s m args below meth c Q D vwCl A nL kc ks (wdC ad ca S) pc' lv (.ref (ad 24) :: st)) : Vj p l e R s m args below meth c Q D vwCl A nL kc ks (wdC ad ca S) pc lv (.ref (ad 16) :: st) := v_get g hK ik_10 16 rfl rfl 8 (by decide) (tb_1 134 rfl rfl) rfl hdg hp kk
theorem gfC_X_301 (g : CallFix p m c cc nL s args tb Rk_0) (hK : va_K D vwCl (tyC ca) s) (hdg : decode cc pc = .ok (.getfield 301, 3)) (hp : pc + 3 = pc') (kk : Vj p l e R s m args below meth c Q D vwCl A nL kc ks (wdC ad ca S) pc' lv (.int (gI S 4) :: st)) : Vj p l e R s m args below meth c Q D vwCl A nL kc ks (wdC ad ca S) pc lv (.ref (ad 13) :: st) := v_get g hK ik_12 13 rfl rfl 0 (by decide) (tb_1 102 rfl rfl) rfl hdg hp kk
theorem gfC_X_303 (g : CallFix p m c cc nL s args tb Rk_0) (hK : va_K D vwCl (tyC ca) s) (hdg : decode cc pc = .ok (.getfield 303, 3)) (hp : pc + 3 = pc') (kk : Vj p l e R s m args below meth c Q D vwCl A nL kc ks (wdC ad ca S) pc' lv (.int (gI S 5) :: st)) : Vj p l e R s m args below meth c Q D vwCl A nL kc ks (wdC ad ca S) pc lv (.ref (ad 16) :: st) := v_get g hK ik_10 16 rfl rfl 0 (by decide) (tb_1 121 rfl rfl) rfl hdg hp kk
theorem gfC_X_304 (g : CallFix p m c cc nL s args tb Rk_0) (hK : va_K D vwCl (tyC ca) s) (hdg : decode cc pc = .ok (.getfield 304, 3)) (hp : pc + 3 = pc') (kk : Vj p l e R s m args below meth c Q D vwCl A nL kc ks (wdC ad ca S) pc' lv (.ref (ad 17) :: st)) : Vj p l e R s m args below meth c Q D vwCl A nL kc ks (wdC ad ca S) pc lv (.ref (ad 16) :: st) := v_get g hK ik_10 16 rfl rfl 1 (by decide) (tb_1 123 rfl rfl) rfl hdg hp kk
theorem gfC_X_305 (g : CallFix p m c cc nL s args tb Rk_0) (hK : va_K D vwCl (tyC ca) s) (hdg : decode cc pc = .ok (.getfield 305, 3)) (hp : pc + 3 = pc') (kk : Vj p l e R s m args below meth c Q D vwCl A nL kc ks (wdC ad ca S) pc' lv (.int (gI S 6) :: st)) : Vj p l e R s m args below meth c Q D vwCl A nL kc ks (wdC ad ca S) pc lv (.ref (ad 25) :: st) := v_get g hK ik_7 25 rfl rfl 0 (by decide) (tb_1 161 rfl rfl) rfl hdg hp kk
theorem gfC_X_306 (g : CallFix p m c cc nL s args tb Rk_0) (hK : va_K D vwCl (tyC ca) s) (hdg : decode cc pc = .ok (.getfield 306, 3)) (hp : pc + 3 = pc') (kk : Vj p l e R s m args below meth c Q D vwCl A nL kc ks (wdC ad ca S) pc' lv (.ref (ad 26) :: st)) : Vj p l e R s m args below meth c Q D vwCl A nL kc ks (wdC ad ca S) pc lv (.ref (ad 25) :: st) := v_get g hK ik_7 25 rfl rfl 1 (by decide) (tb_1 163 rfl rfl) rfl hdg hp kk
theorem gfC_X_307 (g : CallFix p m c cc nL s args tb Rk_0) (hK : va_K D vwCl (tyC ca) s) (hdg : decode cc pc = .ok (.getfield 307, 3)) (hp : pc + 3 = pc') (kk : Vj p l e R s m args below meth c Q D vwCl A nL kc ks (wdC ad ca S) pc' lv (.ref (ad 27) :: st)) : Vj p l e R s m args below meth c Q D vwCl A nL kc ks (wdC ad ca S) pc lv (.ref (ad 25) :: st) := v_get g hK ik_7 25 rfl rfl 2 (by decide) (tb_1 165 rfl rfl) rfl hdg hp kk
theorem gfC_X_310 (g : CallFix p m c cc nL s args tb Rk_0) (hK : va_K D vwCl (tyC ca) s) (hdg : decode cc pc = .ok (.getfield 310, 3)) (hp : pc + 3 = pc') (kk : Vj p l e R s m args below meth c Q D vwCl A nL kc ks (wdC ad ca S) pc' lv (.int (gI S 0) :: st)) : Vj p l e R s m args below meth c Q D vwCl A nL kc ks (wdC ad ca S) pc lv (.ref (ad 1) :: st) := v_get g hK ik_11 1 rfl rfl 0 (by decide) (tb_1 29 rfl rfl) rfl hdg hp kk
theorem gfC_X_311 (g : CallFix p m c cc nL s args tb Rk_0) (hK : va_K D vwCl (tyC ca) s) (hdg : decode cc pc = .ok (.getfield 311, 3)) (hp : pc + 3 = pc') (kk : Vj p l e R s m args below meth c Q D vwCl A nL kc ks (wdC ad ca S) pc' lv (.ref (ad 3) :: st)) : Vj p l e R s m args below meth c Q D vwCl A nL kc ks (wdC ad ca S) pc lv (.ref (ad 1) :: st) := v_get g hK ik_11 1 rfl rfl 2 (by decide) (tb_1 33 rfl rfl) rfl hdg hp kk
theorem gfC_X_329 (g : CallFix p m c cc nL s args tb Rk_0) (hK : va_K D vwCl (tyC ca) s) (hdg : decode cc pc = .ok (.getfield 329, 3)) (hp : pc + 3 = pc') (kk : Vj p l e R s m args below meth c Q D vwCl A nL kc ks (wdC ad ca S) pc' lv (.ref (ad 35) :: st)) : Vj p l e R s m args below meth c Q D vwCl A nL kc ks (wdC ad ca S) pc lv (.ref (ad 31) :: st) := v_get g hK ik_8 31 rfl rfl 4 (by decide) (tb_1 198 rfl rfl) rfl hdg hp kk
theorem gfC_X_332 (g : CallFix p m c cc nL s args tb Rk_0) (hK : va_K D vwCl (tyC ca) s) (hdg : decode cc pc = .ok (.getfield 332, 3)) (hp : pc + 3 = pc') (kk : Vj p l e R s m args below meth c Q D vwCl A nL kc ks (wdC ad ca S) pc' lv (.ref (ad 28) :: st)) : Vj p l e R s m args below meth c Q D vwCl A nL kc ks (wdC ad ca S) pc lv (.ref (ad 25) :: st) := v_get g hK ik_7 25 rfl rfl 3 (by decide) (tb_1 167 rfl rfl) rfl hdg hp kk
theorem gfC_Conditions_9 (g : CallFix p m c cc nL s args tb Rk_5) (hK : va_K D vwCl (tyC ca) s) (hdg : decode cc pc = .ok (.getfield 9, 3)) (hp : pc + 3 = pc') (kk : Vj p l e R s m args below meth c Q D vwCl A nL kc ks (wdC ad ca S) pc' lv (.ref (ad 10) :: st)) : Vj p l e R s m args below meth c Q D vwCl A nL kc ks (wdC ad ca S) pc lv (.ref (ad 9) :: st) := v_get g hK ik_5 9 rfl rfl 1 (by decide) (tb_1 80 rfl rfl) rfl hdg hp kk
theorem gfC_Conditions_15 (g : CallFix p m c cc nL s args tb Rk_5) (hK : va_K D vwCl (tyC ca) s) (hdg : decode cc pc = .ok (.getfield 15, 3)) (hp : pc + 3 = pc') (kk : Vj p l e R s m args below meth c Q D vwCl A nL kc ks (wdC ad ca S) pc' lv (.ref (ad 11) :: st)) : Vj p l e R s m args below meth c Q D vwCl A nL kc ks (wdC ad ca S) pc lv (.ref (ad 9) :: st) := v_get g hK ik_5 9 rfl rfl 2 (by decide) (tb_1 82 rfl rfl) rfl hdg hp kk
theorem gfC_Conditions_18 (g : CallFix p m c cc nL s args tb Rk_5) (hK : va_K D vwCl (tyC ca) s) (hdg : decode cc pc = .ok (.getfield 18, 3)) (hp : pc + 3 = pc') (kk : Vj p l e R s m args below meth c Q D vwCl A nL kc ks (wdC ad ca S) pc' lv (.ref (ad 12) :: st)) : Vj p l e R s m args below meth c Q D vwCl A nL kc ks (wdC ad ca S) pc lv (.ref (ad 9) :: st) := v_get g hK ik_5 9 rfl rfl 3 (by decide) (tb_1 83 rfl rfl) rfl hdg hp kk
theorem gfC_Conditions_22 (g : CallFix p m c cc nL s args tb Rk_5) (hK : va_K D vwCl (tyC ca) s) (hdg : decode cc pc = .ok (.getfield 22, 3)) (hp : pc + 3 = pc') (kk : Vj p l e R s m args below meth c Q D vwCl A nL kc ks (wdC ad ca S) pc' lv (.int (gI S 3) :: st)) : Vj p l e R s m args below meth c Q D vwCl A nL kc ks (wdC ad ca S) pc lv (.ref (ad 9) :: st) := v_get g hK ik_5 9 rfl rfl 0 (by decide) (tb_1 79 rfl rfl) rfl hdg hp kk
theorem gfC_Configurations_9 (g : CallFix p m c cc nL s args tb Rk_6) (hK : va_K D vwCl (tyC ca) s) (hdg : decode cc pc = .ok (.getfield 9, 3)) (hp : pc + 3 = pc') (kk : Vj p l e R s m args below meth c Q D vwCl A nL kc ks (wdC ad ca S) pc' lv (.ref (ad 8) :: st)) : Vj p l e R s m args below meth c Q D vwCl A nL kc ks (wdC ad ca S) pc lv (.ref (ad 7) :: st) := v_get g hK ik_6 7 rfl rfl 1 (by decide) (tb_1 65 rfl rfl) rfl hdg hp kk
theorem gfC_Configurations_15 (g : CallFix p m c cc nL s args tb Rk_6) (hK : va_K D vwCl (tyC ca) s) (hdg : decode cc pc = .ok (.getfield 15, 3)) (hp : pc + 3 = pc') (kk : Vj p l e R s m args below meth c Q D vwCl A nL kc ks (wdC ad ca S) pc' lv (.int (gI S 2) :: st)) : Vj p l e R s m args below meth c Q D vwCl A nL kc ks (wdC ad ca S) pc lv (.ref (ad 7) :: st) := v_get g hK ik_6 7 rfl rfl 0 (by decide) (tb_1 64 rfl rfl) rfl hdg hp kk
theorem gfC_Needs_9 (g : CallFix p m c cc nL s args tb Rk_7) (hK : va_K D vwCl (tyC ca) s) (hdg : decode cc pc = .ok (.getfield 9, 3)) (hp : pc + 3 = pc') (kk : Vj p l e R s m args below meth c Q D vwCl A nL kc ks (wdC ad ca S) pc' lv (.ref (ad 26) :: st)) : Vj p l e R s m args below meth c Q D vwCl A nL kc ks (wdC ad ca S) pc lv (.ref (ad 25) :: st) := v_get g hK ik_7 25 rfl rfl 1 (by decide) (tb_1 162 rfl rfl) rfl hdg hp kk
theorem gfC_Needs_15 (g : CallFix p m c cc nL s args tb Rk_7) (hK : va_K D vwCl (tyC ca) s) (hdg : decode cc pc = .ok (.getfield 15, 3)) (hp : pc + 3 = pc') (kk : Vj p l e R s m args below meth c Q D vwCl A nL kc ks (wdC ad ca S) pc' lv (.ref (ad 27) :: st)) : Vj p l e R s m args below meth c Q D vwCl A nL kc ks (wdC ad ca S) pc lv (.ref (ad 25) :: st) := v_get g hK ik_7 25 rfl rfl 2 (by decide) (tb_1 164 rfl rfl) rfl hdg hp kk
theorem gfC_Needs_18 (g : CallFix p m c cc nL s args tb Rk_7) (hK : va_K D vwCl (tyC ca) s) (hdg : decode cc pc = .ok (.getfield 18, 3)) (hp : pc + 3 = pc') (kk : Vj p l e R s m args below meth c Q D vwCl A nL kc ks (wdC ad ca S) pc' lv (.ref (ad 28) :: st)) : Vj p l e R s m args below meth c Q D vwCl A nL kc ks (wdC ad ca S) pc lv (.ref (ad 25) :: st) := v_get g hK ik_7 25 rfl rfl 3 (by decide) (tb_1 166 rfl rfl) rfl hdg hp kk
theorem gfC_Needs_21 (g : CallFix p m c cc nL s args tb Rk_7) (hK : va_K D vwCl (tyC ca) s) (hdg : decode cc pc = .ok (.getfield 21, 3)) (hp : pc + 3 = pc') (kk : Vj p l e R s m args below meth c Q D vwCl A nL kc ks (wdC ad ca S) pc' lv (.ref (ad 29) :: st)) : Vj p l e R s m args below meth c Q D vwCl A nL kc ks (wdC ad ca S) pc lv (.ref (ad 25) :: st) := v_get g hK ik_7 25 rfl rfl 4 (by decide) (tb_1 168 rfl rfl) rfl hdg hp kk
theorem gfC_Needs_24 (g : CallFix p m c cc nL s args tb Rk_7) (hK : va_K D vwCl (tyC ca) s) (hdg : decode cc pc = .ok (.getfield 24, 3)) (hp : pc + 3 = pc') (kk : Vj p l e R s m args below meth c Q D vwCl A nL kc ks (wdC ad ca S) pc' lv (.ref (ad 30) :: st)) : Vj p l e R s m args below meth c Q D vwCl A nL kc ks (wdC ad ca S) pc lv (.ref (ad 25) :: st) := v_get g hK ik_7 25 rfl rfl 5 (by decide) (tb_1 169 rfl rfl) rfl hdg hp kk
theorem gfC_Needs_27 (g : CallFix p m c cc nL s args tb Rk_7) (hK : va_K D vwCl (tyC ca) s) (hdg : decode cc pc = .ok (.getfield 27, 3)) (hp : pc + 3 = pc') (kk : Vj p l e R s m args below meth c Q D vwCl A nL kc ks (wdC ad ca S) pc' lv (.int (gI S 6) :: st)) : Vj p l e R s m args below meth c Q D vwCl A nL kc ks (wdC ad ca S) pc lv (.ref (ad 25) :: st) := v_get g hK ik_7 25 rfl rfl 0 (by decide) (tb_1 160 rfl rfl) rfl hdg hp kk
theorem gfC_Pairs_9 (g : CallFix p m c cc nL s args tb Rk_8) (hK : va_K D vwCl (tyC ca) s) (hdg : decode cc pc = .ok (.getfield 9, 3)) (hp : pc + 3 = pc') (kk : Vj p l e R s m args below meth c Q D vwCl A nL kc ks (wdC ad ca S) pc' lv (.ref (ad 32) :: st)) : Vj p l e R s m args below meth c Q D vwCl A nL kc ks (wdC ad ca S) pc lv (.ref (ad 31) :: st) := v_get g hK ik_8 31 rfl rfl 1 (by decide) (tb_1 191 rfl rfl) rfl hdg hp kk
theorem gfC_Pairs_15 (g : CallFix p m c cc nL s args tb Rk_8) (hK : va_K D vwCl (tyC ca) s) (hdg : decode cc pc = .ok (.getfield 15, 3)) (hp : pc + 3 = pc') (kk : Vj p l e R s m args below meth c Q D vwCl A nL kc ks (wdC ad ca S) pc' lv (.ref (ad 33) :: st)) : Vj p l e R s m args below meth c Q D vwCl A nL kc ks (wdC ad ca S) pc lv (.ref (ad 31) :: st) := v_get g hK ik_8 31 rfl rfl 2 (by decide) (tb_1 193 rfl rfl) rfl hdg hp kk
theorem gfC_Pairs_18 (g : CallFix p m c cc nL s args tb Rk_8) (hK : va_K D vwCl (tyC ca) s) (hdg : decode cc pc = .ok (.getfield 18, 3)) (hp : pc + 3 = pc') (kk : Vj p l e R s m args below meth c Q D vwCl A nL kc ks (wdC ad ca S) pc' lv (.ref (ad 34) :: st)) : Vj p l e R s m args below meth c Q D vwCl A nL kc ks (wdC ad ca S) pc lv (.ref (ad 31) :: st) := v_get g hK ik_8 31 rfl rfl 3 (by decide) (tb_1 195 rfl rfl) rfl hdg hp kk
theorem gfC_Pairs_21 (g : CallFix p m c cc nL s args tb Rk_8) (hK : va_K D vwCl (tyC ca) s) (hdg : decode cc pc = .ok (.getfield 21, 3)) (hp : pc + 3 = pc') (kk : Vj p l e R s m args below meth c Q D vwCl A nL kc ks (wdC ad ca S) pc' lv (.ref (ad 35) :: st)) : Vj p l e R s m args below meth c Q D vwCl A nL kc ks (wdC ad ca S) pc lv (.ref (ad 31) :: st) := v_get g hK ik_8 31 rfl rfl 4 (by decide) (tb_1 197 rfl rfl) rfl hdg hp kk
theorem gfC_Pairs_25 (g : CallFix p m c cc nL s args tb Rk_8) (hK : va_K D vwCl (tyC ca) s) (hdg : decode cc pc = .ok (.getfield 25, 3)) (hp : pc + 3 = pc') (kk : Vj p l e R s m args below meth c Q D vwCl A nL kc ks (wdC ad ca S) pc' lv (.int (gI S 7) :: st)) : Vj p l e R s m args below meth c Q D vwCl A nL kc ks (wdC ad ca S) pc lv (.ref (ad 31) :: st) := v_get g hK ik_8 31 rfl rfl 0 (by decide) (tb_1 189 rfl rfl) rfl hdg hp kk
theorem gfC_Platforms_9 (g : CallFix p m c cc nL s args tb Rk_9) (hK : va_K D vwCl (tyC ca) s) (hdg : decode cc pc = .ok (.getfield 9, 3)) (hp : pc + 3 = pc') (kk : Vj p l e R s m args below meth c Q D vwCl A nL kc ks (wdC ad ca S) pc' lv (.ref (ad 6) :: st)) : Vj p l e R s m args below meth c Q D vwCl A nL kc ks (wdC ad ca S) pc lv (.ref (ad 5) :: st) := v_get g hK ik_9 5 rfl rfl 1 (by decide) (tb_1 52 rfl rfl) rfl hdg hp kk
theorem gfC_Platforms_15 (g : CallFix p m c cc nL s args tb Rk_9) (hK : va_K D vwCl (tyC ca) s) (hdg : decode cc pc = .ok (.getfield 15, 3)) (hp : pc + 3 = pc') (kk : Vj p l e R s m args below meth c Q D vwCl A nL kc ks (wdC ad ca S) pc' lv (.int (gI S 1) :: st)) : Vj p l e R s m args below meth c Q D vwCl A nL kc ks (wdC ad ca S) pc lv (.ref (ad 5) :: st) := v_get g hK ik_9 5 rfl rfl 0 (by decide) (tb_1 51 rfl rfl) rfl hdg hp kk
theorem gfC_Selects_9 (g : CallFix p m c cc nL s args tb Rk_10) (hK : va_K D vwCl (tyC ca) s) (hdg : decode cc pc = .ok (.getfield 9, 3)) (hp : pc + 3 = pc') (kk : Vj p l e R s m args below meth c Q D vwCl A nL kc ks (wdC ad ca S) pc' lv (.ref (ad 17) :: st)) : Vj p l e R s m args below meth c Q D vwCl A nL kc ks (wdC ad ca S) pc lv (.ref (ad 16) :: st) := v_get g hK ik_10 16 rfl rfl 1 (by decide) (tb_1 122 rfl rfl) rfl hdg hp kk
theorem gfC_Selects_15 (g : CallFix p m c cc nL s args tb Rk_10) (hK : va_K D vwCl (tyC ca) s) (hdg : decode cc pc = .ok (.getfield 15, 3)) (hp : pc + 3 = pc') (kk : Vj p l e R s m args below meth c Q D vwCl A nL kc ks (wdC ad ca S) pc' lv (.ref (ad 18) :: st)) : Vj p l e R s m args below meth c Q D vwCl A nL kc ks (wdC ad ca S) pc lv (.ref (ad 16) :: st) := v_get g hK ik_10 16 rfl rfl 2 (by decide) (tb_1 124 rfl rfl) rfl hdg hp kk
theorem gfC_Selects_19 (g : CallFix p m c cc nL s args tb Rk_10) (hK : va_K D vwCl (tyC ca) s) (hdg : decode cc pc = .ok (.getfield 19, 3)) (hp : pc + 3 = pc') (kk : Vj p l e R s m args below meth c Q D vwCl A nL kc ks (wdC ad ca S) pc' lv (.ref (ad 19) :: st)) : Vj p l e R s m args below meth c Q D vwCl A nL kc ks (wdC ad ca S) pc lv (.ref (ad 16) :: st) := v_get g hK ik_10 16 rfl rfl 3 (by decide) (tb_1 126 rfl rfl) rfl hdg hp kk
theorem gfC_Selects_23 (g : CallFix p m c cc nL s args tb Rk_10) (hK : va_K D vwCl (tyC ca) s) (hdg : decode cc pc = .ok (.getfield 23, 3)) (hp : pc + 3 = pc') (kk : Vj p l e R s m args below meth c Q D vwCl A nL kc ks (wdC ad ca S) pc' lv (.ref (ad 20) :: st)) : Vj p l e R s m args below meth c Q D vwCl A nL kc ks (wdC ad ca S) pc lv (.ref (ad 16) :: st) := v_get g hK ik_10 16 rfl rfl 4 (by decide) (tb_1 127 rfl rfl) rfl hdg hp kk
theorem gfC_Selects_26 (g : CallFix p m c cc nL s args tb Rk_10) (hK : va_K D vwCl (tyC ca) s) (hdg : decode cc pc = .ok (.getfield 26, 3)) (hp : pc + 3 = pc') (kk : Vj p l e R s m args below meth c Q D vwCl A nL kc ks (wdC ad ca S) pc' lv (.ref (ad 21) :: st)) : Vj p l e R s m args below meth c Q D vwCl A nL kc ks (wdC ad ca S) pc lv (.ref (ad 16) :: st) := v_get g hK ik_10 16 rfl rfl 5 (by decide) (tb_1 128 rfl rfl) rfl hdg hp kk
theorem gfC_Selects_29 (g : CallFix p m c cc nL s args tb Rk_10) (hK : va_K D vwCl (tyC ca) s) (hdg : decode cc pc = .ok (.getfield 29, 3)) (hp : pc + 3 = pc') (kk : Vj p l e R s m args below meth c Q D vwCl A nL kc ks (wdC ad ca S) pc' lv (.ref (ad 22) :: st)) : Vj p l e R s m args below meth c Q D vwCl A nL kc ks (wdC ad ca S) pc lv (.ref (ad 16) :: st) := v_get g hK ik_10 16 rfl rfl 6 (by decide) (tb_1 130 rfl rfl) rfl hdg hp kk
theorem gfC_Selects_32 (g : CallFix p m c cc nL s args tb Rk_10) (hK : va_K D vwCl (tyC ca) s) (hdg : decode cc pc = .ok (.getfield 32, 3)) (hp : pc + 3 = pc') (kk : Vj p l e R s m args below meth c Q D vwCl A nL kc ks (wdC ad ca S) pc' lv (.ref (ad 23) :: st)) : Vj p l e R s m args below meth c Q D vwCl A nL kc ks (wdC ad ca S) pc lv (.ref (ad 16) :: st) := v_get g hK ik_10 16 rfl rfl 7 (by decide) (tb_1 131 rfl rfl) rfl hdg hp kk
theorem gfC_Selects_35 (g : CallFix p m c cc nL s args tb Rk_10) (hK : va_K D vwCl (tyC ca) s) (hdg : decode cc pc = .ok (.getfield 35, 3)) (hp : pc + 3 = pc') (kk : Vj p l e R s m args below meth c Q D vwCl A nL kc ks (wdC ad ca S) pc' lv (.ref (ad 24) :: st)) : Vj p l e R s m args below meth c Q D vwCl A nL kc ks (wdC ad ca S) pc lv (.ref (ad 16) :: st) := v_get g hK ik_10 16 rfl rfl 8 (by decide) (tb_1 133 rfl rfl) rfl hdg hp kk
theorem gfC_Selects_38 (g : CallFix p m c cc nL s args tb Rk_10) (hK : va_K D vwCl (tyC ca) s) (hdg : decode cc pc = .ok (.getfield 38, 3)) (hp : pc + 3 = pc') (kk : Vj p l e R s m args below meth c Q D vwCl A nL kc ks (wdC ad ca S) pc' lv (.int (gI S 5) :: st)) : Vj p l e R s m args below meth c Q D vwCl A nL kc ks (wdC ad ca S) pc lv (.ref (ad 16) :: st) := v_get g hK ik_10 16 rfl rfl 0 (by decide) (tb_1 120 rfl rfl) rfl hdg hp kk
theorem gfC_Settings_9 (g : CallFix p m c cc nL s args tb Rk_11) (hK : va_K D vwCl (tyC ca) s) (hdg : decode cc pc = .ok (.getfield 9, 3)) (hp : pc + 3 = pc') (kk : Vj p l e R s m args below meth c Q D vwCl A nL kc ks (wdC ad ca S) pc' lv (.ref (ad 2) :: st)) : Vj p l e R s m args below meth c Q D vwCl A nL kc ks (wdC ad ca S) pc lv (.ref (ad 1) :: st) := v_get g hK ik_11 1 rfl rfl 1 (by decide) (tb_1 30 rfl rfl) rfl hdg hp kk
theorem gfC_Settings_15 (g : CallFix p m c cc nL s args tb Rk_11) (hK : va_K D vwCl (tyC ca) s) (hdg : decode cc pc = .ok (.getfield 15, 3)) (hp : pc + 3 = pc') (kk : Vj p l e R s m args below meth c Q D vwCl A nL kc ks (wdC ad ca S) pc' lv (.ref (ad 3) :: st)) : Vj p l e R s m args below meth c Q D vwCl A nL kc ks (wdC ad ca S) pc lv (.ref (ad 1) :: st) := v_get g hK ik_11 1 rfl rfl 2 (by decide) (tb_1 32 rfl rfl) rfl hdg hp kk
theorem gfC_Settings_18 (g : CallFix p m c cc nL s args tb Rk_11) (hK : va_K D vwCl (tyC ca) s) (hdg : decode cc pc = .ok (.getfield 18, 3)) (hp : pc + 3 = pc') (kk : Vj p l e R s m args below meth c Q D vwCl A nL kc ks (wdC ad ca S) pc' lv (.ref (ad 4) :: st)) : Vj p l e R s m args below meth c Q D vwCl A nL kc ks (wdC ad ca S) pc lv (.ref (ad 1) :: st) := v_get g hK ik_11 1 rfl rfl 3 (by decide) (tb_1 34 rfl rfl) rfl hdg hp kk
theorem gfC_Settings_21 (g : CallFix p m c cc nL s args tb Rk_11) (hK : va_K D vwCl (tyC ca) s) (hdg : decode cc pc = .ok (.getfield 21, 3)) (hp : pc + 3 = pc') (kk : Vj p l e R s m args below meth c Q D vwCl A nL kc ks (wdC ad ca S) pc' lv (.int (gI S 0) :: st)) : Vj p l e R s m args below meth c Q D vwCl A nL kc ks (wdC ad ca S) pc lv (.ref (ad 1) :: st) := v_get g hK ik_11 1 rfl rfl 0 (by decide) (tb_1 28 rfl rfl) rfl hdg hp kk
theorem gfC_Targets_9 (g : CallFix p m c cc nL s args tb Rk_12) (hK : va_K D vwCl (tyC ca) s) (hdg : decode cc pc = .ok (.getfield 9, 3)) (hp : pc + 3 = pc') (kk : Vj p l e R s m args below meth c Q D vwCl A nL kc ks (wdC ad ca S) pc' lv (.ref (ad 14) :: st)) : Vj p l e R s m args below meth c Q D vwCl A nL kc ks (wdC ad ca S) pc lv (.ref (ad 13) :: st) := v_get g hK ik_12 13 rfl rfl 1 (by decide) (tb_1 103 rfl rfl) rfl hdg hp kk
theorem gfC_Targets_18 (g : CallFix p m c cc nL s args tb Rk_12) (hK : va_K D vwCl (tyC ca) s) (hdg : decode cc pc = .ok (.getfield 18, 3)) (hp : pc + 3 = pc') (kk : Vj p l e R s m args below meth c Q D vwCl A nL kc ks (wdC ad ca S) pc' lv (.int (gI S 4) :: st)) : Vj p l e R s m args below meth c Q D vwCl A nL kc ks (wdC ad ca S) pc lv (.ref (ad 13) :: st) := v_get g hK ik_12 13 rfl rfl 0 (by decide) (tb_1 101 rfl rfl) rfl hdg hp kk
theorem pfC_X_71 {v : Int64} (g : CallFix p m c cc nL s args tb Rk_0) (hK : va_K D vwCl (tyC ca) s) (hdg : decode cc pc = .ok (.putfield 71, 3)) (hp : pc + 3 = pc') (kk : Vj p l e R s m args below meth c Q D vwCl A nL kc ks (wdC ad ca (sL S 0 v)) pc' lv st) : Vj p l e R s m args below meth c Q D vwCl A nL kc ks (wdC ad ca S) pc lv (.long v :: .ref (ad 0) :: st) := v_put (ci := 0) (fs := [.ref (ad 1), .ref (ad 5), .ref (ad 7), .ref (ad 9), .ref (ad 13), .ref (ad 16), .ref (ad 25), .ref (ad 31), .long (gL S 0)]) (ws' := wdC ad ca (sL S 0 v)) g hK ik_0 tk_0 tk_0_ok nk_0 0 rfl rfl 8 (by decide) (tb_1 221 rfl rfl) rfl (ty := .long) (by decide +kernel) rfl rfl (Nat.le_of_ble_eq_true rfl) rfl hdg hp kk
theorem pfC_Conditions_22 {v : Int32} (g : CallFix p m c cc nL s args tb Rk_5) (hK : va_K D vwCl (tyC ca) s) (hdg : decode cc pc = .ok (.putfield 22, 3)) (hp : pc + 3 = pc') (kk : Vj p l e R s m args below meth c Q D vwCl A nL kc ks (wdC ad ca (sI S 3 v)) pc' lv st) : Vj p l e R s m args below meth c Q D vwCl A nL kc ks (wdC ad ca S) pc lv (.int v :: .ref (ad 9) :: st) := v_put (ci := 2) (fs := [.int (gI S 3), .ref (ad 10), .ref (ad 11), .ref (ad 12)]) (ws' := wdC ad ca (sI S 3 v)) g hK ik_5 tk_5 tk_5_ok nk_5 9 rfl rfl 0 (by decide) (tb_1 79 rfl rfl) rfl (ty := .int) (by decide +kernel) rfl rfl (Nat.le_of_ble_eq_true rfl) rfl hdg hp kk
theorem pfC_Configurations_15 {v : Int32} (g : CallFix p m c cc nL s args tb Rk_6) (hK : va_K D vwCl (tyC ca) s) (hdg : decode cc pc = .ok (.putfield 15, 3)) (hp : pc + 3 = pc') (kk : Vj p l e R s m args below meth c Q D vwCl A nL kc ks (wdC ad ca (sI S 2 v)) pc' lv st) : Vj p l e R s m args below meth c Q D vwCl A nL kc ks (wdC ad ca S) pc lv (.int v :: .ref (ad 7) :: st) := v_put (ci := 3) (fs := [.int (gI S 2), .ref (ad 8)]) (ws' := wdC ad ca (sI S 2 v)) g hK ik_6 tk_6 tk_6_ok nk_6 7 rfl rfl 0 (by decide) (tb_1 64 rfl rfl) rfl (ty := .int) (by decide +kernel) rfl rfl (Nat.le_of_ble_eq_true rfl) rfl hdg hp kk
theorem pfC_Needs_27 {v : Int32} (g : CallFix p m c cc nL s args tb Rk_7) (hK : va_K D vwCl (tyC ca) s) (hdg : decode cc pc = .ok (.putfield 27, 3)) (hp : pc + 3 = pc') (kk : Vj p l e R s m args below meth c Q D vwCl A nL kc ks (wdC ad ca (sI S 6 v)) pc' lv st) : Vj p l e R s m args below meth c Q D vwCl A nL kc ks (wdC ad ca S) pc lv (.int v :: .ref (ad 25) :: st) := v_put (ci := 4) (fs := [.int (gI S 6), .ref (ad 26), .ref (ad 27), .ref (ad 28), .ref (ad 29), .ref (ad 30)]) (ws' := wdC ad ca (sI S 6 v)) g hK ik_7 tk_7 tk_7_ok nk_7 25 rfl rfl 0 (by decide) (tb_1 160 rfl rfl) rfl (ty := .int) (by decide +kernel) rfl rfl (Nat.le_of_ble_eq_true rfl) rfl hdg hp kk
theorem pfC_Pairs_25 {v : Int32} (g : CallFix p m c cc nL s args tb Rk_8) (hK : va_K D vwCl (tyC ca) s) (hdg : decode cc pc = .ok (.putfield 25, 3)) (hp : pc + 3 = pc') (kk : Vj p l e R s m args below meth c Q D vwCl A nL kc ks (wdC ad ca (sI S 7 v)) pc' lv st) : Vj p l e R s m args below meth c Q D vwCl A nL kc ks (wdC ad ca S) pc lv (.int v :: .ref (ad 31) :: st) := v_put (ci := 5) (fs := [.int (gI S 7), .ref (ad 32), .ref (ad 33), .ref (ad 34), .ref (ad 35)]) (ws' := wdC ad ca (sI S 7 v)) g hK ik_8 tk_8 tk_8_ok nk_8 31 rfl rfl 0 (by decide) (tb_1 189 rfl rfl) rfl (ty := .int) (by decide +kernel) rfl rfl (Nat.le_of_ble_eq_true rfl) rfl hdg hp kk
theorem pfC_Platforms_15 {v : Int32} (g : CallFix p m c cc nL s args tb Rk_9) (hK : va_K D vwCl (tyC ca) s) (hdg : decode cc pc = .ok (.putfield 15, 3)) (hp : pc + 3 = pc') (kk : Vj p l e R s m args below meth c Q D vwCl A nL kc ks (wdC ad ca (sI S 1 v)) pc' lv st) : Vj p l e R s m args below meth c Q D vwCl A nL kc ks (wdC ad ca S) pc lv (.int v :: .ref (ad 5) :: st) := v_put (ci := 6) (fs := [.int (gI S 1), .ref (ad 6)]) (ws' := wdC ad ca (sI S 1 v)) g hK ik_9 tk_9 tk_9_ok nk_9 5 rfl rfl 0 (by decide) (tb_1 51 rfl rfl) rfl (ty := .int) (by decide +kernel) rfl rfl (Nat.le_of_ble_eq_true rfl) rfl hdg hp kk
theorem pfC_Selects_38 {v : Int32} (g : CallFix p m c cc nL s args tb Rk_10) (hK : va_K D vwCl (tyC ca) s) (hdg : decode cc pc = .ok (.putfield 38, 3)) (hp : pc + 3 = pc') (kk : Vj p l e R s m args below meth c Q D vwCl A nL kc ks (wdC ad ca (sI S 5 v)) pc' lv st) : Vj p l e R s m args below meth c Q D vwCl A nL kc ks (wdC ad ca S) pc lv (.int v :: .ref (ad 16) :: st) := v_put (ci := 7) (fs := [.int (gI S 5), .ref (ad 17), .ref (ad 18), .ref (ad 19), .ref (ad 20), .ref (ad 21), .ref (ad 22), .ref (ad 23), .ref (ad 24)]) (ws' := wdC ad ca (sI S 5 v)) g hK ik_10 tk_10 tk_10_ok nk_10 16 rfl rfl 0 (by decide) (tb_1 120 rfl rfl) rfl (ty := .int) (by decide +kernel) rfl rfl (Nat.le_of_ble_eq_true rfl) rfl hdg hp kk
theorem pfC_Settings_21 {v : Int32} (g : CallFix p m c cc nL s args tb Rk_11) (hK : va_K D vwCl (tyC ca) s) (hdg : decode cc pc = .ok (.putfield 21, 3)) (hp : pc + 3 = pc') (kk : Vj p l e R s m args below meth c Q D vwCl A nL kc ks (wdC ad ca (sI S 0 v)) pc' lv st) : Vj p l e R s m args below meth c Q D vwCl A nL kc ks (wdC ad ca S) pc lv (.int v :: .ref (ad 1) :: st) := v_put (ci := 8) (fs := [.int (gI S 0), .ref (ad 2), .ref (ad 3), .ref (ad 4)]) (ws' := wdC ad ca (sI S 0 v)) g hK ik_11 tk_11 tk_11_ok nk_11 1 rfl rfl 0 (by decide) (tb_1 28 rfl rfl) rfl (ty := .int) (by decide +kernel) rfl rfl (Nat.le_of_ble_eq_true rfl) rfl hdg hp kk
theorem pfC_Targets_18 {v : Int32} (g : CallFix p m c cc nL s args tb Rk_12) (hK : va_K D vwCl (tyC ca) s) (hdg : decode cc pc = .ok (.putfield 18, 3)) (hp : pc + 3 = pc') (kk : Vj p l e R s m args below meth c Q D vwCl A nL kc ks (wdC ad ca (sI S 4 v)) pc' lv st) : Vj p l e R s m args below meth c Q D vwCl A nL kc ks (wdC ad ca S) pc lv (.int v :: .ref (ad 13) :: st) := v_put (ci := 9) (fs := [.int (gI S 4), .ref (ad 14), .ref (ad 15)]) (ws' := wdC ad ca (sI S 4 v)) g hK ik_12 tk_12 tk_12_ok nk_12 13 rfl rfl 0 (by decide) (tb_1 101 rfl rfl) rfl (ty := .int) (by decide +kernel) rfl rfl (Nat.le_of_ble_eq_true rfl) rfl hdg hp kk
theorem alC_2 {i : Int32} (g : CallFix p m c cc nL s args tb own) (hK : va_K D vwCl (tyC ca) s) (hin : inb i 16 = true) (hdg : decode cc pc = .ok (.iaload, 1)) (hp : pc + 1 = pc') (kk : Vj p l e R s m args below meth c Q D vwCl A nL kc ks (wdC ad ca S) pc' lv (.int (gA S 0 i.toNatClampNeg) :: st)) : Vj p l e R s m args below meth c Q D vwCl A nL kc ks (wdC ad ca S) pc lv (.int i :: .ref (ad 2) :: st) := v_iald g hK 2 0 rfl rfl hin hdg hp kk
theorem asC_2 {i : Int32} {v : Int32} (g : CallFix p m c cc nL s args tb own) (hK : va_K D vwCl (tyC ca) s) (hin : inb i 16 = true) (hdg : decode cc pc = .ok (.iastore, 1)) (hp : pc + 1 = pc') (kk : Vj p l e R s m args below meth c Q D vwCl A nL kc ks (wdC ad ca (tA S 0 i v)) pc' lv st) : Vj p l e R s m args below meth c Q D vwCl A nL kc ks (wdC ad ca S) pc lv (.int v :: .int i :: .ref (ad 2) :: st) := v_iast g hK 2 0 rfl rfl hin rfl hdg hp kk
theorem alC_3 {i : Int32} (g : CallFix p m c cc nL s args tb own) (hK : va_K D vwCl (tyC ca) s) (hin : inb i 16 = true) (hdg : decode cc pc = .ok (.iaload, 1)) (hp : pc + 1 = pc') (kk : Vj p l e R s m args below meth c Q D vwCl A nL kc ks (wdC ad ca S) pc' lv (.int (gA S 1 i.toNatClampNeg) :: st)) : Vj p l e R s m args below meth c Q D vwCl A nL kc ks (wdC ad ca S) pc lv (.int i :: .ref (ad 3) :: st) := v_iald g hK 3 1 rfl rfl hin hdg hp kk
theorem asC_3 {i : Int32} {v : Int32} (g : CallFix p m c cc nL s args tb own) (hK : va_K D vwCl (tyC ca) s) (hin : inb i 16 = true) (hdg : decode cc pc = .ok (.iastore, 1)) (hp : pc + 1 = pc') (kk : Vj p l e R s m args below meth c Q D vwCl A nL kc ks (wdC ad ca (tA S 1 i v)) pc' lv st) : Vj p l e R s m args below meth c Q D vwCl A nL kc ks (wdC ad ca S) pc lv (.int v :: .int i :: .ref (ad 3) :: st) := v_iast g hK 3 1 rfl rfl hin rfl hdg hp kk
theorem alC_4 {i : Int32} (g : CallFix p m c cc nL s args tb own) (hK : va_K D vwCl (tyC ca) s) (hin : inb i 16 = true) (hdg : decode cc pc = .ok (.iaload, 1)) (hp : pc + 1 = pc') (kk : Vj p l e R s m args below meth c Q D vwCl A nL kc ks (wdC ad ca S) pc' lv (.int (gA S 2 i.toNatClampNeg) :: st)) : Vj p l e R s m args below meth c Q D vwCl A nL kc ks (wdC ad ca S) pc lv (.int i :: .ref (ad 4) :: st) := v_iald g hK 4 2 rfl rfl hin hdg hp kk
theorem asC_4 {i : Int32} {v : Int32} (g : CallFix p m c cc nL s args tb own) (hK : va_K D vwCl (tyC ca) s) (hin : inb i 16 = true) (hdg : decode cc pc = .ok (.iastore, 1)) (hp : pc + 1 = pc') (kk : Vj p l e R s m args below meth c Q D vwCl A nL kc ks (wdC ad ca (tA S 2 i v)) pc' lv st) : Vj p l e R s m args below meth c Q D vwCl A nL kc ks (wdC ad ca S) pc lv (.int v :: .int i :: .ref (ad 4) :: st) := v_iast g hK 4 2 rfl rfl hin rfl hdg hp kk
theorem alC_6 {i : Int32} (g : CallFix p m c cc nL s args tb own) (hK : va_K D vwCl (tyC ca) s) (hin : inb i 64 = true) (hdg : decode cc pc = .ok (.iaload, 1)) (hp : pc + 1 = pc') (kk : Vj p l e R s m args below meth c Q D vwCl A nL kc ks (wdC ad ca S) pc' lv (.int (gA S 3 i.toNatClampNeg) :: st)) : Vj p l e R s m args below meth c Q D vwCl A nL kc ks (wdC ad ca S) pc lv (.int i :: .ref (ad 6) :: st) := v_iald g hK 6 3 rfl rfl hin hdg hp kk
theorem asC_6 {i : Int32} {v : Int32} (g : CallFix p m c cc nL s args tb own) (hK : va_K D vwCl (tyC ca) s) (hin : inb i 64 = true) (hdg : decode cc pc = .ok (.iastore, 1)) (hp : pc + 1 = pc') (kk : Vj p l e R s m args below meth c Q D vwCl A nL kc ks (wdC ad ca (tA S 3 i v)) pc' lv st) : Vj p l e R s m args below meth c Q D vwCl A nL kc ks (wdC ad ca S) pc lv (.int v :: .int i :: .ref (ad 6) :: st) := v_iast g hK 6 3 rfl rfl hin rfl hdg hp kk
theorem alC_8 {i : Int32} (g : CallFix p m c cc nL s args tb own) (hK : va_K D vwCl (tyC ca) s) (hin : inb i 60 = true) (hdg : decode cc pc = .ok (.laload, 1)) (hp : pc + 1 = pc') (kk : Vj p l e R s m args below meth c Q D vwCl A nL kc ks (wdC ad ca S) pc' lv (.long (gB S 0 i.toNatClampNeg) :: st)) : Vj p l e R s m args below meth c Q D vwCl A nL kc ks (wdC ad ca S) pc lv (.int i :: .ref (ad 8) :: st) := v_lald g hK 8 4 rfl rfl hin hdg hp kk
theorem asC_8 {i : Int32} {v : Int64} (g : CallFix p m c cc nL s args tb own) (hK : va_K D vwCl (tyC ca) s) (hin : inb i 60 = true) (hdg : decode cc pc = .ok (.lastore, 1)) (hp : pc + 1 = pc') (kk : Vj p l e R s m args below meth c Q D vwCl A nL kc ks (wdC ad ca (tB S 0 i v)) pc' lv st) : Vj p l e R s m args below meth c Q D vwCl A nL kc ks (wdC ad ca S) pc lv (.long v :: .int i :: .ref (ad 8) :: st) := v_last g hK 8 4 rfl rfl hin rfl hdg hp kk
theorem alC_10 {i : Int32} (g : CallFix p m c cc nL s args tb own) (hK : va_K D vwCl (tyC ca) s) (hin : inb i 40 = true) (hdg : decode cc pc = .ok (.iaload, 1)) (hp : pc + 1 = pc') (kk : Vj p l e R s m args below meth c Q D vwCl A nL kc ks (wdC ad ca S) pc' lv (.int (gA S 4 i.toNatClampNeg) :: st)) : Vj p l e R s m args below meth c Q D vwCl A nL kc ks (wdC ad ca S) pc lv (.int i :: .ref (ad 10) :: st) := v_iald g hK 10 5 rfl rfl hin hdg hp kk
theorem asC_10 {i : Int32} {v : Int32} (g : CallFix p m c cc nL s args tb own) (hK : va_K D vwCl (tyC ca) s) (hin : inb i 40 = true) (hdg : decode cc pc = .ok (.iastore, 1)) (hp : pc + 1 = pc') (kk : Vj p l e R s m args below meth c Q D vwCl A nL kc ks (wdC ad ca (tA S 4 i v)) pc' lv st) : Vj p l e R s m args below meth c Q D vwCl A nL kc ks (wdC ad ca S) pc lv (.int v :: .int i :: .ref (ad 10) :: st) := v_iast g hK 10 5 rfl rfl hin rfl hdg hp kk
theorem alC_11 {i : Int32} (g : CallFix p m c cc nL s args tb own) (hK : va_K D vwCl (tyC ca) s) (hin : inb i 240 = true) (hdg : decode cc pc = .ok (.iaload, 1)) (hp : pc + 1 = pc') (kk : Vj p l e R s m args below meth c Q D vwCl A nL kc ks (wdC ad ca S) pc' lv (.int (gA S 5 i.toNatClampNeg) :: st)) : Vj p l e R s m args below meth c Q D vwCl A nL kc ks (wdC ad ca S) pc lv (.int i :: .ref (ad 11) :: st) := v_iald g hK 11 6 rfl rfl hin hdg hp kk
theorem asC_11 {i : Int32} {v : Int32} (g : CallFix p m c cc nL s args tb own) (hK : va_K D vwCl (tyC ca) s) (hin : inb i 240 = true) (hdg : decode cc pc = .ok (.iastore, 1)) (hp : pc + 1 = pc') (kk : Vj p l e R s m args below meth c Q D vwCl A nL kc ks (wdC ad ca (tA S 5 i v)) pc' lv st) : Vj p l e R s m args below meth c Q D vwCl A nL kc ks (wdC ad ca S) pc lv (.int v :: .int i :: .ref (ad 11) :: st) := v_iast g hK 11 6 rfl rfl hin rfl hdg hp kk
theorem alC_12 {i : Int32} (g : CallFix p m c cc nL s args tb own) (hK : va_K D vwCl (tyC ca) s) (hin : inb i 40 = true) (hdg : decode cc pc = .ok (.baload, 1)) (hp : pc + 1 = pc') (kk : Vj p l e R s m args below meth c Q D vwCl A nL kc ks (wdC ad ca S) pc' lv (.int (gA S 6 i.toNatClampNeg) :: st)) : Vj p l e R s m args below meth c Q D vwCl A nL kc ks (wdC ad ca S) pc lv (.int i :: .ref (ad 12) :: st) := v_zald g hK 12 7 rfl rfl hin hdg hp kk
theorem asC_12 {i : Int32} {v : Int32} (g : CallFix p m c cc nL s args tb own) (hK : va_K D vwCl (tyC ca) s) (hin : inb i 40 = true) (hdg : decode cc pc = .ok (.bastore, 1)) (hp : pc + 1 = pc') (kk : Vj p l e R s m args below meth c Q D vwCl A nL kc ks (wdC ad ca (tA S 6 i (vp_nar .boolean v))) pc' lv st) : Vj p l e R s m args below meth c Q D vwCl A nL kc ks (wdC ad ca S) pc lv (.int v :: .int i :: .ref (ad 12) :: st) := v_zast g hK 12 7 rfl rfl hin rfl hdg hp kk
theorem alC_14 {i : Int32} (g : CallFix p m c cc nL s args tb own) (hK : va_K D vwCl (tyC ca) s) (hin : inb i 16 = true) (hdg : decode cc pc = .ok (.iaload, 1)) (hp : pc + 1 = pc') (kk : Vj p l e R s m args below meth c Q D vwCl A nL kc ks (wdC ad ca S) pc' lv (.int (gA S 7 i.toNatClampNeg) :: st)) : Vj p l e R s m args below meth c Q D vwCl A nL kc ks (wdC ad ca S) pc lv (.int i :: .ref (ad 14) :: st) := v_iald g hK 14 8 rfl rfl hin hdg hp kk
theorem asC_14 {i : Int32} {v : Int32} (g : CallFix p m c cc nL s args tb own) (hK : va_K D vwCl (tyC ca) s) (hin : inb i 16 = true) (hdg : decode cc pc = .ok (.iastore, 1)) (hp : pc + 1 = pc') (kk : Vj p l e R s m args below meth c Q D vwCl A nL kc ks (wdC ad ca (tA S 7 i v)) pc' lv st) : Vj p l e R s m args below meth c Q D vwCl A nL kc ks (wdC ad ca S) pc lv (.int v :: .int i :: .ref (ad 14) :: st) := v_iast g hK 14 8 rfl rfl hin rfl hdg hp kk
theorem alC_15 {i : Int32} (g : CallFix p m c cc nL s args tb own) (hK : va_K D vwCl (tyC ca) s) (hin : inb i 16 = true) (hdg : decode cc pc = .ok (.iaload, 1)) (hp : pc + 1 = pc') (kk : Vj p l e R s m args below meth c Q D vwCl A nL kc ks (wdC ad ca S) pc' lv (.int (gA S 8 i.toNatClampNeg) :: st)) : Vj p l e R s m args below meth c Q D vwCl A nL kc ks (wdC ad ca S) pc lv (.int i :: .ref (ad 15) :: st) := v_iald g hK 15 9 rfl rfl hin hdg hp kk
theorem asC_15 {i : Int32} {v : Int32} (g : CallFix p m c cc nL s args tb own) (hK : va_K D vwCl (tyC ca) s) (hin : inb i 16 = true) (hdg : decode cc pc = .ok (.iastore, 1)) (hp : pc + 1 = pc') (kk : Vj p l e R s m args below meth c Q D vwCl A nL kc ks (wdC ad ca (tA S 8 i v)) pc' lv st) : Vj p l e R s m args below meth c Q D vwCl A nL kc ks (wdC ad ca S) pc lv (.int v :: .int i :: .ref (ad 15) :: st) := v_iast g hK 15 9 rfl rfl hin rfl hdg hp kk
theorem alC_17 {i : Int32} (g : CallFix p m c cc nL s args tb own) (hK : va_K D vwCl (tyC ca) s) (hin : inb i 24 = true) (hdg : decode cc pc = .ok (.iaload, 1)) (hp : pc + 1 = pc') (kk : Vj p l e R s m args below meth c Q D vwCl A nL kc ks (wdC ad ca S) pc' lv (.int (gA S 9 i.toNatClampNeg) :: st)) : Vj p l e R s m args below meth c Q D vwCl A nL kc ks (wdC ad ca S) pc lv (.int i :: .ref (ad 17) :: st) := v_iald g hK 17 10 rfl rfl hin hdg hp kk
theorem asC_17 {i : Int32} {v : Int32} (g : CallFix p m c cc nL s args tb own) (hK : va_K D vwCl (tyC ca) s) (hin : inb i 24 = true) (hdg : decode cc pc = .ok (.iastore, 1)) (hp : pc + 1 = pc') (kk : Vj p l e R s m args below meth c Q D vwCl A nL kc ks (wdC ad ca (tA S 9 i v)) pc' lv st) : Vj p l e R s m args below meth c Q D vwCl A nL kc ks (wdC ad ca S) pc lv (.int v :: .int i :: .ref (ad 17) :: st) := v_iast g hK 17 10 rfl rfl hin rfl hdg hp kk
theorem alC_18 {i : Int32} (g : CallFix p m c cc nL s args tb own) (hK : va_K D vwCl (tyC ca) s) (hin : inb i 24 = true) (hdg : decode cc pc = .ok (.laload, 1)) (hp : pc + 1 = pc') (kk : Vj p l e R s m args below meth c Q D vwCl A nL kc ks (wdC ad ca S) pc' lv (.long (gB S 1 i.toNatClampNeg) :: st)) : Vj p l e R s m args below meth c Q D vwCl A nL kc ks (wdC ad ca S) pc lv (.int i :: .ref (ad 18) :: st) := v_lald g hK 18 11 rfl rfl hin hdg hp kk
theorem asC_18 {i : Int32} {v : Int64} (g : CallFix p m c cc nL s args tb own) (hK : va_K D vwCl (tyC ca) s) (hin : inb i 24 = true) (hdg : decode cc pc = .ok (.lastore, 1)) (hp : pc + 1 = pc') (kk : Vj p l e R s m args below meth c Q D vwCl A nL kc ks (wdC ad ca (tB S 1 i v)) pc' lv st) : Vj p l e R s m args below meth c Q D vwCl A nL kc ks (wdC ad ca S) pc lv (.long v :: .int i :: .ref (ad 18) :: st) := v_last g hK 18 11 rfl rfl hin rfl hdg hp kk
theorem alC_19 {i : Int32} (g : CallFix p m c cc nL s args tb own) (hK : va_K D vwCl (tyC ca) s) (hin : inb i 24 = true) (hdg : decode cc pc = .ok (.baload, 1)) (hp : pc + 1 = pc') (kk : Vj p l e R s m args below meth c Q D vwCl A nL kc ks (wdC ad ca S) pc' lv (.int (gA S 10 i.toNatClampNeg) :: st)) : Vj p l e R s m args below meth c Q D vwCl A nL kc ks (wdC ad ca S) pc lv (.int i :: .ref (ad 19) :: st) := v_zald g hK 19 12 rfl rfl hin hdg hp kk
theorem asC_19 {i : Int32} {v : Int32} (g : CallFix p m c cc nL s args tb own) (hK : va_K D vwCl (tyC ca) s) (hin : inb i 24 = true) (hdg : decode cc pc = .ok (.bastore, 1)) (hp : pc + 1 = pc') (kk : Vj p l e R s m args below meth c Q D vwCl A nL kc ks (wdC ad ca (tA S 10 i (vp_nar .boolean v))) pc' lv st) : Vj p l e R s m args below meth c Q D vwCl A nL kc ks (wdC ad ca S) pc lv (.int v :: .int i :: .ref (ad 19) :: st) := v_zast g hK 19 12 rfl rfl hin rfl hdg hp kk
theorem alC_20 {i : Int32} (g : CallFix p m c cc nL s args tb own) (hK : va_K D vwCl (tyC ca) s) (hin : inb i 24 = true) (hdg : decode cc pc = .ok (.baload, 1)) (hp : pc + 1 = pc') (kk : Vj p l e R s m args below meth c Q D vwCl A nL kc ks (wdC ad ca S) pc' lv (.int (gA S 11 i.toNatClampNeg) :: st)) : Vj p l e R s m args below meth c Q D vwCl A nL kc ks (wdC ad ca S) pc lv (.int i :: .ref (ad 20) :: st) := v_zald g hK 20 13 rfl rfl hin hdg hp kk
theorem asC_20 {i : Int32} {v : Int32} (g : CallFix p m c cc nL s args tb own) (hK : va_K D vwCl (tyC ca) s) (hin : inb i 24 = true) (hdg : decode cc pc = .ok (.bastore, 1)) (hp : pc + 1 = pc') (kk : Vj p l e R s m args below meth c Q D vwCl A nL kc ks (wdC ad ca (tA S 11 i (vp_nar .boolean v))) pc' lv st) : Vj p l e R s m args below meth c Q D vwCl A nL kc ks (wdC ad ca S) pc lv (.int v :: .int i :: .ref (ad 20) :: st) := v_zast g hK 20 13 rfl rfl hin rfl hdg hp kk
theorem alC_21 {i : Int32} (g : CallFix p m c cc nL s args tb own) (hK : va_K D vwCl (tyC ca) s) (hin : inb i 24 = true) (hdg : decode cc pc = .ok (.iaload, 1)) (hp : pc + 1 = pc') (kk : Vj p l e R s m args below meth c Q D vwCl A nL kc ks (wdC ad ca S) pc' lv (.int (gA S 12 i.toNatClampNeg) :: st)) : Vj p l e R s m args below meth c Q D vwCl A nL kc ks (wdC ad ca S) pc lv (.int i :: .ref (ad 21) :: st) := v_iald g hK 21 14 rfl rfl hin hdg hp kk
theorem asC_21 {i : Int32} {v : Int32} (g : CallFix p m c cc nL s args tb own) (hK : va_K D vwCl (tyC ca) s) (hin : inb i 24 = true) (hdg : decode cc pc = .ok (.iastore, 1)) (hp : pc + 1 = pc') (kk : Vj p l e R s m args below meth c Q D vwCl A nL kc ks (wdC ad ca (tA S 12 i v)) pc' lv st) : Vj p l e R s m args below meth c Q D vwCl A nL kc ks (wdC ad ca S) pc lv (.int v :: .int i :: .ref (ad 21) :: st) := v_iast g hK 21 14 rfl rfl hin rfl hdg hp kk
theorem alC_22 {i : Int32} (g : CallFix p m c cc nL s args tb own) (hK : va_K D vwCl (tyC ca) s) (hin : inb i 192 = true) (hdg : decode cc pc = .ok (.iaload, 1)) (hp : pc + 1 = pc') (kk : Vj p l e R s m args below meth c Q D vwCl A nL kc ks (wdC ad ca S) pc' lv (.int (gA S 13 i.toNatClampNeg) :: st)) : Vj p l e R s m args below meth c Q D vwCl A nL kc ks (wdC ad ca S) pc lv (.int i :: .ref (ad 22) :: st) := v_iald g hK 22 15 rfl rfl hin hdg hp kk
theorem asC_22 {i : Int32} {v : Int32} (g : CallFix p m c cc nL s args tb own) (hK : va_K D vwCl (tyC ca) s) (hin : inb i 192 = true) (hdg : decode cc pc = .ok (.iastore, 1)) (hp : pc + 1 = pc') (kk : Vj p l e R s m args below meth c Q D vwCl A nL kc ks (wdC ad ca (tA S 13 i v)) pc' lv st) : Vj p l e R s m args below meth c Q D vwCl A nL kc ks (wdC ad ca S) pc lv (.int v :: .int i :: .ref (ad 22) :: st) := v_iast g hK 22 15 rfl rfl hin rfl hdg hp kk
theorem alC_23 {i : Int32} (g : CallFix p m c cc nL s args tb own) (hK : va_K D vwCl (tyC ca) s) (hin : inb i 192 = true) (hdg : decode cc pc = .ok (.baload, 1)) (hp : pc + 1 = pc') (kk : Vj p l e R s m args below meth c Q D vwCl A nL kc ks (wdC ad ca S) pc' lv (.int (gA S 14 i.toNatClampNeg) :: st)) : Vj p l e R s m args below meth c Q D vwCl A nL kc ks (wdC ad ca S) pc lv (.int i :: .ref (ad 23) :: st) := v_zald g hK 23 16 rfl rfl hin hdg hp kk
theorem asC_23 {i : Int32} {v : Int32} (g : CallFix p m c cc nL s args tb own) (hK : va_K D vwCl (tyC ca) s) (hin : inb i 192 = true) (hdg : decode cc pc = .ok (.bastore, 1)) (hp : pc + 1 = pc') (kk : Vj p l e R s m args below meth c Q D vwCl A nL kc ks (wdC ad ca (tA S 14 i (vp_nar .boolean v))) pc' lv st) : Vj p l e R s m args below meth c Q D vwCl A nL kc ks (wdC ad ca S) pc lv (.int v :: .int i :: .ref (ad 23) :: st) := v_zast g hK 23 16 rfl rfl hin rfl hdg hp kk
theorem alC_24 {i : Int32} (g : CallFix p m c cc nL s args tb own) (hK : va_K D vwCl (tyC ca) s) (hin : inb i 192 = true) (hdg : decode cc pc = .ok (.iaload, 1)) (hp : pc + 1 = pc') (kk : Vj p l e R s m args below meth c Q D vwCl A nL kc ks (wdC ad ca S) pc' lv (.int (gA S 15 i.toNatClampNeg) :: st)) : Vj p l e R s m args below meth c Q D vwCl A nL kc ks (wdC ad ca S) pc lv (.int i :: .ref (ad 24) :: st) := v_iald g hK 24 17 rfl rfl hin hdg hp kk
theorem asC_24 {i : Int32} {v : Int32} (g : CallFix p m c cc nL s args tb own) (hK : va_K D vwCl (tyC ca) s) (hin : inb i 192 = true) (hdg : decode cc pc = .ok (.iastore, 1)) (hp : pc + 1 = pc') (kk : Vj p l e R s m args below meth c Q D vwCl A nL kc ks (wdC ad ca (tA S 15 i v)) pc' lv st) : Vj p l e R s m args below meth c Q D vwCl A nL kc ks (wdC ad ca S) pc lv (.int v :: .int i :: .ref (ad 24) :: st) := v_iast g hK 24 17 rfl rfl hin rfl hdg hp kk
theorem alC_26 {i : Int32} (g : CallFix p m c cc nL s args tb own) (hK : va_K D vwCl (tyC ca) s) (hin : inb i 40 = true) (hdg : decode cc pc = .ok (.iaload, 1)) (hp : pc + 1 = pc') (kk : Vj p l e R s m args below meth c Q D vwCl A nL kc ks (wdC ad ca S) pc' lv (.int (gA S 16 i.toNatClampNeg) :: st)) : Vj p l e R s m args below meth c Q D vwCl A nL kc ks (wdC ad ca S) pc lv (.int i :: .ref (ad 26) :: st) := v_iald g hK 26 18 rfl rfl hin hdg hp kk
theorem asC_26 {i : Int32} {v : Int32} (g : CallFix p m c cc nL s args tb own) (hK : va_K D vwCl (tyC ca) s) (hin : inb i 40 = true) (hdg : decode cc pc = .ok (.iastore, 1)) (hp : pc + 1 = pc') (kk : Vj p l e R s m args below meth c Q D vwCl A nL kc ks (wdC ad ca (tA S 16 i v)) pc' lv st) : Vj p l e R s m args below meth c Q D vwCl A nL kc ks (wdC ad ca S) pc lv (.int v :: .int i :: .ref (ad 26) :: st) := v_iast g hK 26 18 rfl rfl hin rfl hdg hp kk
theorem alC_27 {i : Int32} (g : CallFix p m c cc nL s args tb own) (hK : va_K D vwCl (tyC ca) s) (hin : inb i 40 = true) (hdg : decode cc pc = .ok (.iaload, 1)) (hp : pc + 1 = pc') (kk : Vj p l e R s m args below meth c Q D vwCl A nL kc ks (wdC ad ca S) pc' lv (.int (gA S 17 i.toNatClampNeg) :: st)) : Vj p l e R s m args below meth c Q D vwCl A nL kc ks (wdC ad ca S) pc lv (.int i :: .ref (ad 27) :: st) := v_iald g hK 27 19 rfl rfl hin hdg hp kk
theorem asC_27 {i : Int32} {v : Int32} (g : CallFix p m c cc nL s args tb own) (hK : va_K D vwCl (tyC ca) s) (hin : inb i 40 = true) (hdg : decode cc pc = .ok (.iastore, 1)) (hp : pc + 1 = pc') (kk : Vj p l e R s m args below meth c Q D vwCl A nL kc ks (wdC ad ca (tA S 17 i v)) pc' lv st) : Vj p l e R s m args below meth c Q D vwCl A nL kc ks (wdC ad ca S) pc lv (.int v :: .int i :: .ref (ad 27) :: st) := v_iast g hK 27 19 rfl rfl hin rfl hdg hp kk
theorem alC_28 {i : Int32} (g : CallFix p m c cc nL s args tb own) (hK : va_K D vwCl (tyC ca) s) (hin : inb i 40 = true) (hdg : decode cc pc = .ok (.iaload, 1)) (hp : pc + 1 = pc') (kk : Vj p l e R s m args below meth c Q D vwCl A nL kc ks (wdC ad ca S) pc' lv (.int (gA S 18 i.toNatClampNeg) :: st)) : Vj p l e R s m args below meth c Q D vwCl A nL kc ks (wdC ad ca S) pc lv (.int i :: .ref (ad 28) :: st) := v_iald g hK 28 20 rfl rfl hin hdg hp kk
theorem asC_28 {i : Int32} {v : Int32} (g : CallFix p m c cc nL s args tb own) (hK : va_K D vwCl (tyC ca) s) (hin : inb i 40 = true) (hdg : decode cc pc = .ok (.iastore, 1)) (hp : pc + 1 = pc') (kk : Vj p l e R s m args below meth c Q D vwCl A nL kc ks (wdC ad ca (tA S 18 i v)) pc' lv st) : Vj p l e R s m args below meth c Q D vwCl A nL kc ks (wdC ad ca S) pc lv (.int v :: .int i :: .ref (ad 28) :: st) := v_iast g hK 28 20 rfl rfl hin rfl hdg hp kk
theorem alC_29 {i : Int32} (g : CallFix p m c cc nL s args tb own) (hK : va_K D vwCl (tyC ca) s) (hin : inb i 80 = true) (hdg : decode cc pc = .ok (.iaload, 1)) (hp : pc + 1 = pc') (kk : Vj p l e R s m args below meth c Q D vwCl A nL kc ks (wdC ad ca S) pc' lv (.int (gA S 19 i.toNatClampNeg) :: st)) : Vj p l e R s m args below meth c Q D vwCl A nL kc ks (wdC ad ca S) pc lv (.int i :: .ref (ad 29) :: st) := v_iald g hK 29 21 rfl rfl hin hdg hp kk
theorem asC_29 {i : Int32} {v : Int32} (g : CallFix p m c cc nL s args tb own) (hK : va_K D vwCl (tyC ca) s) (hin : inb i 80 = true) (hdg : decode cc pc = .ok (.iastore, 1)) (hp : pc + 1 = pc') (kk : Vj p l e R s m args below meth c Q D vwCl A nL kc ks (wdC ad ca (tA S 19 i v)) pc' lv st) : Vj p l e R s m args below meth c Q D vwCl A nL kc ks (wdC ad ca S) pc lv (.int v :: .int i :: .ref (ad 29) :: st) := v_iast g hK 29 21 rfl rfl hin rfl hdg hp kk
theorem alC_30 {i : Int32} (g : CallFix p m c cc nL s args tb own) (hK : va_K D vwCl (tyC ca) s) (hin : inb i 80 = true) (hdg : decode cc pc = .ok (.iaload, 1)) (hp : pc + 1 = pc') (kk : Vj p l e R s m args below meth c Q D vwCl A nL kc ks (wdC ad ca S) pc' lv (.int (gA S 20 i.toNatClampNeg) :: st)) : Vj p l e R s m args below meth c Q D vwCl A nL kc ks (wdC ad ca S) pc lv (.int i :: .ref (ad 30) :: st) := v_iald g hK 30 22 rfl rfl hin hdg hp kk
theorem asC_30 {i : Int32} {v : Int32} (g : CallFix p m c cc nL s args tb own) (hK : va_K D vwCl (tyC ca) s) (hin : inb i 80 = true) (hdg : decode cc pc = .ok (.iastore, 1)) (hp : pc + 1 = pc') (kk : Vj p l e R s m args below meth c Q D vwCl A nL kc ks (wdC ad ca (tA S 20 i v)) pc' lv st) : Vj p l e R s m args below meth c Q D vwCl A nL kc ks (wdC ad ca S) pc lv (.int v :: .int i :: .ref (ad 30) :: st) := v_iast g hK 30 22 rfl rfl hin rfl hdg hp kk
theorem alC_32 {i : Int32} (g : CallFix p m c cc nL s args tb own) (hK : va_K D vwCl (tyC ca) s) (hin : inb i 60 = true) (hdg : decode cc pc = .ok (.iaload, 1)) (hp : pc + 1 = pc') (kk : Vj p l e R s m args below meth c Q D vwCl A nL kc ks (wdC ad ca S) pc' lv (.int (gA S 21 i.toNatClampNeg) :: st)) : Vj p l e R s m args below meth c Q D vwCl A nL kc ks (wdC ad ca S) pc lv (.int i :: .ref (ad 32) :: st) := v_iald g hK 32 23 rfl rfl hin hdg hp kk
theorem asC_32 {i : Int32} {v : Int32} (g : CallFix p m c cc nL s args tb own) (hK : va_K D vwCl (tyC ca) s) (hin : inb i 60 = true) (hdg : decode cc pc = .ok (.iastore, 1)) (hp : pc + 1 = pc') (kk : Vj p l e R s m args below meth c Q D vwCl A nL kc ks (wdC ad ca (tA S 21 i v)) pc' lv st) : Vj p l e R s m args below meth c Q D vwCl A nL kc ks (wdC ad ca S) pc lv (.int v :: .int i :: .ref (ad 32) :: st) := v_iast g hK 32 23 rfl rfl hin rfl hdg hp kk
theorem alC_33 {i : Int32} (g : CallFix p m c cc nL s args tb own) (hK : va_K D vwCl (tyC ca) s) (hin : inb i 60 = true) (hdg : decode cc pc = .ok (.iaload, 1)) (hp : pc + 1 = pc') (kk : Vj p l e R s m args below meth c Q D vwCl A nL kc ks (wdC ad ca S) pc' lv (.int (gA S 22 i.toNatClampNeg) :: st)) : Vj p l e R s m args below meth c Q D vwCl A nL kc ks (wdC ad ca S) pc lv (.int i :: .ref (ad 33) :: st) := v_iald g hK 33 24 rfl rfl hin hdg hp kk
theorem asC_33 {i : Int32} {v : Int32} (g : CallFix p m c cc nL s args tb own) (hK : va_K D vwCl (tyC ca) s) (hin : inb i 60 = true) (hdg : decode cc pc = .ok (.iastore, 1)) (hp : pc + 1 = pc') (kk : Vj p l e R s m args below meth c Q D vwCl A nL kc ks (wdC ad ca (tA S 22 i v)) pc' lv st) : Vj p l e R s m args below meth c Q D vwCl A nL kc ks (wdC ad ca S) pc lv (.int v :: .int i :: .ref (ad 33) :: st) := v_iast g hK 33 24 rfl rfl hin rfl hdg hp kk
theorem alC_34 {i : Int32} (g : CallFix p m c cc nL s args tb own) (hK : va_K D vwCl (tyC ca) s) (hin : inb i 60 = true) (hdg : decode cc pc = .ok (.iaload, 1)) (hp : pc + 1 = pc') (kk : Vj p l e R s m args below meth c Q D vwCl A nL kc ks (wdC ad ca S) pc' lv (.int (gA S 23 i.toNatClampNeg) :: st)) : Vj p l e R s m args below meth c Q D vwCl A nL kc ks (wdC ad ca S) pc lv (.int i :: .ref (ad 34) :: st) := v_iald g hK 34 25 rfl rfl hin hdg hp kk
theorem asC_34 {i : Int32} {v : Int32} (g : CallFix p m c cc nL s args tb own) (hK : va_K D vwCl (tyC ca) s) (hin : inb i 60 = true) (hdg : decode cc pc = .ok (.iastore, 1)) (hp : pc + 1 = pc') (kk : Vj p l e R s m args below meth c Q D vwCl A nL kc ks (wdC ad ca (tA S 23 i v)) pc' lv st) : Vj p l e R s m args below meth c Q D vwCl A nL kc ks (wdC ad ca S) pc lv (.int v :: .int i :: .ref (ad 34) :: st) := v_iast g hK 34 25 rfl rfl hin rfl hdg hp kk
theorem alC_35 {i : Int32} (g : CallFix p m c cc nL s args tb own) (hK : va_K D vwCl (tyC ca) s) (hin : inb i 60 = true) (hdg : decode cc pc = .ok (.laload, 1)) (hp : pc + 1 = pc') (kk : Vj p l e R s m args below meth c Q D vwCl A nL kc ks (wdC ad ca S) pc' lv (.long (gB S 2 i.toNatClampNeg) :: st)) : Vj p l e R s m args below meth c Q D vwCl A nL kc ks (wdC ad ca S) pc lv (.int i :: .ref (ad 35) :: st) := v_lald g hK 35 26 rfl rfl hin hdg hp kk
theorem asC_35 {i : Int32} {v : Int64} (g : CallFix p m c cc nL s args tb own) (hK : va_K D vwCl (tyC ca) s) (hin : inb i 60 = true) (hdg : decode cc pc = .ok (.lastore, 1)) (hp : pc + 1 = pc') (kk : Vj p l e R s m args below meth c Q D vwCl A nL kc ks (wdC ad ca (tB S 2 i v)) pc' lv st) : Vj p l e R s m args below meth c Q D vwCl A nL kc ks (wdC ad ca S) pc lv (.long v :: .int i :: .ref (ad 35) :: st) := v_last g hK 35 26 rfl rfl hin rfl hdg hp kk
end
theorem lcC_X_302 : Cond.constant Rk_0 302 65535 ∈ tb := (tb_3 56 rfl rfl)
theorem lcC_Choices_11 : Cond.constantLong Rk_3 11 4294967296 ∈ tb := (tb_2 147 rfl rfl)
theorem lcC_Choices_13 : Cond.constantLong Rk_3 13 4294967295 ∈ tb := (tb_2 148 rfl rfl)
theorem lcC_Choices_15 : Cond.constantLong Rk_3 15 8589934592 ∈ tb := (tb_3 13 rfl rfl)
theorem lcC_Codes_11 : Cond.constantLong Rk_4 11 7 ∈ tb := (tb_2 16 rfl rfl)
theorem lcC_Codes_13 : Cond.constantLong Rk_4 13 (-1) ∈ tb := (tb_2 17 rfl rfl)
theorem kcC_X_65 {R : Room} {s : State} {args : Array Value} {rm : Room} (hT : ∀ w ∈ tb, w.before args s = true) (hc : rm.cells = 0) (hs : rm.slots = 0) (h1 : rm.frames + 1 ≤ R.frames) (h2 : 8 + (0 + 11) + rm.locals ≤ R.locals) : CallB R s args Rk_0 65 yk_3_nothing bk_3_nothing 0 (some .long) (.code yk_3_nothing bk_3_nothing 0 (some .long) :: tb) rm 0 0 0 ∧ (Cond.static yk_3_nothing).before args s = true := ⟨cB 0 hT (tb_1 210 rfl rfl) (tb_1 10 rfl rfl) (tb_1 212 rfl rfl) hc hs (by decide +kernel) h1 h2, hT _ (tb_1 211 rfl rfl)⟩
theorem kcC_X_75 {R : Room} {s : State} {args : Array Value} {rm : Room} (hT : ∀ w ∈ tb, w.before args s = true) (hc : rm.cells = 0) (hs : rm.slots = 0) (h1 : rm.frames + 1 ≤ R.frames) (h2 : 8 + (4 + 11) + rm.locals ≤ R.locals) : CallW R s args Rk_0 Rk_11 75 yk_11_add bk_11_add 4 (some .int) (.code yk_11_add bk_11_add 4 (some .int) :: tb) rm 0 0 3 := ⟨cB 3 hT (tb_2 5 rfl rfl) (tb_1 2 rfl rfl) (tb_2 8 rfl rfl) hc hs (by decide +kernel) h1 h2, hT _ (tb_2 6 rfl rfl), hT _ (tb_2 7 rfl rfl)⟩
theorem kcC_X_79 {R : Room} {s : State} {args : Array Value} {rm : Room} (hT : ∀ w ∈ tb, w.before args s = true) (hc : rm.cells = 0) (hs : rm.slots = 0) (h1 : rm.frames + 1 ≤ R.frames) (h2 : 8 + (4 + 11) + rm.locals ≤ R.locals) : CallW R s args Rk_0 Rk_6 79 yk_6_giveAll bk_6_giveAll 4 none (.code yk_6_giveAll bk_6_giveAll 4 none :: tb) rm 0 0 2 := ⟨cB 2 hT (tb_2 9 rfl rfl) (tb_1 4 rfl rfl) (tb_2 12 rfl rfl) hc hs (by decide +kernel) h1 h2, hT _ (tb_2 10 rfl rfl), hT _ (tb_2 11 rfl rfl)⟩
theorem kcC_X_83 {R : Room} {s : State} {args : Array Value} {rm : Room} (hT : ∀ w ∈ tb, w.before args s = true) (hc : rm.cells = 0) (hs : rm.slots = 0) (h1 : rm.frames + 1 ≤ R.frames) (h2 : 8 + (4 + 11) + rm.locals ≤ R.locals) : CallW R s args Rk_0 Rk_11 83 yk_11_baseOf bk_11_baseOf 4 (some .int) (.code yk_11_baseOf bk_11_baseOf 4 (some .int) :: tb) rm 0 0 1 := ⟨cB 1 hT (tb_2 26 rfl rfl) (tb_1 2 rfl rfl) (tb_2 29 rfl rfl) hc hs (by decide +kernel) h1 h2, hT _ (tb_2 27 rfl rfl), hT _ (tb_2 28 rfl rfl)⟩
theorem kcC_X_87 {R : Room} {s : State} {args : Array Value} {rm : Room} (hT : ∀ w ∈ tb, w.before args s = true) (hc : rm.cells = 0) (hs : rm.slots = 0) (h1 : rm.frames + 1 ≤ R.frames) (h2 : 8 + (2 + 11) + rm.locals ≤ R.locals) : CallW R s args Rk_0 Rk_9 87 yk_9_add bk_9_add 2 (some .int) (.code yk_9_add bk_9_add 2 (some .int) :: tb) rm 0 0 0 := ⟨cB 0 hT (tb_2 38 rfl rfl) (tb_1 3 rfl rfl) (tb_2 41 rfl rfl) hc hs (by decide +kernel) h1 h2, hT _ (tb_2 39 rfl rfl), hT _ (tb_2 40 rfl rfl)⟩
theorem kcC_X_90 {R : Room} {s : State} {args : Array Value} {rm : Room} (hT : ∀ w ∈ tb, w.before args s = true) (hc : rm.cells = 0) (hs : rm.slots = 0) (h1 : rm.frames + 1 ≤ R.frames) (h2 : 8 + (2 + 11) + rm.locals ≤ R.locals) : CallW R s args Rk_0 Rk_9 90 yk_9_isThere bk_9_isThere 2 (some .boolean) (.code yk_9_isThere bk_9_isThere 2 (some .boolean) :: tb) rm 0 0 1 := ⟨cB 1 hT (tb_2 50 rfl rfl) (tb_1 3 rfl rfl) (tb_2 53 rfl rfl) hc hs (by decide +kernel) h1 h2, hT _ (tb_2 51 rfl rfl), hT _ (tb_2 52 rfl rfl)⟩
theorem kcC_X_94 {R : Room} {s : State} {args : Array Value} {rm : Room} (hT : ∀ w ∈ tb, w.before args s = true) (hc : rm.cells = 0) (hs : rm.slots = 0) (h1 : rm.frames + 1 ≤ R.frames) (h2 : 8 + (1 + 11) + rm.locals ≤ R.locals) : CallB R s args Rk_0 94 yk_0_isAxis bk_0_isAxis 1 (some .boolean) (.code yk_0_isAxis bk_0_isAxis 1 (some .boolean) :: tb) rm 0 0 1 ∧ (Cond.static yk_0_isAxis).before args s = true := ⟨cB 1 hT (tb_2 54 rfl rfl) (tb_1 1 rfl rfl) (tb_2 56 rfl rfl) hc hs (by decide +kernel) h1 h2, hT _ (tb_2 55 rfl rfl)⟩
theorem kcC_X_97 {R : Room} {s : State} {args : Array Value} {rm : Room} (hT : ∀ w ∈ tb, w.before args s = true) (hc : rm.cells = 0) (hs : rm.slots = 0) (h1 : rm.frames + 1 ≤ R.frames) (h2 : 8 + (1 + 11) + rm.locals ≤ R.locals) : CallB R s args Rk_0 97 yk_0_isValue bk_0_isValue 1 (some .boolean) (.code yk_0_isValue bk_0_isValue 1 (some .boolean) :: tb) rm 0 0 1 ∧ (Cond.static yk_0_isValue).before args s = true := ⟨cB 1 hT (tb_2 57 rfl rfl) (tb_1 1 rfl rfl) (tb_2 59 rfl rfl) hc hs (by decide +kernel) h1 h2, hT _ (tb_2 58 rfl rfl)⟩
theorem kcC_X_100 {R : Room} {s : State} {args : Array Value} {rm : Room} (hT : ∀ w ∈ tb, w.before args s = true) (hc : rm.cells = 0) (hs : rm.slots = 0) (h1 : rm.frames + 1 ≤ R.frames) (h2 : 8 + (3 + 11) + rm.locals ≤ R.locals) : CallW R s args Rk_0 Rk_6 100 yk_6_anyOn bk_6_anyOn 3 (some .boolean) (.code yk_6_anyOn bk_6_anyOn 3 (some .boolean) :: tb) rm 0 0 1 := ⟨cB 1 hT (tb_2 60 rfl rfl) (tb_1 4 rfl rfl) (tb_2 63 rfl rfl) hc hs (by decide +kernel) h1 h2, hT _ (tb_2 61 rfl rfl), hT _ (tb_2 62 rfl rfl)⟩
theorem kcC_X_103 {R : Room} {s : State} {args : Array Value} {rm : Room} (hT : ∀ w ∈ tb, w.before args s = true) (hc : rm.cells = 0) (hs : rm.slots = 0) (h1 : rm.frames + 1 ≤ R.frames) (h2 : 8 + (4 + 11) + rm.locals ≤ R.locals) : CallW R s args Rk_0 Rk_9 103 yk_9_put bk_9_put 4 none (.code yk_9_put bk_9_put 4 none :: tb) rm 0 0 3 := ⟨cB 3 hT (tb_2 67 rfl rfl) (tb_1 3 rfl rfl) (tb_2 45 rfl rfl) hc hs (by decide +kernel) h1 h2, hT _ (tb_2 43 rfl rfl), hT _ (tb_2 44 rfl rfl)⟩
theorem kcC_X_107 {R : Room} {s : State} {args : Array Value} {rm : Room} (hT : ∀ w ∈ tb, w.before args s = true) (hc : rm.cells = 0) (hs : rm.slots = 0) (h1 : rm.frames + 1 ≤ R.frames) (h2 : 8 + (1 + 11) + rm.locals ≤ R.locals) : CallW R s args Rk_0 Rk_5 107 yk_5_add bk_5_add 1 (some .int) (.code yk_5_add bk_5_add 1 (some .int) :: tb) rm 0 0 0 := ⟨cB 0 hT (tb_2 72 rfl rfl) (tb_1 5 rfl rfl) (tb_2 75 rfl rfl) hc hs (by decide +kernel) h1 h2, hT _ (tb_2 73 rfl rfl), hT _ (tb_2 74 rfl rfl)⟩
theorem kcC_X_108 {R : Room} {s : State} {args : Array Value} {rm : Room} (hT : ∀ w ∈ tb, w.before args s = true) (hc : rm.cells = 0) (hs : rm.slots = 0) (h1 : rm.frames + 1 ≤ R.frames) (h2 : 8 + (2 + 11) + rm.locals ≤ R.locals) : CallW R s args Rk_0 Rk_5 108 yk_5_isThere bk_5_isThere 2 (some .boolean) (.code yk_5_isThere bk_5_isThere 2 (some .boolean) :: tb) rm 0 0 1 := ⟨cB 1 hT (tb_2 80 rfl rfl) (tb_1 5 rfl rfl) (tb_2 83 rfl rfl) hc hs (by decide +kernel) h1 h2, hT _ (tb_2 81 rfl rfl), hT _ (tb_2 82 rfl rfl)⟩
theorem kcC_X_109 {R : Room} {s : State} {args : Array Value} {rm : Room} (hT : ∀ w ∈ tb, w.before args s = true) (hc : rm.cells = 0) (hs : rm.slots = 0) (h1 : rm.frames + 1 ≤ R.frames) (h2 : 8 + (2 + 11) + rm.locals ≤ R.locals) : CallW R s args Rk_0 Rk_11 109 yk_11_isThere bk_11_isThere 2 (some .boolean) (.code yk_11_isThere bk_11_isThere 2 (some .boolean) :: tb) rm 0 0 1 := ⟨cB 1 hT (tb_2 84 rfl rfl) (tb_1 2 rfl rfl) (tb_2 33 rfl rfl) hc hs (by decide +kernel) h1 h2, hT _ (tb_2 31 rfl rfl), hT _ (tb_2 32 rfl rfl)⟩
theorem kcC_X_110 {R : Room} {s : State} {args : Array Value} {rm : Room} (hT : ∀ w ∈ tb, w.before args s = true) (hc : rm.cells = 0) (hs : rm.slots = 0) (h1 : rm.frames + 1 ≤ R.frames) (h2 : 8 + (3 + 11) + rm.locals ≤ R.locals) : CallB R s args Rk_0 110 yk_2_codeOf bk_2_codeOf 3 (some .int) (.code yk_2_codeOf bk_2_codeOf 3 (some .int) :: tb) rm 0 0 3 ∧ (Cond.static yk_2_codeOf).before args s = true := ⟨cB 3 hT (tb_2 85 rfl rfl) (tb_1 13 rfl rfl) (tb_2 87 rfl rfl) hc hs (by decide +kernel) h1 h2, hT _ (tb_2 86 rfl rfl)⟩
theorem kcC_X_116 {R : Room} {s : State} {args : Array Value} {rm : Room} (hT : ∀ w ∈ tb, w.before args s = true) (hc : rm.cells = 0) (hs : rm.slots = 0) (h1 : rm.frames + 1 ≤ R.frames) (h2 : 8 + (5 + 11) + rm.locals ≤ R.locals) : CallW R s args Rk_0 Rk_5 116 yk_5_addAsking bk_5_addAsking 5 (some .boolean) (.code yk_5_addAsking bk_5_addAsking 5 (some .boolean) :: tb) rm 0 0 2 := ⟨cB 2 hT (tb_2 88 rfl rfl) (tb_1 5 rfl rfl) (tb_2 91 rfl rfl) hc hs (by decide +kernel) h1 h2, hT _ (tb_2 89 rfl rfl), hT _ (tb_2 90 rfl rfl)⟩
theorem kcC_X_120 {R : Room} {s : State} {args : Array Value} {rm : Room} (hT : ∀ w ∈ tb, w.before args s = true) (hc : rm.cells = 0) (hs : rm.slots = 0) (h1 : rm.frames + 1 ≤ R.frames) (h2 : 8 + (1 + 11) + rm.locals ≤ R.locals) : CallW R s args Rk_0 Rk_12 120 yk_12_add bk_12_add 1 (some .int) (.code yk_12_add bk_12_add 1 (some .int) :: tb) rm 0 0 0 := ⟨cB 0 hT (tb_2 100 rfl rfl) (tb_1 6 rfl rfl) (tb_2 103 rfl rfl) hc hs (by decide +kernel) h1 h2, hT _ (tb_2 101 rfl rfl), hT _ (tb_2 102 rfl rfl)⟩
theorem kcC_X_121 {R : Room} {s : State} {args : Array Value} {rm : Room} (hT : ∀ w ∈ tb, w.before args s = true) (hc : rm.cells = 0) (hs : rm.slots = 0) (h1 : rm.frames + 1 ≤ R.frames) (h2 : 8 + (2 + 11) + rm.locals ≤ R.locals) : CallW R s args Rk_0 Rk_12 121 yk_12_isThere bk_12_isThere 2 (some .boolean) (.code yk_12_isThere bk_12_isThere 2 (some .boolean) :: tb) rm 0 0 1 := ⟨cB 1 hT (tb_2 108 rfl rfl) (tb_1 6 rfl rfl) (tb_2 111 rfl rfl) hc hs (by decide +kernel) h1 h2, hT _ (tb_2 109 rfl rfl), hT _ (tb_2 110 rfl rfl)⟩
theorem kcC_X_130 {R : Room} {s : State} {args : Array Value} {rm : Room} (hT : ∀ w ∈ tb, w.before args s = true) (hc : rm.cells = 0) (hs : rm.slots = 0) (h1 : rm.frames + 1 ≤ R.frames) (h2 : 8 + (2 + 11) + rm.locals ≤ R.locals) : CallW R s args Rk_0 Rk_10 130 yk_10_add bk_10_add 2 (some .int) (.code yk_10_add bk_10_add 2 (some .int) :: tb) rm 0 0 1 := ⟨cB 1 hT (tb_2 116 rfl rfl) (tb_1 7 rfl rfl) (tb_2 119 rfl rfl) hc hs (by decide +kernel) h1 h2, hT _ (tb_2 117 rfl rfl), hT _ (tb_2 118 rfl rfl)⟩
theorem kcC_X_132 {R : Room} {s : State} {args : Array Value} {rm : Room} (hT : ∀ w ∈ tb, w.before args s = true) (hc : rm.cells = 0) (hs : rm.slots = 0) (h1 : rm.frames + 1 ≤ R.frames) (h2 : 8 + (2 + 11) + rm.locals ≤ R.locals) : CallW R s args Rk_0 Rk_10 132 yk_10_isThere bk_10_isThere 2 (some .boolean) (.code yk_10_isThere bk_10_isThere 2 (some .boolean) :: tb) rm 0 0 1 := ⟨cB 1 hT (tb_2 125 rfl rfl) (tb_1 7 rfl rfl) (tb_2 128 rfl rfl) hc hs (by decide +kernel) h1 h2, hT _ (tb_2 126 rfl rfl), hT _ (tb_2 127 rfl rfl)⟩
theorem kcC_X_133 {R : Room} {s : State} {args : Array Value} {rm : Room} (hT : ∀ w ∈ tb, w.before args s = true) (hc : rm.cells = 0) (hs : rm.slots = 0) (h1 : rm.frames + 1 ≤ R.frames) (h2 : 8 + (3 + 11) + rm.locals ≤ R.locals) : CallW R s args Rk_0 Rk_10 133 yk_10_mayNest bk_10_mayNest 3 (some .boolean) (.code yk_10_mayNest bk_10_mayNest 3 (some .boolean) :: tb) rm 0 0 2 := ⟨cB 2 hT (tb_2 129 rfl rfl) (tb_1 7 rfl rfl) (tb_2 132 rfl rfl) hc hs (by decide +kernel) h1 h2, hT _ (tb_2 130 rfl rfl), hT _ (tb_2 131 rfl rfl)⟩
theorem kcC_X_136 {R : Room} {s : State} {args : Array Value} {rm : Room} (hT : ∀ w ∈ tb, w.before args s = true) (hc : rm.cells = 0) (hs : rm.slots = 0) (h1 : rm.frames + 1 ≤ R.frames) (h2 : 8 + (6 + 11) + rm.locals ≤ R.locals) : CallW R s args Rk_0 Rk_10 136 yk_10_addBranch bk_10_addBranch 6 (some .boolean) (.code yk_10_addBranch bk_10_addBranch 6 (some .boolean) :: tb) rm 0 0 4 := ⟨cB 4 hT (tb_2 133 rfl rfl) (tb_1 7 rfl rfl) (tb_2 136 rfl rfl) hc hs (by decide +kernel) h1 h2, hT _ (tb_2 134 rfl rfl), hT _ (tb_2 135 rfl rfl)⟩
theorem kcC_X_144 {R : Room} {s : State} {args : Array Value} {rm : Room} (hT : ∀ w ∈ tb, w.before args s = true) (hc : rm.cells = 0) (hs : rm.slots = 0) (h1 : rm.frames + 1 ≤ R.frames) (h2 : 8 + (1 + 11) + rm.locals ≤ R.locals) : CallB R s args Rk_0 144 yk_3_ofValue bk_3_ofValue 1 (some .long) (.code yk_3_ofValue bk_3_ofValue 1 (some .long) :: tb) rm 0 0 1 ∧ (Cond.static yk_3_ofValue).before args s = true := ⟨cB 1 hT (tb_2 144 rfl rfl) (tb_1 10 rfl rfl) (tb_2 146 rfl rfl) hc hs (by decide +kernel) h1 h2, hT _ (tb_2 145 rfl rfl)⟩
theorem kcC_X_148 {R : Room} {s : State} {args : Array Value} {rm : Room} (hT : ∀ w ∈ tb, w.before args s = true) (hc : rm.cells = 0) (hs : rm.slots = 0) (h1 : rm.frames + 1 ≤ R.frames) (h2 : 8 + (1 + 11) + rm.locals ≤ R.locals) : CallB R s args Rk_0 148 yk_4_onPlatform bk_4_onPlatform 1 (some .long) (.code yk_4_onPlatform bk_4_onPlatform 1 (some .long) :: tb) rm 0 0 1 ∧ (Cond.static yk_4_onPlatform).before args s = true := ⟨cB 1 hT (tb_2 153 rfl rfl) (tb_1 12 rfl rfl) (tb_2 155 rfl rfl) hc hs (by decide +kernel) h1 h2, hT _ (tb_2 154 rfl rfl)⟩
theorem kcC_X_153 {R : Room} {s : State} {args : Array Value} {rm : Room} (hT : ∀ w ∈ tb, w.before args s = true) (hc : rm.cells = 0) (hs : rm.slots = 0) (h1 : rm.frames + 1 ≤ R.frames) (h2 : 8 + (7 + 11) + rm.locals ≤ R.locals) : CallW R s args Rk_0 Rk_0 153 yk_0_trimmed bk_0_trimmed 7 (some .long) (.code yk_0_trimmed bk_0_trimmed 7 (some .long) :: tb) rm 0 0 2 := ⟨cB 2 hT (tb_2 156 rfl rfl) (tb_1 1 rfl rfl) (tb_2 159 rfl rfl) hc hs (by decide +kernel) h1 h2, hT _ (tb_2 158 rfl rfl), hT _ (tb_p1 0 rfl)⟩
theorem kcC_X_157 {R : Room} {s : State} {args : Array Value} {rm : Room} (hT : ∀ w ∈ tb, w.before args s = true) (hc : rm.cells = 0) (hs : rm.slots = 0) (h1 : rm.frames + 1 ≤ R.frames) (h2 : 8 + (4 + 11) + rm.locals ≤ R.locals) : CallW R s args Rk_0 Rk_6 157 yk_6_numberOf bk_6_numberOf 4 (some .int) (.code yk_6_numberOf bk_6_numberOf 4 (some .int) :: tb) rm 0 0 1 := ⟨cB 1 hT (tb_2 164 rfl rfl) (tb_1 4 rfl rfl) (tb_2 167 rfl rfl) hc hs (by decide +kernel) h1 h2, hT _ (tb_2 165 rfl rfl), hT _ (tb_2 166 rfl rfl)⟩
theorem kcC_X_161 {R : Room} {s : State} {args : Array Value} {rm : Room} (hT : ∀ w ∈ tb, w.before args s = true) (hc : rm.cells = 0) (hs : rm.slots = 0) (h1 : rm.frames + 1 ≤ R.frames) (h2 : 8 + (2 + 11) + rm.locals ≤ R.locals) : CallW R s args Rk_0 Rk_6 161 yk_6_isThere bk_6_isThere 2 (some .boolean) (.code yk_6_isThere bk_6_isThere 2 (some .boolean) :: tb) rm 0 0 1 := ⟨cB 1 hT (tb_2 172 rfl rfl) (tb_1 4 rfl rfl) (tb_2 175 rfl rfl) hc hs (by decide +kernel) h1 h2, hT _ (tb_2 173 rfl rfl), hT _ (tb_2 174 rfl rfl)⟩
theorem kcC_X_168 {R : Room} {s : State} {args : Array Value} {rm : Room} (hT : ∀ w ∈ tb, w.before args s = true) (hc : rm.cells = 0) (hs : rm.slots = 0) (h1 : rm.frames + 1 ≤ R.frames) (h2 : 8 + (5 + 11) + rm.locals ≤ R.locals) : CallB R s args Rk_0 168 yk_4_withValue bk_4_withValue 5 (some .long) (.code yk_4_withValue bk_4_withValue 5 (some .long) :: tb) rm 0 0 3 ∧ (Cond.static yk_4_withValue).before args s = true := ⟨cB 3 hT (tb_2 163 rfl rfl) (tb_1 12 rfl rfl) (tb_2 15 rfl rfl) hc hs (by decide +kernel) h1 h2, hT _ (tb_2 14 rfl rfl)⟩
theorem kcC_X_172 {R : Room} {s : State} {args : Array Value} {rm : Room} (hT : ∀ w ∈ tb, w.before args s = true) (hc : rm.cells = 0) (hs : rm.slots = 0) (h1 : rm.frames + 1 ≤ R.frames) (h2 : 8 + (3 + 11) + rm.locals ≤ R.locals) : CallB R s args Rk_0 172 yk_4_valueIn bk_4_valueIn 3 (some .int) (.code yk_4_valueIn bk_4_valueIn 3 (some .int) :: tb) rm 0 0 2 ∧ (Cond.static yk_4_valueIn).before args s = true := ⟨cB 2 hT (tb_2 180 rfl rfl) (tb_1 12 rfl rfl) (tb_2 182 rfl rfl) hc hs (by decide +kernel) h1 h2, hT _ (tb_2 181 rfl rfl)⟩
theorem kcC_X_176 {R : Room} {s : State} {args : Array Value} {rm : Room} (hT : ∀ w ∈ tb, w.before args s = true) (hc : rm.cells = 0) (hs : rm.slots = 0) (h1 : rm.frames + 1 ≤ R.frames) (h2 : 8 + (5 + 11) + rm.locals ≤ R.locals) : CallW R s args Rk_0 Rk_0 176 yk_0_isMet bk_0_isMet 5 (some .boolean) (.code yk_0_isMet bk_0_isMet 5 (some .boolean) :: tb) rm 0 0 2 := ⟨cB 2 hT (tb_2 187 rfl rfl) (tb_1 1 rfl rfl) (tb_2 190 rfl rfl) hc hs (by decide +kernel) h1 h2, hT _ (tb_2 189 rfl rfl), hT _ (tb_p1 1 rfl)⟩
theorem kcC_X_180 {R : Room} {s : State} {args : Array Value} {rm : Room} (hT : ∀ w ∈ tb, w.before args s = true) (hc : rm.cells = 0) (hs : rm.slots = 0) (h1 : rm.frames + 1 ≤ R.frames) (h2 : 8 + (12 + 11) + rm.locals ≤ R.locals) : CallW R s args Rk_0 Rk_0 180 yk_0_choosing bk_0_choosing 12 (some .long) (.code yk_0_choosing bk_0_choosing 12 (some .long) :: tb) rm 0 0 3 := ⟨cB 3 hT (tb_2 215 rfl rfl) (tb_1 1 rfl rfl) (tb_2 218 rfl rfl) hc hs (by decide +kernel) h1 h2, hT _ (tb_2 217 rfl rfl), hT _ (tb_p1 3 rfl)⟩
theorem kcC_X_184 {R : Room} {s : State} {args : Array Value} {rm : Room} (hT : ∀ w ∈ tb, w.before args s = true) (hc : rm.cells = 0) (hs : rm.slots = 0) (h1 : rm.frames + 1 ≤ R.frames) (h2 : 8 + (2 + 11) + rm.locals ≤ R.locals) : CallB R s args Rk_0 184 yk_3_kindOf bk_3_kindOf 2 (some .int) (.code yk_3_kindOf bk_3_kindOf 2 (some .int) :: tb) rm 0 0 1 ∧ (Cond.static yk_3_kindOf).before args s = true := ⟨cB 1 hT (tb_3 14 rfl rfl) (tb_1 10 rfl rfl) (tb_3 9 rfl rfl) hc hs (by decide +kernel) h1 h2, hT _ (tb_3 8 rfl rfl)⟩
theorem kcC_X_187 {R : Room} {s : State} {args : Array Value} {rm : Room} (hT : ∀ w ∈ tb, w.before args s = true) (hc : rm.cells = 0) (hs : rm.slots = 0) (h1 : rm.frames + 1 ≤ R.frames) (h2 : 8 + (2 + 11) + rm.locals ≤ R.locals) : CallB R s args Rk_0 187 yk_3_valueOf bk_3_valueOf 2 (some .int) (.code yk_3_valueOf bk_3_valueOf 2 (some .int) :: tb) rm 0 0 1 ∧ (Cond.static yk_3_valueOf).before args s = true := ⟨cB 1 hT (tb_3 19 rfl rfl) (tb_1 10 rfl rfl) (tb_3 21 rfl rfl) hc hs (by decide +kernel) h1 h2, hT _ (tb_3 20 rfl rfl)⟩
theorem kcC_X_190 {R : Room} {s : State} {args : Array Value} {rm : Room} (hT : ∀ w ∈ tb, w.before args s = true) (hc : rm.cells = 0) (hs : rm.slots = 0) (h1 : rm.frames + 1 ≤ R.frames) (h2 : 8 + (2 + 11) + rm.locals ≤ R.locals) : CallB R s args Rk_0 190 yk_3_firstOf bk_3_firstOf 2 (some .int) (.code yk_3_firstOf bk_3_firstOf 2 (some .int) :: tb) rm 0 0 1 ∧ (Cond.static yk_3_firstOf).before args s = true := ⟨cB 1 hT (tb_3 22 rfl rfl) (tb_1 10 rfl rfl) (tb_3 24 rfl rfl) hc hs (by decide +kernel) h1 h2, hT _ (tb_3 23 rfl rfl)⟩
theorem kcC_X_193 {R : Room} {s : State} {args : Array Value} {rm : Room} (hT : ∀ w ∈ tb, w.before args s = true) (hc : rm.cells = 0) (hs : rm.slots = 0) (h1 : rm.frames + 1 ≤ R.frames) (h2 : 8 + (2 + 11) + rm.locals ≤ R.locals) : CallB R s args Rk_0 193 yk_3_secondOf bk_3_secondOf 2 (some .int) (.code yk_3_secondOf bk_3_secondOf 2 (some .int) :: tb) rm 0 0 1 ∧ (Cond.static yk_3_secondOf).before args s = true := ⟨cB 1 hT (tb_3 25 rfl rfl) (tb_1 10 rfl rfl) (tb_3 27 rfl rfl) hc hs (by decide +kernel) h1 h2, hT _ (tb_3 26 rfl rfl)⟩
theorem kcC_X_196 {R : Room} {s : State} {args : Array Value} {rm : Room} (hT : ∀ w ∈ tb, w.before args s = true) (hc : rm.cells = 0) (hs : rm.slots = 0) (h1 : rm.frames + 1 ≤ R.frames) (h2 : 8 + (3 + 11) + rm.locals ≤ R.locals) : CallW R s args Rk_0 Rk_7 196 yk_7_add bk_7_add 3 (some .int) (.code yk_7_add bk_7_add 3 (some .int) :: tb) rm 0 0 2 := ⟨cB 2 hT (tb_3 32 rfl rfl) (tb_1 8 rfl rfl) (tb_3 35 rfl rfl) hc hs (by decide +kernel) h1 h2, hT _ (tb_3 33 rfl rfl), hT _ (tb_3 34 rfl rfl)⟩
theorem kcC_X_199 {R : Room} {s : State} {args : Array Value} {rm : Room} (hT : ∀ w ∈ tb, w.before args s = true) (hc : rm.cells = 0) (hs : rm.slots = 0) (h1 : rm.frames + 1 ≤ R.frames) (h2 : 8 + (2 + 11) + rm.locals ≤ R.locals) : CallW R s args Rk_0 Rk_7 199 yk_7_isThere bk_7_isThere 2 (some .boolean) (.code yk_7_isThere bk_7_isThere 2 (some .boolean) :: tb) rm 0 0 1 := ⟨cB 1 hT (tb_3 40 rfl rfl) (tb_1 8 rfl rfl) (tb_3 43 rfl rfl) hc hs (by decide +kernel) h1 h2, hT _ (tb_3 41 rfl rfl), hT _ (tb_3 42 rfl rfl)⟩
theorem kcC_X_200 {R : Room} {s : State} {args : Array Value} {rm : Room} (hT : ∀ w ∈ tb, w.before args s = true) (hc : rm.cells = 0) (hs : rm.slots = 0) (h1 : rm.frames + 1 ≤ R.frames) (h2 : 8 + (5 + 11) + rm.locals ≤ R.locals) : CallW R s args Rk_0 Rk_7 200 yk_7_addChange bk_7_addChange 5 (some .boolean) (.code yk_7_addChange bk_7_addChange 5 (some .boolean) :: tb) rm 0 0 3 := ⟨cB 3 hT (tb_3 44 rfl rfl) (tb_1 8 rfl rfl) (tb_3 47 rfl rfl) hc hs (by decide +kernel) h1 h2, hT _ (tb_3 45 rfl rfl), hT _ (tb_3 46 rfl rfl)⟩
theorem kcC_X_204 {R : Room} {s : State} {args : Array Value} {rm : Room} (hT : ∀ w ∈ tb, w.before args s = true) (hc : rm.cells = 0) (hs : rm.slots = 0) (h1 : rm.frames + 1 ≤ R.frames) (h2 : 8 + (4 + 11) + rm.locals ≤ R.locals) : CallW R s args Rk_0 Rk_0 204 yk_0_findWhatTargetsRead bk_0_findWhatTargetsRead 4 none (.code yk_0_findWhatTargetsRead bk_0_findWhatTargetsRead 4 none :: tb) rm 0 0 0 := ⟨cB 0 hT (tb_3 52 rfl rfl) (tb_1 1 rfl rfl) (tb_3 55 rfl rfl) hc hs (by decide +kernel) h1 h2, hT _ (tb_3 54 rfl rfl), hT _ (tb_p1 9 rfl)⟩
theorem kcC_X_210 {R : Room} {s : State} {args : Array Value} {rm : Room} (hT : ∀ w ∈ tb, w.before args s = true) (hc : rm.cells = 0) (hs : rm.slots = 0) (h1 : rm.frames + 1 ≤ R.frames) (h2 : 8 + (1 + 11) + rm.locals ≤ R.locals) : CallW R s args Rk_0 Rk_8 210 yk_8_clear bk_8_clear 1 none (.code yk_8_clear bk_8_clear 1 none :: tb) rm 0 0 0 := ⟨cB 0 hT (tb_3 65 rfl rfl) (tb_1 9 rfl rfl) (tb_3 68 rfl rfl) hc hs (by decide +kernel) h1 h2, hT _ (tb_3 66 rfl rfl), hT _ (tb_3 67 rfl rfl)⟩
theorem kcC_X_213 {R : Room} {s : State} {args : Array Value} {rm : Room} (hT : ∀ w ∈ tb, w.before args s = true) (hc : rm.cells = 0) (hs : rm.slots = 0) (h1 : rm.frames + 1 ≤ R.frames) (h2 : 8 + (6 + 11) + rm.locals ≤ R.locals) : CallW R s args Rk_0 Rk_0 213 yk_0_findPairs bk_0_findPairs 6 (some .boolean) (.code yk_0_findPairs bk_0_findPairs 6 (some .boolean) :: tb) rm 0 0 2 := ⟨cB 2 hT (tb_3 69 rfl rfl) (tb_1 1 rfl rfl) (tb_3 72 rfl rfl) hc hs (by decide +kernel) h1 h2, hT _ (tb_3 71 rfl rfl), hT _ (tb_p1 10 rfl)⟩
theorem kcC_X_216 {R : Room} {s : State} {args : Array Value} {rm : Room} (hT : ∀ w ∈ tb, w.before args s = true) (hc : rm.cells = 0) (hs : rm.slots = 0) (h1 : rm.frames + 1 ≤ R.frames) (h2 : 8 + (5 + 11) + rm.locals ≤ R.locals) : CallW R s args Rk_0 Rk_0 216 yk_0_leaveOutByWants bk_0_leaveOutByWants 5 none (.code yk_0_leaveOutByWants bk_0_leaveOutByWants 5 none :: tb) rm 0 0 0 := ⟨cB 0 hT (tb_3 104 rfl rfl) (tb_1 1 rfl rfl) (tb_3 107 rfl rfl) hc hs (by decide +kernel) h1 h2, hT _ (tb_3 106 rfl rfl), hT _ (tb_p1 15 rfl)⟩
theorem kcC_X_219 {R : Room} {s : State} {args : Array Value} {rm : Room} (hT : ∀ w ∈ tb, w.before args s = true) (hc : rm.cells = 0) (hs : rm.slots = 0) (h1 : rm.frames + 1 ≤ R.frames) (h2 : 8 + (5 + 11) + rm.locals ≤ R.locals) : CallW R s args Rk_0 Rk_8 219 yk_8_leaveOutByNeeds bk_8_leaveOutByNeeds 5 none (.code yk_8_leaveOutByNeeds bk_8_leaveOutByNeeds 5 none :: tb) rm 0 0 0 := ⟨cB 0 hT (tb_3 108 rfl rfl) (tb_1 9 rfl rfl) (tb_3 111 rfl rfl) hc hs (by decide +kernel) h1 h2, hT _ (tb_3 109 rfl rfl), hT _ (tb_3 110 rfl rfl)⟩
theorem kcC_X_226 {R : Room} {s : State} {args : Array Value} {rm : Room} (hT : ∀ w ∈ tb, w.before args s = true) (hc : rm.cells = 0) (hs : rm.slots = 0) (h1 : rm.frames + 1 ≤ R.frames) (h2 : 8 + (2 + 11) + rm.locals ≤ R.locals) : CallW R s args Rk_0 Rk_8 226 yk_8_isThere bk_8_isThere 2 (some .boolean) (.code yk_8_isThere bk_8_isThere 2 (some .boolean) :: tb) rm 0 0 1 := ⟨cB 1 hT (tb_3 120 rfl rfl) (tb_1 9 rfl rfl) (tb_3 123 rfl rfl) hc hs (by decide +kernel) h1 h2, hT _ (tb_3 121 rfl rfl), hT _ (tb_3 122 rfl rfl)⟩
theorem kcC_X_239 {R : Room} {s : State} {args : Array Value} {rm : Room} (hT : ∀ w ∈ tb, w.before args s = true) (hc : rm.cells = 0) (hs : rm.slots = 0) (h1 : rm.frames + 1 ≤ R.frames) (h2 : 8 + (3 + 11) + rm.locals ≤ R.locals) : CallW R s args Rk_0 Rk_5 239 yk_5_askingAt bk_5_askingAt 3 (some .int) (.code yk_5_askingAt bk_5_askingAt 3 (some .int) :: tb) rm 0 0 2 := ⟨cB 2 hT (tb_2 191 rfl rfl) (tb_1 5 rfl rfl) (tb_2 95 rfl rfl) hc hs (by decide +kernel) h1 h2, hT _ (tb_2 93 rfl rfl), hT _ (tb_2 94 rfl rfl)⟩
theorem kcC_X_242 {R : Room} {s : State} {args : Array Value} {rm : Room} (hT : ∀ w ∈ tb, w.before args s = true) (hc : rm.cells = 0) (hs : rm.slots = 0) (h1 : rm.frames + 1 ≤ R.frames) (h2 : 8 + (7 + 11) + rm.locals ≤ R.locals) : CallW R s args Rk_0 Rk_0 242 yk_0_isAskingMet bk_0_isAskingMet 7 (some .boolean) (.code yk_0_isAskingMet bk_0_isAskingMet 7 (some .boolean) :: tb) rm 0 0 2 := ⟨cB 2 hT (tb_2 192 rfl rfl) (tb_1 1 rfl rfl) (tb_2 195 rfl rfl) hc hs (by decide +kernel) h1 h2, hT _ (tb_2 194 rfl rfl), hT _ (tb_p1 2 rfl)⟩
theorem kcC_X_245 {R : Room} {s : State} {args : Array Value} {rm : Room} (hT : ∀ w ∈ tb, w.before args s = true) (hc : rm.cells = 0) (hs : rm.slots = 0) (h1 : rm.frames + 1 ≤ R.frames) (h2 : 8 + (1 + 11) + rm.locals ≤ R.locals) : CallB R s args Rk_0 245 yk_2_whichOf bk_2_whichOf 1 (some .int) (.code yk_2_whichOf bk_2_whichOf 1 (some .int) :: tb) rm 0 0 1 ∧ (Cond.static yk_2_whichOf).before args s = true := ⟨cB 1 hT (tb_2 196 rfl rfl) (tb_1 13 rfl rfl) (tb_2 198 rfl rfl) hc hs (by decide +kernel) h1 h2, hT _ (tb_2 197 rfl rfl)⟩
theorem kcC_X_248 {R : Room} {s : State} {args : Array Value} {rm : Room} (hT : ∀ w ∈ tb, w.before args s = true) (hc : rm.cells = 0) (hs : rm.slots = 0) (h1 : rm.frames + 1 ≤ R.frames) (h2 : 8 + (1 + 11) + rm.locals ≤ R.locals) : CallB R s args Rk_0 248 yk_2_valueOf bk_2_valueOf 1 (some .int) (.code yk_2_valueOf bk_2_valueOf 1 (some .int) :: tb) rm 0 0 1 ∧ (Cond.static yk_2_valueOf).before args s = true := ⟨cB 1 hT (tb_2 202 rfl rfl) (tb_1 13 rfl rfl) (tb_2 204 rfl rfl) hc hs (by decide +kernel) h1 h2, hT _ (tb_2 203 rfl rfl)⟩
theorem kcC_X_250 {R : Room} {s : State} {args : Array Value} {rm : Room} (hT : ∀ w ∈ tb, w.before args s = true) (hc : rm.cells = 0) (hs : rm.slots = 0) (h1 : rm.frames + 1 ≤ R.frames) (h2 : 8 + (1 + 11) + rm.locals ≤ R.locals) : CallB R s args Rk_0 250 yk_2_isAboutAxis bk_2_isAboutAxis 1 (some .boolean) (.code yk_2_isAboutAxis bk_2_isAboutAxis 1 (some .boolean) :: tb) rm 0 0 1 ∧ (Cond.static yk_2_isAboutAxis).before args s = true := ⟨cB 1 hT (tb_2 205 rfl rfl) (tb_1 13 rfl rfl) (tb_2 201 rfl rfl) hc hs (by decide +kernel) h1 h2, hT _ (tb_2 200 rfl rfl)⟩
theorem kcC_X_253 {R : Room} {s : State} {args : Array Value} {rm : Room} (hT : ∀ w ∈ tb, w.before args s = true) (hc : rm.cells = 0) (hs : rm.slots = 0) (h1 : rm.frames + 1 ≤ R.frames) (h2 : 8 + (2 + 11) + rm.locals ≤ R.locals) : CallB R s args Rk_0 253 yk_4_platformIn bk_4_platformIn 2 (some .int) (.code yk_4_platformIn bk_4_platformIn 2 (some .int) :: tb) rm 0 0 1 ∧ (Cond.static yk_4_platformIn).before args s = true := ⟨cB 1 hT (tb_2 206 rfl rfl) (tb_1 12 rfl rfl) (tb_2 66 rfl rfl) hc hs (by decide +kernel) h1 h2, hT _ (tb_2 65 rfl rfl)⟩
theorem kcC_X_256 {R : Room} {s : State} {args : Array Value} {rm : Room} (hT : ∀ w ∈ tb, w.before args s = true) (hc : rm.cells = 0) (hs : rm.slots = 0) (h1 : rm.frames + 1 ≤ R.frames) (h2 : 8 + (3 + 11) + rm.locals ≤ R.locals) : CallW R s args Rk_0 Rk_9 256 yk_9_valueAt bk_9_valueAt 3 (some .int) (.code yk_9_valueAt bk_9_valueAt 3 (some .int) :: tb) rm 0 0 2 := ⟨cB 2 hT (tb_2 207 rfl rfl) (tb_1 3 rfl rfl) (tb_2 210 rfl rfl) hc hs (by decide +kernel) h1 h2, hT _ (tb_2 208 rfl rfl), hT _ (tb_2 209 rfl rfl)⟩
theorem kcC_X_259 {R : Room} {s : State} {args : Array Value} {rm : Room} (hT : ∀ w ∈ tb, w.before args s = true) (hc : rm.cells = 0) (hs : rm.slots = 0) (h1 : rm.frames + 1 ≤ R.frames) (h2 : 8 + (6 + 11) + rm.locals ≤ R.locals) : CallW R s args Rk_0 Rk_0 259 yk_0_holdingBranches bk_0_holdingBranches 6 (some .int) (.code yk_0_holdingBranches bk_0_holdingBranches 6 (some .int) :: tb) rm 0 0 2 := ⟨cB 2 hT (tb_2 219 rfl rfl) (tb_1 1 rfl rfl) (tb_2 222 rfl rfl) hc hs (by decide +kernel) h1 h2, hT _ (tb_2 221 rfl rfl), hT _ (tb_p1 4 rfl)⟩
theorem kcC_X_263 {R : Room} {s : State} {args : Array Value} {rm : Room} (hT : ∀ w ∈ tb, w.before args s = true) (hc : rm.cells = 0) (hs : rm.slots = 0) (h1 : rm.frames + 1 ≤ R.frames) (h2 : 8 + (5 + 11) + rm.locals ≤ R.locals) : CallW R s args Rk_0 Rk_0 263 yk_0_mostSpecialBranches bk_0_mostSpecialBranches 5 (some .int) (.code yk_0_mostSpecialBranches bk_0_mostSpecialBranches 5 (some .int) :: tb) rm 0 0 2 := ⟨cB 2 hT (tb_2 227 rfl rfl) (tb_1 1 rfl rfl) (tb_2 230 rfl rfl) hc hs (by decide +kernel) h1 h2, hT _ (tb_2 229 rfl rfl), hT _ (tb_p1 5 rfl)⟩
theorem kcC_X_269 {R : Room} {s : State} {args : Array Value} {rm : Room} (hT : ∀ w ∈ tb, w.before args s = true) (hc : rm.cells = 0) (hs : rm.slots = 0) (h1 : rm.frames + 1 ≤ R.frames) (h2 : 8 + (2 + 11) + rm.locals ≤ R.locals) : CallB R s args Rk_0 269 yk_0_hasBit bk_0_hasBit 2 (some .boolean) (.code yk_0_hasBit bk_0_hasBit 2 (some .boolean) :: tb) rm 0 0 2 ∧ (Cond.static yk_0_hasBit).before args s = true := ⟨cB 2 hT (tb_2 160 rfl rfl) (tb_1 1 rfl rfl) (tb_2 162 rfl rfl) hc hs (by decide +kernel) h1 h2, hT _ (tb_2 161 rfl rfl)⟩
theorem kcC_X_272 {R : Room} {s : State} {args : Array Value} {rm : Room} (hT : ∀ w ∈ tb, w.before args s = true) (hc : rm.cells = 0) (hs : rm.slots = 0) (h1 : rm.frames + 1 ≤ R.frames) (h2 : 8 + (2 + 11) + rm.locals ≤ R.locals) : CallB R s args Rk_0 272 yk_10_place bk_10_place 2 (some .int) (.code yk_10_place bk_10_place 2 (some .int) :: tb) rm 0 0 2 ∧ (Cond.static yk_10_place).before args s = true := ⟨cB 2 hT (tb_2 239 rfl rfl) (tb_1 7 rfl rfl) (tb_2 139 rfl rfl) hc hs (by decide +kernel) h1 h2, hT _ (tb_2 138 rfl rfl)⟩
theorem kcC_X_275 {R : Room} {s : State} {args : Array Value} {rm : Room} (hT : ∀ w ∈ tb, w.before args s = true) (hc : rm.cells = 0) (hs : rm.slots = 0) (h1 : rm.frames + 1 ≤ R.frames) (h2 : 8 + (5 + 11) + rm.locals ≤ R.locals) : CallW R s args Rk_0 Rk_0 275 yk_0_givenBy bk_0_givenBy 5 (some .long) (.code yk_0_givenBy bk_0_givenBy 5 (some .long) :: tb) rm 0 0 3 := ⟨cB 3 hT (tb_3 0 rfl rfl) (tb_1 1 rfl rfl) (tb_3 3 rfl rfl) hc hs (by decide +kernel) h1 h2, hT _ (tb_3 2 rfl rfl), hT _ (tb_p1 8 rfl)⟩
theorem kcC_X_278 {R : Room} {s : State} {args : Array Value} {rm : Room} (hT : ∀ w ∈ tb, w.before args s = true) (hc : rm.cells = 0) (hs : rm.slots = 0) (h1 : rm.frames + 1 ≤ R.frames) (h2 : 8 + (4 + 11) + rm.locals ≤ R.locals) : CallB R s args Rk_0 278 yk_3_areAlike bk_3_areAlike 4 (some .boolean) (.code yk_3_areAlike bk_3_areAlike 4 (some .boolean) :: tb) rm 0 0 2 ∧ (Cond.static yk_3_areAlike).before args s = true := ⟨cB 2 hT (tb_3 4 rfl rfl) (tb_1 10 rfl rfl) (tb_3 6 rfl rfl) hc hs (by decide +kernel) h1 h2, hT _ (tb_3 5 rfl rfl)⟩
theorem kcC_X_282 {R : Room} {s : State} {args : Array Value} {rm : Room} (hT : ∀ w ∈ tb, w.before args s = true) (hc : rm.cells = 0) (hs : rm.slots = 0) (h1 : rm.frames + 1 ≤ R.frames) (h2 : 8 + (2 + 11) + rm.locals ≤ R.locals) : CallB R s args Rk_0 282 yk_3_ofClash bk_3_ofClash 2 (some .long) (.code yk_3_ofClash bk_3_ofClash 2 (some .long) :: tb) rm 0 0 2 ∧ (Cond.static yk_3_ofClash).before args s = true := ⟨cB 2 hT (tb_3 10 rfl rfl) (tb_1 10 rfl rfl) (tb_3 12 rfl rfl) hc hs (by decide +kernel) h1 h2, hT _ (tb_3 11 rfl rfl)⟩
theorem kcC_X_292 {R : Room} {s : State} {args : Array Value} {rm : Room} (hT : ∀ w ∈ tb, w.before args s = true) (hc : rm.cells = 0) (hs : rm.slots = 0) (h1 : rm.frames + 1 ≤ R.frames) (h2 : 8 + (3 + 11) + rm.locals ≤ R.locals) : CallW R s args Rk_0 Rk_10 292 yk_10_conditionAt bk_10_conditionAt 3 (some .int) (.code yk_10_conditionAt bk_10_conditionAt 3 (some .int) :: tb) rm 0 0 2 := ⟨cB 2 hT (tb_2 223 rfl rfl) (tb_1 7 rfl rfl) (tb_2 226 rfl rfl) hc hs (by decide +kernel) h1 h2, hT _ (tb_2 224 rfl rfl), hT _ (tb_2 225 rfl rfl)⟩
theorem kcC_X_295 {R : Room} {s : State} {args : Array Value} {rm : Room} (hT : ∀ w ∈ tb, w.before args s = true) (hc : rm.cells = 0) (hs : rm.slots = 0) (h1 : rm.frames + 1 ≤ R.frames) (h2 : 8 + (7 + 11) + rm.locals ≤ R.locals) : CallW R s args Rk_0 Rk_0 295 yk_0_isOutdone bk_0_isOutdone 7 (some .boolean) (.code yk_0_isOutdone bk_0_isOutdone 7 (some .boolean) :: tb) rm 0 0 3 := ⟨cB 3 hT (tb_2 231 rfl rfl) (tb_1 1 rfl rfl) (tb_2 234 rfl rfl) hc hs (by decide +kernel) h1 h2, hT _ (tb_2 233 rfl rfl), hT _ (tb_p1 6 rfl)⟩
theorem kcC_X_298 {R : Room} {s : State} {args : Array Value} {rm : Room} (hT : ∀ w ∈ tb, w.before args s = true) (hc : rm.cells = 0) (hs : rm.slots = 0) (h1 : rm.frames + 1 ≤ R.frames) (h2 : 8 + (7 + 11) + rm.locals ≤ R.locals) : CallW R s args Rk_0 Rk_0 298 yk_0_askedBy bk_0_askedBy 7 (some .int) (.code yk_0_askedBy bk_0_askedBy 7 (some .int) :: tb) rm 0 0 1 := ⟨cB 1 hT (tb_2 235 rfl rfl) (tb_1 1 rfl rfl) (tb_2 238 rfl rfl) hc hs (by decide +kernel) h1 h2, hT _ (tb_2 237 rfl rfl), hT _ (tb_p1 7 rfl)⟩
theorem kcC_X_314 {R : Room} {s : State} {args : Array Value} {rm : Room} (hT : ∀ w ∈ tb, w.before args s = true) (hc : rm.cells = 0) (hs : rm.slots = 0) (h1 : rm.frames + 1 ≤ R.frames) (h2 : 8 + (5 + 11) + rm.locals ≤ R.locals) : CallW R s args Rk_0 Rk_0 314 yk_0_pairOf bk_0_pairOf 5 (some .int) (.code yk_0_pairOf bk_0_pairOf 5 (some .int) :: tb) rm 0 0 2 := ⟨cB 2 hT (tb_3 73 rfl rfl) (tb_1 1 rfl rfl) (tb_3 76 rfl rfl) hc hs (by decide +kernel) h1 h2, hT _ (tb_3 75 rfl rfl), hT _ (tb_p1 11 rfl)⟩
theorem kcC_X_317 {R : Room} {s : State} {args : Array Value} {rm : Room} (hT : ∀ w ∈ tb, w.before args s = true) (hc : rm.cells = 0) (hs : rm.slots = 0) (h1 : rm.frames + 1 ≤ R.frames) (h2 : 8 + (14 + 11) + rm.locals ≤ R.locals) : CallW R s args Rk_0 Rk_0 317 yk_0_followNeed bk_0_followNeed 14 (some .boolean) (.code yk_0_followNeed bk_0_followNeed 14 (some .boolean) :: tb) rm 0 0 2 := ⟨cB 2 hT (tb_3 81 rfl rfl) (tb_1 1 rfl rfl) (tb_3 84 rfl rfl) hc hs (by decide +kernel) h1 h2, hT _ (tb_3 83 rfl rfl), hT _ (tb_p1 12 rfl)⟩
theorem kcC_X_320 {R : Room} {s : State} {args : Array Value} {rm : Room} (hT : ∀ w ∈ tb, w.before args s = true) (hc : rm.cells = 0) (hs : rm.slots = 0) (h1 : rm.frames + 1 ≤ R.frames) (h2 : 8 + (3 + 11) + rm.locals ≤ R.locals) : CallW R s args Rk_0 Rk_0 320 yk_0_changedBase bk_0_changedBase 3 (some .int) (.code yk_0_changedBase bk_0_changedBase 3 (some .int) :: tb) rm 0 0 2 := ⟨cB 2 hT (tb_3 85 rfl rfl) (tb_1 1 rfl rfl) (tb_3 88 rfl rfl) hc hs (by decide +kernel) h1 h2, hT _ (tb_3 87 rfl rfl), hT _ (tb_p1 13 rfl)⟩
theorem kcC_X_323 {R : Room} {s : State} {args : Array Value} {rm : Room} (hT : ∀ w ∈ tb, w.before args s = true) (hc : rm.cells = 0) (hs : rm.slots = 0) (h1 : rm.frames + 1 ≤ R.frames) (h2 : 8 + (4 + 11) + rm.locals ≤ R.locals) : CallW R s args Rk_0 Rk_0 323 yk_0_turnsOf bk_0_turnsOf 4 (some .int) (.code yk_0_turnsOf bk_0_turnsOf 4 (some .int) :: tb) rm 0 0 3 := ⟨cB 3 hT (tb_3 93 rfl rfl) (tb_1 1 rfl rfl) (tb_3 96 rfl rfl) hc hs (by decide +kernel) h1 h2, hT _ (tb_3 95 rfl rfl), hT _ (tb_p1 14 rfl)⟩
theorem kcC_X_326 {R : Room} {s : State} {args : Array Value} {rm : Room} (hT : ∀ w ∈ tb, w.before args s = true) (hc : rm.cells = 0) (hs : rm.slots = 0) (h1 : rm.frames + 1 ≤ R.frames) (h2 : 8 + (4 + 11) + rm.locals ≤ R.locals) : CallB R s args Rk_0 326 yk_0_afterChange bk_0_afterChange 4 (some .long) (.code yk_0_afterChange bk_0_afterChange 4 (some .long) :: tb) rm 0 0 3 ∧ (Cond.static yk_0_afterChange).before args s = true := ⟨cB 3 hT (tb_3 101 rfl rfl) (tb_1 1 rfl rfl) (tb_3 103 rfl rfl) hc hs (by decide +kernel) h1 h2, hT _ (tb_3 102 rfl rfl)⟩
theorem kcC_X_335 {R : Room} {s : State} {args : Array Value} {rm : Room} (hT : ∀ w ∈ tb, w.before args s = true) (hc : rm.cells = 0) (hs : rm.slots = 0) (h1 : rm.frames + 1 ≤ R.frames) (h2 : 8 + (3 + 11) + rm.locals ≤ R.locals) : CallW R s args Rk_0 Rk_7 335 yk_7_settingAt bk_7_settingAt 3 (some .int) (.code yk_7_settingAt bk_7_settingAt 3 (some .int) :: tb) rm 0 0 2 := ⟨cB 2 hT (tb_3 89 rfl rfl) (tb_1 8 rfl rfl) (tb_3 92 rfl rfl) hc hs (by decide +kernel) h1 h2, hT _ (tb_3 90 rfl rfl), hT _ (tb_3 91 rfl rfl)⟩
theorem kcC_X_338 {R : Room} {s : State} {args : Array Value} {rm : Room} (hT : ∀ w ∈ tb, w.before args s = true) (hc : rm.cells = 0) (hs : rm.slots = 0) (h1 : rm.frames + 1 ≤ R.frames) (h2 : 8 + (3 + 11) + rm.locals ≤ R.locals) : CallW R s args Rk_0 Rk_7 338 yk_7_valuesAt bk_7_valuesAt 3 (some .int) (.code yk_7_valuesAt bk_7_valuesAt 3 (some .int) :: tb) rm 0 0 2 := ⟨cB 2 hT (tb_3 97 rfl rfl) (tb_1 8 rfl rfl) (tb_3 100 rfl rfl) hc hs (by decide +kernel) h1 h2, hT _ (tb_3 98 rfl rfl), hT _ (tb_3 99 rfl rfl)⟩
theorem kcC_X_341 {R : Room} {s : State} {args : Array Value} {rm : Room} (hT : ∀ w ∈ tb, w.before args s = true) (hc : rm.cells = 0) (hs : rm.slots = 0) (h1 : rm.frames + 1 ≤ R.frames) (h2 : 8 + (4 + 11) + rm.locals ≤ R.locals) : CallW R s args Rk_0 Rk_8 341 yk_8_numberOf bk_8_numberOf 4 (some .int) (.code yk_8_numberOf bk_8_numberOf 4 (some .int) :: tb) rm 0 0 2 := ⟨cB 2 hT (tb_3 77 rfl rfl) (tb_1 9 rfl rfl) (tb_3 80 rfl rfl) hc hs (by decide +kernel) h1 h2, hT _ (tb_3 78 rfl rfl), hT _ (tb_3 79 rfl rfl)⟩
theorem kcC_Askings_11 {R : Room} {s : State} {args : Array Value} {rm : Room} (hT : ∀ w ∈ tb, w.before args s = true) (hc : rm.cells = 0) (hs : rm.slots = 0) (h1 : rm.frames + 1 ≤ R.frames) (h2 : 8 + (1 + 11) + rm.locals ≤ R.locals) : CallB R s args Rk_2 11 yk_2_isAboutAxis bk_2_isAboutAxis 1 (some .boolean) (.code yk_2_isAboutAxis bk_2_isAboutAxis 1 (some .boolean) :: tb) rm 0 0 1 ∧ (Cond.static yk_2_isAboutAxis).before args s = true := ⟨cB 1 hT (tb_2 199 rfl rfl) (tb_1 13 rfl rfl) (tb_2 201 rfl rfl) hc hs (by decide +kernel) h1 h2, hT _ (tb_2 200 rfl rfl)⟩
theorem kcC_Choices_17 {R : Room} {s : State} {args : Array Value} {rm : Room} (hT : ∀ w ∈ tb, w.before args s = true) (hc : rm.cells = 0) (hs : rm.slots = 0) (h1 : rm.frames + 1 ≤ R.frames) (h2 : 8 + (2 + 11) + rm.locals ≤ R.locals) : CallB R s args Rk_3 17 yk_3_kindOf bk_3_kindOf 2 (some .int) (.code yk_3_kindOf bk_3_kindOf 2 (some .int) :: tb) rm 0 0 1 ∧ (Cond.static yk_3_kindOf).before args s = true := ⟨cB 1 hT (tb_3 7 rfl rfl) (tb_1 10 rfl rfl) (tb_3 9 rfl rfl) hc hs (by decide +kernel) h1 h2, hT _ (tb_3 8 rfl rfl)⟩
theorem kcC_Conditions_26 {R : Room} {s : State} {args : Array Value} {rm : Room} (hT : ∀ w ∈ tb, w.before args s = true) (hc : rm.cells = 0) (hs : rm.slots = 0) (h1 : rm.frames + 1 ≤ R.frames) (h2 : 8 + (3 + 11) + rm.locals ≤ R.locals) : CallW R s args Rk_5 Rk_5 26 yk_5_askingAt bk_5_askingAt 3 (some .int) (.code yk_5_askingAt bk_5_askingAt 3 (some .int) :: tb) rm 0 0 2 := ⟨cB 2 hT (tb_2 92 rfl rfl) (tb_1 5 rfl rfl) (tb_2 95 rfl rfl) hc hs (by decide +kernel) h1 h2, hT _ (tb_2 93 rfl rfl), hT _ (tb_2 94 rfl rfl)⟩
theorem kcC_Configurations_19 {R : Room} {s : State} {args : Array Value} {rm : Room} (hT : ∀ w ∈ tb, w.before args s = true) (hc : rm.cells = 0) (hs : rm.slots = 0) (h1 : rm.frames + 1 ≤ R.frames) (h2 : 8 + (2 + 11) + rm.locals ≤ R.locals) : CallB R s args Rk_6 19 yk_4_platformIn bk_4_platformIn 2 (some .int) (.code yk_4_platformIn bk_4_platformIn 2 (some .int) :: tb) rm 0 0 1 ∧ (Cond.static yk_4_platformIn).before args s = true := ⟨cB 1 hT (tb_2 64 rfl rfl) (tb_1 12 rfl rfl) (tb_2 66 rfl rfl) hc hs (by decide +kernel) h1 h2, hT _ (tb_2 65 rfl rfl)⟩
theorem kcC_Configurations_25 {R : Room} {s : State} {args : Array Value} {rm : Room} (hT : ∀ w ∈ tb, w.before args s = true) (hc : rm.cells = 0) (hs : rm.slots = 0) (h1 : rm.frames + 1 ≤ R.frames) (h2 : 8 + (5 + 11) + rm.locals ≤ R.locals) : CallB R s args Rk_6 25 yk_4_withValue bk_4_withValue 5 (some .long) (.code yk_4_withValue bk_4_withValue 5 (some .long) :: tb) rm 0 0 3 ∧ (Cond.static yk_4_withValue).before args s = true := ⟨cB 3 hT (tb_2 13 rfl rfl) (tb_1 12 rfl rfl) (tb_2 15 rfl rfl) hc hs (by decide +kernel) h1 h2, hT _ (tb_2 14 rfl rfl)⟩
theorem kcC_Pairs_29 {R : Room} {s : State} {args : Array Value} {rm : Room} (hT : ∀ w ∈ tb, w.before args s = true) (hc : rm.cells = 0) (hs : rm.slots = 0) (h1 : rm.frames + 1 ≤ R.frames) (h2 : 8 + (4 + 11) + rm.locals ≤ R.locals) : CallW R s args Rk_8 Rk_8 29 yk_8_allLeftOut bk_8_allLeftOut 4 (some .long) (.code yk_8_allLeftOut bk_8_allLeftOut 4 (some .long) :: tb) rm 0 0 0 := ⟨cB 0 hT (tb_3 112 rfl rfl) (tb_1 9 rfl rfl) (tb_3 115 rfl rfl) hc hs (by decide +kernel) h1 h2, hT _ (tb_3 114 rfl rfl), hT _ (tb_p2 0 rfl)⟩
theorem kcC_Platforms_19 {R : Room} {s : State} {args : Array Value} {rm : Room} (hT : ∀ w ∈ tb, w.before args s = true) (hc : rm.cells = 0) (hs : rm.slots = 0) (h1 : rm.frames + 1 ≤ R.frames) (h2 : 8 + (4 + 11) + rm.locals ≤ R.locals) : CallW R s args Rk_9 Rk_9 19 yk_9_put bk_9_put 4 none (.code yk_9_put bk_9_put 4 none :: tb) rm 0 0 3 := ⟨cB 3 hT (tb_2 42 rfl rfl) (tb_1 3 rfl rfl) (tb_2 45 rfl rfl) hc hs (by decide +kernel) h1 h2, hT _ (tb_2 43 rfl rfl), hT _ (tb_2 44 rfl rfl)⟩
theorem kcC_Selects_42 {R : Room} {s : State} {args : Array Value} {rm : Room} (hT : ∀ w ∈ tb, w.before args s = true) (hc : rm.cells = 0) (hs : rm.slots = 0) (h1 : rm.frames + 1 ≤ R.frames) (h2 : 8 + (0 + 11) + rm.locals ≤ R.locals) : CallB R s args Rk_10 42 yk_3_nothing bk_3_nothing 0 (some .long) (.code yk_3_nothing bk_3_nothing 0 (some .long) :: tb) rm 0 0 0 ∧ (Cond.static yk_3_nothing).before args s = true := ⟨cB 0 hT (tb_2 120 rfl rfl) (tb_1 10 rfl rfl) (tb_1 212 rfl rfl) hc hs (by decide +kernel) h1 h2, hT _ (tb_1 211 rfl rfl)⟩
theorem kcC_Selects_48 {R : Room} {s : State} {args : Array Value} {rm : Room} (hT : ∀ w ∈ tb, w.before args s = true) (hc : rm.cells = 0) (hs : rm.slots = 0) (h1 : rm.frames + 1 ≤ R.frames) (h2 : 8 + (2 + 11) + rm.locals ≤ R.locals) : CallB R s args Rk_10 48 yk_10_place bk_10_place 2 (some .int) (.code yk_10_place bk_10_place 2 (some .int) :: tb) rm 0 0 2 ∧ (Cond.static yk_10_place).before args s = true := ⟨cB 2 hT (tb_2 137 rfl rfl) (tb_1 7 rfl rfl) (tb_2 139 rfl rfl) hc hs (by decide +kernel) h1 h2, hT _ (tb_2 138 rfl rfl)⟩
theorem kcC_Settings_25 {R : Room} {s : State} {args : Array Value} {rm : Room} (hT : ∀ w ∈ tb, w.before args s = true) (hc : rm.cells = 0) (hs : rm.slots = 0) (h1 : rm.frames + 1 ≤ R.frames) (h2 : 8 + (2 + 11) + rm.locals ≤ R.locals) : CallW R s args Rk_11 Rk_11 25 yk_11_isThere bk_11_isThere 2 (some .boolean) (.code yk_11_isThere bk_11_isThere 2 (some .boolean) :: tb) rm 0 0 1 := ⟨cB 1 hT (tb_2 30 rfl rfl) (tb_1 2 rfl rfl) (tb_2 33 rfl rfl) hc hs (by decide +kernel) h1 h2, hT _ (tb_2 31 rfl rfl), hT _ (tb_2 32 rfl rfl)⟩
end
section
abbrev rm_CSettings_add : Room := { frames := 0, cells := 0, slots := 0, locals := 0 }
def m_CSettings_add (S : StC) (x1 : Int32) (x2 : Int32) (x3 : Int32) : Option (Int32 × StC) :=
  if (gI S 0) < 16 then if inb (gI S 0) 16 = true then some (gI S 0, sI (tA (tA (tA S 0 (gI S 0) x1) 1 (gI S 0) x2) 2 (gI S 0) x3) 0 ((gI S 0) + (1 : Int32))) else none
    else some ((-1), S)
set_option maxHeartbeats 4000000 in
set_option maxRecDepth 100000 in
theorem c_CSettings_add {l : Launch} {D : va_G} {ad : Nat → Nat} {ca : Nat → ClassId} {S : StC} {x1 : Int32} {x2 : Int32} {x3 : Int32} {r : Int32 × StC} (hf : m_CSettings_add S x1 x2 x3 = some r) : KIC l D ad ca yk_11_add (.code yk_11_add bk_11_add 4 (some .int) :: tb) rm_CSettings_add [.ref (ad 1), .int x1, .int x2, .int x3] S r := by
  refine met_i (by decide) (Nat.le_of_ble_eq_true rfl) (fun p e s m below meth c A g hr hlk hK hA => ?_)
  replace g : CallFix p m c bk_11_add 4 s _ tb Rk_11 := g
  refine v_lv (lv' := [(0, .ref (ad 1)), (1, .int x1), (2, .int x2), (3, .int x3)]) rfl ?_
  unfold m_CSettings_add at hf
  refine v_aload_n g dk_11_add_0 0 rfl rfl (pc' := 1) rfl ?_
  refine gfC_Settings_21 g hK dk_11_add_1 (pc' := 4) rfl ?_
  refine v_bipush (v := 16) g dk_11_add_4 (by decide) (pc' := 6) rfl ?_
  refine v_icmp_lt (tgt := 11) (pc' := 9) g dk_11_add_6 (by decide) rfl (fun hc => ?_) (fun hc => ?_)
  · replace hf := ifT hc hf
    refine v_aload_n g dk_11_add_11 0 rfl rfl (pc' := 12) rfl ?_
    refine gfC_Settings_9 g hK dk_11_add_12 (pc' := 15) rfl ?_
    refine v_aload_n g dk_11_add_15 0 rfl rfl (pc' := 16) rfl ?_
    refine gfC_Settings_21 g hK dk_11_add_16 (pc' := 19) rfl ?_
    refine v_iload_n g dk_11_add_19 1 rfl rfl (pc' := 20) rfl ?_
    obtain ⟨hb1, hf⟩ := grd hf
    refine asC_2 g hK hb1 dk_11_add_20 (pc' := 21) rfl ?_
    refine v_aload_n g dk_11_add_21 0 rfl rfl (pc' := 22) rfl ?_
    refine gfC_Settings_15 g hK dk_11_add_22 (pc' := 25) rfl ?_
    refine v_aload_n g dk_11_add_25 0 rfl rfl (pc' := 26) rfl ?_
    refine gfC_Settings_21 g hK dk_11_add_26 (pc' := 29) rfl ?_
    refine v_iload_n g dk_11_add_29 2 rfl rfl (pc' := 30) rfl ?_
    refine asC_3 g hK hb1 dk_11_add_30 (pc' := 31) rfl ?_
    refine v_aload_n g dk_11_add_31 0 rfl rfl (pc' := 32) rfl ?_
    refine gfC_Settings_18 g hK dk_11_add_32 (pc' := 35) rfl ?_
    refine v_aload_n g dk_11_add_35 0 rfl rfl (pc' := 36) rfl ?_
    refine gfC_Settings_21 g hK dk_11_add_36 (pc' := 39) rfl ?_
    refine v_iload_n g dk_11_add_39 3 rfl rfl (pc' := 40) rfl ?_
    refine asC_4 g hK hb1 dk_11_add_40 (pc' := 41) rfl ?_
    refine v_aload_n g dk_11_add_41 0 rfl rfl (pc' := 42) rfl ?_
    refine v_dup g dk_11_add_42 rfl (pc' := 43) rfl ?_
    refine gfC_Settings_21 g hK dk_11_add_43 (pc' := 46) rfl ?_
    refine v_dup_x1 g dk_11_add_46 rfl rfl (pc' := 47) rfl ?_
    refine v_iconst (v := 1) g dk_11_add_47 (by decide) (pc' := 48) rfl ?_
    refine v_iadd g dk_11_add_48 (pc' := 49) rfl ?_
    refine pfC_Settings_21 g hK dk_11_add_49 (pc' := 52) rfl ?_
    exact v_iret g hr hlk hK  (Option.some.inj hf) dk_11_add_52
  · replace hf := ifF hc hf
    refine v_iconst (v := (-1)) g dk_11_add_9 (by decide) (pc' := 10) rfl ?_
    exact v_iret g hr hlk hK  (Option.some.inj hf) dk_11_add_10
abbrev rm_CCodes_withValue : Room := { frames := 0, cells := 0, slots := 0, locals := 0 }
def m_CCodes_withValue (S : StC) (x0 : Int64) (x2 : Int32) (x3 : Int32) : Option Int64 :=
  some ((x0 &&& (((7 : Int64) <<< ((x2 * (3 : Int32)).toInt64 &&& 63)) ^^^ ((-1) : Int64))) ||| (x3.toInt64 <<< ((x2 * (3 : Int32)).toInt64 &&& 63)))
set_option maxHeartbeats 4000000 in
set_option maxRecDepth 100000 in
theorem c_CCodes_withValue {l : Launch} {D : va_G} {ad : Nat → Nat} {ca : Nat → ClassId} {S : StC} {x0 : Int64} {x2 : Int32} {x3 : Int32} {r : Int64} (hf : m_CCodes_withValue S x0 x2 x3 = some r) : KLC l D ad ca yk_4_withValue (.code yk_4_withValue bk_4_withValue 5 (some .long) :: tb) rm_CCodes_withValue [.long x0, .int x2, .int x3] S (r, S) := by
  refine met_l (by decide) (Nat.le_of_ble_eq_true rfl) (fun p e s m below meth c A g hr hlk hK hA => ?_)
  replace g : CallFix p m c bk_4_withValue 5 s _ tb Rk_4 := g
  refine v_lv (lv' := [(0, .long x0), (2, .int x2), (3, .int x3)]) rfl ?_
  unfold m_CCodes_withValue at hf
  refine v_iload_n g dk_4_withValue_0 1 rfl rfl (pc' := 1) rfl ?_
  refine v_iconst (v := 3) g dk_4_withValue_1 (by decide) (pc' := 2) rfl ?_
  refine v_imul g dk_4_withValue_2 (pc' := 3) rfl ?_
  refine v_istore (lv' := [(4, .int (x2 * (3 : Int32))), (0, .long x0), (2, .int x2), (3, .int x3)]) g dk_4_withValue_3 (by decide) rfl (pc' := 5) rfl ?_
  refine v_lload_n g dk_4_withValue_5 1 rfl rfl (pc' := 6) rfl ?_
  refine v_ldc2 g dk_4_withValue_6 lcC_Codes_11 (pc' := 9) rfl ?_
  refine v_iload g dk_4_withValue_9 0 rfl (pc' := 11) rfl ?_
  refine v_lshl g dk_4_withValue_11 (pc' := 12) rfl ?_
  refine v_ldc2 g dk_4_withValue_12 lcC_Codes_13 (pc' := 15) rfl ?_
  refine v_lxor g dk_4_withValue_15 (pc' := 16) rfl ?_
  refine v_land g dk_4_withValue_16 (pc' := 17) rfl ?_
  refine v_iload_n g dk_4_withValue_17 3 rfl rfl (pc' := 18) rfl ?_
  refine v_i2l g dk_4_withValue_18 (pc' := 19) rfl ?_
  refine v_iload g dk_4_withValue_19 0 rfl (pc' := 21) rfl ?_
  refine v_lshl g dk_4_withValue_21 (pc' := 22) rfl ?_
  refine v_lor g dk_4_withValue_22 (pc' := 23) rfl ?_
  exact v_lret g hr hlk hK  (pinj hf) dk_4_withValue_23
abbrev rm_CConfigurations_giveAll : Room := { frames := 1, cells := 0, slots := 0, locals := 24 }
def L_CConfigurations_giveAll_2 (x1 : Int32) (x2 : Int32) : Nat → StC → Int32 → Option (StC)
  | 0, _, _ => none
  | n + 1, S, x3 =>
    if (gI S 2) ≤ x3 then some S
    else if inb x3 60 = true then (m_CCodes_withValue S (gB S 0 x3.toNatClampNeg) x1 x2).bind fun q2 =>
    L_CConfigurations_giveAll_2 x1 x2 n (tB S 0 x3 q2) (x3 + 1) else none
set_option maxHeartbeats 4000000 in
set_option maxRecDepth 100000 in
theorem w_CConfigurations_giveAll_2 {p : Program} {l : Launch} {e : Env} {s : State} {m : MethodId} {args : Array Value} {below : List Frame} {meth : Method} {c : Code} {A : Nat → Prop} {D : va_G} {ad : Nat → Nat} {ca : Nat → ClassId} {Rm : StC} {x1 : Int32} {x2 : Int32} (g : CallFix p m c bk_6_giveAll 4 s args tb Rk_6) (hr : meth.sig.returnType = none) (hlk : meth.locks = false) (hK : va_K D vwCl (tyC ca) s) (hA : ∀ q, s.heap.size ≤ q → A q) : ∀ (n : Nat) (S : StC) (x3 : Int32) (o : StC), L_CConfigurations_giveAll_2 x1 x2 n S x3 = some o → (Vj p l e rm_CConfigurations_giveAll s m args below meth c (MQ below (qV D vwCl (tyC ca) (wdC ad ca) A Rm) args s 0 0 A) D vwCl A 4 0 0 (wdC ad ca o) 33 [] []) → Vj p l e rm_CConfigurations_giveAll s m args below meth c (MQ below (qV D vwCl (tyC ca) (wdC ad ca) A Rm) args s 0 0 A) D vwCl A 4 0 0 (wdC ad ca S) 2 [(0, .ref (ad 7)), (1, .int x1), (2, .int x2), (3, .int x3)] [] := by
  intro n
  induction n with
  | zero => intro S x3 o hf; exact nomatch (show none = some o from hf)
  | succ n ih =>
    intro S x3 o hf hx
    rw [L_CConfigurations_giveAll_2] at hf
    refine v_iload_n g dk_6_giveAll_2 3 rfl rfl (pc' := 3) rfl ?_
    refine v_aload_n g dk_6_giveAll_3 0 rfl rfl (pc' := 4) rfl ?_
    refine gfC_Configurations_15 g hK dk_6_giveAll_4 (pc' := 7) rfl ?_
    refine v_icmp_ge (tgt := 33) (pc' := 10) g dk_6_giveAll_7 (by decide) rfl (fun hc => ?_) (fun hc => ?_)
    · replace hf := ifT hc hf
      refine v_sub [] rfl ?_
      have e9 := Option.some.inj hf
      subst e9
      exact hx
    · replace hf := ifF hc hf
      refine v_aload_n g dk_6_giveAll_10 0 rfl rfl (pc' := 11) rfl ?_
      refine gfC_Configurations_9 g hK dk_6_giveAll_11 (pc' := 14) rfl ?_
      refine v_iload_n g dk_6_giveAll_14 3 rfl rfl (pc' := 15) rfl ?_
      refine v_aload_n g dk_6_giveAll_15 0 rfl rfl (pc' := 16) rfl ?_
      refine gfC_Configurations_9 g hK dk_6_giveAll_16 (pc' := 19) rfl ?_
      refine v_iload_n g dk_6_giveAll_19 3 rfl rfl (pc' := 20) rfl ?_
      obtain ⟨hb1, hf⟩ := grd hf
      refine alC_8 g hK hb1 dk_6_giveAll_20 (pc' := 21) rfl ?_
      refine v_iload_n g dk_6_giveAll_21 1 rfl rfl (pc' := 22) rfl ?_
      refine v_iload_n g dk_6_giveAll_22 2 rfl rfl (pc' := 23) rfl ?_
      obtain ⟨q2, hq, hf⟩ := bnd hf
      refine v_callS_l (As := [.long (gB S 0 x3.toNatClampNeg), .int x1, .int x2]) (rest := [.int x3, .ref (ad 8)]) (r := q2) (S1 := S) g hK hA (c_CCodes_withValue hq) (kcC_Configurations_25 g.2.2.2.2 rfl rfl (Nat.le_of_ble_eq_true rfl) (Nat.le_of_ble_eq_true rfl)) rfl rfl (Nat.le_of_ble_eq_true rfl) dk_6_giveAll_23 (Nat.zero_le _) (Nat.zero_le _) (pc' := 26) rfl ?_
      refine asC_8 g hK hb1 dk_6_giveAll_26 (pc' := 27) rfl ?_
      refine v_iinc (j := 3) (v := x3 + 1) (lv' := [(3, .int (x3 + 1)), (0, .ref (ad 7)), (1, .int x1), (2, .int x2)]) g dk_6_giveAll_27 rfl rfl (by decide) rfl (pc' := 30) rfl ?_
      refine v_goto (tgt := 2) g dk_6_giveAll_30 (by decide) ?_
      refine v_sub [1, 2, 3, 0] rfl ?_
      exact ih (tB S 0 x3 q2) (x3 + 1) o hf hx
def m_CConfigurations_giveAll (S : StC) (x1 : Int32) (x2 : Int32) : Option StC :=
  (L_CConfigurations_giveAll_2 x1 x2 100 S 0).bind fun y4 =>
    some y4
set_option maxHeartbeats 4000000 in
set_option maxRecDepth 100000 in
theorem c_CConfigurations_giveAll {l : Launch} {D : va_G} {ad : Nat → Nat} {ca : Nat → ClassId} {S : StC} {x1 : Int32} {x2 : Int32} {r : StC} (hf : m_CConfigurations_giveAll S x1 x2 = some r) : KVC l D ad ca yk_6_giveAll (.code yk_6_giveAll bk_6_giveAll 4 none :: tb) rm_CConfigurations_giveAll [.ref (ad 7), .int x1, .int x2] S r := by
  refine met_v (by decide) (Nat.le_of_ble_eq_true rfl) (fun p e s m below meth c A g hr hlk hK hA => ?_)
  replace g : CallFix p m c bk_6_giveAll 4 s _ tb Rk_6 := g
  refine v_lv (lv' := [(0, .ref (ad 7)), (1, .int x1), (2, .int x2)]) rfl ?_
  unfold m_CConfigurations_giveAll at hf
  refine v_iconst (v := 0) g dk_6_giveAll_0 (by decide) (pc' := 1) rfl ?_
  refine v_istore_n (lv' := [(3, .int 0), (0, .ref (ad 7)), (1, .int x1), (2, .int x2)]) g dk_6_giveAll_1 rfl (by decide) rfl (pc' := 2) rfl ?_
  refine v_sub [1, 2, 3, 0] rfl ?_
  obtain ⟨y4, hL, hf⟩ := bnd hf
  refine w_CConfigurations_giveAll_2 g hr hlk hK hA 100 S 0 _ hL ?_
  exact v_vret g hr hlk hK  (Option.some.inj hf) dk_6_giveAll_33
abbrev rm_CX_setting : Room := { frames := 2, cells := 0, slots := 0, locals := 47 }
def m_CX_setting (S : StC) (x1 : Int32) (x2 : Int32) : Option (Int32 × StC) :=
  if x1 < 1 then some ((-1), S)
    else if 8 < x1 then some ((-1), S)
    else if x2 < 0 then some ((-1), S)
    else if x2 < x1 then (m_CSettings_add S x1 x2 (-1)).bind fun q1 =>
    if q1.1 = (-1) then some (q1.1, q1.2)
    else (m_CConfigurations_giveAll q1.2 q1.1 x2).bind fun q2 =>
    some (q1.1, q2)
    else some ((-1), S)
set_option maxHeartbeats 4000000 in
set_option maxRecDepth 100000 in
theorem c_CX_setting {l : Launch} {D : va_G} {ad : Nat → Nat} {ca : Nat → ClassId} {S : StC} {x1 : Int32} {x2 : Int32} {r : Int32 × StC} (hf : m_CX_setting S x1 x2 = some r) : KIC l D ad ca yk_0_setting (.code yk_0_setting bk_0_setting 4 (some .int) :: tb) rm_CX_setting [.ref (ad 0), .int x1, .int x2] S r := by
  refine met_i (by decide) (Nat.le_of_ble_eq_true rfl) (fun p e s m below meth c A g hr hlk hK hA => ?_)
  replace g : CallFix p m c bk_0_setting 4 s _ tb Rk_0 := g
  refine v_lv (lv' := [(0, .ref (ad 0)), (1, .int x1), (2, .int x2)]) rfl ?_
  unfold m_CX_setting at hf
  refine v_iload_n g dk_0_setting_0 1 rfl rfl (pc' := 1) rfl ?_
  refine v_iconst (v := 1) g dk_0_setting_1 (by decide) (pc' := 2) rfl ?_
  refine v_icmp_lt (tgt := 20) (pc' := 5) g dk_0_setting_2 (by decide) rfl (fun hc => ?_) (fun hc => ?_)
  · replace hf := ifT hc hf
    refine v_iconst (v := (-1)) g dk_0_setting_20 (by decide) (pc' := 21) rfl ?_
    exact v_iret g hr hlk hK  (Option.some.inj hf) dk_0_setting_21
  · replace hf := ifF hc hf
    refine v_iload_n g dk_0_setting_5 1 rfl rfl (pc' := 6) rfl ?_
    refine v_bipush (v := 8) g dk_0_setting_6 (by decide) (pc' := 8) rfl ?_
    refine v_icmp_gt (tgt := 20) (pc' := 11) g dk_0_setting_8 (by decide) rfl (fun hc => ?_) (fun hc => ?_)
    · replace hf := ifT hc hf
      refine v_iconst (v := (-1)) g dk_0_setting_20 (by decide) (pc' := 21) rfl ?_
      exact v_iret g hr hlk hK  (Option.some.inj hf) dk_0_setting_21
    · replace hf := ifF hc hf
      refine v_iload_n g dk_0_setting_11 2 rfl rfl (pc' := 12) rfl ?_
      refine v_if_lt (tgt := 20) (pc' := 15) g dk_0_setting_12 (by decide) rfl (fun hc => ?_) (fun hc => ?_)
      · replace hf := ifT hc hf
        refine v_iconst (v := (-1)) g dk_0_setting_20 (by decide) (pc' := 21) rfl ?_
        exact v_iret g hr hlk hK  (Option.some.inj hf) dk_0_setting_21
      · replace hf := ifF hc hf
        refine v_iload_n g dk_0_setting_15 2 rfl rfl (pc' := 16) rfl ?_
        refine v_iload_n g dk_0_setting_16 1 rfl rfl (pc' := 17) rfl ?_
        refine v_icmp_lt (tgt := 22) (pc' := 20) g dk_0_setting_17 (by decide) rfl (fun hc => ?_) (fun hc => ?_)
        · replace hf := ifT hc hf
          refine v_aload_n g dk_0_setting_22 0 rfl rfl (pc' := 23) rfl ?_
          refine gfC_X_12 g hK dk_0_setting_23 (pc' := 26) rfl ?_
          refine v_iload_n g dk_0_setting_26 1 rfl rfl (pc' := 27) rfl ?_
          refine v_iload_n g dk_0_setting_27 2 rfl rfl (pc' := 28) rfl ?_
          refine v_iconst (v := (-1)) g dk_0_setting_28 (by decide) (pc' := 29) rfl ?_
          obtain ⟨q1, hq, hf⟩ := bnd hf
          refine v_callV_i (As := [.int x1, .int x2, .int (-1)]) (rest := []) (r := q1.1) (S1 := q1.2) g hK hA (c_CSettings_add hq) (kcC_X_75 g.2.2.2.2 rfl rfl (Nat.le_of_ble_eq_true rfl) (Nat.le_of_ble_eq_true rfl)) (ci := 8) (q0 := 1) rfl rfl rfl rfl rfl (Nat.le_of_ble_eq_true rfl) dk_0_setting_29 (Nat.zero_le _) (Nat.zero_le _) (pc' := 32) rfl ?_
          refine v_istore_n (lv' := [(3, .int q1.1), (0, .ref (ad 0)), (1, .int x1), (2, .int x2)]) g dk_0_setting_32 rfl (by decide) rfl (pc' := 33) rfl ?_
          refine v_iload_n g dk_0_setting_33 0 rfl rfl (pc' := 34) rfl ?_
          refine v_iconst (v := (-1)) g dk_0_setting_34 (by decide) (pc' := 35) rfl ?_
          refine v_icmp_eq (tgt := 47) (pc' := 38) g dk_0_setting_35 (by decide) rfl (fun hc => ?_) (fun hc => ?_)
          · replace hf := ifT hc hf
            refine v_iload_n g dk_0_setting_47 0 rfl rfl (pc' := 48) rfl ?_
            exact v_iret g hr hlk hK  (Option.some.inj hf) dk_0_setting_48
          · replace hf := ifF hc hf
            refine v_aload_n g dk_0_setting_38 1 rfl rfl (pc' := 39) rfl ?_
            refine gfC_X_26 g hK dk_0_setting_39 (pc' := 42) rfl ?_
            refine v_iload_n g dk_0_setting_42 0 rfl rfl (pc' := 43) rfl ?_
            refine v_iload_n g dk_0_setting_43 3 rfl rfl (pc' := 44) rfl ?_
            obtain ⟨q2, hq, hf⟩ := bnd hf
            refine v_callV_v (As := [.int q1.1, .int x2]) (rest := []) (S1 := q2) g hK hA (c_CConfigurations_giveAll hq) (kcC_X_79 g.2.2.2.2 rfl rfl (Nat.le_of_ble_eq_true rfl) (Nat.le_of_ble_eq_true rfl)) (ci := 3) (q0 := 7) rfl rfl rfl rfl rfl (Nat.le_of_ble_eq_true rfl) dk_0_setting_44 (Nat.zero_le _) (Nat.zero_le _) (pc' := 47) rfl ?_
            refine v_iload_n g dk_0_setting_47 0 rfl rfl (pc' := 48) rfl ?_
            exact v_iret g hr hlk hK  (Option.some.inj hf) dk_0_setting_48
        · replace hf := ifF hc hf
          refine v_iconst (v := (-1)) g dk_0_setting_20 (by decide) (pc' := 21) rfl ?_
          exact v_iret g hr hlk hK  (Option.some.inj hf) dk_0_setting_21
abbrev rm_CX_alias : Room := { frames := 1, cells := 0, slots := 0, locals := 23 }
def m_CX_alias (S : StC) (x1 : Int32) : Option (Int32 × StC) :=
  if x1 < 0 then some ((-1), S)
    else if x1 < 16 then (m_CSettings_add S 0 0 x1).bind fun q1 =>
    some (q1.1, q1.2)
    else some ((-1), S)
set_option maxHeartbeats 4000000 in
set_option maxRecDepth 100000 in
theorem c_CX_alias {l : Launch} {D : va_G} {ad : Nat → Nat} {ca : Nat → ClassId} {S : StC} {x1 : Int32} {r : Int32 × StC} (hf : m_CX_alias S x1 = some r) : KIC l D ad ca yk_0_alias (.code yk_0_alias bk_0_alias 2 (some .int) :: tb) rm_CX_alias [.ref (ad 0), .int x1] S r := by
  refine met_i (by decide) (Nat.le_of_ble_eq_true rfl) (fun p e s m below meth c A g hr hlk hK hA => ?_)
  replace g : CallFix p m c bk_0_alias 2 s _ tb Rk_0 := g
  refine v_lv (lv' := [(0, .ref (ad 0)), (1, .int x1)]) rfl ?_
  unfold m_CX_alias at hf
  refine v_iload_n g dk_0_alias_0 1 rfl rfl (pc' := 1) rfl ?_
  refine v_if_lt (tgt := 10) (pc' := 4) g dk_0_alias_1 (by decide) rfl (fun hc => ?_) (fun hc => ?_)
  · replace hf := ifT hc hf
    refine v_iconst (v := (-1)) g dk_0_alias_10 (by decide) (pc' := 11) rfl ?_
    exact v_iret g hr hlk hK  (Option.some.inj hf) dk_0_alias_11
  · replace hf := ifF hc hf
    refine v_iload_n g dk_0_alias_4 1 rfl rfl (pc' := 5) rfl ?_
    refine v_bipush (v := 16) g dk_0_alias_5 (by decide) (pc' := 7) rfl ?_
    refine v_icmp_lt (tgt := 12) (pc' := 10) g dk_0_alias_7 (by decide) rfl (fun hc => ?_) (fun hc => ?_)
    · replace hf := ifT hc hf
      refine v_aload_n g dk_0_alias_12 0 rfl rfl (pc' := 13) rfl ?_
      refine gfC_X_12 g hK dk_0_alias_13 (pc' := 16) rfl ?_
      refine v_iconst (v := 0) g dk_0_alias_16 (by decide) (pc' := 17) rfl ?_
      refine v_iconst (v := 0) g dk_0_alias_17 (by decide) (pc' := 18) rfl ?_
      refine v_iload_n g dk_0_alias_18 1 rfl rfl (pc' := 19) rfl ?_
      obtain ⟨q1, hq, hf⟩ := bnd hf
      refine v_callV_i (As := [.int 0, .int 0, .int x1]) (rest := []) (r := q1.1) (S1 := q1.2) g hK hA (c_CSettings_add hq) (kcC_X_75 g.2.2.2.2 rfl rfl (Nat.le_of_ble_eq_true rfl) (Nat.le_of_ble_eq_true rfl)) (ci := 8) (q0 := 1) rfl rfl rfl rfl rfl (Nat.le_of_ble_eq_true rfl) dk_0_alias_19 (Nat.zero_le _) (Nat.zero_le _) (pc' := 22) rfl ?_
      exact v_iret g hr hlk hK  (Option.some.inj hf) dk_0_alias_22
    · replace hf := ifF hc hf
      refine v_iconst (v := (-1)) g dk_0_alias_10 (by decide) (pc' := 11) rfl ?_
      exact v_iret g hr hlk hK  (Option.some.inj hf) dk_0_alias_11
abbrev rm_CSettings_isThere : Room := { frames := 0, cells := 0, slots := 0, locals := 0 }
def m_CSettings_isThere (S : StC) (x1 : Int32) : Option Int32 :=
  if x1 < 0 then some 0
    else if (gI S 0) ≤ x1 then some 0
    else some 1
set_option maxHeartbeats 4000000 in
set_option maxRecDepth 100000 in
theorem c_CSettings_isThere {l : Launch} {D : va_G} {ad : Nat → Nat} {ca : Nat → ClassId} {S : StC} {x1 : Int32} {r : Int32} (hf : m_CSettings_isThere S x1 = some r) : KIC l D ad ca yk_11_isThere (.code yk_11_isThere bk_11_isThere 2 (some .boolean) :: tb) rm_CSettings_isThere [.ref (ad 1), .int x1] S (r, S) := by
  refine met_z (by decide) (Nat.le_of_ble_eq_true rfl) (fun p e s m below meth c A g hr hlk hK hA => ?_)
  replace g : CallFix p m c bk_11_isThere 2 s _ tb Rk_11 := g
  refine v_lv (lv' := [(0, .ref (ad 1)), (1, .int x1)]) rfl ?_
  unfold m_CSettings_isThere at hf
  refine v_iload_n g dk_11_isThere_0 1 rfl rfl (pc' := 1) rfl ?_
  refine v_if_lt (tgt := 16) (pc' := 4) g dk_11_isThere_1 (by decide) rfl (fun hc => ?_) (fun hc => ?_)
  · replace hf := ifT hc hf
    refine v_iconst (v := 0) g dk_11_isThere_16 (by decide) (pc' := 17) rfl ?_
    exact v_zret g hr hlk hK rfl (pinj hf) dk_11_isThere_17
  · replace hf := ifF hc hf
    refine v_iload_n g dk_11_isThere_4 1 rfl rfl (pc' := 5) rfl ?_
    refine v_aload_n g dk_11_isThere_5 0 rfl rfl (pc' := 6) rfl ?_
    refine gfC_Settings_21 g hK dk_11_isThere_6 (pc' := 9) rfl ?_
    refine v_icmp_ge (tgt := 16) (pc' := 12) g dk_11_isThere_9 (by decide) rfl (fun hc => ?_) (fun hc => ?_)
    · replace hf := ifT hc hf
      refine v_iconst (v := 0) g dk_11_isThere_16 (by decide) (pc' := 17) rfl ?_
      exact v_zret g hr hlk hK rfl (pinj hf) dk_11_isThere_17
    · replace hf := ifF hc hf
      refine v_iconst (v := 1) g dk_11_isThere_12 (by decide) (pc' := 13) rfl ?_
      refine v_goto (tgt := 17) g dk_11_isThere_13 (by decide) ?_
      exact v_zret g hr hlk hK rfl (pinj hf) dk_11_isThere_17
abbrev rm_CSettings_baseOf : Room := { frames := 1, cells := 0, slots := 0, locals := 21 }
def L_CSettings_baseOf_4 (S : StC) : Nat → Int32 → Int32 → Option (Unit ⊕ Int32)
  | 0, _, _ => none
  | n + 1, x2, x3 =>
    if 16 ≤ x3 then some (.inl ())
    else (m_CSettings_isThere S x2).bind fun q1 =>
    if q1 = 0 then some (.inr (-1))
    else if inb x2 16 = true then if (gA S 2 x2.toNatClampNeg) = (-1) then some (.inr x2)
    else L_CSettings_baseOf_4 S n (gA S 2 x2.toNatClampNeg) (x3 + 1) else none
set_option maxHeartbeats 4000000 in
set_option maxRecDepth 100000 in
theorem w_CSettings_baseOf_4 {p : Program} {l : Launch} {e : Env} {s : State} {m : MethodId} {args : Array Value} {below : List Frame} {meth : Method} {c : Code} {A : Nat → Prop} {D : va_G} {ad : Nat → Nat} {ca : Nat → ClassId} {Rm : Int32 × StC} {S : StC} (g : CallFix p m c bk_11_baseOf 4 s args tb Rk_11) (hr : meth.sig.returnType = some .int) (hlk : meth.locks = false) (hK : va_K D vwCl (tyC ca) s) (hA : ∀ q, s.heap.size ≤ q → A q) : ∀ (n : Nat) (x2 : Int32) (x3 : Int32) (o : Unit ⊕ Int32), L_CSettings_baseOf_4 S n x2 x3 = some o → (∀ y, o = .inl y → Vj p l e rm_CSettings_baseOf s m args below meth c (MQ below (qI D vwCl (tyC ca) (wdC ad ca) A Rm) args s 0 0 A) D vwCl A 4 0 0 (wdC ad ca S) 45 [] []) → (∀ r, o = .inr r → (r, S) = Rm) → Vj p l e rm_CSettings_baseOf s m args below meth c (MQ below (qI D vwCl (tyC ca) (wdC ad ca) A Rm) args s 0 0 A) D vwCl A 4 0 0 (wdC ad ca S) 4 [(0, .ref (ad 1)), (2, .int x2), (3, .int x3)] [] := by
  intro n
  induction n with
  | zero => intro x2 x3 o hf; exact nomatch (show none = some o from hf)
  | succ n ih =>
    intro x2 x3 o hf hx hret
    rw [L_CSettings_baseOf_4] at hf
    refine v_iload_n g dk_11_baseOf_4 2 rfl rfl (pc' := 5) rfl ?_
    refine v_bipush (v := 16) g dk_11_baseOf_5 (by decide) (pc' := 7) rfl ?_
    refine v_icmp_ge (tgt := 45) (pc' := 10) g dk_11_baseOf_7 (by decide) rfl (fun hc => ?_) (fun hc => ?_)
    · replace hf := ifT hc hf
      refine v_sub [] rfl ?_
      exact hx _ (Option.some.inj hf).symm
    · replace hf := ifF hc hf
      refine v_aload_n g dk_11_baseOf_10 0 rfl rfl (pc' := 11) rfl ?_
      refine v_iload_n g dk_11_baseOf_11 1 rfl rfl (pc' := 12) rfl ?_
      obtain ⟨q1, hq, hf⟩ := bnd hf
      refine v_callV_i (As := [.int x2]) (rest := []) (r := q1) (S1 := S) g hK hA (c_CSettings_isThere hq) (kcC_Settings_25 g.2.2.2.2 rfl rfl (Nat.le_of_ble_eq_true rfl) (Nat.le_of_ble_eq_true rfl)) (ci := 8) (q0 := 1) rfl rfl rfl rfl rfl (Nat.le_of_ble_eq_true rfl) dk_11_baseOf_12 (Nat.zero_le _) (Nat.zero_le _) (pc' := 15) rfl ?_
      refine v_if_ne (tgt := 20) (pc' := 18) g dk_11_baseOf_15 (by decide) rfl (fun hc => ?_) (fun hc => ?_)
      · replace hf := ifF hc hf
        refine v_aload_n g dk_11_baseOf_20 0 rfl rfl (pc' := 21) rfl ?_
        refine gfC_Settings_18 g hK dk_11_baseOf_21 (pc' := 24) rfl ?_
        refine v_iload_n g dk_11_baseOf_24 1 rfl rfl (pc' := 25) rfl ?_
        obtain ⟨hb2, hf⟩ := grd hf
        refine alC_4 g hK hb2 dk_11_baseOf_25 (pc' := 26) rfl ?_
        refine v_iconst (v := (-1)) g dk_11_baseOf_26 (by decide) (pc' := 27) rfl ?_
        refine v_icmp_ne (tgt := 32) (pc' := 30) g dk_11_baseOf_27 (by decide) rfl (fun hc => ?_) (fun hc => ?_)
        · replace hf := ifF hc hf
          refine v_aload_n g dk_11_baseOf_32 0 rfl rfl (pc' := 33) rfl ?_
          refine gfC_Settings_18 g hK dk_11_baseOf_33 (pc' := 36) rfl ?_
          refine v_iload_n g dk_11_baseOf_36 1 rfl rfl (pc' := 37) rfl ?_
          refine alC_4 g hK hb2 dk_11_baseOf_37 (pc' := 38) rfl ?_
          refine v_istore_n (lv' := [(2, .int (gA S 2 x2.toNatClampNeg)), (0, .ref (ad 1)), (3, .int x3)]) g dk_11_baseOf_38 rfl (by decide) rfl (pc' := 39) rfl ?_
          refine v_iinc (j := 2) (v := x3 + 1) (lv' := [(3, .int (x3 + 1)), (2, .int (gA S 2 x2.toNatClampNeg)), (0, .ref (ad 1))]) g dk_11_baseOf_39 rfl rfl (by decide) rfl (pc' := 42) rfl ?_
          refine v_goto (tgt := 4) g dk_11_baseOf_42 (by decide) ?_
          refine v_sub [2, 1, 0] rfl ?_
          exact ih (gA S 2 x2.toNatClampNeg) (x3 + 1) o hf hx hret
        · replace hf := ifT hc hf
          refine v_iload_n g dk_11_baseOf_30 1 rfl rfl (pc' := 31) rfl ?_
          exact v_iret g hr hlk hK  (hret _ (Option.some.inj hf).symm) dk_11_baseOf_31
      · replace hf := ifT hc hf
        refine v_iconst (v := (-1)) g dk_11_baseOf_18 (by decide) (pc' := 19) rfl ?_
        exact v_iret g hr hlk hK  (hret _ (Option.some.inj hf).symm) dk_11_baseOf_19
def m_CSettings_baseOf (S : StC) (x1 : Int32) : Option Int32 :=
  (L_CSettings_baseOf_4 S 100 x1 0).bind fun o3 => exK o3 fun y4 =>
    some (-1)
set_option maxHeartbeats 4000000 in
set_option maxRecDepth 100000 in
theorem c_CSettings_baseOf {l : Launch} {D : va_G} {ad : Nat → Nat} {ca : Nat → ClassId} {S : StC} {x1 : Int32} {r : Int32} (hf : m_CSettings_baseOf S x1 = some r) : KIC l D ad ca yk_11_baseOf (.code yk_11_baseOf bk_11_baseOf 4 (some .int) :: tb) rm_CSettings_baseOf [.ref (ad 1), .int x1] S (r, S) := by
  refine met_i (by decide) (Nat.le_of_ble_eq_true rfl) (fun p e s m below meth c A g hr hlk hK hA => ?_)
  replace g : CallFix p m c bk_11_baseOf 4 s _ tb Rk_11 := g
  refine v_lv (lv' := [(0, .ref (ad 1)), (1, .int x1)]) rfl ?_
  unfold m_CSettings_baseOf at hf
  refine v_iload_n g dk_11_baseOf_0 1 rfl rfl (pc' := 1) rfl ?_
  refine v_istore_n (lv' := [(2, .int x1), (0, .ref (ad 1)), (1, .int x1)]) g dk_11_baseOf_1 rfl (by decide) rfl (pc' := 2) rfl ?_
  refine v_iconst (v := 0) g dk_11_baseOf_2 (by decide) (pc' := 3) rfl ?_
  refine v_istore_n (lv' := [(3, .int 0), (2, .int x1), (0, .ref (ad 1)), (1, .int x1)]) g dk_11_baseOf_3 rfl (by decide) rfl (pc' := 4) rfl ?_
  refine v_sub [2, 1, 0] rfl ?_
  obtain ⟨o3, hL, hf⟩ := bnd hf
  refine w_CSettings_baseOf_4 g hr hlk hK hA 100 x1 0 _ hL (fun y4 hy => ?_) (fun r9 hy => ?_)
  · subst hy
    replace hf := exKl hf
    refine v_iconst (v := (-1)) g dk_11_baseOf_45 (by decide) (pc' := 46) rfl ?_
    exact v_iret g hr hlk hK  (pinj hf) dk_11_baseOf_46
  · subst hy
    exact pinj hf
abbrev rm_CX_base : Room := { frames := 2, cells := 0, slots := 0, locals := 44 }
def m_CX_base (S : StC) (x1 : Int32) : Option Int32 :=
  (m_CSettings_baseOf S x1).bind fun q1 =>
    some q1
set_option maxHeartbeats 4000000 in
set_option maxRecDepth 100000 in
theorem c_CX_base {l : Launch} {D : va_G} {ad : Nat → Nat} {ca : Nat → ClassId} {S : StC} {x1 : Int32} {r : Int32} (hf : m_CX_base S x1 = some r) : KIC l D ad ca yk_0_base (.code yk_0_base bk_0_base 2 (some .int) :: tb) rm_CX_base [.ref (ad 0), .int x1] S (r, S) := by
  refine met_i (by decide) (Nat.le_of_ble_eq_true rfl) (fun p e s m below meth c A g hr hlk hK hA => ?_)
  replace g : CallFix p m c bk_0_base 2 s _ tb Rk_0 := g
  refine v_lv (lv' := [(0, .ref (ad 0)), (1, .int x1)]) rfl ?_
  unfold m_CX_base at hf
  refine v_aload_n g dk_0_base_0 0 rfl rfl (pc' := 1) rfl ?_
  refine gfC_X_12 g hK dk_0_base_1 (pc' := 4) rfl ?_
  refine v_iload_n g dk_0_base_4 1 rfl rfl (pc' := 5) rfl ?_
  obtain ⟨q1, hq, hf⟩ := bnd hf
  refine v_callV_i (As := [.int x1]) (rest := []) (r := q1) (S1 := S) g hK hA (c_CSettings_baseOf hq) (kcC_X_83 g.2.2.2.2 rfl rfl (Nat.le_of_ble_eq_true rfl) (Nat.le_of_ble_eq_true rfl)) (ci := 8) (q0 := 1) rfl rfl rfl rfl rfl (Nat.le_of_ble_eq_true rfl) dk_0_base_5 (Nat.zero_le _) (Nat.zero_le _) (pc' := 8) rfl ?_
  exact v_iret g hr hlk hK  (pinj hf) dk_0_base_8
abbrev rm_CPlatforms_put : Room := { frames := 0, cells := 0, slots := 0, locals := 0 }
def m_CPlatforms_put (S : StC) (x1 : Int32) (x2 : Int32) (x3 : Int32) : Option StC :=
  if inb ((x1 * (8 : Int32)) + x2) 64 = true then some (tA S 3 ((x1 * (8 : Int32)) + x2) x3) else none
set_option maxHeartbeats 4000000 in
set_option maxRecDepth 100000 in
theorem c_CPlatforms_put {l : Launch} {D : va_G} {ad : Nat → Nat} {ca : Nat → ClassId} {S : StC} {x1 : Int32} {x2 : Int32} {x3 : Int32} {r : StC} (hf : m_CPlatforms_put S x1 x2 x3 = some r) : KVC l D ad ca yk_9_put (.code yk_9_put bk_9_put 4 none :: tb) rm_CPlatforms_put [.ref (ad 5), .int x1, .int x2, .int x3] S r := by
  refine met_v (by decide) (Nat.le_of_ble_eq_true rfl) (fun p e s m below meth c A g hr hlk hK hA => ?_)
  replace g : CallFix p m c bk_9_put 4 s _ tb Rk_9 := g
  refine v_lv (lv' := [(0, .ref (ad 5)), (1, .int x1), (2, .int x2), (3, .int x3)]) rfl ?_
  unfold m_CPlatforms_put at hf
  refine v_aload_n g dk_9_put_0 0 rfl rfl (pc' := 1) rfl ?_
  refine gfC_Platforms_9 g hK dk_9_put_1 (pc' := 4) rfl ?_
  refine v_iload_n g dk_9_put_4 1 rfl rfl (pc' := 5) rfl ?_
  refine v_bipush (v := 8) g dk_9_put_5 (by decide) (pc' := 7) rfl ?_
  refine v_imul g dk_9_put_7 (pc' := 8) rfl ?_
  refine v_iload_n g dk_9_put_8 2 rfl rfl (pc' := 9) rfl ?_
  refine v_iadd g dk_9_put_9 (pc' := 10) rfl ?_
  refine v_iload_n g dk_9_put_10 3 rfl rfl (pc' := 11) rfl ?_
  obtain ⟨hb1, hf⟩ := grd hf
  refine asC_6 g hK hb1 dk_9_put_11 (pc' := 12) rfl ?_
  exact v_vret g hr hlk hK  (Option.some.inj hf) dk_9_put_12
abbrev rm_CPlatforms_add : Room := { frames := 1, cells := 0, slots := 0, locals := 23 }
def L_CPlatforms_add_13 : Nat → StC → Int32 → Option (StC)
  | 0, _, _ => none
  | n + 1, S, x1 =>
    if 8 ≤ x1 then some S
    else (m_CPlatforms_put S (gI S 1) x1 (-1)).bind fun q1 =>
    L_CPlatforms_add_13 n q1 (x1 + 1)
set_option maxHeartbeats 4000000 in
set_option maxRecDepth 100000 in
theorem w_CPlatforms_add_13 {p : Program} {l : Launch} {e : Env} {s : State} {m : MethodId} {args : Array Value} {below : List Frame} {meth : Method} {c : Code} {A : Nat → Prop} {D : va_G} {ad : Nat → Nat} {ca : Nat → ClassId} {Rm : Int32 × StC} (g : CallFix p m c bk_9_add 2 s args tb Rk_9) (hr : meth.sig.returnType = some .int) (hlk : meth.locks = false) (hK : va_K D vwCl (tyC ca) s) (hA : ∀ q, s.heap.size ≤ q → A q) : ∀ (n : Nat) (S : StC) (x1 : Int32) (o : StC), L_CPlatforms_add_13 n S x1 = some o → (Vj p l e rm_CPlatforms_add s m args below meth c (MQ below (qI D vwCl (tyC ca) (wdC ad ca) A Rm) args s 0 0 A) D vwCl A 2 0 0 (wdC ad ca o) 35 [(0, .ref (ad 5))] []) → Vj p l e rm_CPlatforms_add s m args below meth c (MQ below (qI D vwCl (tyC ca) (wdC ad ca) A Rm) args s 0 0 A) D vwCl A 2 0 0 (wdC ad ca S) 13 [(0, .ref (ad 5)), (1, .int x1)] [] := by
  intro n
  induction n with
  | zero => intro S x1 o hf; exact nomatch (show none = some o from hf)
  | succ n ih =>
    intro S x1 o hf hx
    rw [L_CPlatforms_add_13] at hf
    refine v_iload_n g dk_9_add_13 1 rfl rfl (pc' := 14) rfl ?_
    refine v_bipush (v := 8) g dk_9_add_14 (by decide) (pc' := 16) rfl ?_
    refine v_icmp_ge (tgt := 35) (pc' := 19) g dk_9_add_16 (by decide) rfl (fun hc => ?_) (fun hc => ?_)
    · replace hf := ifT hc hf
      refine v_sub [0] rfl ?_
      have e9 := Option.some.inj hf
      subst e9
      exact hx
    · replace hf := ifF hc hf
      refine v_aload_n g dk_9_add_19 0 rfl rfl (pc' := 20) rfl ?_
      refine v_aload_n g dk_9_add_20 0 rfl rfl (pc' := 21) rfl ?_
      refine gfC_Platforms_15 g hK dk_9_add_21 (pc' := 24) rfl ?_
      refine v_iload_n g dk_9_add_24 1 rfl rfl (pc' := 25) rfl ?_
      refine v_iconst (v := (-1)) g dk_9_add_25 (by decide) (pc' := 26) rfl ?_
      obtain ⟨q1, hq, hf⟩ := bnd hf
      refine v_callV_v (As := [.int (gI S 1), .int x1, .int (-1)]) (rest := []) (S1 := q1) g hK hA (c_CPlatforms_put hq) (kcC_Platforms_19 g.2.2.2.2 rfl rfl (Nat.le_of_ble_eq_true rfl) (Nat.le_of_ble_eq_true rfl)) (ci := 6) (q0 := 5) rfl rfl rfl rfl rfl (Nat.le_of_ble_eq_true rfl) dk_9_add_26 (Nat.zero_le _) (Nat.zero_le _) (pc' := 29) rfl ?_
      refine v_iinc (j := 1) (v := x1 + 1) (lv' := [(1, .int (x1 + 1)), (0, .ref (ad 5))]) g dk_9_add_29 rfl rfl (by decide) rfl (pc' := 32) rfl ?_
      refine v_goto (tgt := 13) g dk_9_add_32 (by decide) ?_
      refine v_sub [1, 0] rfl ?_
      exact ih q1 (x1 + 1) o hf hx
def m_CPlatforms_add (S : StC) : Option (Int32 × StC) :=
  if (gI S 1) < 8 then (L_CPlatforms_add_13 100 S 0).bind fun y3 =>
    some (gI y3 1, sI y3 1 ((gI y3 1) + (1 : Int32)))
    else some ((-1), S)
set_option maxHeartbeats 4000000 in
set_option maxRecDepth 100000 in
theorem c_CPlatforms_add {l : Launch} {D : va_G} {ad : Nat → Nat} {ca : Nat → ClassId} {S : StC} {r : Int32 × StC} (hf : m_CPlatforms_add S = some r) : KIC l D ad ca yk_9_add (.code yk_9_add bk_9_add 2 (some .int) :: tb) rm_CPlatforms_add [.ref (ad 5)] S r := by
  refine met_i (by decide) (Nat.le_of_ble_eq_true rfl) (fun p e s m below meth c A g hr hlk hK hA => ?_)
  replace g : CallFix p m c bk_9_add 2 s _ tb Rk_9 := g
  refine v_lv (lv' := [(0, .ref (ad 5))]) rfl ?_
  unfold m_CPlatforms_add at hf
  refine v_aload_n g dk_9_add_0 0 rfl rfl (pc' := 1) rfl ?_
  refine gfC_Platforms_15 g hK dk_9_add_1 (pc' := 4) rfl ?_
  refine v_bipush (v := 8) g dk_9_add_4 (by decide) (pc' := 6) rfl ?_
  refine v_icmp_lt (tgt := 11) (pc' := 9) g dk_9_add_6 (by decide) rfl (fun hc => ?_) (fun hc => ?_)
  · replace hf := ifT hc hf
    refine v_iconst (v := 0) g dk_9_add_11 (by decide) (pc' := 12) rfl ?_
    refine v_istore_n (lv' := [(1, .int 0), (0, .ref (ad 5))]) g dk_9_add_12 rfl (by decide) rfl (pc' := 13) rfl ?_
    refine v_sub [1, 0] rfl ?_
    obtain ⟨y3, hL, hf⟩ := bnd hf
    refine w_CPlatforms_add_13 g hr hlk hK hA 100 S 0 _ hL ?_
    refine v_aload_n g dk_9_add_35 0 rfl rfl (pc' := 36) rfl ?_
    refine v_dup g dk_9_add_36 rfl (pc' := 37) rfl ?_
    refine gfC_Platforms_15 g hK dk_9_add_37 (pc' := 40) rfl ?_
    refine v_dup_x1 g dk_9_add_40 rfl rfl (pc' := 41) rfl ?_
    refine v_iconst (v := 1) g dk_9_add_41 (by decide) (pc' := 42) rfl ?_
    refine v_iadd g dk_9_add_42 (pc' := 43) rfl ?_
    refine pfC_Platforms_15 g hK dk_9_add_43 (pc' := 46) rfl ?_
    exact v_iret g hr hlk hK  (Option.some.inj hf) dk_9_add_46
  · replace hf := ifF hc hf
    refine v_iconst (v := (-1)) g dk_9_add_9 (by decide) (pc' := 10) rfl ?_
    exact v_iret g hr hlk hK  (Option.some.inj hf) dk_9_add_10
abbrev rm_CX_platform : Room := { frames := 2, cells := 0, slots := 0, locals := 44 }
def m_CX_platform (S : StC) : Option (Int32 × StC) :=
  (m_CPlatforms_add S).bind fun q1 =>
    some (q1.1, q1.2)
set_option maxHeartbeats 4000000 in
set_option maxRecDepth 100000 in
theorem c_CX_platform {l : Launch} {D : va_G} {ad : Nat → Nat} {ca : Nat → ClassId} {S : StC} {r : Int32 × StC} (hf : m_CX_platform S = some r) : KIC l D ad ca yk_0_platform (.code yk_0_platform bk_0_platform 1 (some .int) :: tb) rm_CX_platform [.ref (ad 0)] S r := by
  refine met_i (by decide) (Nat.le_of_ble_eq_true rfl) (fun p e s m below meth c A g hr hlk hK hA => ?_)
  replace g : CallFix p m c bk_0_platform 1 s _ tb Rk_0 := g
  refine v_lv (lv' := [(0, .ref (ad 0))]) rfl ?_
  unfold m_CX_platform at hf
  refine v_aload_n g dk_0_platform_0 0 rfl rfl (pc' := 1) rfl ?_
  refine gfC_X_19 g hK dk_0_platform_1 (pc' := 4) rfl ?_
  obtain ⟨q1, hq, hf⟩ := bnd hf
  refine v_callV_i (As := []) (rest := []) (r := q1.1) (S1 := q1.2) g hK hA (c_CPlatforms_add hq) (kcC_X_87 g.2.2.2.2 rfl rfl (Nat.le_of_ble_eq_true rfl) (Nat.le_of_ble_eq_true rfl)) (ci := 6) (q0 := 5) rfl rfl rfl rfl rfl (Nat.le_of_ble_eq_true rfl) dk_0_platform_4 (Nat.zero_le _) (Nat.zero_le _) (pc' := 7) rfl ?_
  exact v_iret g hr hlk hK  (Option.some.inj hf) dk_0_platform_7
abbrev rm_CPlatforms_isThere : Room := { frames := 0, cells := 0, slots := 0, locals := 0 }
def m_CPlatforms_isThere (S : StC) (x1 : Int32) : Option Int32 :=
  if x1 < 0 then some 0
    else if (gI S 1) ≤ x1 then some 0
    else some 1
set_option maxHeartbeats 4000000 in
set_option maxRecDepth 100000 in
theorem c_CPlatforms_isThere {l : Launch} {D : va_G} {ad : Nat → Nat} {ca : Nat → ClassId} {S : StC} {x1 : Int32} {r : Int32} (hf : m_CPlatforms_isThere S x1 = some r) : KIC l D ad ca yk_9_isThere (.code yk_9_isThere bk_9_isThere 2 (some .boolean) :: tb) rm_CPlatforms_isThere [.ref (ad 5), .int x1] S (r, S) := by
  refine met_z (by decide) (Nat.le_of_ble_eq_true rfl) (fun p e s m below meth c A g hr hlk hK hA => ?_)
  replace g : CallFix p m c bk_9_isThere 2 s _ tb Rk_9 := g
  refine v_lv (lv' := [(0, .ref (ad 5)), (1, .int x1)]) rfl ?_
  unfold m_CPlatforms_isThere at hf
  refine v_iload_n g dk_9_isThere_0 1 rfl rfl (pc' := 1) rfl ?_
  refine v_if_lt (tgt := 16) (pc' := 4) g dk_9_isThere_1 (by decide) rfl (fun hc => ?_) (fun hc => ?_)
  · replace hf := ifT hc hf
    refine v_iconst (v := 0) g dk_9_isThere_16 (by decide) (pc' := 17) rfl ?_
    exact v_zret g hr hlk hK rfl (pinj hf) dk_9_isThere_17
  · replace hf := ifF hc hf
    refine v_iload_n g dk_9_isThere_4 1 rfl rfl (pc' := 5) rfl ?_
    refine v_aload_n g dk_9_isThere_5 0 rfl rfl (pc' := 6) rfl ?_
    refine gfC_Platforms_15 g hK dk_9_isThere_6 (pc' := 9) rfl ?_
    refine v_icmp_ge (tgt := 16) (pc' := 12) g dk_9_isThere_9 (by decide) rfl (fun hc => ?_) (fun hc => ?_)
    · replace hf := ifT hc hf
      refine v_iconst (v := 0) g dk_9_isThere_16 (by decide) (pc' := 17) rfl ?_
      exact v_zret g hr hlk hK rfl (pinj hf) dk_9_isThere_17
    · replace hf := ifF hc hf
      refine v_iconst (v := 1) g dk_9_isThere_12 (by decide) (pc' := 13) rfl ?_
      refine v_goto (tgt := 17) g dk_9_isThere_13 (by decide) ?_
      exact v_zret g hr hlk hK rfl (pinj hf) dk_9_isThere_17
abbrev rm_CX_isAxis : Room := { frames := 0, cells := 0, slots := 0, locals := 0 }
def m_CX_isAxis (S : StC) (x0 : Int32) : Option Int32 :=
  if x0 < 0 then some 0
    else if 8 ≤ x0 then some 0
    else some 1
set_option maxHeartbeats 4000000 in
set_option maxRecDepth 100000 in
theorem c_CX_isAxis {l : Launch} {D : va_G} {ad : Nat → Nat} {ca : Nat → ClassId} {S : StC} {x0 : Int32} {r : Int32} (hf : m_CX_isAxis S x0 = some r) : KIC l D ad ca yk_0_isAxis (.code yk_0_isAxis bk_0_isAxis 1 (some .boolean) :: tb) rm_CX_isAxis [.int x0] S (r, S) := by
  refine met_z (by decide) (Nat.le_of_ble_eq_true rfl) (fun p e s m below meth c A g hr hlk hK hA => ?_)
  replace g : CallFix p m c bk_0_isAxis 1 s _ tb Rk_0 := g
  refine v_lv (lv' := [(0, .int x0)]) rfl ?_
  unfold m_CX_isAxis at hf
  refine v_iload_n g dk_0_isAxis_0 0 rfl rfl (pc' := 1) rfl ?_
  refine v_if_lt (tgt := 14) (pc' := 4) g dk_0_isAxis_1 (by decide) rfl (fun hc => ?_) (fun hc => ?_)
  · replace hf := ifT hc hf
    refine v_iconst (v := 0) g dk_0_isAxis_14 (by decide) (pc' := 15) rfl ?_
    exact v_zret g hr hlk hK rfl (pinj hf) dk_0_isAxis_15
  · replace hf := ifF hc hf
    refine v_iload_n g dk_0_isAxis_4 0 rfl rfl (pc' := 5) rfl ?_
    refine v_bipush (v := 8) g dk_0_isAxis_5 (by decide) (pc' := 7) rfl ?_
    refine v_icmp_ge (tgt := 14) (pc' := 10) g dk_0_isAxis_7 (by decide) rfl (fun hc => ?_) (fun hc => ?_)
    · replace hf := ifT hc hf
      refine v_iconst (v := 0) g dk_0_isAxis_14 (by decide) (pc' := 15) rfl ?_
      exact v_zret g hr hlk hK rfl (pinj hf) dk_0_isAxis_15
    · replace hf := ifF hc hf
      refine v_iconst (v := 1) g dk_0_isAxis_10 (by decide) (pc' := 11) rfl ?_
      refine v_goto (tgt := 15) g dk_0_isAxis_11 (by decide) ?_
      exact v_zret g hr hlk hK rfl (pinj hf) dk_0_isAxis_15
abbrev rm_CX_isValue : Room := { frames := 0, cells := 0, slots := 0, locals := 0 }
def m_CX_isValue (S : StC) (x0 : Int32) : Option Int32 :=
  if x0 < 0 then some 0
    else if 8 ≤ x0 then some 0
    else some 1
set_option maxHeartbeats 4000000 in
set_option maxRecDepth 100000 in
theorem c_CX_isValue {l : Launch} {D : va_G} {ad : Nat → Nat} {ca : Nat → ClassId} {S : StC} {x0 : Int32} {r : Int32} (hf : m_CX_isValue S x0 = some r) : KIC l D ad ca yk_0_isValue (.code yk_0_isValue bk_0_isValue 1 (some .boolean) :: tb) rm_CX_isValue [.int x0] S (r, S) := by
  refine met_z (by decide) (Nat.le_of_ble_eq_true rfl) (fun p e s m below meth c A g hr hlk hK hA => ?_)
  replace g : CallFix p m c bk_0_isValue 1 s _ tb Rk_0 := g
  refine v_lv (lv' := [(0, .int x0)]) rfl ?_
  unfold m_CX_isValue at hf
  refine v_iload_n g dk_0_isValue_0 0 rfl rfl (pc' := 1) rfl ?_
  refine v_if_lt (tgt := 14) (pc' := 4) g dk_0_isValue_1 (by decide) rfl (fun hc => ?_) (fun hc => ?_)
  · replace hf := ifT hc hf
    refine v_iconst (v := 0) g dk_0_isValue_14 (by decide) (pc' := 15) rfl ?_
    exact v_zret g hr hlk hK rfl (pinj hf) dk_0_isValue_15
  · replace hf := ifF hc hf
    refine v_iload_n g dk_0_isValue_4 0 rfl rfl (pc' := 5) rfl ?_
    refine v_bipush (v := 8) g dk_0_isValue_5 (by decide) (pc' := 7) rfl ?_
    refine v_icmp_ge (tgt := 14) (pc' := 10) g dk_0_isValue_7 (by decide) rfl (fun hc => ?_) (fun hc => ?_)
    · replace hf := ifT hc hf
      refine v_iconst (v := 0) g dk_0_isValue_14 (by decide) (pc' := 15) rfl ?_
      exact v_zret g hr hlk hK rfl (pinj hf) dk_0_isValue_15
    · replace hf := ifF hc hf
      refine v_iconst (v := 1) g dk_0_isValue_10 (by decide) (pc' := 11) rfl ?_
      refine v_goto (tgt := 15) g dk_0_isValue_11 (by decide) ?_
      exact v_zret g hr hlk hK rfl (pinj hf) dk_0_isValue_15
abbrev rm_CCodes_platformIn : Room := { frames := 0, cells := 0, slots := 0, locals := 0 }
def m_CCodes_platformIn (S : StC) (x0 : Int64) : Option Int32 :=
  some (((x0.toUInt64 >>> ((48 : Int32).toInt64.toUInt64 &&& Int64.toUInt64 63)).toInt64).toInt32)
set_option maxHeartbeats 4000000 in
set_option maxRecDepth 100000 in
theorem c_CCodes_platformIn {l : Launch} {D : va_G} {ad : Nat → Nat} {ca : Nat → ClassId} {S : StC} {x0 : Int64} {r : Int32} (hf : m_CCodes_platformIn S x0 = some r) : KIC l D ad ca yk_4_platformIn (.code yk_4_platformIn bk_4_platformIn 2 (some .int) :: tb) rm_CCodes_platformIn [.long x0] S (r, S) := by
  refine met_i (by decide) (Nat.le_of_ble_eq_true rfl) (fun p e s m below meth c A g hr hlk hK hA => ?_)
  replace g : CallFix p m c bk_4_platformIn 2 s _ tb Rk_4 := g
  refine v_lv (lv' := [(0, .long x0)]) rfl ?_
  unfold m_CCodes_platformIn at hf
  refine v_lload_n g dk_4_platformIn_0 0 rfl rfl (pc' := 1) rfl ?_
  refine v_bipush (v := 48) g dk_4_platformIn_1 (by decide) (pc' := 3) rfl ?_
  refine v_lushr g dk_4_platformIn_3 (pc' := 4) rfl ?_
  refine v_l2i g dk_4_platformIn_4 (pc' := 5) rfl ?_
  exact v_iret g hr hlk hK  (pinj hf) dk_4_platformIn_5
end
section
abbrev rm_CConfigurations_anyOn : Room := { frames := 1, cells := 0, slots := 0, locals := 21 }
def L_CConfigurations_anyOn_2 (S : StC) (x1 : Int32) : Nat → Int32 → Option (Unit ⊕ Int32)
  | 0, _ => none
  | n + 1, x2 =>
    if (gI S 2) ≤ x2 then some (.inl ())
    else if inb x2 60 = true then (m_CCodes_platformIn S (gB S 0 x2.toNatClampNeg)).bind fun q2 =>
    if q2 = x1 then some (.inr 1)
    else L_CConfigurations_anyOn_2 S x1 n (x2 + 1) else none
set_option maxHeartbeats 4000000 in
set_option maxRecDepth 100000 in
theorem w_CConfigurations_anyOn_2 {p : Program} {l : Launch} {e : Env} {s : State} {m : MethodId} {args : Array Value} {below : List Frame} {meth : Method} {c : Code} {A : Nat → Prop} {D : va_G} {ad : Nat → Nat} {ca : Nat → ClassId} {Rm : Int32 × StC} {S : StC} {x1 : Int32} (g : CallFix p m c bk_6_anyOn 3 s args tb Rk_6) (hr : meth.sig.returnType = some .boolean) (hlk : meth.locks = false) (hK : va_K D vwCl (tyC ca) s) (hA : ∀ q, s.heap.size ≤ q → A q) : ∀ (n : Nat) (x2 : Int32) (o : Unit ⊕ Int32), L_CConfigurations_anyOn_2 S x1 n x2 = some o → (∀ y, o = .inl y → Vj p l e rm_CConfigurations_anyOn s m args below meth c (MQ below (qI D vwCl (tyC ca) (wdC ad ca) A Rm) args s 0 0 A) D vwCl A 3 0 0 (wdC ad ca S) 31 [] []) → (∀ r, o = .inr r → (r, S) = Rm) → Vj p l e rm_CConfigurations_anyOn s m args below meth c (MQ below (qI D vwCl (tyC ca) (wdC ad ca) A Rm) args s 0 0 A) D vwCl A 3 0 0 (wdC ad ca S) 2 [(0, .ref (ad 7)), (1, .int x1), (2, .int x2)] [] := by
  intro n
  induction n with
  | zero => intro x2 o hf; exact nomatch (show none = some o from hf)
  | succ n ih =>
    intro x2 o hf hx hret
    rw [L_CConfigurations_anyOn_2] at hf
    refine v_iload_n g dk_6_anyOn_2 2 rfl rfl (pc' := 3) rfl ?_
    refine v_aload_n g dk_6_anyOn_3 0 rfl rfl (pc' := 4) rfl ?_
    refine gfC_Configurations_15 g hK dk_6_anyOn_4 (pc' := 7) rfl ?_
    refine v_icmp_ge (tgt := 31) (pc' := 10) g dk_6_anyOn_7 (by decide) rfl (fun hc => ?_) (fun hc => ?_)
    · replace hf := ifT hc hf
      refine v_sub [] rfl ?_
      exact hx _ (Option.some.inj hf).symm
    · replace hf := ifF hc hf
      refine v_aload_n g dk_6_anyOn_10 0 rfl rfl (pc' := 11) rfl ?_
      refine gfC_Configurations_9 g hK dk_6_anyOn_11 (pc' := 14) rfl ?_
      refine v_iload_n g dk_6_anyOn_14 2 rfl rfl (pc' := 15) rfl ?_
      obtain ⟨hb1, hf⟩ := grd hf
      refine alC_8 g hK hb1 dk_6_anyOn_15 (pc' := 16) rfl ?_
      obtain ⟨q2, hq, hf⟩ := bnd hf
      refine v_callS_i (As := [.long (gB S 0 x2.toNatClampNeg)]) (rest := []) (r := q2) (S1 := S) g hK hA (c_CCodes_platformIn hq) (kcC_Configurations_19 g.2.2.2.2 rfl rfl (Nat.le_of_ble_eq_true rfl) (Nat.le_of_ble_eq_true rfl)) rfl rfl (Nat.le_of_ble_eq_true rfl) dk_6_anyOn_16 (Nat.zero_le _) (Nat.zero_le _) (pc' := 19) rfl ?_
      refine v_iload_n g dk_6_anyOn_19 1 rfl rfl (pc' := 20) rfl ?_
      refine v_icmp_ne (tgt := 25) (pc' := 23) g dk_6_anyOn_20 (by decide) rfl (fun hc => ?_) (fun hc => ?_)
      · replace hf := ifF hc hf
        refine v_iinc (j := 2) (v := x2 + 1) (lv' := [(2, .int (x2 + 1)), (0, .ref (ad 7)), (1, .int x1)]) g dk_6_anyOn_25 rfl rfl (by decide) rfl (pc' := 28) rfl ?_
        refine v_goto (tgt := 2) g dk_6_anyOn_28 (by decide) ?_
        refine v_sub [1, 2, 0] rfl ?_
        exact ih (x2 + 1) o hf hx hret
      · replace hf := ifT hc hf
        refine v_iconst (v := 1) g dk_6_anyOn_23 (by decide) (pc' := 24) rfl ?_
        exact v_zret g hr hlk hK rfl (hret _ (Option.some.inj hf).symm) dk_6_anyOn_24
def m_CConfigurations_anyOn (S : StC) (x1 : Int32) : Option Int32 :=
  (L_CConfigurations_anyOn_2 S x1 100 0).bind fun o3 => exK o3 fun y4 =>
    some 0
set_option maxHeartbeats 4000000 in
set_option maxRecDepth 100000 in
theorem c_CConfigurations_anyOn {l : Launch} {D : va_G} {ad : Nat → Nat} {ca : Nat → ClassId} {S : StC} {x1 : Int32} {r : Int32} (hf : m_CConfigurations_anyOn S x1 = some r) : KIC l D ad ca yk_6_anyOn (.code yk_6_anyOn bk_6_anyOn 3 (some .boolean) :: tb) rm_CConfigurations_anyOn [.ref (ad 7), .int x1] S (r, S) := by
  refine met_z (by decide) (Nat.le_of_ble_eq_true rfl) (fun p e s m below meth c A g hr hlk hK hA => ?_)
  replace g : CallFix p m c bk_6_anyOn 3 s _ tb Rk_6 := g
  refine v_lv (lv' := [(0, .ref (ad 7)), (1, .int x1)]) rfl ?_
  unfold m_CConfigurations_anyOn at hf
  refine v_iconst (v := 0) g dk_6_anyOn_0 (by decide) (pc' := 1) rfl ?_
  refine v_istore_n (lv' := [(2, .int 0), (0, .ref (ad 7)), (1, .int x1)]) g dk_6_anyOn_1 rfl (by decide) rfl (pc' := 2) rfl ?_
  refine v_sub [1, 2, 0] rfl ?_
  obtain ⟨o3, hL, hf⟩ := bnd hf
  refine w_CConfigurations_anyOn_2 g hr hlk hK hA 100 0 _ hL (fun y4 hy => ?_) (fun r9 hy => ?_)
  · subst hy
    replace hf := exKl hf
    refine v_iconst (v := 0) g dk_6_anyOn_31 (by decide) (pc' := 32) rfl ?_
    exact v_zret g hr hlk hK rfl (pinj hf) dk_6_anyOn_32
  · subst hy
    exact pinj hf
abbrev rm_CX_has : Room := { frames := 2, cells := 0, slots := 0, locals := 43 }
def m_CX_has (S : StC) (x1 : Int32) (x2 : Int32) (x3 : Int32) : Option (Int32 × StC) :=
  (m_CPlatforms_isThere S x1).bind fun q1 =>
    if q1 = 0 then some (0, S)
    else (m_CX_isAxis S x2).bind fun q2 =>
    if q2 = 0 then some (0, S)
    else if x3 = (-1) then (m_CConfigurations_anyOn S x1).bind fun q3 =>
    if q3 = 0 then (m_CPlatforms_put S x1 x2 x3).bind fun q4 =>
    some (1, q4)
    else some (0, S)
    else (m_CX_isValue S x3).bind fun q5 =>
    if q5 = 0 then some (0, S)
    else (m_CConfigurations_anyOn S x1).bind fun q6 =>
    if q6 = 0 then (m_CPlatforms_put S x1 x2 x3).bind fun q7 =>
    some (1, q7)
    else some (0, S)
set_option maxHeartbeats 4000000 in
set_option maxRecDepth 100000 in
theorem c_CX_has {l : Launch} {D : va_G} {ad : Nat → Nat} {ca : Nat → ClassId} {S : StC} {x1 : Int32} {x2 : Int32} {x3 : Int32} {r : Int32 × StC} (hf : m_CX_has S x1 x2 x3 = some r) : KIC l D ad ca yk_0_has (.code yk_0_has bk_0_has 4 (some .boolean) :: tb) rm_CX_has [.ref (ad 0), .int x1, .int x2, .int x3] S r := by
  refine met_z (by decide) (Nat.le_of_ble_eq_true rfl) (fun p e s m below meth c A g hr hlk hK hA => ?_)
  replace g : CallFix p m c bk_0_has 4 s _ tb Rk_0 := g
  refine v_lv (lv' := [(0, .ref (ad 0)), (1, .int x1), (2, .int x2), (3, .int x3)]) rfl ?_
  unfold m_CX_has at hf
  refine v_aload_n g dk_0_has_0 0 rfl rfl (pc' := 1) rfl ?_
  refine gfC_X_19 g hK dk_0_has_1 (pc' := 4) rfl ?_
  refine v_iload_n g dk_0_has_4 1 rfl rfl (pc' := 5) rfl ?_
  obtain ⟨q1, hq, hf⟩ := bnd hf
  refine v_callV_i (As := [.int x1]) (rest := []) (r := q1) (S1 := S) g hK hA (c_CPlatforms_isThere hq) (kcC_X_90 g.2.2.2.2 rfl rfl (Nat.le_of_ble_eq_true rfl) (Nat.le_of_ble_eq_true rfl)) (ci := 6) (q0 := 5) rfl rfl rfl rfl rfl (Nat.le_of_ble_eq_true rfl) dk_0_has_5 (Nat.zero_le _) (Nat.zero_le _) (pc' := 8) rfl ?_
  refine v_if_eq (tgt := 18) (pc' := 11) g dk_0_has_8 (by decide) rfl (fun hc => ?_) (fun hc => ?_)
  · replace hf := ifT hc hf
    refine v_iconst (v := 0) g dk_0_has_18 (by decide) (pc' := 19) rfl ?_
    exact v_zret g hr hlk hK rfl (Option.some.inj hf) dk_0_has_19
  · replace hf := ifF hc hf
    refine v_iload_n g dk_0_has_11 2 rfl rfl (pc' := 12) rfl ?_
    obtain ⟨q2, hq, hf⟩ := bnd hf
    refine v_callS_i (As := [.int x2]) (rest := []) (r := q2) (S1 := S) g hK hA (c_CX_isAxis hq) (kcC_X_94 g.2.2.2.2 rfl rfl (Nat.le_of_ble_eq_true rfl) (Nat.le_of_ble_eq_true rfl)) rfl rfl (Nat.le_of_ble_eq_true rfl) dk_0_has_12 (Nat.zero_le _) (Nat.zero_le _) (pc' := 15) rfl ?_
    refine v_if_ne (tgt := 20) (pc' := 18) g dk_0_has_15 (by decide) rfl (fun hc => ?_) (fun hc => ?_)
    · replace hf := ifF hc hf
      refine v_iload_n g dk_0_has_20 3 rfl rfl (pc' := 21) rfl ?_
      refine v_iconst (v := (-1)) g dk_0_has_21 (by decide) (pc' := 22) rfl ?_
      refine v_icmp_eq (tgt := 32) (pc' := 25) g dk_0_has_22 (by decide) rfl (fun hc => ?_) (fun hc => ?_)
      · replace hf := ifT hc hf
        refine v_aload_n g dk_0_has_32 0 rfl rfl (pc' := 33) rfl ?_
        refine gfC_X_26 g hK dk_0_has_33 (pc' := 36) rfl ?_
        refine v_iload_n g dk_0_has_36 1 rfl rfl (pc' := 37) rfl ?_
        obtain ⟨q3, hq, hf⟩ := bnd hf
        refine v_callV_i (As := [.int x1]) (rest := []) (r := q3) (S1 := S) g hK hA (c_CConfigurations_anyOn hq) (kcC_X_100 g.2.2.2.2 rfl rfl (Nat.le_of_ble_eq_true rfl) (Nat.le_of_ble_eq_true rfl)) (ci := 3) (q0 := 7) rfl rfl rfl rfl rfl (Nat.le_of_ble_eq_true rfl) dk_0_has_37 (Nat.zero_le _) (Nat.zero_le _) (pc' := 40) rfl ?_
        refine v_if_eq (tgt := 45) (pc' := 43) g dk_0_has_40 (by decide) rfl (fun hc => ?_) (fun hc => ?_)
        · replace hf := ifT hc hf
          refine v_aload_n g dk_0_has_45 0 rfl rfl (pc' := 46) rfl ?_
          refine gfC_X_19 g hK dk_0_has_46 (pc' := 49) rfl ?_
          refine v_iload_n g dk_0_has_49 1 rfl rfl (pc' := 50) rfl ?_
          refine v_iload_n g dk_0_has_50 2 rfl rfl (pc' := 51) rfl ?_
          refine v_iload_n g dk_0_has_51 3 rfl rfl (pc' := 52) rfl ?_
          obtain ⟨q4, hq, hf⟩ := bnd hf
          refine v_callV_v (As := [.int x1, .int x2, .int x3]) (rest := []) (S1 := q4) g hK hA (c_CPlatforms_put hq) (kcC_X_103 g.2.2.2.2 rfl rfl (Nat.le_of_ble_eq_true rfl) (Nat.le_of_ble_eq_true rfl)) (ci := 6) (q0 := 5) rfl rfl rfl rfl rfl (Nat.le_of_ble_eq_true rfl) dk_0_has_52 (Nat.zero_le _) (Nat.zero_le _) (pc' := 55) rfl ?_
          refine v_iconst (v := 1) g dk_0_has_55 (by decide) (pc' := 56) rfl ?_
          exact v_zret g hr hlk hK rfl (Option.some.inj hf) dk_0_has_56
        · replace hf := ifF hc hf
          refine v_iconst (v := 0) g dk_0_has_43 (by decide) (pc' := 44) rfl ?_
          exact v_zret g hr hlk hK rfl (Option.some.inj hf) dk_0_has_44
      · replace hf := ifF hc hf
        refine v_iload_n g dk_0_has_25 3 rfl rfl (pc' := 26) rfl ?_
        obtain ⟨q5, hq, hf⟩ := bnd hf
        refine v_callS_i (As := [.int x3]) (rest := []) (r := q5) (S1 := S) g hK hA (c_CX_isValue hq) (kcC_X_97 g.2.2.2.2 rfl rfl (Nat.le_of_ble_eq_true rfl) (Nat.le_of_ble_eq_true rfl)) rfl rfl (Nat.le_of_ble_eq_true rfl) dk_0_has_26 (Nat.zero_le _) (Nat.zero_le _) (pc' := 29) rfl ?_
        refine v_if_eq (tgt := 43) (pc' := 32) g dk_0_has_29 (by decide) rfl (fun hc => ?_) (fun hc => ?_)
        · replace hf := ifT hc hf
          refine v_iconst (v := 0) g dk_0_has_43 (by decide) (pc' := 44) rfl ?_
          exact v_zret g hr hlk hK rfl (Option.some.inj hf) dk_0_has_44
        · replace hf := ifF hc hf
          refine v_aload_n g dk_0_has_32 0 rfl rfl (pc' := 33) rfl ?_
          refine gfC_X_26 g hK dk_0_has_33 (pc' := 36) rfl ?_
          refine v_iload_n g dk_0_has_36 1 rfl rfl (pc' := 37) rfl ?_
          obtain ⟨q6, hq, hf⟩ := bnd hf
          refine v_callV_i (As := [.int x1]) (rest := []) (r := q6) (S1 := S) g hK hA (c_CConfigurations_anyOn hq) (kcC_X_100 g.2.2.2.2 rfl rfl (Nat.le_of_ble_eq_true rfl) (Nat.le_of_ble_eq_true rfl)) (ci := 3) (q0 := 7) rfl rfl rfl rfl rfl (Nat.le_of_ble_eq_true rfl) dk_0_has_37 (Nat.zero_le _) (Nat.zero_le _) (pc' := 40) rfl ?_
          refine v_if_eq (tgt := 45) (pc' := 43) g dk_0_has_40 (by decide) rfl (fun hc => ?_) (fun hc => ?_)
          · replace hf := ifT hc hf
            refine v_aload_n g dk_0_has_45 0 rfl rfl (pc' := 46) rfl ?_
            refine gfC_X_19 g hK dk_0_has_46 (pc' := 49) rfl ?_
            refine v_iload_n g dk_0_has_49 1 rfl rfl (pc' := 50) rfl ?_
            refine v_iload_n g dk_0_has_50 2 rfl rfl (pc' := 51) rfl ?_
            refine v_iload_n g dk_0_has_51 3 rfl rfl (pc' := 52) rfl ?_
            obtain ⟨q7, hq, hf⟩ := bnd hf
            refine v_callV_v (As := [.int x1, .int x2, .int x3]) (rest := []) (S1 := q7) g hK hA (c_CPlatforms_put hq) (kcC_X_103 g.2.2.2.2 rfl rfl (Nat.le_of_ble_eq_true rfl) (Nat.le_of_ble_eq_true rfl)) (ci := 6) (q0 := 5) rfl rfl rfl rfl rfl (Nat.le_of_ble_eq_true rfl) dk_0_has_52 (Nat.zero_le _) (Nat.zero_le _) (pc' := 55) rfl ?_
            refine v_iconst (v := 1) g dk_0_has_55 (by decide) (pc' := 56) rfl ?_
            exact v_zret g hr hlk hK rfl (Option.some.inj hf) dk_0_has_56
          · replace hf := ifF hc hf
            refine v_iconst (v := 0) g dk_0_has_43 (by decide) (pc' := 44) rfl ?_
            exact v_zret g hr hlk hK rfl (Option.some.inj hf) dk_0_has_44
    · replace hf := ifT hc hf
      refine v_iconst (v := 0) g dk_0_has_18 (by decide) (pc' := 19) rfl ?_
      exact v_zret g hr hlk hK rfl (Option.some.inj hf) dk_0_has_19
abbrev rm_CConditions_add : Room := { frames := 0, cells := 0, slots := 0, locals := 0 }
def m_CConditions_add (S : StC) : Option (Int32 × StC) :=
  if (gI S 3) < 40 then some (gI S 3, sI S 3 ((gI S 3) + (1 : Int32)))
    else some ((-1), S)
set_option maxHeartbeats 4000000 in
set_option maxRecDepth 100000 in
theorem c_CConditions_add {l : Launch} {D : va_G} {ad : Nat → Nat} {ca : Nat → ClassId} {S : StC} {r : Int32 × StC} (hf : m_CConditions_add S = some r) : KIC l D ad ca yk_5_add (.code yk_5_add bk_5_add 1 (some .int) :: tb) rm_CConditions_add [.ref (ad 9)] S r := by
  refine met_i (by decide) (Nat.le_of_ble_eq_true rfl) (fun p e s m below meth c A g hr hlk hK hA => ?_)
  replace g : CallFix p m c bk_5_add 1 s _ tb Rk_5 := g
  refine v_lv (lv' := [(0, .ref (ad 9))]) rfl ?_
  unfold m_CConditions_add at hf
  refine v_aload_n g dk_5_add_0 0 rfl rfl (pc' := 1) rfl ?_
  refine gfC_Conditions_22 g hK dk_5_add_1 (pc' := 4) rfl ?_
  refine v_bipush (v := 40) g dk_5_add_4 (by decide) (pc' := 6) rfl ?_
  refine v_icmp_lt (tgt := 13) (pc' := 9) g dk_5_add_6 (by decide) rfl (fun hc => ?_) (fun hc => ?_)
  · replace hf := ifT hc hf
    refine v_aload_n g dk_5_add_13 0 rfl rfl (pc' := 14) rfl ?_
    refine v_dup g dk_5_add_14 rfl (pc' := 15) rfl ?_
    refine gfC_Conditions_22 g hK dk_5_add_15 (pc' := 18) rfl ?_
    refine v_dup_x1 g dk_5_add_18 rfl rfl (pc' := 19) rfl ?_
    refine v_iconst (v := 1) g dk_5_add_19 (by decide) (pc' := 20) rfl ?_
    refine v_iadd g dk_5_add_20 (pc' := 21) rfl ?_
    refine pfC_Conditions_22 g hK dk_5_add_21 (pc' := 24) rfl ?_
    exact v_iret g hr hlk hK  (Option.some.inj hf) dk_5_add_24
  · replace hf := ifF hc hf
    refine v_iconst (v := (-1)) g dk_5_add_9 (by decide) (pc' := 10) rfl ?_
    refine v_goto (tgt := 24) g dk_5_add_10 (by decide) ?_
    exact v_iret g hr hlk hK  (Option.some.inj hf) dk_5_add_24
abbrev rm_CX_condition : Room := { frames := 1, cells := 0, slots := 0, locals := 20 }
def m_CX_condition (S : StC) : Option (Int32 × StC) :=
  (m_CConditions_add S).bind fun q1 =>
    some (q1.1, q1.2)
set_option maxHeartbeats 4000000 in
set_option maxRecDepth 100000 in
theorem c_CX_condition {l : Launch} {D : va_G} {ad : Nat → Nat} {ca : Nat → ClassId} {S : StC} {r : Int32 × StC} (hf : m_CX_condition S = some r) : KIC l D ad ca yk_0_condition (.code yk_0_condition bk_0_condition 1 (some .int) :: tb) rm_CX_condition [.ref (ad 0)] S r := by
  refine met_i (by decide) (Nat.le_of_ble_eq_true rfl) (fun p e s m below meth c A g hr hlk hK hA => ?_)
  replace g : CallFix p m c bk_0_condition 1 s _ tb Rk_0 := g
  refine v_lv (lv' := [(0, .ref (ad 0))]) rfl ?_
  unfold m_CX_condition at hf
  refine v_aload_n g dk_0_condition_0 0 rfl rfl (pc' := 1) rfl ?_
  refine gfC_X_33 g hK dk_0_condition_1 (pc' := 4) rfl ?_
  obtain ⟨q1, hq, hf⟩ := bnd hf
  refine v_callV_i (As := []) (rest := []) (r := q1.1) (S1 := q1.2) g hK hA (c_CConditions_add hq) (kcC_X_107 g.2.2.2.2 rfl rfl (Nat.le_of_ble_eq_true rfl) (Nat.le_of_ble_eq_true rfl)) (ci := 2) (q0 := 9) rfl rfl rfl rfl rfl (Nat.le_of_ble_eq_true rfl) dk_0_condition_4 (Nat.zero_le _) (Nat.zero_le _) (pc' := 7) rfl ?_
  exact v_iret g hr hlk hK  (Option.some.inj hf) dk_0_condition_7
abbrev rm_CConditions_isThere : Room := { frames := 0, cells := 0, slots := 0, locals := 0 }
def m_CConditions_isThere (S : StC) (x1 : Int32) : Option Int32 :=
  if x1 < 0 then some 0
    else if (gI S 3) ≤ x1 then some 0
    else some 1
set_option maxHeartbeats 4000000 in
set_option maxRecDepth 100000 in
theorem c_CConditions_isThere {l : Launch} {D : va_G} {ad : Nat → Nat} {ca : Nat → ClassId} {S : StC} {x1 : Int32} {r : Int32} (hf : m_CConditions_isThere S x1 = some r) : KIC l D ad ca yk_5_isThere (.code yk_5_isThere bk_5_isThere 2 (some .boolean) :: tb) rm_CConditions_isThere [.ref (ad 9), .int x1] S (r, S) := by
  refine met_z (by decide) (Nat.le_of_ble_eq_true rfl) (fun p e s m below meth c A g hr hlk hK hA => ?_)
  replace g : CallFix p m c bk_5_isThere 2 s _ tb Rk_5 := g
  refine v_lv (lv' := [(0, .ref (ad 9)), (1, .int x1)]) rfl ?_
  unfold m_CConditions_isThere at hf
  refine v_iload_n g dk_5_isThere_0 1 rfl rfl (pc' := 1) rfl ?_
  refine v_if_lt (tgt := 16) (pc' := 4) g dk_5_isThere_1 (by decide) rfl (fun hc => ?_) (fun hc => ?_)
  · replace hf := ifT hc hf
    refine v_iconst (v := 0) g dk_5_isThere_16 (by decide) (pc' := 17) rfl ?_
    exact v_zret g hr hlk hK rfl (pinj hf) dk_5_isThere_17
  · replace hf := ifF hc hf
    refine v_iload_n g dk_5_isThere_4 1 rfl rfl (pc' := 5) rfl ?_
    refine v_aload_n g dk_5_isThere_5 0 rfl rfl (pc' := 6) rfl ?_
    refine gfC_Conditions_22 g hK dk_5_isThere_6 (pc' := 9) rfl ?_
    refine v_icmp_ge (tgt := 16) (pc' := 12) g dk_5_isThere_9 (by decide) rfl (fun hc => ?_) (fun hc => ?_)
    · replace hf := ifT hc hf
      refine v_iconst (v := 0) g dk_5_isThere_16 (by decide) (pc' := 17) rfl ?_
      exact v_zret g hr hlk hK rfl (pinj hf) dk_5_isThere_17
    · replace hf := ifF hc hf
      refine v_iconst (v := 1) g dk_5_isThere_12 (by decide) (pc' := 13) rfl ?_
      refine v_goto (tgt := 17) g dk_5_isThere_13 (by decide) ?_
      exact v_zret g hr hlk hK rfl (pinj hf) dk_5_isThere_17
abbrev rm_CAskings_codeOf : Room := { frames := 0, cells := 0, slots := 0, locals := 0 }
def m_CAskings_codeOf (S : StC) (x0 : Int32) (x1 : Int32) (x2 : Int32) : Option Int32 :=
  if x0 = 0 then some (((0 : Int32) + (x1 * (8 : Int32))) + x2)
    else some (((128 : Int32) + (x1 * (8 : Int32))) + x2)
set_option maxHeartbeats 4000000 in
set_option maxRecDepth 100000 in
theorem c_CAskings_codeOf {l : Launch} {D : va_G} {ad : Nat → Nat} {ca : Nat → ClassId} {S : StC} {x0 : Int32} {x1 : Int32} {x2 : Int32} {r : Int32} (hf : m_CAskings_codeOf S x0 x1 x2 = some r) : KIC l D ad ca yk_2_codeOf (.code yk_2_codeOf bk_2_codeOf 3 (some .int) :: tb) rm_CAskings_codeOf [.int x0, .int x1, .int x2] S (r, S) := by
  refine met_i (by decide) (Nat.le_of_ble_eq_true rfl) (fun p e s m below meth c A g hr hlk hK hA => ?_)
  replace g : CallFix p m c bk_2_codeOf 3 s _ tb Rk_2 := g
  refine v_lv (lv' := [(0, .int x0), (1, .int x1), (2, .int x2)]) rfl ?_
  unfold m_CAskings_codeOf at hf
  refine v_iload_n g dk_2_codeOf_0 0 rfl rfl (pc' := 1) rfl ?_
  refine v_if_eq (tgt := 10) (pc' := 4) g dk_2_codeOf_1 (by decide) rfl (fun hc => ?_) (fun hc => ?_)
  · replace hf := ifT hc hf
    refine v_iconst (v := 0) g dk_2_codeOf_10 (by decide) (pc' := 11) rfl ?_
    refine v_iload_n g dk_2_codeOf_11 1 rfl rfl (pc' := 12) rfl ?_
    refine v_bipush (v := 8) g dk_2_codeOf_12 (by decide) (pc' := 14) rfl ?_
    refine v_imul g dk_2_codeOf_14 (pc' := 15) rfl ?_
    refine v_iadd g dk_2_codeOf_15 (pc' := 16) rfl ?_
    refine v_iload_n g dk_2_codeOf_16 2 rfl rfl (pc' := 17) rfl ?_
    refine v_iadd g dk_2_codeOf_17 (pc' := 18) rfl ?_
    exact v_iret g hr hlk hK  (pinj hf) dk_2_codeOf_18
  · replace hf := ifF hc hf
    refine v_sipush (v := 128) g dk_2_codeOf_4 (by decide) (pc' := 7) rfl ?_
    refine v_goto (tgt := 11) g dk_2_codeOf_7 (by decide) ?_
    refine v_iload_n g dk_2_codeOf_11 1 rfl rfl (pc' := 12) rfl ?_
    refine v_bipush (v := 8) g dk_2_codeOf_12 (by decide) (pc' := 14) rfl ?_
    refine v_imul g dk_2_codeOf_14 (pc' := 15) rfl ?_
    refine v_iadd g dk_2_codeOf_15 (pc' := 16) rfl ?_
    refine v_iload_n g dk_2_codeOf_16 2 rfl rfl (pc' := 17) rfl ?_
    refine v_iadd g dk_2_codeOf_17 (pc' := 18) rfl ?_
    exact v_iret g hr hlk hK  (pinj hf) dk_2_codeOf_18
abbrev rm_CConditions_askingAt : Room := { frames := 0, cells := 0, slots := 0, locals := 0 }
def m_CConditions_askingAt (S : StC) (x1 : Int32) (x2 : Int32) : Option Int32 :=
  if inb ((x1 * (6 : Int32)) + x2) 240 = true then some (gA S 5 ((x1 * (6 : Int32)) + x2).toNatClampNeg) else none
set_option maxHeartbeats 4000000 in
set_option maxRecDepth 100000 in
theorem c_CConditions_askingAt {l : Launch} {D : va_G} {ad : Nat → Nat} {ca : Nat → ClassId} {S : StC} {x1 : Int32} {x2 : Int32} {r : Int32} (hf : m_CConditions_askingAt S x1 x2 = some r) : KIC l D ad ca yk_5_askingAt (.code yk_5_askingAt bk_5_askingAt 3 (some .int) :: tb) rm_CConditions_askingAt [.ref (ad 9), .int x1, .int x2] S (r, S) := by
  refine met_i (by decide) (Nat.le_of_ble_eq_true rfl) (fun p e s m below meth c A g hr hlk hK hA => ?_)
  replace g : CallFix p m c bk_5_askingAt 3 s _ tb Rk_5 := g
  refine v_lv (lv' := [(0, .ref (ad 9)), (1, .int x1), (2, .int x2)]) rfl ?_
  unfold m_CConditions_askingAt at hf
  refine v_aload_n g dk_5_askingAt_0 0 rfl rfl (pc' := 1) rfl ?_
  refine gfC_Conditions_15 g hK dk_5_askingAt_1 (pc' := 4) rfl ?_
  refine v_iload_n g dk_5_askingAt_4 1 rfl rfl (pc' := 5) rfl ?_
  refine v_bipush (v := 6) g dk_5_askingAt_5 (by decide) (pc' := 7) rfl ?_
  refine v_imul g dk_5_askingAt_7 (pc' := 8) rfl ?_
  refine v_iload_n g dk_5_askingAt_8 2 rfl rfl (pc' := 9) rfl ?_
  refine v_iadd g dk_5_askingAt_9 (pc' := 10) rfl ?_
  obtain ⟨hb1, hf⟩ := grd hf
  refine alC_11 g hK hb1 dk_5_askingAt_10 (pc' := 11) rfl ?_
  exact v_iret g hr hlk hK  (pinj hf) dk_5_askingAt_11
abbrev rm_CConditions_addAsking : Room := { frames := 1, cells := 0, slots := 0, locals := 22 }
def L_CConditions_addAsking_27 (S : StC) (x1 : Int32) (x2 : Int32) (x3 : Int32) : Nat → Int32 → Option (Unit ⊕ (Int32 × StC))
  | 0, _ => none
  | n + 1, x4 =>
    if x3 ≤ x4 then some (.inl ())
    else (m_CConditions_askingAt S x1 x4).bind fun q2 =>
    if q2 = x2 then some (.inr (0, S))
    else L_CConditions_addAsking_27 S x1 x2 x3 n (x4 + 1)
set_option maxHeartbeats 4000000 in
set_option maxRecDepth 100000 in
theorem w_CConditions_addAsking_27 {p : Program} {l : Launch} {e : Env} {s : State} {m : MethodId} {args : Array Value} {below : List Frame} {meth : Method} {c : Code} {A : Nat → Prop} {D : va_G} {ad : Nat → Nat} {ca : Nat → ClassId} {Rm : Int32 × StC} {S : StC} {x1 : Int32} {x2 : Int32} {x3 : Int32} (g : CallFix p m c bk_5_addAsking 5 s args tb Rk_5) (hr : meth.sig.returnType = some .boolean) (hlk : meth.locks = false) (hK : va_K D vwCl (tyC ca) s) (hA : ∀ q, s.heap.size ≤ q → A q) : ∀ (n : Nat) (x4 : Int32) (o : Unit ⊕ (Int32 × StC)), L_CConditions_addAsking_27 S x1 x2 x3 n x4 = some o → (∀ y, o = .inl y → Vj p l e rm_CConditions_addAsking s m args below meth c (MQ below (qI D vwCl (tyC ca) (wdC ad ca) A Rm) args s 0 0 A) D vwCl A 5 0 0 (wdC ad ca S) 52 [(0, .ref (ad 9)), (1, .int x1), (2, .int x2), (3, .int x3)] []) → (∀ r, o = .inr r → r = Rm) → Vj p l e rm_CConditions_addAsking s m args below meth c (MQ below (qI D vwCl (tyC ca) (wdC ad ca) A Rm) args s 0 0 A) D vwCl A 5 0 0 (wdC ad ca S) 27 [(0, .ref (ad 9)), (1, .int x1), (2, .int x2), (3, .int x3), (4, .int x4)] [] := by
  intro n
  induction n with
  | zero => intro x4 o hf; exact nomatch (show none = some o from hf)
  | succ n ih =>
    intro x4 o hf hx hret
    rw [L_CConditions_addAsking_27] at hf
    refine v_iload g dk_5_addAsking_27 4 rfl (pc' := 29) rfl ?_
    refine v_iload_n g dk_5_addAsking_29 3 rfl rfl (pc' := 30) rfl ?_
    refine v_icmp_ge (tgt := 52) (pc' := 33) g dk_5_addAsking_30 (by decide) rfl (fun hc => ?_) (fun hc => ?_)
    · replace hf := ifT hc hf
      refine v_sub [0, 1, 2, 3] rfl ?_
      exact hx _ (Option.some.inj hf).symm
    · replace hf := ifF hc hf
      refine v_aload_n g dk_5_addAsking_33 0 rfl rfl (pc' := 34) rfl ?_
      refine v_iload_n g dk_5_addAsking_34 1 rfl rfl (pc' := 35) rfl ?_
      refine v_iload g dk_5_addAsking_35 4 rfl (pc' := 37) rfl ?_
      obtain ⟨q2, hq, hf⟩ := bnd hf
      refine v_callV_i (As := [.int x1, .int x4]) (rest := []) (r := q2) (S1 := S) g hK hA (c_CConditions_askingAt hq) (kcC_Conditions_26 g.2.2.2.2 rfl rfl (Nat.le_of_ble_eq_true rfl) (Nat.le_of_ble_eq_true rfl)) (ci := 2) (q0 := 9) rfl rfl rfl rfl rfl (Nat.le_of_ble_eq_true rfl) dk_5_addAsking_37 (Nat.zero_le _) (Nat.zero_le _) (pc' := 40) rfl ?_
      refine v_iload_n g dk_5_addAsking_40 2 rfl rfl (pc' := 41) rfl ?_
      refine v_icmp_ne (tgt := 46) (pc' := 44) g dk_5_addAsking_41 (by decide) rfl (fun hc => ?_) (fun hc => ?_)
      · replace hf := ifF hc hf
        refine v_iinc (j := 4) (v := x4 + 1) (lv' := [(4, .int (x4 + 1)), (0, .ref (ad 9)), (1, .int x1), (2, .int x2), (3, .int x3)]) g dk_5_addAsking_46 rfl rfl (by decide) rfl (pc' := 49) rfl ?_
        refine v_goto (tgt := 27) g dk_5_addAsking_49 (by decide) ?_
        refine v_sub [1, 2, 3, 4, 0] rfl ?_
        exact ih (x4 + 1) o hf hx hret
      · replace hf := ifT hc hf
        refine v_iconst (v := 0) g dk_5_addAsking_44 (by decide) (pc' := 45) rfl ?_
        exact v_zret g hr hlk hK rfl (hret _ (Option.some.inj hf).symm) dk_5_addAsking_45
def m_CConditions_addAsking (S : StC) (x1 : Int32) (x2 : Int32) : Option (Int32 × StC) :=
  if inb x1 40 = true then if (gA S 6 x1.toNatClampNeg) = 0 then if (gA S 4 x1.toNatClampNeg) < 6 then (L_CConditions_addAsking_27 S x1 x2 (gA S 4 x1.toNatClampNeg) 100 0).bind fun o3 => exK o3 fun y4 =>
    if inb ((x1 * (6 : Int32)) + (gA S 4 x1.toNatClampNeg)) 240 = true then some (1, tA (tA S 5 ((x1 * (6 : Int32)) + (gA S 4 x1.toNatClampNeg)) x2) 4 x1 ((gA S 4 x1.toNatClampNeg) + (1 : Int32))) else none
    else some (0, S)
    else some (0, S) else none
set_option maxHeartbeats 4000000 in
set_option maxRecDepth 100000 in
theorem c_CConditions_addAsking {l : Launch} {D : va_G} {ad : Nat → Nat} {ca : Nat → ClassId} {S : StC} {x1 : Int32} {x2 : Int32} {r : Int32 × StC} (hf : m_CConditions_addAsking S x1 x2 = some r) : KIC l D ad ca yk_5_addAsking (.code yk_5_addAsking bk_5_addAsking 5 (some .boolean) :: tb) rm_CConditions_addAsking [.ref (ad 9), .int x1, .int x2] S r := by
  refine met_z (by decide) (Nat.le_of_ble_eq_true rfl) (fun p e s m below meth c A g hr hlk hK hA => ?_)
  replace g : CallFix p m c bk_5_addAsking 5 s _ tb Rk_5 := g
  refine v_lv (lv' := [(0, .ref (ad 9)), (1, .int x1), (2, .int x2)]) rfl ?_
  unfold m_CConditions_addAsking at hf
  refine v_aload_n g dk_5_addAsking_0 0 rfl rfl (pc' := 1) rfl ?_
  refine gfC_Conditions_9 g hK dk_5_addAsking_1 (pc' := 4) rfl ?_
  refine v_iload_n g dk_5_addAsking_4 1 rfl rfl (pc' := 5) rfl ?_
  obtain ⟨hb1, hf⟩ := grd hf
  refine alC_10 g hK hb1 dk_5_addAsking_5 (pc' := 6) rfl ?_
  refine v_istore_n (lv' := [(3, .int (gA S 4 x1.toNatClampNeg)), (0, .ref (ad 9)), (1, .int x1), (2, .int x2)]) g dk_5_addAsking_6 rfl (by decide) rfl (pc' := 7) rfl ?_
  refine v_aload_n g dk_5_addAsking_7 1 rfl rfl (pc' := 8) rfl ?_
  refine gfC_Conditions_18 g hK dk_5_addAsking_8 (pc' := 11) rfl ?_
  refine v_iload_n g dk_5_addAsking_11 2 rfl rfl (pc' := 12) rfl ?_
  refine alC_12 g hK hb1 dk_5_addAsking_12 (pc' := 13) rfl ?_
  refine v_if_ne (tgt := 22) (pc' := 16) g dk_5_addAsking_13 (by decide) rfl (fun hc => ?_) (fun hc => ?_)
  · replace hf := ifF hc hf
    refine v_iconst (v := 0) g dk_5_addAsking_22 (by decide) (pc' := 23) rfl ?_
    exact v_zret g hr hlk hK rfl (Option.some.inj hf) dk_5_addAsking_23
  · replace hf := ifT hc hf
    refine v_iload_n g dk_5_addAsking_16 0 rfl rfl (pc' := 17) rfl ?_
    refine v_bipush (v := 6) g dk_5_addAsking_17 (by decide) (pc' := 19) rfl ?_
    refine v_icmp_lt (tgt := 24) (pc' := 22) g dk_5_addAsking_19 (by decide) rfl (fun hc => ?_) (fun hc => ?_)
    · replace hf := ifT hc hf
      refine v_iconst (v := 0) g dk_5_addAsking_24 (by decide) (pc' := 25) rfl ?_
      refine v_istore (lv' := [(4, .int 0), (3, .int (gA S 4 x1.toNatClampNeg)), (0, .ref (ad 9)), (1, .int x1), (2, .int x2)]) g dk_5_addAsking_25 (by decide) rfl (pc' := 27) rfl ?_
      refine v_sub [2, 3, 4, 1, 0] rfl ?_
      obtain ⟨o3, hL, hf⟩ := bnd hf
      refine w_CConditions_addAsking_27 g hr hlk hK hA 100 0 _ hL (fun y4 hy => ?_) (fun r9 hy => ?_)
      · subst hy
        replace hf := exKl hf
        refine v_aload_n g dk_5_addAsking_52 0 rfl rfl (pc' := 53) rfl ?_
        refine gfC_Conditions_15 g hK dk_5_addAsking_53 (pc' := 56) rfl ?_
        refine v_iload_n g dk_5_addAsking_56 1 rfl rfl (pc' := 57) rfl ?_
        refine v_bipush (v := 6) g dk_5_addAsking_57 (by decide) (pc' := 59) rfl ?_
        refine v_imul g dk_5_addAsking_59 (pc' := 60) rfl ?_
        refine v_iload_n g dk_5_addAsking_60 3 rfl rfl (pc' := 61) rfl ?_
        refine v_iadd g dk_5_addAsking_61 (pc' := 62) rfl ?_
        refine v_iload_n g dk_5_addAsking_62 2 rfl rfl (pc' := 63) rfl ?_
        obtain ⟨hb5, hf⟩ := grd hf
        refine asC_11 g hK hb5 dk_5_addAsking_63 (pc' := 64) rfl ?_
        refine v_aload_n g dk_5_addAsking_64 0 rfl rfl (pc' := 65) rfl ?_
        refine gfC_Conditions_9 g hK dk_5_addAsking_65 (pc' := 68) rfl ?_
        refine v_iload_n g dk_5_addAsking_68 1 rfl rfl (pc' := 69) rfl ?_
        refine v_iload_n g dk_5_addAsking_69 3 rfl rfl (pc' := 70) rfl ?_
        refine v_iconst (v := 1) g dk_5_addAsking_70 (by decide) (pc' := 71) rfl ?_
        refine v_iadd g dk_5_addAsking_71 (pc' := 72) rfl ?_
        refine asC_10 g hK hb1 dk_5_addAsking_72 (pc' := 73) rfl ?_
        refine v_iconst (v := 1) g dk_5_addAsking_73 (by decide) (pc' := 74) rfl ?_
        exact v_zret g hr hlk hK rfl (Option.some.inj hf) dk_5_addAsking_74
      · subst hy
        exact Option.some.inj hf
    · replace hf := ifF hc hf
      refine v_iconst (v := 0) g dk_5_addAsking_22 (by decide) (pc' := 23) rfl ?_
      exact v_zret g hr hlk hK rfl (Option.some.inj hf) dk_5_addAsking_23
abbrev rm_CX_asks : Room := { frames := 2, cells := 0, slots := 0, locals := 46 }
def m_CX_asks (S : StC) (x1 : Int32) (x2 : Int32) (x3 : Int32) (x4 : Int32) : Option (Int32 × StC) :=
  (m_CConditions_isThere S x1).bind fun q1 =>
    if q1 = 0 then some (0, S)
    else (m_CX_isValue S x4).bind fun q2 =>
    if q2 = 0 then some (0, S)
    else if x2 = 0 then (m_CSettings_isThere S x3).bind fun q3 =>
    if q3 = 0 then some (0, S)
    else (m_CAskings_codeOf S x2 x3 x4).bind fun q4 =>
    (m_CConditions_addAsking S x1 q4).bind fun q5 =>
    if isB q5.1 = true then some (q5.1, q5.2) else none
    else (m_CX_isAxis S x3).bind fun q6 =>
    if q6 = 0 then some (0, S)
    else (m_CAskings_codeOf S x2 x3 x4).bind fun q7 =>
    (m_CConditions_addAsking S x1 q7).bind fun q8 =>
    if isB q8.1 = true then some (q8.1, q8.2) else none
set_option maxHeartbeats 4000000 in
set_option maxRecDepth 100000 in
theorem c_CX_asks {l : Launch} {D : va_G} {ad : Nat → Nat} {ca : Nat → ClassId} {S : StC} {x1 : Int32} {x2 : Int32} {x3 : Int32} {x4 : Int32} {r : Int32 × StC} (hf : m_CX_asks S x1 x2 x3 x4 = some r) : KIC l D ad ca yk_0_asks (.code yk_0_asks bk_0_asks 5 (some .boolean) :: tb) rm_CX_asks [.ref (ad 0), .int x1, .int x2, .int x3, .int x4] S r := by
  refine met_z (by decide) (Nat.le_of_ble_eq_true rfl) (fun p e s m below meth c A g hr hlk hK hA => ?_)
  replace g : CallFix p m c bk_0_asks 5 s _ tb Rk_0 := g
  refine v_lv (lv' := [(0, .ref (ad 0)), (1, .int x1), (2, .int x2), (3, .int x3), (4, .int x4)]) rfl ?_
  unfold m_CX_asks at hf
  refine v_aload_n g dk_0_asks_0 0 rfl rfl (pc' := 1) rfl ?_
  refine gfC_X_33 g hK dk_0_asks_1 (pc' := 4) rfl ?_
  refine v_iload_n g dk_0_asks_4 1 rfl rfl (pc' := 5) rfl ?_
  obtain ⟨q1, hq, hf⟩ := bnd hf
  refine v_callV_i (As := [.int x1]) (rest := []) (r := q1) (S1 := S) g hK hA (c_CConditions_isThere hq) (kcC_X_108 g.2.2.2.2 rfl rfl (Nat.le_of_ble_eq_true rfl) (Nat.le_of_ble_eq_true rfl)) (ci := 2) (q0 := 9) rfl rfl rfl rfl rfl (Nat.le_of_ble_eq_true rfl) dk_0_asks_5 (Nat.zero_le _) (Nat.zero_le _) (pc' := 8) rfl ?_
  refine v_if_eq (tgt := 19) (pc' := 11) g dk_0_asks_8 (by decide) rfl (fun hc => ?_) (fun hc => ?_)
  · replace hf := ifT hc hf
    refine v_iconst (v := 0) g dk_0_asks_19 (by decide) (pc' := 20) rfl ?_
    exact v_zret g hr hlk hK rfl (Option.some.inj hf) dk_0_asks_20
  · replace hf := ifF hc hf
    refine v_iload g dk_0_asks_11 4 rfl (pc' := 13) rfl ?_
    obtain ⟨q2, hq, hf⟩ := bnd hf
    refine v_callS_i (As := [.int x4]) (rest := []) (r := q2) (S1 := S) g hK hA (c_CX_isValue hq) (kcC_X_97 g.2.2.2.2 rfl rfl (Nat.le_of_ble_eq_true rfl) (Nat.le_of_ble_eq_true rfl)) rfl rfl (Nat.le_of_ble_eq_true rfl) dk_0_asks_13 (Nat.zero_le _) (Nat.zero_le _) (pc' := 16) rfl ?_
    refine v_if_ne (tgt := 21) (pc' := 19) g dk_0_asks_16 (by decide) rfl (fun hc => ?_) (fun hc => ?_)
    · replace hf := ifF hc hf
      refine v_iload_n g dk_0_asks_21 2 rfl rfl (pc' := 22) rfl ?_
      refine v_if_eq (tgt := 35) (pc' := 25) g dk_0_asks_22 (by decide) rfl (fun hc => ?_) (fun hc => ?_)
      · replace hf := ifT hc hf
        refine v_aload_n g dk_0_asks_35 0 rfl rfl (pc' := 36) rfl ?_
        refine gfC_X_12 g hK dk_0_asks_36 (pc' := 39) rfl ?_
        refine v_iload_n g dk_0_asks_39 3 rfl rfl (pc' := 40) rfl ?_
        obtain ⟨q3, hq, hf⟩ := bnd hf
        refine v_callV_i (As := [.int x3]) (rest := []) (r := q3) (S1 := S) g hK hA (c_CSettings_isThere hq) (kcC_X_109 g.2.2.2.2 rfl rfl (Nat.le_of_ble_eq_true rfl) (Nat.le_of_ble_eq_true rfl)) (ci := 8) (q0 := 1) rfl rfl rfl rfl rfl (Nat.le_of_ble_eq_true rfl) dk_0_asks_40 (Nat.zero_le _) (Nat.zero_le _) (pc' := 43) rfl ?_
        refine v_if_ne (tgt := 48) (pc' := 46) g dk_0_asks_43 (by decide) rfl (fun hc => ?_) (fun hc => ?_)
        · replace hf := ifF hc hf
          refine v_aload_n g dk_0_asks_48 0 rfl rfl (pc' := 49) rfl ?_
          refine gfC_X_33 g hK dk_0_asks_49 (pc' := 52) rfl ?_
          refine v_iload_n g dk_0_asks_52 1 rfl rfl (pc' := 53) rfl ?_
          refine v_iload_n g dk_0_asks_53 2 rfl rfl (pc' := 54) rfl ?_
          refine v_iload_n g dk_0_asks_54 3 rfl rfl (pc' := 55) rfl ?_
          refine v_iload g dk_0_asks_55 4 rfl (pc' := 57) rfl ?_
          obtain ⟨q4, hq, hf⟩ := bnd hf
          refine v_callS_i (As := [.int x2, .int x3, .int x4]) (rest := [.int x1, .ref (ad 9)]) (r := q4) (S1 := S) g hK hA (c_CAskings_codeOf hq) (kcC_X_110 g.2.2.2.2 rfl rfl (Nat.le_of_ble_eq_true rfl) (Nat.le_of_ble_eq_true rfl)) rfl rfl (Nat.le_of_ble_eq_true rfl) dk_0_asks_57 (Nat.zero_le _) (Nat.zero_le _) (pc' := 60) rfl ?_
          obtain ⟨q5, hq, hf⟩ := bnd hf
          refine v_callV_i (As := [.int x1, .int q4]) (rest := []) (r := q5.1) (S1 := q5.2) g hK hA (c_CConditions_addAsking hq) (kcC_X_116 g.2.2.2.2 rfl rfl (Nat.le_of_ble_eq_true rfl) (Nat.le_of_ble_eq_true rfl)) (ci := 2) (q0 := 9) rfl rfl rfl rfl rfl (Nat.le_of_ble_eq_true rfl) dk_0_asks_60 (Nat.zero_le _) (Nat.zero_le _) (pc' := 63) rfl ?_
          obtain ⟨hz, hf⟩ := grd hf
          exact v_zret g hr hlk hK hz (Option.some.inj hf) dk_0_asks_63
        · replace hf := ifT hc hf
          refine v_iconst (v := 0) g dk_0_asks_46 (by decide) (pc' := 47) rfl ?_
          exact v_zret g hr hlk hK rfl (Option.some.inj hf) dk_0_asks_47
      · replace hf := ifF hc hf
        refine v_iload_n g dk_0_asks_25 3 rfl rfl (pc' := 26) rfl ?_
        obtain ⟨q6, hq, hf⟩ := bnd hf
        refine v_callS_i (As := [.int x3]) (rest := []) (r := q6) (S1 := S) g hK hA (c_CX_isAxis hq) (kcC_X_94 g.2.2.2.2 rfl rfl (Nat.le_of_ble_eq_true rfl) (Nat.le_of_ble_eq_true rfl)) rfl rfl (Nat.le_of_ble_eq_true rfl) dk_0_asks_26 (Nat.zero_le _) (Nat.zero_le _) (pc' := 29) rfl ?_
        refine v_if_ne (tgt := 48) (pc' := 32) g dk_0_asks_29 (by decide) rfl (fun hc => ?_) (fun hc => ?_)
        · replace hf := ifF hc hf
          refine v_aload_n g dk_0_asks_48 0 rfl rfl (pc' := 49) rfl ?_
          refine gfC_X_33 g hK dk_0_asks_49 (pc' := 52) rfl ?_
          refine v_iload_n g dk_0_asks_52 1 rfl rfl (pc' := 53) rfl ?_
          refine v_iload_n g dk_0_asks_53 2 rfl rfl (pc' := 54) rfl ?_
          refine v_iload_n g dk_0_asks_54 3 rfl rfl (pc' := 55) rfl ?_
          refine v_iload g dk_0_asks_55 4 rfl (pc' := 57) rfl ?_
          obtain ⟨q7, hq, hf⟩ := bnd hf
          refine v_callS_i (As := [.int x2, .int x3, .int x4]) (rest := [.int x1, .ref (ad 9)]) (r := q7) (S1 := S) g hK hA (c_CAskings_codeOf hq) (kcC_X_110 g.2.2.2.2 rfl rfl (Nat.le_of_ble_eq_true rfl) (Nat.le_of_ble_eq_true rfl)) rfl rfl (Nat.le_of_ble_eq_true rfl) dk_0_asks_57 (Nat.zero_le _) (Nat.zero_le _) (pc' := 60) rfl ?_
          obtain ⟨q8, hq, hf⟩ := bnd hf
          refine v_callV_i (As := [.int x1, .int q7]) (rest := []) (r := q8.1) (S1 := q8.2) g hK hA (c_CConditions_addAsking hq) (kcC_X_116 g.2.2.2.2 rfl rfl (Nat.le_of_ble_eq_true rfl) (Nat.le_of_ble_eq_true rfl)) (ci := 2) (q0 := 9) rfl rfl rfl rfl rfl (Nat.le_of_ble_eq_true rfl) dk_0_asks_60 (Nat.zero_le _) (Nat.zero_le _) (pc' := 63) rfl ?_
          obtain ⟨hz, hf⟩ := grd hf
          exact v_zret g hr hlk hK hz (Option.some.inj hf) dk_0_asks_63
        · replace hf := ifT hc hf
          refine v_goto (tgt := 46) g dk_0_asks_32 (by decide) ?_
          refine v_iconst (v := 0) g dk_0_asks_46 (by decide) (pc' := 47) rfl ?_
          exact v_zret g hr hlk hK rfl (Option.some.inj hf) dk_0_asks_47
    · replace hf := ifT hc hf
      refine v_iconst (v := 0) g dk_0_asks_19 (by decide) (pc' := 20) rfl ?_
      exact v_zret g hr hlk hK rfl (Option.some.inj hf) dk_0_asks_20
abbrev rm_CTargets_add : Room := { frames := 0, cells := 0, slots := 0, locals := 0 }
def m_CTargets_add (S : StC) : Option (Int32 × StC) :=
  if (gI S 4) < 16 then if inb (gI S 4) 16 = true then some (gI S 4, sI (tA S 7 (gI S 4) (-1)) 4 ((gI S 4) + (1 : Int32))) else none
    else some ((-1), S)
set_option maxHeartbeats 4000000 in
set_option maxRecDepth 100000 in
theorem c_CTargets_add {l : Launch} {D : va_G} {ad : Nat → Nat} {ca : Nat → ClassId} {S : StC} {r : Int32 × StC} (hf : m_CTargets_add S = some r) : KIC l D ad ca yk_12_add (.code yk_12_add bk_12_add 1 (some .int) :: tb) rm_CTargets_add [.ref (ad 13)] S r := by
  refine met_i (by decide) (Nat.le_of_ble_eq_true rfl) (fun p e s m below meth c A g hr hlk hK hA => ?_)
  replace g : CallFix p m c bk_12_add 1 s _ tb Rk_12 := g
  refine v_lv (lv' := [(0, .ref (ad 13))]) rfl ?_
  unfold m_CTargets_add at hf
  refine v_aload_n g dk_12_add_0 0 rfl rfl (pc' := 1) rfl ?_
  refine gfC_Targets_18 g hK dk_12_add_1 (pc' := 4) rfl ?_
  refine v_bipush (v := 16) g dk_12_add_4 (by decide) (pc' := 6) rfl ?_
  refine v_icmp_lt (tgt := 11) (pc' := 9) g dk_12_add_6 (by decide) rfl (fun hc => ?_) (fun hc => ?_)
  · replace hf := ifT hc hf
    refine v_aload_n g dk_12_add_11 0 rfl rfl (pc' := 12) rfl ?_
    refine gfC_Targets_9 g hK dk_12_add_12 (pc' := 15) rfl ?_
    refine v_aload_n g dk_12_add_15 0 rfl rfl (pc' := 16) rfl ?_
    refine gfC_Targets_18 g hK dk_12_add_16 (pc' := 19) rfl ?_
    refine v_iconst (v := (-1)) g dk_12_add_19 (by decide) (pc' := 20) rfl ?_
    obtain ⟨hb1, hf⟩ := grd hf
    refine asC_14 g hK hb1 dk_12_add_20 (pc' := 21) rfl ?_
    refine v_aload_n g dk_12_add_21 0 rfl rfl (pc' := 22) rfl ?_
    refine v_dup g dk_12_add_22 rfl (pc' := 23) rfl ?_
    refine gfC_Targets_18 g hK dk_12_add_23 (pc' := 26) rfl ?_
    refine v_dup_x1 g dk_12_add_26 rfl rfl (pc' := 27) rfl ?_
    refine v_iconst (v := 1) g dk_12_add_27 (by decide) (pc' := 28) rfl ?_
    refine v_iadd g dk_12_add_28 (pc' := 29) rfl ?_
    refine pfC_Targets_18 g hK dk_12_add_29 (pc' := 32) rfl ?_
    exact v_iret g hr hlk hK  (Option.some.inj hf) dk_12_add_32
  · replace hf := ifF hc hf
    refine v_iconst (v := (-1)) g dk_12_add_9 (by decide) (pc' := 10) rfl ?_
    exact v_iret g hr hlk hK  (Option.some.inj hf) dk_12_add_10
abbrev rm_CX_target : Room := { frames := 1, cells := 0, slots := 0, locals := 20 }
def m_CX_target (S : StC) : Option (Int32 × StC) :=
  (m_CTargets_add S).bind fun q1 =>
    some (q1.1, q1.2)
set_option maxHeartbeats 4000000 in
set_option maxRecDepth 100000 in
theorem c_CX_target {l : Launch} {D : va_G} {ad : Nat → Nat} {ca : Nat → ClassId} {S : StC} {r : Int32 × StC} (hf : m_CX_target S = some r) : KIC l D ad ca yk_0_target (.code yk_0_target bk_0_target 1 (some .int) :: tb) rm_CX_target [.ref (ad 0)] S r := by
  refine met_i (by decide) (Nat.le_of_ble_eq_true rfl) (fun p e s m below meth c A g hr hlk hK hA => ?_)
  replace g : CallFix p m c bk_0_target 1 s _ tb Rk_0 := g
  refine v_lv (lv' := [(0, .ref (ad 0))]) rfl ?_
  unfold m_CX_target at hf
  refine v_aload_n g dk_0_target_0 0 rfl rfl (pc' := 1) rfl ?_
  refine gfC_X_40 g hK dk_0_target_1 (pc' := 4) rfl ?_
  obtain ⟨q1, hq, hf⟩ := bnd hf
  refine v_callV_i (As := []) (rest := []) (r := q1.1) (S1 := q1.2) g hK hA (c_CTargets_add hq) (kcC_X_120 g.2.2.2.2 rfl rfl (Nat.le_of_ble_eq_true rfl) (Nat.le_of_ble_eq_true rfl)) (ci := 9) (q0 := 13) rfl rfl rfl rfl rfl (Nat.le_of_ble_eq_true rfl) dk_0_target_4 (Nat.zero_le _) (Nat.zero_le _) (pc' := 7) rfl ?_
  exact v_iret g hr hlk hK  (Option.some.inj hf) dk_0_target_7
abbrev rm_CTargets_isThere : Room := { frames := 0, cells := 0, slots := 0, locals := 0 }
def m_CTargets_isThere (S : StC) (x1 : Int32) : Option Int32 :=
  if x1 < 0 then some 0
    else if (gI S 4) ≤ x1 then some 0
    else some 1
set_option maxHeartbeats 4000000 in
set_option maxRecDepth 100000 in
theorem c_CTargets_isThere {l : Launch} {D : va_G} {ad : Nat → Nat} {ca : Nat → ClassId} {S : StC} {x1 : Int32} {r : Int32} (hf : m_CTargets_isThere S x1 = some r) : KIC l D ad ca yk_12_isThere (.code yk_12_isThere bk_12_isThere 2 (some .boolean) :: tb) rm_CTargets_isThere [.ref (ad 13), .int x1] S (r, S) := by
  refine met_z (by decide) (Nat.le_of_ble_eq_true rfl) (fun p e s m below meth c A g hr hlk hK hA => ?_)
  replace g : CallFix p m c bk_12_isThere 2 s _ tb Rk_12 := g
  refine v_lv (lv' := [(0, .ref (ad 13)), (1, .int x1)]) rfl ?_
  unfold m_CTargets_isThere at hf
  refine v_iload_n g dk_12_isThere_0 1 rfl rfl (pc' := 1) rfl ?_
  refine v_if_lt (tgt := 16) (pc' := 4) g dk_12_isThere_1 (by decide) rfl (fun hc => ?_) (fun hc => ?_)
  · replace hf := ifT hc hf
    refine v_iconst (v := 0) g dk_12_isThere_16 (by decide) (pc' := 17) rfl ?_
    exact v_zret g hr hlk hK rfl (pinj hf) dk_12_isThere_17
  · replace hf := ifF hc hf
    refine v_iload_n g dk_12_isThere_4 1 rfl rfl (pc' := 5) rfl ?_
    refine v_aload_n g dk_12_isThere_5 0 rfl rfl (pc' := 6) rfl ?_
    refine gfC_Targets_18 g hK dk_12_isThere_6 (pc' := 9) rfl ?_
    refine v_icmp_ge (tgt := 16) (pc' := 12) g dk_12_isThere_9 (by decide) rfl (fun hc => ?_) (fun hc => ?_)
    · replace hf := ifT hc hf
      refine v_iconst (v := 0) g dk_12_isThere_16 (by decide) (pc' := 17) rfl ?_
      exact v_zret g hr hlk hK rfl (pinj hf) dk_12_isThere_17
    · replace hf := ifF hc hf
      refine v_iconst (v := 1) g dk_12_isThere_12 (by decide) (pc' := 13) rfl ?_
      refine v_goto (tgt := 17) g dk_12_isThere_13 (by decide) ?_
      exact v_zret g hr hlk hK rfl (pinj hf) dk_12_isThere_17
end
section
abbrev rm_CX_wants : Room := { frames := 1, cells := 0, slots := 0, locals := 21 }
def m_CX_wants (S : StC) (x1 : Int32) (x2 : Int32) : Option (Int32 × StC) :=
  (m_CTargets_isThere S x1).bind fun q1 =>
    if q1 = 0 then some (0, S)
    else (m_CConditions_isThere S x2).bind fun q2 =>
    if q2 = 0 then some (0, S)
    else if inb x1 16 = true then if inb x2 40 = true then some (1, tA (tA S 7 x1 x2) 6 x2 (vp_nar .boolean 1)) else none else none
set_option maxHeartbeats 4000000 in
set_option maxRecDepth 100000 in
theorem c_CX_wants {l : Launch} {D : va_G} {ad : Nat → Nat} {ca : Nat → ClassId} {S : StC} {x1 : Int32} {x2 : Int32} {r : Int32 × StC} (hf : m_CX_wants S x1 x2 = some r) : KIC l D ad ca yk_0_wants (.code yk_0_wants bk_0_wants 3 (some .boolean) :: tb) rm_CX_wants [.ref (ad 0), .int x1, .int x2] S r := by
  refine met_z (by decide) (Nat.le_of_ble_eq_true rfl) (fun p e s m below meth c A g hr hlk hK hA => ?_)
  replace g : CallFix p m c bk_0_wants 3 s _ tb Rk_0 := g
  refine v_lv (lv' := [(0, .ref (ad 0)), (1, .int x1), (2, .int x2)]) rfl ?_
  unfold m_CX_wants at hf
  refine v_aload_n g dk_0_wants_0 0 rfl rfl (pc' := 1) rfl ?_
  refine gfC_X_40 g hK dk_0_wants_1 (pc' := 4) rfl ?_
  refine v_iload_n g dk_0_wants_4 1 rfl rfl (pc' := 5) rfl ?_
  obtain ⟨q1, hq, hf⟩ := bnd hf
  refine v_callV_i (As := [.int x1]) (rest := []) (r := q1) (S1 := S) g hK hA (c_CTargets_isThere hq) (kcC_X_121 g.2.2.2.2 rfl rfl (Nat.le_of_ble_eq_true rfl) (Nat.le_of_ble_eq_true rfl)) (ci := 9) (q0 := 13) rfl rfl rfl rfl rfl (Nat.le_of_ble_eq_true rfl) dk_0_wants_5 (Nat.zero_le _) (Nat.zero_le _) (pc' := 8) rfl ?_
  refine v_if_eq (tgt := 22) (pc' := 11) g dk_0_wants_8 (by decide) rfl (fun hc => ?_) (fun hc => ?_)
  · replace hf := ifT hc hf
    refine v_iconst (v := 0) g dk_0_wants_22 (by decide) (pc' := 23) rfl ?_
    exact v_zret g hr hlk hK rfl (Option.some.inj hf) dk_0_wants_23
  · replace hf := ifF hc hf
    refine v_aload_n g dk_0_wants_11 0 rfl rfl (pc' := 12) rfl ?_
    refine gfC_X_33 g hK dk_0_wants_12 (pc' := 15) rfl ?_
    refine v_iload_n g dk_0_wants_15 2 rfl rfl (pc' := 16) rfl ?_
    obtain ⟨q2, hq, hf⟩ := bnd hf
    refine v_callV_i (As := [.int x2]) (rest := []) (r := q2) (S1 := S) g hK hA (c_CConditions_isThere hq) (kcC_X_108 g.2.2.2.2 rfl rfl (Nat.le_of_ble_eq_true rfl) (Nat.le_of_ble_eq_true rfl)) (ci := 2) (q0 := 9) rfl rfl rfl rfl rfl (Nat.le_of_ble_eq_true rfl) dk_0_wants_16 (Nat.zero_le _) (Nat.zero_le _) (pc' := 19) rfl ?_
    refine v_if_ne (tgt := 24) (pc' := 22) g dk_0_wants_19 (by decide) rfl (fun hc => ?_) (fun hc => ?_)
    · replace hf := ifF hc hf
      refine v_aload_n g dk_0_wants_24 0 rfl rfl (pc' := 25) rfl ?_
      refine gfC_X_40 g hK dk_0_wants_25 (pc' := 28) rfl ?_
      refine gfC_X_122 g hK dk_0_wants_28 (pc' := 31) rfl ?_
      refine v_iload_n g dk_0_wants_31 1 rfl rfl (pc' := 32) rfl ?_
      refine v_iload_n g dk_0_wants_32 2 rfl rfl (pc' := 33) rfl ?_
      obtain ⟨hb3, hf⟩ := grd hf
      refine asC_14 g hK hb3 dk_0_wants_33 (pc' := 34) rfl ?_
      refine v_aload_n g dk_0_wants_34 0 rfl rfl (pc' := 35) rfl ?_
      refine gfC_X_33 g hK dk_0_wants_35 (pc' := 38) rfl ?_
      refine gfC_X_126 g hK dk_0_wants_38 (pc' := 41) rfl ?_
      refine v_iload_n g dk_0_wants_41 2 rfl rfl (pc' := 42) rfl ?_
      refine v_iconst (v := 1) g dk_0_wants_42 (by decide) (pc' := 43) rfl ?_
      obtain ⟨hb4, hf⟩ := grd hf
      refine asC_12 g hK hb4 dk_0_wants_43 (pc' := 44) rfl ?_
      refine v_iconst (v := 1) g dk_0_wants_44 (by decide) (pc' := 45) rfl ?_
      exact v_zret g hr hlk hK rfl (Option.some.inj hf) dk_0_wants_45
    · replace hf := ifT hc hf
      refine v_iconst (v := 0) g dk_0_wants_22 (by decide) (pc' := 23) rfl ?_
      exact v_zret g hr hlk hK rfl (Option.some.inj hf) dk_0_wants_23
abbrev rm_CChoices_nothing : Room := { frames := 0, cells := 0, slots := 0, locals := 0 }
def m_CChoices_nothing (S : StC) : Option Int64 :=
  some 0
set_option maxHeartbeats 4000000 in
set_option maxRecDepth 100000 in
theorem c_CChoices_nothing {l : Launch} {D : va_G} {ad : Nat → Nat} {ca : Nat → ClassId} {S : StC} {r : Int64} (hf : m_CChoices_nothing S = some r) : KLC l D ad ca yk_3_nothing (.code yk_3_nothing bk_3_nothing 0 (some .long) :: tb) rm_CChoices_nothing [] S (r, S) := by
  refine met_l (by decide) (Nat.le_of_ble_eq_true rfl) (fun p e s m below meth c A g hr hlk hK hA => ?_)
  replace g : CallFix p m c bk_3_nothing 0 s _ tb Rk_3 := g
  refine v_lv (lv' := []) rfl ?_
  unfold m_CChoices_nothing at hf
  refine v_lconst (v := 0) g dk_3_nothing_0 (by decide) (pc' := 1) rfl ?_
  exact v_lret g hr hlk hK  (pinj hf) dk_3_nothing_1
abbrev rm_CSelects_add : Room := { frames := 1, cells := 0, slots := 0, locals := 19 }
def m_CSelects_add (S : StC) (x1 : Int32) : Option (Int32 × StC) :=
  if (gI S 5) < 24 then if inb (gI S 5) 24 = true then (m_CChoices_nothing (tA S 9 (gI S 5) x1)).bind fun q2 =>
    some (gI S 5, sI (tB (tA S 9 (gI S 5) x1) 1 (gI S 5) q2) 5 ((gI S 5) + (1 : Int32))) else none
    else some ((-1), S)
set_option maxHeartbeats 4000000 in
set_option maxRecDepth 100000 in
theorem c_CSelects_add {l : Launch} {D : va_G} {ad : Nat → Nat} {ca : Nat → ClassId} {S : StC} {x1 : Int32} {r : Int32 × StC} (hf : m_CSelects_add S x1 = some r) : KIC l D ad ca yk_10_add (.code yk_10_add bk_10_add 2 (some .int) :: tb) rm_CSelects_add [.ref (ad 16), .int x1] S r := by
  refine met_i (by decide) (Nat.le_of_ble_eq_true rfl) (fun p e s m below meth c A g hr hlk hK hA => ?_)
  replace g : CallFix p m c bk_10_add 2 s _ tb Rk_10 := g
  refine v_lv (lv' := [(0, .ref (ad 16)), (1, .int x1)]) rfl ?_
  unfold m_CSelects_add at hf
  refine v_aload_n g dk_10_add_0 0 rfl rfl (pc' := 1) rfl ?_
  refine gfC_Selects_38 g hK dk_10_add_1 (pc' := 4) rfl ?_
  refine v_bipush (v := 24) g dk_10_add_4 (by decide) (pc' := 6) rfl ?_
  refine v_icmp_lt (tgt := 11) (pc' := 9) g dk_10_add_6 (by decide) rfl (fun hc => ?_) (fun hc => ?_)
  · replace hf := ifT hc hf
    refine v_aload_n g dk_10_add_11 0 rfl rfl (pc' := 12) rfl ?_
    refine gfC_Selects_9 g hK dk_10_add_12 (pc' := 15) rfl ?_
    refine v_aload_n g dk_10_add_15 0 rfl rfl (pc' := 16) rfl ?_
    refine gfC_Selects_38 g hK dk_10_add_16 (pc' := 19) rfl ?_
    refine v_iload_n g dk_10_add_19 1 rfl rfl (pc' := 20) rfl ?_
    obtain ⟨hb1, hf⟩ := grd hf
    refine asC_17 g hK hb1 dk_10_add_20 (pc' := 21) rfl ?_
    refine v_aload_n g dk_10_add_21 0 rfl rfl (pc' := 22) rfl ?_
    refine gfC_Selects_15 g hK dk_10_add_22 (pc' := 25) rfl ?_
    refine v_aload_n g dk_10_add_25 0 rfl rfl (pc' := 26) rfl ?_
    refine gfC_Selects_38 g hK dk_10_add_26 (pc' := 29) rfl ?_
    obtain ⟨q2, hq, hf⟩ := bnd hf
    refine v_callS_l (As := []) (rest := [.int (gI S 5), .ref (ad 18)]) (r := q2) (S1 := tA S 9 (gI S 5) x1) g hK hA (c_CChoices_nothing hq) (kcC_Selects_42 g.2.2.2.2 rfl rfl (Nat.le_of_ble_eq_true rfl) (Nat.le_of_ble_eq_true rfl)) rfl rfl (Nat.le_of_ble_eq_true rfl) dk_10_add_29 (Nat.zero_le _) (Nat.zero_le _) (pc' := 32) rfl ?_
    refine asC_18 g hK hb1 dk_10_add_32 (pc' := 33) rfl ?_
    refine v_aload_n g dk_10_add_33 0 rfl rfl (pc' := 34) rfl ?_
    refine v_dup g dk_10_add_34 rfl (pc' := 35) rfl ?_
    refine gfC_Selects_38 g hK dk_10_add_35 (pc' := 38) rfl ?_
    refine v_dup_x1 g dk_10_add_38 rfl rfl (pc' := 39) rfl ?_
    refine v_iconst (v := 1) g dk_10_add_39 (by decide) (pc' := 40) rfl ?_
    refine v_iadd g dk_10_add_40 (pc' := 41) rfl ?_
    refine pfC_Selects_38 g hK dk_10_add_41 (pc' := 44) rfl ?_
    exact v_iret g hr hlk hK  (Option.some.inj hf) dk_10_add_44
  · replace hf := ifF hc hf
    refine v_iconst (v := (-1)) g dk_10_add_9 (by decide) (pc' := 10) rfl ?_
    exact v_iret g hr hlk hK  (Option.some.inj hf) dk_10_add_10
abbrev rm_CX_select : Room := { frames := 2, cells := 0, slots := 0, locals := 40 }
def m_CX_select (S : StC) (x1 : Int32) : Option (Int32 × StC) :=
  (m_CTargets_isThere S x1).bind fun q1 =>
    if q1 = 0 then some ((-1), S)
    else (m_CSelects_add S x1).bind fun q2 =>
    some (q2.1, q2.2)
set_option maxHeartbeats 4000000 in
set_option maxRecDepth 100000 in
theorem c_CX_select {l : Launch} {D : va_G} {ad : Nat → Nat} {ca : Nat → ClassId} {S : StC} {x1 : Int32} {r : Int32 × StC} (hf : m_CX_select S x1 = some r) : KIC l D ad ca yk_0_select (.code yk_0_select bk_0_select 2 (some .int) :: tb) rm_CX_select [.ref (ad 0), .int x1] S r := by
  refine met_i (by decide) (Nat.le_of_ble_eq_true rfl) (fun p e s m below meth c A g hr hlk hK hA => ?_)
  replace g : CallFix p m c bk_0_select 2 s _ tb Rk_0 := g
  refine v_lv (lv' := [(0, .ref (ad 0)), (1, .int x1)]) rfl ?_
  unfold m_CX_select at hf
  refine v_aload_n g dk_0_select_0 0 rfl rfl (pc' := 1) rfl ?_
  refine gfC_X_40 g hK dk_0_select_1 (pc' := 4) rfl ?_
  refine v_iload_n g dk_0_select_4 1 rfl rfl (pc' := 5) rfl ?_
  obtain ⟨q1, hq, hf⟩ := bnd hf
  refine v_callV_i (As := [.int x1]) (rest := []) (r := q1) (S1 := S) g hK hA (c_CTargets_isThere hq) (kcC_X_121 g.2.2.2.2 rfl rfl (Nat.le_of_ble_eq_true rfl) (Nat.le_of_ble_eq_true rfl)) (ci := 9) (q0 := 13) rfl rfl rfl rfl rfl (Nat.le_of_ble_eq_true rfl) dk_0_select_5 (Nat.zero_le _) (Nat.zero_le _) (pc' := 8) rfl ?_
  refine v_if_eq (tgt := 22) (pc' := 11) g dk_0_select_8 (by decide) rfl (fun hc => ?_) (fun hc => ?_)
  · replace hf := ifT hc hf
    refine v_iconst (v := (-1)) g dk_0_select_22 (by decide) (pc' := 23) rfl ?_
    exact v_iret g hr hlk hK  (Option.some.inj hf) dk_0_select_23
  · replace hf := ifF hc hf
    refine v_aload_n g dk_0_select_11 0 rfl rfl (pc' := 12) rfl ?_
    refine gfC_X_47 g hK dk_0_select_12 (pc' := 15) rfl ?_
    refine v_iload_n g dk_0_select_15 1 rfl rfl (pc' := 16) rfl ?_
    obtain ⟨q2, hq, hf⟩ := bnd hf
    refine v_callV_i (As := [.int x1]) (rest := []) (r := q2.1) (S1 := q2.2) g hK hA (c_CSelects_add hq) (kcC_X_130 g.2.2.2.2 rfl rfl (Nat.le_of_ble_eq_true rfl) (Nat.le_of_ble_eq_true rfl)) (ci := 7) (q0 := 16) rfl rfl rfl rfl rfl (Nat.le_of_ble_eq_true rfl) dk_0_select_16 (Nat.zero_le _) (Nat.zero_le _) (pc' := 19) rfl ?_
    refine v_goto (tgt := 23) g dk_0_select_19 (by decide) ?_
    exact v_iret g hr hlk hK  (Option.some.inj hf) dk_0_select_23
abbrev rm_CSelects_isThere : Room := { frames := 0, cells := 0, slots := 0, locals := 0 }
def m_CSelects_isThere (S : StC) (x1 : Int32) : Option Int32 :=
  if x1 < 0 then some 0
    else if (gI S 5) ≤ x1 then some 0
    else some 1
set_option maxHeartbeats 4000000 in
set_option maxRecDepth 100000 in
theorem c_CSelects_isThere {l : Launch} {D : va_G} {ad : Nat → Nat} {ca : Nat → ClassId} {S : StC} {x1 : Int32} {r : Int32} (hf : m_CSelects_isThere S x1 = some r) : KIC l D ad ca yk_10_isThere (.code yk_10_isThere bk_10_isThere 2 (some .boolean) :: tb) rm_CSelects_isThere [.ref (ad 16), .int x1] S (r, S) := by
  refine met_z (by decide) (Nat.le_of_ble_eq_true rfl) (fun p e s m below meth c A g hr hlk hK hA => ?_)
  replace g : CallFix p m c bk_10_isThere 2 s _ tb Rk_10 := g
  refine v_lv (lv' := [(0, .ref (ad 16)), (1, .int x1)]) rfl ?_
  unfold m_CSelects_isThere at hf
  refine v_iload_n g dk_10_isThere_0 1 rfl rfl (pc' := 1) rfl ?_
  refine v_if_lt (tgt := 16) (pc' := 4) g dk_10_isThere_1 (by decide) rfl (fun hc => ?_) (fun hc => ?_)
  · replace hf := ifT hc hf
    refine v_iconst (v := 0) g dk_10_isThere_16 (by decide) (pc' := 17) rfl ?_
    exact v_zret g hr hlk hK rfl (pinj hf) dk_10_isThere_17
  · replace hf := ifF hc hf
    refine v_iload_n g dk_10_isThere_4 1 rfl rfl (pc' := 5) rfl ?_
    refine v_aload_n g dk_10_isThere_5 0 rfl rfl (pc' := 6) rfl ?_
    refine gfC_Selects_38 g hK dk_10_isThere_6 (pc' := 9) rfl ?_
    refine v_icmp_ge (tgt := 16) (pc' := 12) g dk_10_isThere_9 (by decide) rfl (fun hc => ?_) (fun hc => ?_)
    · replace hf := ifT hc hf
      refine v_iconst (v := 0) g dk_10_isThere_16 (by decide) (pc' := 17) rfl ?_
      exact v_zret g hr hlk hK rfl (pinj hf) dk_10_isThere_17
    · replace hf := ifF hc hf
      refine v_iconst (v := 1) g dk_10_isThere_12 (by decide) (pc' := 13) rfl ?_
      refine v_goto (tgt := 17) g dk_10_isThere_13 (by decide) ?_
      exact v_zret g hr hlk hK rfl (pinj hf) dk_10_isThere_17
abbrev rm_CSelects_mayNest : Room := { frames := 0, cells := 0, slots := 0, locals := 0 }
def m_CSelects_mayNest (S : StC) (x1 : Int32) (x2 : Int32) : Option Int32 :=
  if x2 < 0 then some 0
    else if x1 ≤ x2 then some 0
    else if inb x2 24 = true then if inb x1 24 = true then if (gA S 9 x2.toNatClampNeg) = (gA S 9 x1.toNatClampNeg) then if (gA S 11 x2.toNatClampNeg) = 0 then if (gA S 10 x1.toNatClampNeg) = 0 then some 1
    else some 0
    else some 0
    else some 0 else none else none
set_option maxHeartbeats 4000000 in
set_option maxRecDepth 100000 in
theorem c_CSelects_mayNest {l : Launch} {D : va_G} {ad : Nat → Nat} {ca : Nat → ClassId} {S : StC} {x1 : Int32} {x2 : Int32} {r : Int32} (hf : m_CSelects_mayNest S x1 x2 = some r) : KIC l D ad ca yk_10_mayNest (.code yk_10_mayNest bk_10_mayNest 3 (some .boolean) :: tb) rm_CSelects_mayNest [.ref (ad 16), .int x1, .int x2] S (r, S) := by
  refine met_z (by decide) (Nat.le_of_ble_eq_true rfl) (fun p e s m below meth c A g hr hlk hK hA => ?_)
  replace g : CallFix p m c bk_10_mayNest 3 s _ tb Rk_10 := g
  refine v_lv (lv' := [(0, .ref (ad 16)), (1, .int x1), (2, .int x2)]) rfl ?_
  unfold m_CSelects_mayNest at hf
  refine v_iload_n g dk_10_mayNest_0 2 rfl rfl (pc' := 1) rfl ?_
  refine v_if_lt (tgt := 46) (pc' := 4) g dk_10_mayNest_1 (by decide) rfl (fun hc => ?_) (fun hc => ?_)
  · replace hf := ifT hc hf
    refine v_iconst (v := 0) g dk_10_mayNest_46 (by decide) (pc' := 47) rfl ?_
    exact v_zret g hr hlk hK rfl (pinj hf) dk_10_mayNest_47
  · replace hf := ifF hc hf
    refine v_iload_n g dk_10_mayNest_4 2 rfl rfl (pc' := 5) rfl ?_
    refine v_iload_n g dk_10_mayNest_5 1 rfl rfl (pc' := 6) rfl ?_
    refine v_icmp_ge (tgt := 46) (pc' := 9) g dk_10_mayNest_6 (by decide) rfl (fun hc => ?_) (fun hc => ?_)
    · replace hf := ifT hc hf
      refine v_iconst (v := 0) g dk_10_mayNest_46 (by decide) (pc' := 47) rfl ?_
      exact v_zret g hr hlk hK rfl (pinj hf) dk_10_mayNest_47
    · replace hf := ifF hc hf
      refine v_aload_n g dk_10_mayNest_9 0 rfl rfl (pc' := 10) rfl ?_
      refine gfC_Selects_9 g hK dk_10_mayNest_10 (pc' := 13) rfl ?_
      refine v_iload_n g dk_10_mayNest_13 2 rfl rfl (pc' := 14) rfl ?_
      obtain ⟨hb1, hf⟩ := grd hf
      refine alC_17 g hK hb1 dk_10_mayNest_14 (pc' := 15) rfl ?_
      refine v_aload_n g dk_10_mayNest_15 0 rfl rfl (pc' := 16) rfl ?_
      refine gfC_Selects_9 g hK dk_10_mayNest_16 (pc' := 19) rfl ?_
      refine v_iload_n g dk_10_mayNest_19 1 rfl rfl (pc' := 20) rfl ?_
      obtain ⟨hb2, hf⟩ := grd hf
      refine alC_17 g hK hb2 dk_10_mayNest_20 (pc' := 21) rfl ?_
      refine v_icmp_ne (tgt := 46) (pc' := 24) g dk_10_mayNest_21 (by decide) rfl (fun hc => ?_) (fun hc => ?_)
      · replace hf := ifF hc hf
        refine v_iconst (v := 0) g dk_10_mayNest_46 (by decide) (pc' := 47) rfl ?_
        exact v_zret g hr hlk hK rfl (pinj hf) dk_10_mayNest_47
      · replace hf := ifT hc hf
        refine v_aload_n g dk_10_mayNest_24 0 rfl rfl (pc' := 25) rfl ?_
        refine gfC_Selects_23 g hK dk_10_mayNest_25 (pc' := 28) rfl ?_
        refine v_iload_n g dk_10_mayNest_28 2 rfl rfl (pc' := 29) rfl ?_
        refine alC_20 g hK hb1 dk_10_mayNest_29 (pc' := 30) rfl ?_
        refine v_if_ne (tgt := 46) (pc' := 33) g dk_10_mayNest_30 (by decide) rfl (fun hc => ?_) (fun hc => ?_)
        · replace hf := ifF hc hf
          refine v_iconst (v := 0) g dk_10_mayNest_46 (by decide) (pc' := 47) rfl ?_
          exact v_zret g hr hlk hK rfl (pinj hf) dk_10_mayNest_47
        · replace hf := ifT hc hf
          refine v_aload_n g dk_10_mayNest_33 0 rfl rfl (pc' := 34) rfl ?_
          refine gfC_Selects_19 g hK dk_10_mayNest_34 (pc' := 37) rfl ?_
          refine v_iload_n g dk_10_mayNest_37 1 rfl rfl (pc' := 38) rfl ?_
          refine alC_19 g hK hb2 dk_10_mayNest_38 (pc' := 39) rfl ?_
          refine v_if_ne (tgt := 46) (pc' := 42) g dk_10_mayNest_39 (by decide) rfl (fun hc => ?_) (fun hc => ?_)
          · replace hf := ifF hc hf
            refine v_iconst (v := 0) g dk_10_mayNest_46 (by decide) (pc' := 47) rfl ?_
            exact v_zret g hr hlk hK rfl (pinj hf) dk_10_mayNest_47
          · replace hf := ifT hc hf
            refine v_iconst (v := 1) g dk_10_mayNest_42 (by decide) (pc' := 43) rfl ?_
            refine v_goto (tgt := 47) g dk_10_mayNest_43 (by decide) ?_
            exact v_zret g hr hlk hK rfl (pinj hf) dk_10_mayNest_47
abbrev rm_CSelects_place : Room := { frames := 0, cells := 0, slots := 0, locals := 0 }
def m_CSelects_place (S : StC) (x0 : Int32) (x1 : Int32) : Option Int32 :=
  some ((x0 * (8 : Int32)) + x1)
set_option maxHeartbeats 4000000 in
set_option maxRecDepth 100000 in
theorem c_CSelects_place {l : Launch} {D : va_G} {ad : Nat → Nat} {ca : Nat → ClassId} {S : StC} {x0 : Int32} {x1 : Int32} {r : Int32} (hf : m_CSelects_place S x0 x1 = some r) : KIC l D ad ca yk_10_place (.code yk_10_place bk_10_place 2 (some .int) :: tb) rm_CSelects_place [.int x0, .int x1] S (r, S) := by
  refine met_i (by decide) (Nat.le_of_ble_eq_true rfl) (fun p e s m below meth c A g hr hlk hK hA => ?_)
  replace g : CallFix p m c bk_10_place 2 s _ tb Rk_10 := g
  refine v_lv (lv' := [(0, .int x0), (1, .int x1)]) rfl ?_
  unfold m_CSelects_place at hf
  refine v_iload_n g dk_10_place_0 0 rfl rfl (pc' := 1) rfl ?_
  refine v_bipush (v := 8) g dk_10_place_1 (by decide) (pc' := 3) rfl ?_
  refine v_imul g dk_10_place_3 (pc' := 4) rfl ?_
  refine v_iload_n g dk_10_place_4 1 rfl rfl (pc' := 5) rfl ?_
  refine v_iadd g dk_10_place_5 (pc' := 6) rfl ?_
  exact v_iret g hr hlk hK  (pinj hf) dk_10_place_6
abbrev rm_CSelects_addBranch : Room := { frames := 1, cells := 0, slots := 0, locals := 21 }
def m_CSelects_addBranch (S : StC) (x1 : Int32) (x2 : Int32) (x3 : Int32) (x4 : Int32) : Option (Int32 × StC) :=
  if inb x1 24 = true then if (gA S 12 x1.toNatClampNeg) < 8 then (m_CSelects_place S x1 (gA S 12 x1.toNatClampNeg)).bind fun q2 =>
    if inb q2 192 = true then if x3 = 0 then some (1, tA (tA (tA (tA S 13 q2 x2) 14 q2 (vp_nar .boolean x3)) 15 q2 x4) 12 x1 ((gA S 12 x1.toNatClampNeg) + (1 : Int32)))
    else if inb x4 24 = true then some (1, tA (tA (tA (tA (tA (tA S 13 q2 x2) 14 q2 (vp_nar .boolean x3)) 15 q2 x4) 12 x1 ((gA S 12 x1.toNatClampNeg) + (1 : Int32))) 11 x1 (vp_nar .boolean 1)) 10 x4 (vp_nar .boolean 1)) else none else none
    else some (0, S) else none
set_option maxHeartbeats 4000000 in
set_option maxRecDepth 100000 in
theorem c_CSelects_addBranch {l : Launch} {D : va_G} {ad : Nat → Nat} {ca : Nat → ClassId} {S : StC} {x1 : Int32} {x2 : Int32} {x3 : Int32} {x4 : Int32} {r : Int32 × StC} (hf : m_CSelects_addBranch S x1 x2 x3 x4 = some r) : KIC l D ad ca yk_10_addBranch (.code yk_10_addBranch bk_10_addBranch 6 (some .boolean) :: tb) rm_CSelects_addBranch [.ref (ad 16), .int x1, .int x2, .int x3, .int x4] S r := by
  refine met_z (by decide) (Nat.le_of_ble_eq_true rfl) (fun p e s m below meth c A g hr hlk hK hA => ?_)
  replace g : CallFix p m c bk_10_addBranch 6 s _ tb Rk_10 := g
  refine v_lv (lv' := [(0, .ref (ad 16)), (1, .int x1), (2, .int x2), (3, .int x3), (4, .int x4)]) rfl ?_
  unfold m_CSelects_addBranch at hf
  refine v_aload_n g dk_10_addBranch_0 0 rfl rfl (pc' := 1) rfl ?_
  refine gfC_Selects_26 g hK dk_10_addBranch_1 (pc' := 4) rfl ?_
  refine v_iload_n g dk_10_addBranch_4 1 rfl rfl (pc' := 5) rfl ?_
  obtain ⟨hb1, hf⟩ := grd hf
  refine alC_21 g hK hb1 dk_10_addBranch_5 (pc' := 6) rfl ?_
  refine v_bipush (v := 8) g dk_10_addBranch_6 (by decide) (pc' := 8) rfl ?_
  refine v_icmp_lt (tgt := 13) (pc' := 11) g dk_10_addBranch_8 (by decide) rfl (fun hc => ?_) (fun hc => ?_)
  · replace hf := ifT hc hf
    refine v_iload_n g dk_10_addBranch_13 1 rfl rfl (pc' := 14) rfl ?_
    refine v_aload_n g dk_10_addBranch_14 0 rfl rfl (pc' := 15) rfl ?_
    refine gfC_Selects_26 g hK dk_10_addBranch_15 (pc' := 18) rfl ?_
    refine v_iload_n g dk_10_addBranch_18 1 rfl rfl (pc' := 19) rfl ?_
    refine alC_21 g hK hb1 dk_10_addBranch_19 (pc' := 20) rfl ?_
    obtain ⟨q2, hq, hf⟩ := bnd hf
    refine v_callS_i (As := [.int x1, .int (gA S 12 x1.toNatClampNeg)]) (rest := []) (r := q2) (S1 := S) g hK hA (c_CSelects_place hq) (kcC_Selects_48 g.2.2.2.2 rfl rfl (Nat.le_of_ble_eq_true rfl) (Nat.le_of_ble_eq_true rfl)) rfl rfl (Nat.le_of_ble_eq_true rfl) dk_10_addBranch_20 (Nat.zero_le _) (Nat.zero_le _) (pc' := 23) rfl ?_
    refine v_istore (lv' := [(5, .int q2), (0, .ref (ad 16)), (1, .int x1), (2, .int x2), (3, .int x3), (4, .int x4)]) g dk_10_addBranch_23 (by decide) rfl (pc' := 25) rfl ?_
    refine v_aload_n g dk_10_addBranch_25 1 rfl rfl (pc' := 26) rfl ?_
    refine gfC_Selects_29 g hK dk_10_addBranch_26 (pc' := 29) rfl ?_
    refine v_iload g dk_10_addBranch_29 0 rfl (pc' := 31) rfl ?_
    refine v_iload_n g dk_10_addBranch_31 3 rfl rfl (pc' := 32) rfl ?_
    obtain ⟨hb3, hf⟩ := grd hf
    refine asC_22 g hK hb3 dk_10_addBranch_32 (pc' := 33) rfl ?_
    refine v_aload_n g dk_10_addBranch_33 1 rfl rfl (pc' := 34) rfl ?_
    refine gfC_Selects_32 g hK dk_10_addBranch_34 (pc' := 37) rfl ?_
    refine v_iload g dk_10_addBranch_37 0 rfl (pc' := 39) rfl ?_
    refine v_iload_n g dk_10_addBranch_39 4 rfl rfl (pc' := 40) rfl ?_
    refine asC_23 g hK hb3 dk_10_addBranch_40 (pc' := 41) rfl ?_
    refine v_aload_n g dk_10_addBranch_41 1 rfl rfl (pc' := 42) rfl ?_
    refine gfC_Selects_35 g hK dk_10_addBranch_42 (pc' := 45) rfl ?_
    refine v_iload g dk_10_addBranch_45 0 rfl (pc' := 47) rfl ?_
    refine v_iload g dk_10_addBranch_47 5 rfl (pc' := 49) rfl ?_
    refine asC_24 g hK hb3 dk_10_addBranch_49 (pc' := 50) rfl ?_
    refine v_aload_n g dk_10_addBranch_50 1 rfl rfl (pc' := 51) rfl ?_
    refine gfC_Selects_26 g hK dk_10_addBranch_51 (pc' := 54) rfl ?_
    refine v_iload_n g dk_10_addBranch_54 2 rfl rfl (pc' := 55) rfl ?_
    refine v_dup2 g dk_10_addBranch_55 rfl rfl (pc' := 56) rfl ?_
    refine alC_21 g hK hb1 dk_10_addBranch_56 (pc' := 57) rfl ?_
    refine v_iconst (v := 1) g dk_10_addBranch_57 (by decide) (pc' := 58) rfl ?_
    refine v_iadd g dk_10_addBranch_58 (pc' := 59) rfl ?_
    refine asC_21 g hK hb1 dk_10_addBranch_59 (pc' := 60) rfl ?_
    refine v_iload_n g dk_10_addBranch_60 4 rfl rfl (pc' := 61) rfl ?_
    refine v_if_eq (tgt := 79) (pc' := 64) g dk_10_addBranch_61 (by decide) rfl (fun hc => ?_) (fun hc => ?_)
    · replace hf := ifT hc hf
      refine v_iconst (v := 1) g dk_10_addBranch_79 (by decide) (pc' := 80) rfl ?_
      exact v_zret g hr hlk hK rfl (Option.some.inj hf) dk_10_addBranch_80
    · replace hf := ifF hc hf
      refine v_aload_n g dk_10_addBranch_64 1 rfl rfl (pc' := 65) rfl ?_
      refine gfC_Selects_23 g hK dk_10_addBranch_65 (pc' := 68) rfl ?_
      refine v_iload_n g dk_10_addBranch_68 2 rfl rfl (pc' := 69) rfl ?_
      refine v_iconst (v := 1) g dk_10_addBranch_69 (by decide) (pc' := 70) rfl ?_
      refine asC_20 g hK hb1 dk_10_addBranch_70 (pc' := 71) rfl ?_
      refine v_aload_n g dk_10_addBranch_71 1 rfl rfl (pc' := 72) rfl ?_
      refine gfC_Selects_19 g hK dk_10_addBranch_72 (pc' := 75) rfl ?_
      refine v_iload g dk_10_addBranch_75 5 rfl (pc' := 77) rfl ?_
      refine v_iconst (v := 1) g dk_10_addBranch_77 (by decide) (pc' := 78) rfl ?_
      obtain ⟨hb4, hf⟩ := grd hf
      refine asC_19 g hK hb4 dk_10_addBranch_78 (pc' := 79) rfl ?_
      refine v_iconst (v := 1) g dk_10_addBranch_79 (by decide) (pc' := 80) rfl ?_
      exact v_zret g hr hlk hK rfl (Option.some.inj hf) dk_10_addBranch_80
  · replace hf := ifF hc hf
    refine v_iconst (v := 0) g dk_10_addBranch_11 (by decide) (pc' := 12) rfl ?_
    exact v_zret g hr hlk hK rfl (Option.some.inj hf) dk_10_addBranch_12
abbrev rm_CX_branch : Room := { frames := 2, cells := 0, slots := 0, locals := 46 }
def m_CX_branch (S : StC) (x1 : Int32) (x2 : Int32) (x3 : Int32) (x4 : Int32) : Option (Int32 × StC) :=
  (m_CSelects_isThere S x1).bind fun q1 =>
    if q1 = 0 then some (0, S)
    else (m_CConditions_isThere S x2).bind fun q2 =>
    if q2 = 0 then some (0, S)
    else if x3 = 0 then (m_CSelects_addBranch S x1 x2 x3 x4).bind fun q3 =>
    if q3.1 = 0 then some (0, q3.2)
    else if inb x2 40 = true then some (1, tA q3.2 6 x2 (vp_nar .boolean 1)) else none
    else (m_CSelects_mayNest S x1 x4).bind fun q5 =>
    if q5 = 0 then some (0, S)
    else (m_CSelects_addBranch S x1 x2 x3 x4).bind fun q6 =>
    if q6.1 = 0 then some (0, q6.2)
    else if inb x2 40 = true then some (1, tA q6.2 6 x2 (vp_nar .boolean 1)) else none
set_option maxHeartbeats 4000000 in
set_option maxRecDepth 100000 in
theorem c_CX_branch {l : Launch} {D : va_G} {ad : Nat → Nat} {ca : Nat → ClassId} {S : StC} {x1 : Int32} {x2 : Int32} {x3 : Int32} {x4 : Int32} {r : Int32 × StC} (hf : m_CX_branch S x1 x2 x3 x4 = some r) : KIC l D ad ca yk_0_branch (.code yk_0_branch bk_0_branch 5 (some .boolean) :: tb) rm_CX_branch [.ref (ad 0), .int x1, .int x2, .int x3, .int x4] S r := by
  refine met_z (by decide) (Nat.le_of_ble_eq_true rfl) (fun p e s m below meth c A g hr hlk hK hA => ?_)
  replace g : CallFix p m c bk_0_branch 5 s _ tb Rk_0 := g
  refine v_lv (lv' := [(0, .ref (ad 0)), (1, .int x1), (2, .int x2), (3, .int x3), (4, .int x4)]) rfl ?_
  unfold m_CX_branch at hf
  refine v_aload_n g dk_0_branch_0 0 rfl rfl (pc' := 1) rfl ?_
  refine gfC_X_47 g hK dk_0_branch_1 (pc' := 4) rfl ?_
  refine v_iload_n g dk_0_branch_4 1 rfl rfl (pc' := 5) rfl ?_
  obtain ⟨q1, hq, hf⟩ := bnd hf
  refine v_callV_i (As := [.int x1]) (rest := []) (r := q1) (S1 := S) g hK hA (c_CSelects_isThere hq) (kcC_X_132 g.2.2.2.2 rfl rfl (Nat.le_of_ble_eq_true rfl) (Nat.le_of_ble_eq_true rfl)) (ci := 7) (q0 := 16) rfl rfl rfl rfl rfl (Nat.le_of_ble_eq_true rfl) dk_0_branch_5 (Nat.zero_le _) (Nat.zero_le _) (pc' := 8) rfl ?_
  refine v_if_eq (tgt := 22) (pc' := 11) g dk_0_branch_8 (by decide) rfl (fun hc => ?_) (fun hc => ?_)
  · replace hf := ifT hc hf
    refine v_iconst (v := 0) g dk_0_branch_22 (by decide) (pc' := 23) rfl ?_
    exact v_zret g hr hlk hK rfl (Option.some.inj hf) dk_0_branch_23
  · replace hf := ifF hc hf
    refine v_aload_n g dk_0_branch_11 0 rfl rfl (pc' := 12) rfl ?_
    refine gfC_X_33 g hK dk_0_branch_12 (pc' := 15) rfl ?_
    refine v_iload_n g dk_0_branch_15 2 rfl rfl (pc' := 16) rfl ?_
    obtain ⟨q2, hq, hf⟩ := bnd hf
    refine v_callV_i (As := [.int x2]) (rest := []) (r := q2) (S1 := S) g hK hA (c_CConditions_isThere hq) (kcC_X_108 g.2.2.2.2 rfl rfl (Nat.le_of_ble_eq_true rfl) (Nat.le_of_ble_eq_true rfl)) (ci := 2) (q0 := 9) rfl rfl rfl rfl rfl (Nat.le_of_ble_eq_true rfl) dk_0_branch_16 (Nat.zero_le _) (Nat.zero_le _) (pc' := 19) rfl ?_
    refine v_if_ne (tgt := 24) (pc' := 22) g dk_0_branch_19 (by decide) rfl (fun hc => ?_) (fun hc => ?_)
    · replace hf := ifF hc hf
      refine v_iload_n g dk_0_branch_24 3 rfl rfl (pc' := 25) rfl ?_
      refine v_if_eq (tgt := 43) (pc' := 28) g dk_0_branch_25 (by decide) rfl (fun hc => ?_) (fun hc => ?_)
      · replace hf := ifT hc hf
        refine v_aload_n g dk_0_branch_43 0 rfl rfl (pc' := 44) rfl ?_
        refine gfC_X_47 g hK dk_0_branch_44 (pc' := 47) rfl ?_
        refine v_iload_n g dk_0_branch_47 1 rfl rfl (pc' := 48) rfl ?_
        refine v_iload_n g dk_0_branch_48 2 rfl rfl (pc' := 49) rfl ?_
        refine v_iload_n g dk_0_branch_49 3 rfl rfl (pc' := 50) rfl ?_
        refine v_iload g dk_0_branch_50 4 rfl (pc' := 52) rfl ?_
        obtain ⟨q3, hq, hf⟩ := bnd hf
        refine v_callV_i (As := [.int x1, .int x2, .int x3, .int x4]) (rest := []) (r := q3.1) (S1 := q3.2) g hK hA (c_CSelects_addBranch hq) (kcC_X_136 g.2.2.2.2 rfl rfl (Nat.le_of_ble_eq_true rfl) (Nat.le_of_ble_eq_true rfl)) (ci := 7) (q0 := 16) rfl rfl rfl rfl rfl (Nat.le_of_ble_eq_true rfl) dk_0_branch_52 (Nat.zero_le _) (Nat.zero_le _) (pc' := 55) rfl ?_
        refine v_if_ne (tgt := 60) (pc' := 58) g dk_0_branch_55 (by decide) rfl (fun hc => ?_) (fun hc => ?_)
        · replace hf := ifF hc hf
          refine v_aload_n g dk_0_branch_60 0 rfl rfl (pc' := 61) rfl ?_
          refine gfC_X_33 g hK dk_0_branch_61 (pc' := 64) rfl ?_
          refine gfC_X_126 g hK dk_0_branch_64 (pc' := 67) rfl ?_
          refine v_iload_n g dk_0_branch_67 2 rfl rfl (pc' := 68) rfl ?_
          refine v_iconst (v := 1) g dk_0_branch_68 (by decide) (pc' := 69) rfl ?_
          obtain ⟨hb4, hf⟩ := grd hf
          refine asC_12 g hK hb4 dk_0_branch_69 (pc' := 70) rfl ?_
          refine v_iconst (v := 1) g dk_0_branch_70 (by decide) (pc' := 71) rfl ?_
          exact v_zret g hr hlk hK rfl (Option.some.inj hf) dk_0_branch_71
        · replace hf := ifT hc hf
          refine v_iconst (v := 0) g dk_0_branch_58 (by decide) (pc' := 59) rfl ?_
          exact v_zret g hr hlk hK rfl (Option.some.inj hf) dk_0_branch_59
      · replace hf := ifF hc hf
        refine v_aload_n g dk_0_branch_28 0 rfl rfl (pc' := 29) rfl ?_
        refine gfC_X_47 g hK dk_0_branch_29 (pc' := 32) rfl ?_
        refine v_iload_n g dk_0_branch_32 1 rfl rfl (pc' := 33) rfl ?_
        refine v_iload g dk_0_branch_33 4 rfl (pc' := 35) rfl ?_
        obtain ⟨q5, hq, hf⟩ := bnd hf
        refine v_callV_i (As := [.int x1, .int x4]) (rest := []) (r := q5) (S1 := S) g hK hA (c_CSelects_mayNest hq) (kcC_X_133 g.2.2.2.2 rfl rfl (Nat.le_of_ble_eq_true rfl) (Nat.le_of_ble_eq_true rfl)) (ci := 7) (q0 := 16) rfl rfl rfl rfl rfl (Nat.le_of_ble_eq_true rfl) dk_0_branch_35 (Nat.zero_le _) (Nat.zero_le _) (pc' := 38) rfl ?_
        refine v_if_ne (tgt := 43) (pc' := 41) g dk_0_branch_38 (by decide) rfl (fun hc => ?_) (fun hc => ?_)
        · replace hf := ifF hc hf
          refine v_aload_n g dk_0_branch_43 0 rfl rfl (pc' := 44) rfl ?_
          refine gfC_X_47 g hK dk_0_branch_44 (pc' := 47) rfl ?_
          refine v_iload_n g dk_0_branch_47 1 rfl rfl (pc' := 48) rfl ?_
          refine v_iload_n g dk_0_branch_48 2 rfl rfl (pc' := 49) rfl ?_
          refine v_iload_n g dk_0_branch_49 3 rfl rfl (pc' := 50) rfl ?_
          refine v_iload g dk_0_branch_50 4 rfl (pc' := 52) rfl ?_
          obtain ⟨q6, hq, hf⟩ := bnd hf
          refine v_callV_i (As := [.int x1, .int x2, .int x3, .int x4]) (rest := []) (r := q6.1) (S1 := q6.2) g hK hA (c_CSelects_addBranch hq) (kcC_X_136 g.2.2.2.2 rfl rfl (Nat.le_of_ble_eq_true rfl) (Nat.le_of_ble_eq_true rfl)) (ci := 7) (q0 := 16) rfl rfl rfl rfl rfl (Nat.le_of_ble_eq_true rfl) dk_0_branch_52 (Nat.zero_le _) (Nat.zero_le _) (pc' := 55) rfl ?_
          refine v_if_ne (tgt := 60) (pc' := 58) g dk_0_branch_55 (by decide) rfl (fun hc => ?_) (fun hc => ?_)
          · replace hf := ifF hc hf
            refine v_aload_n g dk_0_branch_60 0 rfl rfl (pc' := 61) rfl ?_
            refine gfC_X_33 g hK dk_0_branch_61 (pc' := 64) rfl ?_
            refine gfC_X_126 g hK dk_0_branch_64 (pc' := 67) rfl ?_
            refine v_iload_n g dk_0_branch_67 2 rfl rfl (pc' := 68) rfl ?_
            refine v_iconst (v := 1) g dk_0_branch_68 (by decide) (pc' := 69) rfl ?_
            obtain ⟨hb7, hf⟩ := grd hf
            refine asC_12 g hK hb7 dk_0_branch_69 (pc' := 70) rfl ?_
            refine v_iconst (v := 1) g dk_0_branch_70 (by decide) (pc' := 71) rfl ?_
            exact v_zret g hr hlk hK rfl (Option.some.inj hf) dk_0_branch_71
          · replace hf := ifT hc hf
            refine v_iconst (v := 0) g dk_0_branch_58 (by decide) (pc' := 59) rfl ?_
            exact v_zret g hr hlk hK rfl (Option.some.inj hf) dk_0_branch_59
        · replace hf := ifT hc hf
          refine v_iconst (v := 0) g dk_0_branch_41 (by decide) (pc' := 42) rfl ?_
          exact v_zret g hr hlk hK rfl (Option.some.inj hf) dk_0_branch_42
    · replace hf := ifT hc hf
      refine v_iconst (v := 0) g dk_0_branch_22 (by decide) (pc' := 23) rfl ?_
      exact v_zret g hr hlk hK rfl (Option.some.inj hf) dk_0_branch_23
abbrev rm_CChoices_ofValue : Room := { frames := 0, cells := 0, slots := 0, locals := 0 }
def m_CChoices_ofValue (S : StC) (x0 : Int32) : Option Int64 :=
  some ((4294967296 : Int64) ||| (x0.toInt64 &&& (4294967295 : Int64)))
set_option maxHeartbeats 4000000 in
set_option maxRecDepth 100000 in
theorem c_CChoices_ofValue {l : Launch} {D : va_G} {ad : Nat → Nat} {ca : Nat → ClassId} {S : StC} {x0 : Int32} {r : Int64} (hf : m_CChoices_ofValue S x0 = some r) : KLC l D ad ca yk_3_ofValue (.code yk_3_ofValue bk_3_ofValue 1 (some .long) :: tb) rm_CChoices_ofValue [.int x0] S (r, S) := by
  refine met_l (by decide) (Nat.le_of_ble_eq_true rfl) (fun p e s m below meth c A g hr hlk hK hA => ?_)
  replace g : CallFix p m c bk_3_ofValue 1 s _ tb Rk_3 := g
  refine v_lv (lv' := [(0, .int x0)]) rfl ?_
  unfold m_CChoices_ofValue at hf
  refine v_ldc2 g dk_3_ofValue_0 lcC_Choices_11 (pc' := 3) rfl ?_
  refine v_iload_n g dk_3_ofValue_3 0 rfl rfl (pc' := 4) rfl ?_
  refine v_i2l g dk_3_ofValue_4 (pc' := 5) rfl ?_
  refine v_ldc2 g dk_3_ofValue_5 lcC_Choices_13 (pc' := 8) rfl ?_
  refine v_land g dk_3_ofValue_8 (pc' := 9) rfl ?_
  refine v_lor g dk_3_ofValue_9 (pc' := 10) rfl ?_
  exact v_lret g hr hlk hK  (pinj hf) dk_3_ofValue_10
abbrev rm_CX_otherwise : Room := { frames := 1, cells := 0, slots := 0, locals := 21 }
def m_CX_otherwise (S : StC) (x1 : Int32) (x2 : Int32) : Option (Int32 × StC) :=
  (m_CSelects_isThere S x1).bind fun q1 =>
    if q1 = 0 then some (0, S)
    else (m_CChoices_ofValue S x2).bind fun q2 =>
    if inb x1 24 = true then some (1, tB S 1 x1 q2) else none
set_option maxHeartbeats 4000000 in
set_option maxRecDepth 100000 in
theorem c_CX_otherwise {l : Launch} {D : va_G} {ad : Nat → Nat} {ca : Nat → ClassId} {S : StC} {x1 : Int32} {x2 : Int32} {r : Int32 × StC} (hf : m_CX_otherwise S x1 x2 = some r) : KIC l D ad ca yk_0_otherwise (.code yk_0_otherwise bk_0_otherwise 3 (some .boolean) :: tb) rm_CX_otherwise [.ref (ad 0), .int x1, .int x2] S r := by
  refine met_z (by decide) (Nat.le_of_ble_eq_true rfl) (fun p e s m below meth c A g hr hlk hK hA => ?_)
  replace g : CallFix p m c bk_0_otherwise 3 s _ tb Rk_0 := g
  refine v_lv (lv' := [(0, .ref (ad 0)), (1, .int x1), (2, .int x2)]) rfl ?_
  unfold m_CX_otherwise at hf
  refine v_aload_n g dk_0_otherwise_0 0 rfl rfl (pc' := 1) rfl ?_
  refine gfC_X_47 g hK dk_0_otherwise_1 (pc' := 4) rfl ?_
  refine v_iload_n g dk_0_otherwise_4 1 rfl rfl (pc' := 5) rfl ?_
  obtain ⟨q1, hq, hf⟩ := bnd hf
  refine v_callV_i (As := [.int x1]) (rest := []) (r := q1) (S1 := S) g hK hA (c_CSelects_isThere hq) (kcC_X_132 g.2.2.2.2 rfl rfl (Nat.le_of_ble_eq_true rfl) (Nat.le_of_ble_eq_true rfl)) (ci := 7) (q0 := 16) rfl rfl rfl rfl rfl (Nat.le_of_ble_eq_true rfl) dk_0_otherwise_5 (Nat.zero_le _) (Nat.zero_le _) (pc' := 8) rfl ?_
  refine v_if_ne (tgt := 13) (pc' := 11) g dk_0_otherwise_8 (by decide) rfl (fun hc => ?_) (fun hc => ?_)
  · replace hf := ifF hc hf
    refine v_aload_n g dk_0_otherwise_13 0 rfl rfl (pc' := 14) rfl ?_
    refine gfC_X_47 g hK dk_0_otherwise_14 (pc' := 17) rfl ?_
    refine gfC_X_140 g hK dk_0_otherwise_17 (pc' := 20) rfl ?_
    refine v_iload_n g dk_0_otherwise_20 1 rfl rfl (pc' := 21) rfl ?_
    refine v_iload_n g dk_0_otherwise_21 2 rfl rfl (pc' := 22) rfl ?_
    obtain ⟨q2, hq, hf⟩ := bnd hf
    refine v_callS_l (As := [.int x2]) (rest := [.int x1, .ref (ad 18)]) (r := q2) (S1 := S) g hK hA (c_CChoices_ofValue hq) (kcC_X_144 g.2.2.2.2 rfl rfl (Nat.le_of_ble_eq_true rfl) (Nat.le_of_ble_eq_true rfl)) rfl rfl (Nat.le_of_ble_eq_true rfl) dk_0_otherwise_22 (Nat.zero_le _) (Nat.zero_le _) (pc' := 25) rfl ?_
    obtain ⟨hb3, hf⟩ := grd hf
    refine asC_18 g hK hb3 dk_0_otherwise_25 (pc' := 26) rfl ?_
    refine v_iconst (v := 1) g dk_0_otherwise_26 (by decide) (pc' := 27) rfl ?_
    exact v_zret g hr hlk hK rfl (Option.some.inj hf) dk_0_otherwise_27
  · replace hf := ifT hc hf
    refine v_iconst (v := 0) g dk_0_otherwise_11 (by decide) (pc' := 12) rfl ?_
    exact v_zret g hr hlk hK rfl (Option.some.inj hf) dk_0_otherwise_12
abbrev rm_CCodes_onPlatform : Room := { frames := 0, cells := 0, slots := 0, locals := 0 }
def m_CCodes_onPlatform (S : StC) (x0 : Int32) : Option Int64 :=
  some (x0.toInt64 <<< ((48 : Int32).toInt64 &&& 63))
set_option maxHeartbeats 4000000 in
set_option maxRecDepth 100000 in
theorem c_CCodes_onPlatform {l : Launch} {D : va_G} {ad : Nat → Nat} {ca : Nat → ClassId} {S : StC} {x0 : Int32} {r : Int64} (hf : m_CCodes_onPlatform S x0 = some r) : KLC l D ad ca yk_4_onPlatform (.code yk_4_onPlatform bk_4_onPlatform 1 (some .long) :: tb) rm_CCodes_onPlatform [.int x0] S (r, S) := by
  refine met_l (by decide) (Nat.le_of_ble_eq_true rfl) (fun p e s m below meth c A g hr hlk hK hA => ?_)
  replace g : CallFix p m c bk_4_onPlatform 1 s _ tb Rk_4 := g
  refine v_lv (lv' := [(0, .int x0)]) rfl ?_
  unfold m_CCodes_onPlatform at hf
  refine v_iload_n g dk_4_onPlatform_0 0 rfl rfl (pc' := 1) rfl ?_
  refine v_i2l g dk_4_onPlatform_1 (pc' := 2) rfl ?_
  refine v_bipush (v := 48) g dk_4_onPlatform_2 (by decide) (pc' := 4) rfl ?_
  refine v_lshl g dk_4_onPlatform_4 (pc' := 5) rfl ?_
  exact v_lret g hr hlk hK  (pinj hf) dk_4_onPlatform_5
abbrev rm_CX_hasBit : Room := { frames := 0, cells := 0, slots := 0, locals := 0 }
def m_CX_hasBit (S : StC) (x0 : Int32) (x1 : Int32) : Option Int32 :=
  if (((x0.toUInt32 >>> (x1.toUInt32 &&& Int32.toUInt32 31)).toInt32) &&& (1 : Int32)) = 0 then some 0
    else some 1
set_option maxHeartbeats 4000000 in
set_option maxRecDepth 100000 in
theorem c_CX_hasBit {l : Launch} {D : va_G} {ad : Nat → Nat} {ca : Nat → ClassId} {S : StC} {x0 : Int32} {x1 : Int32} {r : Int32} (hf : m_CX_hasBit S x0 x1 = some r) : KIC l D ad ca yk_0_hasBit (.code yk_0_hasBit bk_0_hasBit 2 (some .boolean) :: tb) rm_CX_hasBit [.int x0, .int x1] S (r, S) := by
  refine met_z (by decide) (Nat.le_of_ble_eq_true rfl) (fun p e s m below meth c A g hr hlk hK hA => ?_)
  replace g : CallFix p m c bk_0_hasBit 2 s _ tb Rk_0 := g
  refine v_lv (lv' := [(0, .int x0), (1, .int x1)]) rfl ?_
  unfold m_CX_hasBit at hf
  refine v_iload_n g dk_0_hasBit_0 0 rfl rfl (pc' := 1) rfl ?_
  refine v_iload_n g dk_0_hasBit_1 1 rfl rfl (pc' := 2) rfl ?_
  refine v_iushr g dk_0_hasBit_2 (pc' := 3) rfl ?_
  refine v_iconst (v := 1) g dk_0_hasBit_3 (by decide) (pc' := 4) rfl ?_
  refine v_iand g dk_0_hasBit_4 (pc' := 5) rfl ?_
  refine v_if_eq (tgt := 12) (pc' := 8) g dk_0_hasBit_5 (by decide) rfl (fun hc => ?_) (fun hc => ?_)
  · replace hf := ifT hc hf
    refine v_iconst (v := 0) g dk_0_hasBit_12 (by decide) (pc' := 13) rfl ?_
    exact v_zret g hr hlk hK rfl (pinj hf) dk_0_hasBit_13
  · replace hf := ifF hc hf
    refine v_iconst (v := 1) g dk_0_hasBit_8 (by decide) (pc' := 9) rfl ?_
    refine v_goto (tgt := 13) g dk_0_hasBit_9 (by decide) ?_
    exact v_zret g hr hlk hK rfl (pinj hf) dk_0_hasBit_13
abbrev rm_CX_trimmed : Room := { frames := 1, cells := 0, slots := 0, locals := 24 }
def L_CX_trimmed_6 (S : StC) (x3 : Int32) : Nat → Int64 → Int32 → Option (Int64)
  | 0, _, _ => none
  | n + 1, x4, x6 =>
    if (gI S 0) ≤ x6 then some x4
    else (m_CX_hasBit S x3 x6).bind fun q1 =>
    if q1 = 0 then if inb x6 16 = true then (m_CCodes_withValue S x4 x6 (gA S 1 x6.toNatClampNeg)).bind fun q3 =>
    L_CX_trimmed_6 S x3 n q3 (x6 + 1) else none
    else L_CX_trimmed_6 S x3 n x4 (x6 + 1)
set_option maxHeartbeats 4000000 in
set_option maxRecDepth 100000 in
theorem w_CX_trimmed_6 {p : Program} {l : Launch} {e : Env} {s : State} {m : MethodId} {args : Array Value} {below : List Frame} {meth : Method} {c : Code} {A : Nat → Prop} {D : va_G} {ad : Nat → Nat} {ca : Nat → ClassId} {Rm : Int64 × StC} {S : StC} {x3 : Int32} (g : CallFix p m c bk_0_trimmed 7 s args tb Rk_0) (hr : meth.sig.returnType = some .long) (hlk : meth.locks = false) (hK : va_K D vwCl (tyC ca) s) (hA : ∀ q, s.heap.size ≤ q → A q) : ∀ (n : Nat) (x4 : Int64) (x6 : Int32) (o : Int64), L_CX_trimmed_6 S x3 n x4 x6 = some o → (Vj p l e rm_CX_trimmed s m args below meth c (MQ below (qL D vwCl (tyC ca) (wdC ad ca) A Rm) args s 0 0 A) D vwCl A 7 0 0 (wdC ad ca S) 52 [(4, .long o)] []) → Vj p l e rm_CX_trimmed s m args below meth c (MQ below (qL D vwCl (tyC ca) (wdC ad ca) A Rm) args s 0 0 A) D vwCl A 7 0 0 (wdC ad ca S) 6 [(0, .ref (ad 0)), (3, .int x3), (4, .long x4), (6, .int x6)] [] := by
  intro n
  induction n with
  | zero => intro x4 x6 o hf; exact nomatch (show none = some o from hf)
  | succ n ih =>
    intro x4 x6 o hf hx
    rw [L_CX_trimmed_6] at hf
    refine v_iload g dk_0_trimmed_6 3 rfl (pc' := 8) rfl ?_
    refine v_aload_n g dk_0_trimmed_8 0 rfl rfl (pc' := 9) rfl ?_
    refine gfC_X_12 g hK dk_0_trimmed_9 (pc' := 12) rfl ?_
    refine gfC_X_310 g hK dk_0_trimmed_12 (pc' := 15) rfl ?_
    refine v_icmp_ge (tgt := 52) (pc' := 18) g dk_0_trimmed_15 (by decide) rfl (fun hc => ?_) (fun hc => ?_)
    · replace hf := ifT hc hf
      refine v_sub [2] rfl ?_
      have e9 := Option.some.inj hf
      subst e9
      exact hx
    · replace hf := ifF hc hf
      refine v_iload_n g dk_0_trimmed_18 1 rfl rfl (pc' := 19) rfl ?_
      refine v_iload g dk_0_trimmed_19 3 rfl (pc' := 21) rfl ?_
      obtain ⟨q1, hq, hf⟩ := bnd hf
      refine v_callS_i (As := [.int x3, .int x6]) (rest := []) (r := q1) (S1 := S) g hK hA (c_CX_hasBit hq) (kcC_X_269 g.2.2.2.2 rfl rfl (Nat.le_of_ble_eq_true rfl) (Nat.le_of_ble_eq_true rfl)) rfl rfl (Nat.le_of_ble_eq_true rfl) dk_0_trimmed_21 (Nat.zero_le _) (Nat.zero_le _) (pc' := 24) rfl ?_
      refine v_if_ne (tgt := 46) (pc' := 27) g dk_0_trimmed_24 (by decide) rfl (fun hc => ?_) (fun hc => ?_)
      · replace hf := ifF hc hf
        refine v_iinc (j := 3) (v := x6 + 1) (lv' := [(6, .int (x6 + 1)), (0, .ref (ad 0)), (3, .int x3), (4, .long x4)]) g dk_0_trimmed_46 rfl rfl (by decide) rfl (pc' := 49) rfl ?_
        refine v_goto (tgt := 6) g dk_0_trimmed_49 (by decide) ?_
        refine v_sub [1, 2, 3, 0] rfl ?_
        exact ih x4 (x6 + 1) o hf hx
      · replace hf := ifT hc hf
        refine v_lload g dk_0_trimmed_27 2 rfl (pc' := 29) rfl ?_
        refine v_iload g dk_0_trimmed_29 3 rfl (pc' := 31) rfl ?_
        refine v_aload_n g dk_0_trimmed_31 0 rfl rfl (pc' := 32) rfl ?_
        refine gfC_X_12 g hK dk_0_trimmed_32 (pc' := 35) rfl ?_
        refine gfC_X_311 g hK dk_0_trimmed_35 (pc' := 38) rfl ?_
        refine v_iload g dk_0_trimmed_38 3 rfl (pc' := 40) rfl ?_
        obtain ⟨hb2, hf⟩ := grd hf
        refine alC_3 g hK hb2 dk_0_trimmed_40 (pc' := 41) rfl ?_
        obtain ⟨q3, hq, hf⟩ := bnd hf
        refine v_callS_l (As := [.long x4, .int x6, .int (gA S 1 x6.toNatClampNeg)]) (rest := []) (r := q3) (S1 := S) g hK hA (c_CCodes_withValue hq) (kcC_X_168 g.2.2.2.2 rfl rfl (Nat.le_of_ble_eq_true rfl) (Nat.le_of_ble_eq_true rfl)) rfl rfl (Nat.le_of_ble_eq_true rfl) dk_0_trimmed_41 (Nat.zero_le _) (Nat.zero_le _) (pc' := 44) rfl ?_
        refine v_lstore (lv' := [(4, .long q3), (0, .ref (ad 0)), (3, .int x3), (6, .int x6)]) g dk_0_trimmed_44 (by decide) rfl (pc' := 46) rfl ?_
        refine v_iinc (j := 3) (v := x6 + 1) (lv' := [(6, .int (x6 + 1)), (4, .long q3), (0, .ref (ad 0)), (3, .int x3)]) g dk_0_trimmed_46 rfl rfl (by decide) rfl (pc' := 49) rfl ?_
        refine v_goto (tgt := 6) g dk_0_trimmed_49 (by decide) ?_
        refine v_sub [2, 3, 1, 0] rfl ?_
        exact ih q3 (x6 + 1) o hf hx
def m_CX_trimmed (S : StC) (x1 : Int64) (x3 : Int32) : Option Int64 :=
  (L_CX_trimmed_6 S x3 100 x1 0).bind fun y5 =>
    some y5
set_option maxHeartbeats 4000000 in
set_option maxRecDepth 100000 in
theorem c_CX_trimmed {l : Launch} {D : va_G} {ad : Nat → Nat} {ca : Nat → ClassId} {S : StC} {x1 : Int64} {x3 : Int32} {r : Int64} (hf : m_CX_trimmed S x1 x3 = some r) : KLC l D ad ca yk_0_trimmed (.code yk_0_trimmed bk_0_trimmed 7 (some .long) :: tb) rm_CX_trimmed [.ref (ad 0), .long x1, .int x3] S (r, S) := by
  refine met_l (by decide) (Nat.le_of_ble_eq_true rfl) (fun p e s m below meth c A g hr hlk hK hA => ?_)
  replace g : CallFix p m c bk_0_trimmed 7 s _ tb Rk_0 := g
  refine v_lv (lv' := [(0, .ref (ad 0)), (1, .long x1), (3, .int x3)]) rfl ?_
  unfold m_CX_trimmed at hf
  refine v_lload_n g dk_0_trimmed_0 1 rfl rfl (pc' := 1) rfl ?_
  refine v_lstore (lv' := [(4, .long x1), (0, .ref (ad 0)), (1, .long x1), (3, .int x3)]) g dk_0_trimmed_1 (by decide) rfl (pc' := 3) rfl ?_
  refine v_iconst (v := 0) g dk_0_trimmed_3 (by decide) (pc' := 4) rfl ?_
  refine v_istore (lv' := [(6, .int 0), (4, .long x1), (0, .ref (ad 0)), (1, .long x1), (3, .int x3)]) g dk_0_trimmed_4 (by decide) rfl (pc' := 6) rfl ?_
  refine v_sub [2, 4, 1, 0] rfl ?_
  obtain ⟨y5, hL, hf⟩ := bnd hf
  refine w_CX_trimmed_6 g hr hlk hK hA 100 x1 0 _ hL ?_
  refine v_lload g dk_0_trimmed_52 0 rfl (pc' := 54) rfl ?_
  exact v_lret g hr hlk hK  (pinj hf) dk_0_trimmed_54
end
section
abbrev rm_CConfigurations_numberOf : Room := { frames := 0, cells := 0, slots := 0, locals := 0 }
def L_CConfigurations_numberOf_2 (S : StC) (x1 : Int64) : Nat → Int32 → Option (Unit ⊕ (Int32 × StC))
  | 0, _ => none
  | n + 1, x3 =>
    if (gI S 2) ≤ x3 then some (.inl ())
    else if inb x3 60 = true then if (lg_cmp (gB S 0 x3.toNatClampNeg) x1) = 0 then some (.inr (x3, S))
    else L_CConfigurations_numberOf_2 S x1 n (x3 + 1) else none
set_option maxHeartbeats 4000000 in
set_option maxRecDepth 100000 in
theorem w_CConfigurations_numberOf_2 {p : Program} {l : Launch} {e : Env} {s : State} {m : MethodId} {args : Array Value} {below : List Frame} {meth : Method} {c : Code} {A : Nat → Prop} {D : va_G} {ad : Nat → Nat} {ca : Nat → ClassId} {Rm : Int32 × StC} {S : StC} {x1 : Int64} (g : CallFix p m c bk_6_numberOf 4 s args tb Rk_6) (hr : meth.sig.returnType = some .int) (hlk : meth.locks = false) (hK : va_K D vwCl (tyC ca) s) (hA : ∀ q, s.heap.size ≤ q → A q) : ∀ (n : Nat) (x3 : Int32) (o : Unit ⊕ (Int32 × StC)), L_CConfigurations_numberOf_2 S x1 n x3 = some o → (∀ y, o = .inl y → Vj p l e rm_CConfigurations_numberOf s m args below meth c (MQ below (qI D vwCl (tyC ca) (wdC ad ca) A Rm) args s 0 0 A) D vwCl A 4 0 0 (wdC ad ca S) 29 [(0, .ref (ad 7)), (1, .long x1)] []) → (∀ r, o = .inr r → r = Rm) → Vj p l e rm_CConfigurations_numberOf s m args below meth c (MQ below (qI D vwCl (tyC ca) (wdC ad ca) A Rm) args s 0 0 A) D vwCl A 4 0 0 (wdC ad ca S) 2 [(0, .ref (ad 7)), (1, .long x1), (3, .int x3)] [] := by
  intro n
  induction n with
  | zero => intro x3 o hf; exact nomatch (show none = some o from hf)
  | succ n ih =>
    intro x3 o hf hx hret
    rw [L_CConfigurations_numberOf_2] at hf
    refine v_iload_n g dk_6_numberOf_2 2 rfl rfl (pc' := 3) rfl ?_
    refine v_aload_n g dk_6_numberOf_3 0 rfl rfl (pc' := 4) rfl ?_
    refine gfC_Configurations_15 g hK dk_6_numberOf_4 (pc' := 7) rfl ?_
    refine v_icmp_ge (tgt := 29) (pc' := 10) g dk_6_numberOf_7 (by decide) rfl (fun hc => ?_) (fun hc => ?_)
    · replace hf := ifT hc hf
      refine v_sub [0, 1] rfl ?_
      exact hx _ (Option.some.inj hf).symm
    · replace hf := ifF hc hf
      refine v_aload_n g dk_6_numberOf_10 0 rfl rfl (pc' := 11) rfl ?_
      refine gfC_Configurations_9 g hK dk_6_numberOf_11 (pc' := 14) rfl ?_
      refine v_iload_n g dk_6_numberOf_14 2 rfl rfl (pc' := 15) rfl ?_
      obtain ⟨hb1, hf⟩ := grd hf
      refine alC_8 g hK hb1 dk_6_numberOf_15 (pc' := 16) rfl ?_
      refine v_lload_n g dk_6_numberOf_16 1 rfl rfl (pc' := 17) rfl ?_
      refine v_lcmp g dk_6_numberOf_17 (pc' := 18) rfl ?_
      refine v_if_ne (tgt := 23) (pc' := 21) g dk_6_numberOf_18 (by decide) rfl (fun hc => ?_) (fun hc => ?_)
      · replace hf := ifF hc hf
        refine v_iinc (j := 2) (v := x3 + 1) (lv' := [(3, .int (x3 + 1)), (0, .ref (ad 7)), (1, .long x1)]) g dk_6_numberOf_23 rfl rfl (by decide) rfl (pc' := 26) rfl ?_
        refine v_goto (tgt := 2) g dk_6_numberOf_26 (by decide) ?_
        refine v_sub [1, 2, 0] rfl ?_
        exact ih (x3 + 1) o hf hx hret
      · replace hf := ifT hc hf
        refine v_iload_n g dk_6_numberOf_21 2 rfl rfl (pc' := 22) rfl ?_
        exact v_iret g hr hlk hK  (hret _ (Option.some.inj hf).symm) dk_6_numberOf_22
def m_CConfigurations_numberOf (S : StC) (x1 : Int64) : Option (Int32 × StC) :=
  (L_CConfigurations_numberOf_2 S x1 100 0).bind fun o2 => exK o2 fun y3 =>
    if (gI S 2) < 60 then if inb (gI S 2) 60 = true then some (gI S 2, sI (tB S 0 (gI S 2) x1) 2 ((gI S 2) + (1 : Int32))) else none
    else some ((-1), S)
set_option maxHeartbeats 4000000 in
set_option maxRecDepth 100000 in
theorem c_CConfigurations_numberOf {l : Launch} {D : va_G} {ad : Nat → Nat} {ca : Nat → ClassId} {S : StC} {x1 : Int64} {r : Int32 × StC} (hf : m_CConfigurations_numberOf S x1 = some r) : KIC l D ad ca yk_6_numberOf (.code yk_6_numberOf bk_6_numberOf 4 (some .int) :: tb) rm_CConfigurations_numberOf [.ref (ad 7), .long x1] S r := by
  refine met_i (by decide) (Nat.le_of_ble_eq_true rfl) (fun p e s m below meth c A g hr hlk hK hA => ?_)
  replace g : CallFix p m c bk_6_numberOf 4 s _ tb Rk_6 := g
  refine v_lv (lv' := [(0, .ref (ad 7)), (1, .long x1)]) rfl ?_
  unfold m_CConfigurations_numberOf at hf
  refine v_iconst (v := 0) g dk_6_numberOf_0 (by decide) (pc' := 1) rfl ?_
  refine v_istore_n (lv' := [(3, .int 0), (0, .ref (ad 7)), (1, .long x1)]) g dk_6_numberOf_1 rfl (by decide) rfl (pc' := 2) rfl ?_
  refine v_sub [1, 2, 0] rfl ?_
  obtain ⟨o2, hL, hf⟩ := bnd hf
  refine w_CConfigurations_numberOf_2 g hr hlk hK hA 100 0 _ hL (fun y3 hy => ?_) (fun r9 hy => ?_)
  · subst hy
    replace hf := exKl hf
    refine v_aload_n g dk_6_numberOf_29 0 rfl rfl (pc' := 30) rfl ?_
    refine gfC_Configurations_15 g hK dk_6_numberOf_30 (pc' := 33) rfl ?_
    refine v_bipush (v := 60) g dk_6_numberOf_33 (by decide) (pc' := 35) rfl ?_
    refine v_icmp_lt (tgt := 40) (pc' := 38) g dk_6_numberOf_35 (by decide) rfl (fun hc => ?_) (fun hc => ?_)
    · replace hf := ifT hc hf
      refine v_aload_n g dk_6_numberOf_40 0 rfl rfl (pc' := 41) rfl ?_
      refine gfC_Configurations_9 g hK dk_6_numberOf_41 (pc' := 44) rfl ?_
      refine v_aload_n g dk_6_numberOf_44 0 rfl rfl (pc' := 45) rfl ?_
      refine gfC_Configurations_15 g hK dk_6_numberOf_45 (pc' := 48) rfl ?_
      refine v_lload_n g dk_6_numberOf_48 1 rfl rfl (pc' := 49) rfl ?_
      obtain ⟨hb4, hf⟩ := grd hf
      refine asC_8 g hK hb4 dk_6_numberOf_49 (pc' := 50) rfl ?_
      refine v_aload_n g dk_6_numberOf_50 0 rfl rfl (pc' := 51) rfl ?_
      refine v_dup g dk_6_numberOf_51 rfl (pc' := 52) rfl ?_
      refine gfC_Configurations_15 g hK dk_6_numberOf_52 (pc' := 55) rfl ?_
      refine v_dup_x1 g dk_6_numberOf_55 rfl rfl (pc' := 56) rfl ?_
      refine v_iconst (v := 1) g dk_6_numberOf_56 (by decide) (pc' := 57) rfl ?_
      refine v_iadd g dk_6_numberOf_57 (pc' := 58) rfl ?_
      refine pfC_Configurations_15 g hK dk_6_numberOf_58 (pc' := 61) rfl ?_
      exact v_iret g hr hlk hK  (Option.some.inj hf) dk_6_numberOf_61
    · replace hf := ifF hc hf
      refine v_iconst (v := (-1)) g dk_6_numberOf_38 (by decide) (pc' := 39) rfl ?_
      exact v_iret g hr hlk hK  (Option.some.inj hf) dk_6_numberOf_39
  · subst hy
    exact Option.some.inj hf
abbrev rm_CX_configuration : Room := { frames := 2, cells := 0, slots := 0, locals := 50 }
def m_CX_configuration (S : StC) (x1 : Int32) : Option (Int32 × StC) :=
  (m_CPlatforms_isThere S x1).bind fun q1 =>
    if q1 = 0 then some ((-1), S)
    else (m_CCodes_onPlatform S x1).bind fun q2 =>
    (m_CX_trimmed S q2 0).bind fun q3 =>
    (m_CConfigurations_numberOf S q3).bind fun q4 =>
    some (q4.1, q4.2)
set_option maxHeartbeats 4000000 in
set_option maxRecDepth 100000 in
theorem c_CX_configuration {l : Launch} {D : va_G} {ad : Nat → Nat} {ca : Nat → ClassId} {S : StC} {x1 : Int32} {r : Int32 × StC} (hf : m_CX_configuration S x1 = some r) : KIC l D ad ca yk_0_configuration (.code yk_0_configuration bk_0_configuration 2 (some .int) :: tb) rm_CX_configuration [.ref (ad 0), .int x1] S r := by
  refine met_i (by decide) (Nat.le_of_ble_eq_true rfl) (fun p e s m below meth c A g hr hlk hK hA => ?_)
  replace g : CallFix p m c bk_0_configuration 2 s _ tb Rk_0 := g
  refine v_lv (lv' := [(0, .ref (ad 0)), (1, .int x1)]) rfl ?_
  unfold m_CX_configuration at hf
  refine v_aload_n g dk_0_configuration_0 0 rfl rfl (pc' := 1) rfl ?_
  refine gfC_X_19 g hK dk_0_configuration_1 (pc' := 4) rfl ?_
  refine v_iload_n g dk_0_configuration_4 1 rfl rfl (pc' := 5) rfl ?_
  obtain ⟨q1, hq, hf⟩ := bnd hf
  refine v_callV_i (As := [.int x1]) (rest := []) (r := q1) (S1 := S) g hK hA (c_CPlatforms_isThere hq) (kcC_X_90 g.2.2.2.2 rfl rfl (Nat.le_of_ble_eq_true rfl) (Nat.le_of_ble_eq_true rfl)) (ci := 6) (q0 := 5) rfl rfl rfl rfl rfl (Nat.le_of_ble_eq_true rfl) dk_0_configuration_5 (Nat.zero_le _) (Nat.zero_le _) (pc' := 8) rfl ?_
  refine v_if_ne (tgt := 13) (pc' := 11) g dk_0_configuration_8 (by decide) rfl (fun hc => ?_) (fun hc => ?_)
  · replace hf := ifF hc hf
    refine v_aload_n g dk_0_configuration_13 0 rfl rfl (pc' := 14) rfl ?_
    refine gfC_X_26 g hK dk_0_configuration_14 (pc' := 17) rfl ?_
    refine v_aload_n g dk_0_configuration_17 0 rfl rfl (pc' := 18) rfl ?_
    refine v_iload_n g dk_0_configuration_18 1 rfl rfl (pc' := 19) rfl ?_
    obtain ⟨q2, hq, hf⟩ := bnd hf
    refine v_callS_l (As := [.int x1]) (rest := [.ref (ad 0), .ref (ad 7)]) (r := q2) (S1 := S) g hK hA (c_CCodes_onPlatform hq) (kcC_X_148 g.2.2.2.2 rfl rfl (Nat.le_of_ble_eq_true rfl) (Nat.le_of_ble_eq_true rfl)) rfl rfl (Nat.le_of_ble_eq_true rfl) dk_0_configuration_19 (Nat.zero_le _) (Nat.zero_le _) (pc' := 22) rfl ?_
    refine v_iconst (v := 0) g dk_0_configuration_22 (by decide) (pc' := 23) rfl ?_
    obtain ⟨q3, hq, hf⟩ := bnd hf
    refine v_callV_l (As := [.long q2, .int 0]) (rest := [.ref (ad 7)]) (r := q3) (S1 := S) g hK hA (c_CX_trimmed hq) (kcC_X_153 g.2.2.2.2 rfl rfl (Nat.le_of_ble_eq_true rfl) (Nat.le_of_ble_eq_true rfl)) (ci := 0) (q0 := 0) rfl rfl rfl rfl rfl (Nat.le_of_ble_eq_true rfl) dk_0_configuration_23 (Nat.zero_le _) (Nat.zero_le _) (pc' := 26) rfl ?_
    obtain ⟨q4, hq, hf⟩ := bnd hf
    refine v_callV_i (As := [.long q3]) (rest := []) (r := q4.1) (S1 := q4.2) g hK hA (c_CConfigurations_numberOf hq) (kcC_X_157 g.2.2.2.2 rfl rfl (Nat.le_of_ble_eq_true rfl) (Nat.le_of_ble_eq_true rfl)) (ci := 3) (q0 := 7) rfl rfl rfl rfl rfl (Nat.le_of_ble_eq_true rfl) dk_0_configuration_26 (Nat.zero_le _) (Nat.zero_le _) (pc' := 29) rfl ?_
    exact v_iret g hr hlk hK  (Option.some.inj hf) dk_0_configuration_29
  · replace hf := ifT hc hf
    refine v_iconst (v := (-1)) g dk_0_configuration_11 (by decide) (pc' := 12) rfl ?_
    exact v_iret g hr hlk hK  (Option.some.inj hf) dk_0_configuration_12
abbrev rm_CConfigurations_isThere : Room := { frames := 0, cells := 0, slots := 0, locals := 0 }
def m_CConfigurations_isThere (S : StC) (x1 : Int32) : Option Int32 :=
  if x1 < 0 then some 0
    else if (gI S 2) ≤ x1 then some 0
    else some 1
set_option maxHeartbeats 4000000 in
set_option maxRecDepth 100000 in
theorem c_CConfigurations_isThere {l : Launch} {D : va_G} {ad : Nat → Nat} {ca : Nat → ClassId} {S : StC} {x1 : Int32} {r : Int32} (hf : m_CConfigurations_isThere S x1 = some r) : KIC l D ad ca yk_6_isThere (.code yk_6_isThere bk_6_isThere 2 (some .boolean) :: tb) rm_CConfigurations_isThere [.ref (ad 7), .int x1] S (r, S) := by
  refine met_z (by decide) (Nat.le_of_ble_eq_true rfl) (fun p e s m below meth c A g hr hlk hK hA => ?_)
  replace g : CallFix p m c bk_6_isThere 2 s _ tb Rk_6 := g
  refine v_lv (lv' := [(0, .ref (ad 7)), (1, .int x1)]) rfl ?_
  unfold m_CConfigurations_isThere at hf
  refine v_iload_n g dk_6_isThere_0 1 rfl rfl (pc' := 1) rfl ?_
  refine v_if_lt (tgt := 16) (pc' := 4) g dk_6_isThere_1 (by decide) rfl (fun hc => ?_) (fun hc => ?_)
  · replace hf := ifT hc hf
    refine v_iconst (v := 0) g dk_6_isThere_16 (by decide) (pc' := 17) rfl ?_
    exact v_zret g hr hlk hK rfl (pinj hf) dk_6_isThere_17
  · replace hf := ifF hc hf
    refine v_iload_n g dk_6_isThere_4 1 rfl rfl (pc' := 5) rfl ?_
    refine v_aload_n g dk_6_isThere_5 0 rfl rfl (pc' := 6) rfl ?_
    refine gfC_Configurations_15 g hK dk_6_isThere_6 (pc' := 9) rfl ?_
    refine v_icmp_ge (tgt := 16) (pc' := 12) g dk_6_isThere_9 (by decide) rfl (fun hc => ?_) (fun hc => ?_)
    · replace hf := ifT hc hf
      refine v_iconst (v := 0) g dk_6_isThere_16 (by decide) (pc' := 17) rfl ?_
      exact v_zret g hr hlk hK rfl (pinj hf) dk_6_isThere_17
    · replace hf := ifF hc hf
      refine v_iconst (v := 1) g dk_6_isThere_12 (by decide) (pc' := 13) rfl ?_
      refine v_goto (tgt := 17) g dk_6_isThere_13 (by decide) ?_
      exact v_zret g hr hlk hK rfl (pinj hf) dk_6_isThere_17
abbrev rm_CX_set : Room := { frames := 2, cells := 0, slots := 0, locals := 44 }
def m_CX_set (S : StC) (x1 : Int32) (x2 : Int32) (x3 : Int32) : Option (Int32 × StC) :=
  (m_CSettings_baseOf S x2).bind fun q1 =>
    (m_CConfigurations_isThere S x1).bind fun q2 =>
    if q2 = 0 then some ((-1), S)
    else if q1 = (-1) then some ((-1), S)
    else if x3 < 0 then some ((-1), S)
    else if inb q1 16 = true then if x3 < (gA S 0 q1.toNatClampNeg) then if inb x1 60 = true then (m_CCodes_withValue S (gB S 0 x1.toNatClampNeg) q1 x3).bind fun q5 =>
    (m_CConfigurations_numberOf S q5).bind fun q6 =>
    some (q6.1, q6.2) else none
    else some ((-1), S) else none
set_option maxHeartbeats 4000000 in
set_option maxRecDepth 100000 in
theorem c_CX_set {l : Launch} {D : va_G} {ad : Nat → Nat} {ca : Nat → ClassId} {S : StC} {x1 : Int32} {x2 : Int32} {x3 : Int32} {r : Int32 × StC} (hf : m_CX_set S x1 x2 x3 = some r) : KIC l D ad ca yk_0_set (.code yk_0_set bk_0_set 7 (some .int) :: tb) rm_CX_set [.ref (ad 0), .int x1, .int x2, .int x3] S r := by
  refine met_i (by decide) (Nat.le_of_ble_eq_true rfl) (fun p e s m below meth c A g hr hlk hK hA => ?_)
  replace g : CallFix p m c bk_0_set 7 s _ tb Rk_0 := g
  refine v_lv (lv' := [(0, .ref (ad 0)), (1, .int x1), (2, .int x2), (3, .int x3)]) rfl ?_
  unfold m_CX_set at hf
  refine v_aload_n g dk_0_set_0 0 rfl rfl (pc' := 1) rfl ?_
  refine gfC_X_12 g hK dk_0_set_1 (pc' := 4) rfl ?_
  refine v_iload_n g dk_0_set_4 2 rfl rfl (pc' := 5) rfl ?_
  obtain ⟨q1, hq, hf⟩ := bnd hf
  refine v_callV_i (As := [.int x2]) (rest := []) (r := q1) (S1 := S) g hK hA (c_CSettings_baseOf hq) (kcC_X_83 g.2.2.2.2 rfl rfl (Nat.le_of_ble_eq_true rfl) (Nat.le_of_ble_eq_true rfl)) (ci := 8) (q0 := 1) rfl rfl rfl rfl rfl (Nat.le_of_ble_eq_true rfl) dk_0_set_5 (Nat.zero_le _) (Nat.zero_le _) (pc' := 8) rfl ?_
  refine v_istore (lv' := [(4, .int q1), (0, .ref (ad 0)), (1, .int x1), (2, .int x2), (3, .int x3)]) g dk_0_set_8 (by decide) rfl (pc' := 10) rfl ?_
  refine v_aload_n g dk_0_set_10 1 rfl rfl (pc' := 11) rfl ?_
  refine gfC_X_26 g hK dk_0_set_11 (pc' := 14) rfl ?_
  refine v_iload_n g dk_0_set_14 2 rfl rfl (pc' := 15) rfl ?_
  obtain ⟨q2, hq, hf⟩ := bnd hf
  refine v_callV_i (As := [.int x1]) (rest := []) (r := q2) (S1 := S) g hK hA (c_CConfigurations_isThere hq) (kcC_X_161 g.2.2.2.2 rfl rfl (Nat.le_of_ble_eq_true rfl) (Nat.le_of_ble_eq_true rfl)) (ci := 3) (q0 := 7) rfl rfl rfl rfl rfl (Nat.le_of_ble_eq_true rfl) dk_0_set_15 (Nat.zero_le _) (Nat.zero_le _) (pc' := 18) rfl ?_
  refine v_if_eq (tgt := 27) (pc' := 21) g dk_0_set_18 (by decide) rfl (fun hc => ?_) (fun hc => ?_)
  · replace hf := ifT hc hf
    refine v_iconst (v := (-1)) g dk_0_set_27 (by decide) (pc' := 28) rfl ?_
    exact v_iret g hr hlk hK  (Option.some.inj hf) dk_0_set_28
  · replace hf := ifF hc hf
    refine v_iload g dk_0_set_21 0 rfl (pc' := 23) rfl ?_
    refine v_iconst (v := (-1)) g dk_0_set_23 (by decide) (pc' := 24) rfl ?_
    refine v_icmp_ne (tgt := 29) (pc' := 27) g dk_0_set_24 (by decide) rfl (fun hc => ?_) (fun hc => ?_)
    · replace hf := ifF hc hf
      refine v_iload_n g dk_0_set_29 4 rfl rfl (pc' := 30) rfl ?_
      refine v_if_lt (tgt := 47) (pc' := 33) g dk_0_set_30 (by decide) rfl (fun hc => ?_) (fun hc => ?_)
      · replace hf := ifT hc hf
        refine v_iconst (v := (-1)) g dk_0_set_47 (by decide) (pc' := 48) rfl ?_
        exact v_iret g hr hlk hK  (Option.some.inj hf) dk_0_set_48
      · replace hf := ifF hc hf
        refine v_iload_n g dk_0_set_33 4 rfl rfl (pc' := 34) rfl ?_
        refine v_aload_n g dk_0_set_34 1 rfl rfl (pc' := 35) rfl ?_
        refine gfC_X_12 g hK dk_0_set_35 (pc' := 38) rfl ?_
        refine gfC_X_162 g hK dk_0_set_38 (pc' := 41) rfl ?_
        refine v_iload g dk_0_set_41 0 rfl (pc' := 43) rfl ?_
        obtain ⟨hb3, hf⟩ := grd hf
        refine alC_2 g hK hb3 dk_0_set_43 (pc' := 44) rfl ?_
        refine v_icmp_lt (tgt := 49) (pc' := 47) g dk_0_set_44 (by decide) rfl (fun hc => ?_) (fun hc => ?_)
        · replace hf := ifT hc hf
          refine v_aload_n g dk_0_set_49 1 rfl rfl (pc' := 50) rfl ?_
          refine gfC_X_26 g hK dk_0_set_50 (pc' := 53) rfl ?_
          refine gfC_X_165 g hK dk_0_set_53 (pc' := 56) rfl ?_
          refine v_iload_n g dk_0_set_56 2 rfl rfl (pc' := 57) rfl ?_
          obtain ⟨hb4, hf⟩ := grd hf
          refine alC_8 g hK hb4 dk_0_set_57 (pc' := 58) rfl ?_
          refine v_lstore (lv' := [(5, .long (gB S 0 x1.toNatClampNeg)), (4, .int q1), (0, .ref (ad 0)), (1, .int x1), (2, .int x2), (3, .int x3)]) g dk_0_set_58 (by decide) rfl (pc' := 60) rfl ?_
          refine v_aload_n g dk_0_set_60 2 rfl rfl (pc' := 61) rfl ?_
          refine gfC_X_26 g hK dk_0_set_61 (pc' := 64) rfl ?_
          refine v_lload g dk_0_set_64 0 rfl (pc' := 66) rfl ?_
          refine v_iload g dk_0_set_66 1 rfl (pc' := 68) rfl ?_
          refine v_iload_n g dk_0_set_68 5 rfl rfl (pc' := 69) rfl ?_
          obtain ⟨q5, hq, hf⟩ := bnd hf
          refine v_callS_l (As := [.long (gB S 0 x1.toNatClampNeg), .int q1, .int x3]) (rest := [.ref (ad 7)]) (r := q5) (S1 := S) g hK hA (c_CCodes_withValue hq) (kcC_X_168 g.2.2.2.2 rfl rfl (Nat.le_of_ble_eq_true rfl) (Nat.le_of_ble_eq_true rfl)) rfl rfl (Nat.le_of_ble_eq_true rfl) dk_0_set_69 (Nat.zero_le _) (Nat.zero_le _) (pc' := 72) rfl ?_
          obtain ⟨q6, hq, hf⟩ := bnd hf
          refine v_callV_i (As := [.long q5]) (rest := []) (r := q6.1) (S1 := q6.2) g hK hA (c_CConfigurations_numberOf hq) (kcC_X_157 g.2.2.2.2 rfl rfl (Nat.le_of_ble_eq_true rfl) (Nat.le_of_ble_eq_true rfl)) (ci := 3) (q0 := 7) rfl rfl rfl rfl rfl (Nat.le_of_ble_eq_true rfl) dk_0_set_72 (Nat.zero_le _) (Nat.zero_le _) (pc' := 75) rfl ?_
          exact v_iret g hr hlk hK  (Option.some.inj hf) dk_0_set_75
        · replace hf := ifF hc hf
          refine v_iconst (v := (-1)) g dk_0_set_47 (by decide) (pc' := 48) rfl ?_
          exact v_iret g hr hlk hK  (Option.some.inj hf) dk_0_set_48
    · replace hf := ifT hc hf
      refine v_iconst (v := (-1)) g dk_0_set_27 (by decide) (pc' := 28) rfl ?_
      exact v_iret g hr hlk hK  (Option.some.inj hf) dk_0_set_28
abbrev rm_CCodes_valueIn : Room := { frames := 0, cells := 0, slots := 0, locals := 0 }
def m_CCodes_valueIn (S : StC) (x0 : Int64) (x2 : Int32) : Option Int32 :=
  some ((((x0.toUInt64 >>> ((x2 * (3 : Int32)).toInt64.toUInt64 &&& Int64.toUInt64 63)).toInt64) &&& (7 : Int64)).toInt32)
set_option maxHeartbeats 4000000 in
set_option maxRecDepth 100000 in
theorem c_CCodes_valueIn {l : Launch} {D : va_G} {ad : Nat → Nat} {ca : Nat → ClassId} {S : StC} {x0 : Int64} {x2 : Int32} {r : Int32} (hf : m_CCodes_valueIn S x0 x2 = some r) : KIC l D ad ca yk_4_valueIn (.code yk_4_valueIn bk_4_valueIn 3 (some .int) :: tb) rm_CCodes_valueIn [.long x0, .int x2] S (r, S) := by
  refine met_i (by decide) (Nat.le_of_ble_eq_true rfl) (fun p e s m below meth c A g hr hlk hK hA => ?_)
  replace g : CallFix p m c bk_4_valueIn 3 s _ tb Rk_4 := g
  refine v_lv (lv' := [(0, .long x0), (2, .int x2)]) rfl ?_
  unfold m_CCodes_valueIn at hf
  refine v_lload_n g dk_4_valueIn_0 0 rfl rfl (pc' := 1) rfl ?_
  refine v_iload_n g dk_4_valueIn_1 1 rfl rfl (pc' := 2) rfl ?_
  refine v_iconst (v := 3) g dk_4_valueIn_2 (by decide) (pc' := 3) rfl ?_
  refine v_imul g dk_4_valueIn_3 (pc' := 4) rfl ?_
  refine v_lushr g dk_4_valueIn_4 (pc' := 5) rfl ?_
  refine v_ldc2 g dk_4_valueIn_5 lcC_Codes_11 (pc' := 8) rfl ?_
  refine v_land g dk_4_valueIn_8 (pc' := 9) rfl ?_
  refine v_l2i g dk_4_valueIn_9 (pc' := 10) rfl ?_
  exact v_iret g hr hlk hK  (pinj hf) dk_4_valueIn_10
abbrev rm_CX_value : Room := { frames := 2, cells := 0, slots := 0, locals := 44 }
def m_CX_value (S : StC) (x1 : Int32) (x2 : Int32) : Option Int32 :=
  (m_CSettings_baseOf S x2).bind fun q1 =>
    (m_CConfigurations_isThere S x1).bind fun q2 =>
    if q2 = 0 then some (-1)
    else if q1 = (-1) then some (-1)
    else if inb x1 60 = true then (m_CCodes_valueIn S (gB S 0 x1.toNatClampNeg) q1).bind fun q4 =>
    some q4 else none
set_option maxHeartbeats 4000000 in
set_option maxRecDepth 100000 in
theorem c_CX_value {l : Launch} {D : va_G} {ad : Nat → Nat} {ca : Nat → ClassId} {S : StC} {x1 : Int32} {x2 : Int32} {r : Int32} (hf : m_CX_value S x1 x2 = some r) : KIC l D ad ca yk_0_value (.code yk_0_value bk_0_value 4 (some .int) :: tb) rm_CX_value [.ref (ad 0), .int x1, .int x2] S (r, S) := by
  refine met_i (by decide) (Nat.le_of_ble_eq_true rfl) (fun p e s m below meth c A g hr hlk hK hA => ?_)
  replace g : CallFix p m c bk_0_value 4 s _ tb Rk_0 := g
  refine v_lv (lv' := [(0, .ref (ad 0)), (1, .int x1), (2, .int x2)]) rfl ?_
  unfold m_CX_value at hf
  refine v_aload_n g dk_0_value_0 0 rfl rfl (pc' := 1) rfl ?_
  refine gfC_X_12 g hK dk_0_value_1 (pc' := 4) rfl ?_
  refine v_iload_n g dk_0_value_4 2 rfl rfl (pc' := 5) rfl ?_
  obtain ⟨q1, hq, hf⟩ := bnd hf
  refine v_callV_i (As := [.int x2]) (rest := []) (r := q1) (S1 := S) g hK hA (c_CSettings_baseOf hq) (kcC_X_83 g.2.2.2.2 rfl rfl (Nat.le_of_ble_eq_true rfl) (Nat.le_of_ble_eq_true rfl)) (ci := 8) (q0 := 1) rfl rfl rfl rfl rfl (Nat.le_of_ble_eq_true rfl) dk_0_value_5 (Nat.zero_le _) (Nat.zero_le _) (pc' := 8) rfl ?_
  refine v_istore_n (lv' := [(3, .int q1), (0, .ref (ad 0)), (1, .int x1), (2, .int x2)]) g dk_0_value_8 rfl (by decide) rfl (pc' := 9) rfl ?_
  refine v_aload_n g dk_0_value_9 1 rfl rfl (pc' := 10) rfl ?_
  refine gfC_X_26 g hK dk_0_value_10 (pc' := 13) rfl ?_
  refine v_iload_n g dk_0_value_13 2 rfl rfl (pc' := 14) rfl ?_
  obtain ⟨q2, hq, hf⟩ := bnd hf
  refine v_callV_i (As := [.int x1]) (rest := []) (r := q2) (S1 := S) g hK hA (c_CConfigurations_isThere hq) (kcC_X_161 g.2.2.2.2 rfl rfl (Nat.le_of_ble_eq_true rfl) (Nat.le_of_ble_eq_true rfl)) (ci := 3) (q0 := 7) rfl rfl rfl rfl rfl (Nat.le_of_ble_eq_true rfl) dk_0_value_14 (Nat.zero_le _) (Nat.zero_le _) (pc' := 17) rfl ?_
  refine v_if_eq (tgt := 25) (pc' := 20) g dk_0_value_17 (by decide) rfl (fun hc => ?_) (fun hc => ?_)
  · replace hf := ifT hc hf
    refine v_iconst (v := (-1)) g dk_0_value_25 (by decide) (pc' := 26) rfl ?_
    exact v_iret g hr hlk hK  (pinj hf) dk_0_value_26
  · replace hf := ifF hc hf
    refine v_iload_n g dk_0_value_20 0 rfl rfl (pc' := 21) rfl ?_
    refine v_iconst (v := (-1)) g dk_0_value_21 (by decide) (pc' := 22) rfl ?_
    refine v_icmp_ne (tgt := 27) (pc' := 25) g dk_0_value_22 (by decide) rfl (fun hc => ?_) (fun hc => ?_)
    · replace hf := ifF hc hf
      refine v_aload_n g dk_0_value_27 1 rfl rfl (pc' := 28) rfl ?_
      refine gfC_X_26 g hK dk_0_value_28 (pc' := 31) rfl ?_
      refine gfC_X_165 g hK dk_0_value_31 (pc' := 34) rfl ?_
      refine v_iload_n g dk_0_value_34 2 rfl rfl (pc' := 35) rfl ?_
      obtain ⟨hb3, hf⟩ := grd hf
      refine alC_8 g hK hb3 dk_0_value_35 (pc' := 36) rfl ?_
      refine v_iload_n g dk_0_value_36 0 rfl rfl (pc' := 37) rfl ?_
      obtain ⟨q4, hq, hf⟩ := bnd hf
      refine v_callS_i (As := [.long (gB S 0 x1.toNatClampNeg), .int q1]) (rest := []) (r := q4) (S1 := S) g hK hA (c_CCodes_valueIn hq) (kcC_X_172 g.2.2.2.2 rfl rfl (Nat.le_of_ble_eq_true rfl) (Nat.le_of_ble_eq_true rfl)) rfl rfl (Nat.le_of_ble_eq_true rfl) dk_0_value_37 (Nat.zero_le _) (Nat.zero_le _) (pc' := 40) rfl ?_
      exact v_iret g hr hlk hK  (pinj hf) dk_0_value_40
    · replace hf := ifT hc hf
      refine v_iconst (v := (-1)) g dk_0_value_25 (by decide) (pc' := 26) rfl ?_
      exact v_iret g hr hlk hK  (pinj hf) dk_0_value_26
abbrev rm_CAskings_isAboutAxis : Room := { frames := 0, cells := 0, slots := 0, locals := 0 }
def m_CAskings_isAboutAxis (S : StC) (x0 : Int32) : Option Int32 :=
  if x0 < 128 then some 0
    else some 1
set_option maxHeartbeats 4000000 in
set_option maxRecDepth 100000 in
theorem c_CAskings_isAboutAxis {l : Launch} {D : va_G} {ad : Nat → Nat} {ca : Nat → ClassId} {S : StC} {x0 : Int32} {r : Int32} (hf : m_CAskings_isAboutAxis S x0 = some r) : KIC l D ad ca yk_2_isAboutAxis (.code yk_2_isAboutAxis bk_2_isAboutAxis 1 (some .boolean) :: tb) rm_CAskings_isAboutAxis [.int x0] S (r, S) := by
  refine met_z (by decide) (Nat.le_of_ble_eq_true rfl) (fun p e s m below meth c A g hr hlk hK hA => ?_)
  replace g : CallFix p m c bk_2_isAboutAxis 1 s _ tb Rk_2 := g
  refine v_lv (lv' := [(0, .int x0)]) rfl ?_
  unfold m_CAskings_isAboutAxis at hf
  refine v_iload_n g dk_2_isAboutAxis_0 0 rfl rfl (pc' := 1) rfl ?_
  refine v_sipush (v := 128) g dk_2_isAboutAxis_1 (by decide) (pc' := 4) rfl ?_
  refine v_icmp_lt (tgt := 11) (pc' := 7) g dk_2_isAboutAxis_4 (by decide) rfl (fun hc => ?_) (fun hc => ?_)
  · replace hf := ifT hc hf
    refine v_iconst (v := 0) g dk_2_isAboutAxis_11 (by decide) (pc' := 12) rfl ?_
    exact v_zret g hr hlk hK rfl (pinj hf) dk_2_isAboutAxis_12
  · replace hf := ifF hc hf
    refine v_iconst (v := 1) g dk_2_isAboutAxis_7 (by decide) (pc' := 8) rfl ?_
    refine v_goto (tgt := 12) g dk_2_isAboutAxis_8 (by decide) ?_
    exact v_zret g hr hlk hK rfl (pinj hf) dk_2_isAboutAxis_12
abbrev rm_CAskings_whichOf : Room := { frames := 1, cells := 0, slots := 0, locals := 20 }
def m_CAskings_whichOf (S : StC) (x0 : Int32) : Option Int32 :=
  (m_CAskings_isAboutAxis S x0).bind fun q1 =>
    if q1 = 0 then some (x0 / 8)
    else some ((x0 - (128 : Int32)) / 8)
set_option maxHeartbeats 4000000 in
set_option maxRecDepth 100000 in
theorem c_CAskings_whichOf {l : Launch} {D : va_G} {ad : Nat → Nat} {ca : Nat → ClassId} {S : StC} {x0 : Int32} {r : Int32} (hf : m_CAskings_whichOf S x0 = some r) : KIC l D ad ca yk_2_whichOf (.code yk_2_whichOf bk_2_whichOf 1 (some .int) :: tb) rm_CAskings_whichOf [.int x0] S (r, S) := by
  refine met_i (by decide) (Nat.le_of_ble_eq_true rfl) (fun p e s m below meth c A g hr hlk hK hA => ?_)
  replace g : CallFix p m c bk_2_whichOf 1 s _ tb Rk_2 := g
  refine v_lv (lv' := [(0, .int x0)]) rfl ?_
  unfold m_CAskings_whichOf at hf
  refine v_iload_n g dk_2_whichOf_0 0 rfl rfl (pc' := 1) rfl ?_
  obtain ⟨q1, hq, hf⟩ := bnd hf
  refine v_callS_i (As := [.int x0]) (rest := []) (r := q1) (S1 := S) g hK hA (c_CAskings_isAboutAxis hq) (kcC_Askings_11 g.2.2.2.2 rfl rfl (Nat.le_of_ble_eq_true rfl) (Nat.le_of_ble_eq_true rfl)) rfl rfl (Nat.le_of_ble_eq_true rfl) dk_2_whichOf_1 (Nat.zero_le _) (Nat.zero_le _) (pc' := 4) rfl ?_
  refine v_if_eq (tgt := 15) (pc' := 7) g dk_2_whichOf_4 (by decide) rfl (fun hc => ?_) (fun hc => ?_)
  · replace hf := ifT hc hf
    refine v_iload_n g dk_2_whichOf_15 0 rfl rfl (pc' := 16) rfl ?_
    refine v_bipush (v := 8) g dk_2_whichOf_16 (by decide) (pc' := 18) rfl ?_
    refine v_idiv g dk_2_whichOf_18 (by decide) (pc' := 19) rfl ?_
    exact v_iret g hr hlk hK  (pinj hf) dk_2_whichOf_19
  · replace hf := ifF hc hf
    refine v_iload_n g dk_2_whichOf_7 0 rfl rfl (pc' := 8) rfl ?_
    refine v_sipush (v := 128) g dk_2_whichOf_8 (by decide) (pc' := 11) rfl ?_
    refine v_isub g dk_2_whichOf_11 (pc' := 12) rfl ?_
    refine v_goto (tgt := 16) g dk_2_whichOf_12 (by decide) ?_
    refine v_bipush (v := 8) g dk_2_whichOf_16 (by decide) (pc' := 18) rfl ?_
    refine v_idiv g dk_2_whichOf_18 (by decide) (pc' := 19) rfl ?_
    exact v_iret g hr hlk hK  (pinj hf) dk_2_whichOf_19
abbrev rm_CAskings_valueOf : Room := { frames := 0, cells := 0, slots := 0, locals := 0 }
def m_CAskings_valueOf (S : StC) (x0 : Int32) : Option Int32 :=
  some (x0 - x0 / 8 * 8)
set_option maxHeartbeats 4000000 in
set_option maxRecDepth 100000 in
theorem c_CAskings_valueOf {l : Launch} {D : va_G} {ad : Nat → Nat} {ca : Nat → ClassId} {S : StC} {x0 : Int32} {r : Int32} (hf : m_CAskings_valueOf S x0 = some r) : KIC l D ad ca yk_2_valueOf (.code yk_2_valueOf bk_2_valueOf 1 (some .int) :: tb) rm_CAskings_valueOf [.int x0] S (r, S) := by
  refine met_i (by decide) (Nat.le_of_ble_eq_true rfl) (fun p e s m below meth c A g hr hlk hK hA => ?_)
  replace g : CallFix p m c bk_2_valueOf 1 s _ tb Rk_2 := g
  refine v_lv (lv' := [(0, .int x0)]) rfl ?_
  unfold m_CAskings_valueOf at hf
  refine v_iload_n g dk_2_valueOf_0 0 rfl rfl (pc' := 1) rfl ?_
  refine v_bipush (v := 8) g dk_2_valueOf_1 (by decide) (pc' := 3) rfl ?_
  refine v_irem g dk_2_valueOf_3 (by decide) (pc' := 4) rfl ?_
  exact v_iret g hr hlk hK  (pinj hf) dk_2_valueOf_4
abbrev rm_CPlatforms_valueAt : Room := { frames := 0, cells := 0, slots := 0, locals := 0 }
def m_CPlatforms_valueAt (S : StC) (x1 : Int32) (x2 : Int32) : Option Int32 :=
  if inb ((x1 * (8 : Int32)) + x2) 64 = true then some (gA S 3 ((x1 * (8 : Int32)) + x2).toNatClampNeg) else none
set_option maxHeartbeats 4000000 in
set_option maxRecDepth 100000 in
theorem c_CPlatforms_valueAt {l : Launch} {D : va_G} {ad : Nat → Nat} {ca : Nat → ClassId} {S : StC} {x1 : Int32} {x2 : Int32} {r : Int32} (hf : m_CPlatforms_valueAt S x1 x2 = some r) : KIC l D ad ca yk_9_valueAt (.code yk_9_valueAt bk_9_valueAt 3 (some .int) :: tb) rm_CPlatforms_valueAt [.ref (ad 5), .int x1, .int x2] S (r, S) := by
  refine met_i (by decide) (Nat.le_of_ble_eq_true rfl) (fun p e s m below meth c A g hr hlk hK hA => ?_)
  replace g : CallFix p m c bk_9_valueAt 3 s _ tb Rk_9 := g
  refine v_lv (lv' := [(0, .ref (ad 5)), (1, .int x1), (2, .int x2)]) rfl ?_
  unfold m_CPlatforms_valueAt at hf
  refine v_aload_n g dk_9_valueAt_0 0 rfl rfl (pc' := 1) rfl ?_
  refine gfC_Platforms_9 g hK dk_9_valueAt_1 (pc' := 4) rfl ?_
  refine v_iload_n g dk_9_valueAt_4 1 rfl rfl (pc' := 5) rfl ?_
  refine v_bipush (v := 8) g dk_9_valueAt_5 (by decide) (pc' := 7) rfl ?_
  refine v_imul g dk_9_valueAt_7 (pc' := 8) rfl ?_
  refine v_iload_n g dk_9_valueAt_8 2 rfl rfl (pc' := 9) rfl ?_
  refine v_iadd g dk_9_valueAt_9 (pc' := 10) rfl ?_
  obtain ⟨hb1, hf⟩ := grd hf
  refine alC_6 g hK hb1 dk_9_valueAt_10 (pc' := 11) rfl ?_
  exact v_iret g hr hlk hK  (pinj hf) dk_9_valueAt_11
abbrev rm_CX_isAskingMet : Room := { frames := 2, cells := 0, slots := 0, locals := 44 }
def m_CX_isAskingMet (S : StC) (x1 : Int32) (x2 : Int64) : Option Int32 :=
  (m_CAskings_whichOf S x1).bind fun q1 =>
    (m_CAskings_valueOf S x1).bind fun q2 =>
    (m_CAskings_isAboutAxis S x1).bind fun q3 =>
    if q3 = 0 then (m_CSettings_baseOf S q1).bind fun q4 =>
    if q4 = (-1) then some 0
    else (m_CCodes_valueIn S x2 q4).bind fun q5 =>
    if q5 = q2 then some 1
    else some 0
    else (m_CCodes_platformIn S x2).bind fun q6 =>
    (m_CPlatforms_valueAt S q6 q1).bind fun q7 =>
    if q7 = q2 then some 1
    else some 0
set_option maxHeartbeats 4000000 in
set_option maxRecDepth 100000 in
theorem c_CX_isAskingMet {l : Launch} {D : va_G} {ad : Nat → Nat} {ca : Nat → ClassId} {S : StC} {x1 : Int32} {x2 : Int64} {r : Int32} (hf : m_CX_isAskingMet S x1 x2 = some r) : KIC l D ad ca yk_0_isAskingMet (.code yk_0_isAskingMet bk_0_isAskingMet 7 (some .boolean) :: tb) rm_CX_isAskingMet [.ref (ad 0), .int x1, .long x2] S (r, S) := by
  refine met_z (by decide) (Nat.le_of_ble_eq_true rfl) (fun p e s m below meth c A g hr hlk hK hA => ?_)
  replace g : CallFix p m c bk_0_isAskingMet 7 s _ tb Rk_0 := g
  refine v_lv (lv' := [(0, .ref (ad 0)), (1, .int x1), (2, .long x2)]) rfl ?_
  unfold m_CX_isAskingMet at hf
  refine v_iload_n g dk_0_isAskingMet_0 1 rfl rfl (pc' := 1) rfl ?_
  obtain ⟨q1, hq, hf⟩ := bnd hf
  refine v_callS_i (As := [.int x1]) (rest := []) (r := q1) (S1 := S) g hK hA (c_CAskings_whichOf hq) (kcC_X_245 g.2.2.2.2 rfl rfl (Nat.le_of_ble_eq_true rfl) (Nat.le_of_ble_eq_true rfl)) rfl rfl (Nat.le_of_ble_eq_true rfl) dk_0_isAskingMet_1 (Nat.zero_le _) (Nat.zero_le _) (pc' := 4) rfl ?_
  refine v_istore (lv' := [(4, .int q1), (0, .ref (ad 0)), (1, .int x1), (2, .long x2)]) g dk_0_isAskingMet_4 (by decide) rfl (pc' := 6) rfl ?_
  refine v_iload_n g dk_0_isAskingMet_6 2 rfl rfl (pc' := 7) rfl ?_
  obtain ⟨q2, hq, hf⟩ := bnd hf
  refine v_callS_i (As := [.int x1]) (rest := []) (r := q2) (S1 := S) g hK hA (c_CAskings_valueOf hq) (kcC_X_248 g.2.2.2.2 rfl rfl (Nat.le_of_ble_eq_true rfl) (Nat.le_of_ble_eq_true rfl)) rfl rfl (Nat.le_of_ble_eq_true rfl) dk_0_isAskingMet_7 (Nat.zero_le _) (Nat.zero_le _) (pc' := 10) rfl ?_
  refine v_istore (lv' := [(5, .int q2), (4, .int q1), (0, .ref (ad 0)), (1, .int x1), (2, .long x2)]) g dk_0_isAskingMet_10 (by decide) rfl (pc' := 12) rfl ?_
  refine v_iload_n g dk_0_isAskingMet_12 3 rfl rfl (pc' := 13) rfl ?_
  obtain ⟨q3, hq, hf⟩ := bnd hf
  refine v_callS_i (As := [.int x1]) (rest := []) (r := q3) (S1 := S) g hK hA (c_CAskings_isAboutAxis hq) (kcC_X_250 g.2.2.2.2 rfl rfl (Nat.le_of_ble_eq_true rfl) (Nat.le_of_ble_eq_true rfl)) rfl rfl (Nat.le_of_ble_eq_true rfl) dk_0_isAskingMet_13 (Nat.zero_le _) (Nat.zero_le _) (pc' := 16) rfl ?_
  refine v_if_eq (tgt := 43) (pc' := 19) g dk_0_isAskingMet_16 (by decide) rfl (fun hc => ?_) (fun hc => ?_)
  · replace hf := ifT hc hf
    refine v_aload_n g dk_0_isAskingMet_43 2 rfl rfl (pc' := 44) rfl ?_
    refine gfC_X_12 g hK dk_0_isAskingMet_44 (pc' := 47) rfl ?_
    refine v_iload g dk_0_isAskingMet_47 1 rfl (pc' := 49) rfl ?_
    obtain ⟨q4, hq, hf⟩ := bnd hf
    refine v_callV_i (As := [.int q1]) (rest := []) (r := q4) (S1 := S) g hK hA (c_CSettings_baseOf hq) (kcC_X_83 g.2.2.2.2 rfl rfl (Nat.le_of_ble_eq_true rfl) (Nat.le_of_ble_eq_true rfl)) (ci := 8) (q0 := 1) rfl rfl rfl rfl rfl (Nat.le_of_ble_eq_true rfl) dk_0_isAskingMet_49 (Nat.zero_le _) (Nat.zero_le _) (pc' := 52) rfl ?_
    refine v_istore (lv' := [(6, .int q4), (5, .int q2), (4, .int q1), (0, .ref (ad 0)), (1, .int x1), (2, .long x2)]) g dk_0_isAskingMet_52 (by decide) rfl (pc' := 54) rfl ?_
    refine v_iload g dk_0_isAskingMet_54 0 rfl (pc' := 56) rfl ?_
    refine v_iconst (v := (-1)) g dk_0_isAskingMet_56 (by decide) (pc' := 57) rfl ?_
    refine v_icmp_eq (tgt := 75) (pc' := 60) g dk_0_isAskingMet_57 (by decide) rfl (fun hc => ?_) (fun hc => ?_)
    · replace hf := ifT hc hf
      refine v_iconst (v := 0) g dk_0_isAskingMet_75 (by decide) (pc' := 76) rfl ?_
      exact v_zret g hr hlk hK rfl (pinj hf) dk_0_isAskingMet_76
    · replace hf := ifF hc hf
      refine v_lload_n g dk_0_isAskingMet_60 5 rfl rfl (pc' := 61) rfl ?_
      refine v_iload g dk_0_isAskingMet_61 0 rfl (pc' := 63) rfl ?_
      obtain ⟨q5, hq, hf⟩ := bnd hf
      refine v_callS_i (As := [.long x2, .int q4]) (rest := []) (r := q5) (S1 := S) g hK hA (c_CCodes_valueIn hq) (kcC_X_172 g.2.2.2.2 rfl rfl (Nat.le_of_ble_eq_true rfl) (Nat.le_of_ble_eq_true rfl)) rfl rfl (Nat.le_of_ble_eq_true rfl) dk_0_isAskingMet_63 (Nat.zero_le _) (Nat.zero_le _) (pc' := 66) rfl ?_
      refine v_iload g dk_0_isAskingMet_66 1 rfl (pc' := 68) rfl ?_
      refine v_icmp_ne (tgt := 75) (pc' := 71) g dk_0_isAskingMet_68 (by decide) rfl (fun hc => ?_) (fun hc => ?_)
      · replace hf := ifF hc hf
        refine v_iconst (v := 0) g dk_0_isAskingMet_75 (by decide) (pc' := 76) rfl ?_
        exact v_zret g hr hlk hK rfl (pinj hf) dk_0_isAskingMet_76
      · replace hf := ifT hc hf
        refine v_iconst (v := 1) g dk_0_isAskingMet_71 (by decide) (pc' := 72) rfl ?_
        refine v_goto (tgt := 76) g dk_0_isAskingMet_72 (by decide) ?_
        exact v_zret g hr hlk hK rfl (pinj hf) dk_0_isAskingMet_76
  · replace hf := ifF hc hf
    refine v_aload_n g dk_0_isAskingMet_19 2 rfl rfl (pc' := 20) rfl ?_
    refine gfC_X_19 g hK dk_0_isAskingMet_20 (pc' := 23) rfl ?_
    refine v_lload_n g dk_0_isAskingMet_23 4 rfl rfl (pc' := 24) rfl ?_
    obtain ⟨q6, hq, hf⟩ := bnd hf
    refine v_callS_i (As := [.long x2]) (rest := [.ref (ad 5)]) (r := q6) (S1 := S) g hK hA (c_CCodes_platformIn hq) (kcC_X_253 g.2.2.2.2 rfl rfl (Nat.le_of_ble_eq_true rfl) (Nat.le_of_ble_eq_true rfl)) rfl rfl (Nat.le_of_ble_eq_true rfl) dk_0_isAskingMet_24 (Nat.zero_le _) (Nat.zero_le _) (pc' := 27) rfl ?_
    refine v_iload g dk_0_isAskingMet_27 1 rfl (pc' := 29) rfl ?_
    obtain ⟨q7, hq, hf⟩ := bnd hf
    refine v_callV_i (As := [.int q6, .int q1]) (rest := []) (r := q7) (S1 := S) g hK hA (c_CPlatforms_valueAt hq) (kcC_X_256 g.2.2.2.2 rfl rfl (Nat.le_of_ble_eq_true rfl) (Nat.le_of_ble_eq_true rfl)) (ci := 6) (q0 := 5) rfl rfl rfl rfl rfl (Nat.le_of_ble_eq_true rfl) dk_0_isAskingMet_29 (Nat.zero_le _) (Nat.zero_le _) (pc' := 32) rfl ?_
    refine v_iload g dk_0_isAskingMet_32 0 rfl (pc' := 34) rfl ?_
    refine v_icmp_ne (tgt := 41) (pc' := 37) g dk_0_isAskingMet_34 (by decide) rfl (fun hc => ?_) (fun hc => ?_)
    · replace hf := ifF hc hf
      refine v_iconst (v := 0) g dk_0_isAskingMet_41 (by decide) (pc' := 42) rfl ?_
      exact v_zret g hr hlk hK rfl (pinj hf) dk_0_isAskingMet_42
    · replace hf := ifT hc hf
      refine v_iconst (v := 1) g dk_0_isAskingMet_37 (by decide) (pc' := 38) rfl ?_
      refine v_goto (tgt := 42) g dk_0_isAskingMet_38 (by decide) ?_
      exact v_zret g hr hlk hK rfl (pinj hf) dk_0_isAskingMet_42
abbrev rm_CX_isMet : Room := { frames := 3, cells := 0, slots := 0, locals := 70 }
def L_CX_isMet_3 (S : StC) (x1 : Int32) (x2 : Int64) : Nat → Int32 → Option (Unit ⊕ Int32)
  | 0, _ => none
  | n + 1, x4 =>
    if inb x1 40 = true then if (gA S 4 x1.toNatClampNeg) ≤ x4 then some (.inl ())
    else (m_CConditions_askingAt S x1 x4).bind fun q2 =>
    (m_CX_isAskingMet S q2 x2).bind fun q3 =>
    if q3 = 0 then some (.inr 0)
    else L_CX_isMet_3 S x1 x2 n (x4 + 1) else none
set_option maxHeartbeats 4000000 in
set_option maxRecDepth 100000 in
theorem w_CX_isMet_3 {p : Program} {l : Launch} {e : Env} {s : State} {m : MethodId} {args : Array Value} {below : List Frame} {meth : Method} {c : Code} {A : Nat → Prop} {D : va_G} {ad : Nat → Nat} {ca : Nat → ClassId} {Rm : Int32 × StC} {S : StC} {x1 : Int32} {x2 : Int64} (g : CallFix p m c bk_0_isMet 5 s args tb Rk_0) (hr : meth.sig.returnType = some .boolean) (hlk : meth.locks = false) (hK : va_K D vwCl (tyC ca) s) (hA : ∀ q, s.heap.size ≤ q → A q) : ∀ (n : Nat) (x4 : Int32) (o : Unit ⊕ Int32), L_CX_isMet_3 S x1 x2 n x4 = some o → (∀ y, o = .inl y → Vj p l e rm_CX_isMet s m args below meth c (MQ below (qI D vwCl (tyC ca) (wdC ad ca) A Rm) args s 0 0 A) D vwCl A 5 0 0 (wdC ad ca S) 43 [] []) → (∀ r, o = .inr r → (r, S) = Rm) → Vj p l e rm_CX_isMet s m args below meth c (MQ below (qI D vwCl (tyC ca) (wdC ad ca) A Rm) args s 0 0 A) D vwCl A 5 0 0 (wdC ad ca S) 3 [(0, .ref (ad 0)), (1, .int x1), (2, .long x2), (4, .int x4)] [] := by
  intro n
  induction n with
  | zero => intro x4 o hf; exact nomatch (show none = some o from hf)
  | succ n ih =>
    intro x4 o hf hx hret
    rw [L_CX_isMet_3] at hf
    refine v_iload g dk_0_isMet_3 3 rfl (pc' := 5) rfl ?_
    refine v_aload_n g dk_0_isMet_5 0 rfl rfl (pc' := 6) rfl ?_
    refine gfC_X_33 g hK dk_0_isMet_6 (pc' := 9) rfl ?_
    refine gfC_X_236 g hK dk_0_isMet_9 (pc' := 12) rfl ?_
    refine v_iload_n g dk_0_isMet_12 1 rfl rfl (pc' := 13) rfl ?_
    obtain ⟨hb1, hf⟩ := grd hf
    refine alC_10 g hK hb1 dk_0_isMet_13 (pc' := 14) rfl ?_
    refine v_icmp_ge (tgt := 43) (pc' := 17) g dk_0_isMet_14 (by decide) rfl (fun hc => ?_) (fun hc => ?_)
    · replace hf := ifT hc hf
      refine v_sub [] rfl ?_
      exact hx _ (Option.some.inj hf).symm
    · replace hf := ifF hc hf
      refine v_aload_n g dk_0_isMet_17 0 rfl rfl (pc' := 18) rfl ?_
      refine v_aload_n g dk_0_isMet_18 0 rfl rfl (pc' := 19) rfl ?_
      refine gfC_X_33 g hK dk_0_isMet_19 (pc' := 22) rfl ?_
      refine v_iload_n g dk_0_isMet_22 1 rfl rfl (pc' := 23) rfl ?_
      refine v_iload g dk_0_isMet_23 3 rfl (pc' := 25) rfl ?_
      obtain ⟨q2, hq, hf⟩ := bnd hf
      refine v_callV_i (As := [.int x1, .int x4]) (rest := [.ref (ad 0)]) (r := q2) (S1 := S) g hK hA (c_CConditions_askingAt hq) (kcC_X_239 g.2.2.2.2 rfl rfl (Nat.le_of_ble_eq_true rfl) (Nat.le_of_ble_eq_true rfl)) (ci := 2) (q0 := 9) rfl rfl rfl rfl rfl (Nat.le_of_ble_eq_true rfl) dk_0_isMet_25 (Nat.zero_le _) (Nat.zero_le _) (pc' := 28) rfl ?_
      refine v_lload_n g dk_0_isMet_28 2 rfl rfl (pc' := 29) rfl ?_
      obtain ⟨q3, hq, hf⟩ := bnd hf
      refine v_callV_i (As := [.int q2, .long x2]) (rest := []) (r := q3) (S1 := S) g hK hA (c_CX_isAskingMet hq) (kcC_X_242 g.2.2.2.2 rfl rfl (Nat.le_of_ble_eq_true rfl) (Nat.le_of_ble_eq_true rfl)) (ci := 0) (q0 := 0) rfl rfl rfl rfl rfl (Nat.le_of_ble_eq_true rfl) dk_0_isMet_29 (Nat.zero_le _) (Nat.zero_le _) (pc' := 32) rfl ?_
      refine v_if_ne (tgt := 37) (pc' := 35) g dk_0_isMet_32 (by decide) rfl (fun hc => ?_) (fun hc => ?_)
      · replace hf := ifF hc hf
        refine v_iinc (j := 3) (v := x4 + 1) (lv' := [(4, .int (x4 + 1)), (0, .ref (ad 0)), (1, .int x1), (2, .long x2)]) g dk_0_isMet_37 rfl rfl (by decide) rfl (pc' := 40) rfl ?_
        refine v_goto (tgt := 3) g dk_0_isMet_40 (by decide) ?_
        refine v_sub [1, 2, 3, 0] rfl ?_
        exact ih (x4 + 1) o hf hx hret
      · replace hf := ifT hc hf
        refine v_iconst (v := 0) g dk_0_isMet_35 (by decide) (pc' := 36) rfl ?_
        exact v_zret g hr hlk hK rfl (hret _ (Option.some.inj hf).symm) dk_0_isMet_36
def m_CX_isMet (S : StC) (x1 : Int32) (x2 : Int64) : Option Int32 :=
  (L_CX_isMet_3 S x1 x2 100 0).bind fun o4 => exK o4 fun y5 =>
    some 1
set_option maxHeartbeats 4000000 in
set_option maxRecDepth 100000 in
theorem c_CX_isMet {l : Launch} {D : va_G} {ad : Nat → Nat} {ca : Nat → ClassId} {S : StC} {x1 : Int32} {x2 : Int64} {r : Int32} (hf : m_CX_isMet S x1 x2 = some r) : KIC l D ad ca yk_0_isMet (.code yk_0_isMet bk_0_isMet 5 (some .boolean) :: tb) rm_CX_isMet [.ref (ad 0), .int x1, .long x2] S (r, S) := by
  refine met_z (by decide) (Nat.le_of_ble_eq_true rfl) (fun p e s m below meth c A g hr hlk hK hA => ?_)
  replace g : CallFix p m c bk_0_isMet 5 s _ tb Rk_0 := g
  refine v_lv (lv' := [(0, .ref (ad 0)), (1, .int x1), (2, .long x2)]) rfl ?_
  unfold m_CX_isMet at hf
  refine v_iconst (v := 0) g dk_0_isMet_0 (by decide) (pc' := 1) rfl ?_
  refine v_istore (lv' := [(4, .int 0), (0, .ref (ad 0)), (1, .int x1), (2, .long x2)]) g dk_0_isMet_1 (by decide) rfl (pc' := 3) rfl ?_
  refine v_sub [1, 2, 3, 0] rfl ?_
  obtain ⟨o4, hL, hf⟩ := bnd hf
  refine w_CX_isMet_3 g hr hlk hK hA 100 0 _ hL (fun y5 hy => ?_) (fun r9 hy => ?_)
  · subst hy
    replace hf := exKl hf
    refine v_iconst (v := 1) g dk_0_isMet_43 (by decide) (pc' := 44) rfl ?_
    exact v_zret g hr hlk hK rfl (pinj hf) dk_0_isMet_44
  · subst hy
    exact pinj hf
end
section
abbrev rm_CX_holds : Room := { frames := 4, cells := 0, slots := 0, locals := 94 }
def m_CX_holds (S : StC) (x1 : Int32) (x2 : Int32) : Option Int32 :=
  (m_CConditions_isThere S x1).bind fun q1 =>
    if q1 = 0 then some 0
    else (m_CConfigurations_isThere S x2).bind fun q2 =>
    if q2 = 0 then some 0
    else if inb x2 60 = true then (m_CX_isMet S x1 (gB S 0 x2.toNatClampNeg)).bind fun q4 =>
    if isB q4 = true then some q4 else none else none
set_option maxHeartbeats 4000000 in
set_option maxRecDepth 100000 in
theorem c_CX_holds {l : Launch} {D : va_G} {ad : Nat → Nat} {ca : Nat → ClassId} {S : StC} {x1 : Int32} {x2 : Int32} {r : Int32} (hf : m_CX_holds S x1 x2 = some r) : KIC l D ad ca yk_0_holds (.code yk_0_holds bk_0_holds 3 (some .boolean) :: tb) rm_CX_holds [.ref (ad 0), .int x1, .int x2] S (r, S) := by
  refine met_z (by decide) (Nat.le_of_ble_eq_true rfl) (fun p e s m below meth c A g hr hlk hK hA => ?_)
  replace g : CallFix p m c bk_0_holds 3 s _ tb Rk_0 := g
  refine v_lv (lv' := [(0, .ref (ad 0)), (1, .int x1), (2, .int x2)]) rfl ?_
  unfold m_CX_holds at hf
  refine v_aload_n g dk_0_holds_0 0 rfl rfl (pc' := 1) rfl ?_
  refine gfC_X_33 g hK dk_0_holds_1 (pc' := 4) rfl ?_
  refine v_iload_n g dk_0_holds_4 1 rfl rfl (pc' := 5) rfl ?_
  obtain ⟨q1, hq, hf⟩ := bnd hf
  refine v_callV_i (As := [.int x1]) (rest := []) (r := q1) (S1 := S) g hK hA (c_CConditions_isThere hq) (kcC_X_108 g.2.2.2.2 rfl rfl (Nat.le_of_ble_eq_true rfl) (Nat.le_of_ble_eq_true rfl)) (ci := 2) (q0 := 9) rfl rfl rfl rfl rfl (Nat.le_of_ble_eq_true rfl) dk_0_holds_5 (Nat.zero_le _) (Nat.zero_le _) (pc' := 8) rfl ?_
  refine v_if_eq (tgt := 22) (pc' := 11) g dk_0_holds_8 (by decide) rfl (fun hc => ?_) (fun hc => ?_)
  · replace hf := ifT hc hf
    refine v_iconst (v := 0) g dk_0_holds_22 (by decide) (pc' := 23) rfl ?_
    exact v_zret g hr hlk hK rfl (pinj hf) dk_0_holds_23
  · replace hf := ifF hc hf
    refine v_aload_n g dk_0_holds_11 0 rfl rfl (pc' := 12) rfl ?_
    refine gfC_X_26 g hK dk_0_holds_12 (pc' := 15) rfl ?_
    refine v_iload_n g dk_0_holds_15 2 rfl rfl (pc' := 16) rfl ?_
    obtain ⟨q2, hq, hf⟩ := bnd hf
    refine v_callV_i (As := [.int x2]) (rest := []) (r := q2) (S1 := S) g hK hA (c_CConfigurations_isThere hq) (kcC_X_161 g.2.2.2.2 rfl rfl (Nat.le_of_ble_eq_true rfl) (Nat.le_of_ble_eq_true rfl)) (ci := 3) (q0 := 7) rfl rfl rfl rfl rfl (Nat.le_of_ble_eq_true rfl) dk_0_holds_16 (Nat.zero_le _) (Nat.zero_le _) (pc' := 19) rfl ?_
    refine v_if_ne (tgt := 24) (pc' := 22) g dk_0_holds_19 (by decide) rfl (fun hc => ?_) (fun hc => ?_)
    · replace hf := ifF hc hf
      refine v_aload_n g dk_0_holds_24 0 rfl rfl (pc' := 25) rfl ?_
      refine v_iload_n g dk_0_holds_25 1 rfl rfl (pc' := 26) rfl ?_
      refine v_aload_n g dk_0_holds_26 0 rfl rfl (pc' := 27) rfl ?_
      refine gfC_X_26 g hK dk_0_holds_27 (pc' := 30) rfl ?_
      refine gfC_X_165 g hK dk_0_holds_30 (pc' := 33) rfl ?_
      refine v_iload_n g dk_0_holds_33 2 rfl rfl (pc' := 34) rfl ?_
      obtain ⟨hb3, hf⟩ := grd hf
      refine alC_8 g hK hb3 dk_0_holds_34 (pc' := 35) rfl ?_
      obtain ⟨q4, hq, hf⟩ := bnd hf
      refine v_callV_i (As := [.int x1, .long (gB S 0 x2.toNatClampNeg)]) (rest := []) (r := q4) (S1 := S) g hK hA (c_CX_isMet hq) (kcC_X_176 g.2.2.2.2 rfl rfl (Nat.le_of_ble_eq_true rfl) (Nat.le_of_ble_eq_true rfl)) (ci := 0) (q0 := 0) rfl rfl rfl rfl rfl (Nat.le_of_ble_eq_true rfl) dk_0_holds_35 (Nat.zero_le _) (Nat.zero_le _) (pc' := 38) rfl ?_
      obtain ⟨hz, hf⟩ := grd hf
      exact v_zret g hr hlk hK hz (pinj hf) dk_0_holds_38
    · replace hf := ifT hc hf
      refine v_iconst (v := 0) g dk_0_holds_22 (by decide) (pc' := 23) rfl ?_
      exact v_zret g hr hlk hK rfl (pinj hf) dk_0_holds_23
abbrev rm_CSelects_conditionAt : Room := { frames := 1, cells := 0, slots := 0, locals := 21 }
def m_CSelects_conditionAt (S : StC) (x1 : Int32) (x2 : Int32) : Option Int32 :=
  (m_CSelects_place S x1 x2).bind fun q1 =>
    if inb q1 192 = true then some (gA S 13 q1.toNatClampNeg) else none
set_option maxHeartbeats 4000000 in
set_option maxRecDepth 100000 in
theorem c_CSelects_conditionAt {l : Launch} {D : va_G} {ad : Nat → Nat} {ca : Nat → ClassId} {S : StC} {x1 : Int32} {x2 : Int32} {r : Int32} (hf : m_CSelects_conditionAt S x1 x2 = some r) : KIC l D ad ca yk_10_conditionAt (.code yk_10_conditionAt bk_10_conditionAt 3 (some .int) :: tb) rm_CSelects_conditionAt [.ref (ad 16), .int x1, .int x2] S (r, S) := by
  refine met_i (by decide) (Nat.le_of_ble_eq_true rfl) (fun p e s m below meth c A g hr hlk hK hA => ?_)
  replace g : CallFix p m c bk_10_conditionAt 3 s _ tb Rk_10 := g
  refine v_lv (lv' := [(0, .ref (ad 16)), (1, .int x1), (2, .int x2)]) rfl ?_
  unfold m_CSelects_conditionAt at hf
  refine v_aload_n g dk_10_conditionAt_0 0 rfl rfl (pc' := 1) rfl ?_
  refine gfC_Selects_29 g hK dk_10_conditionAt_1 (pc' := 4) rfl ?_
  refine v_iload_n g dk_10_conditionAt_4 1 rfl rfl (pc' := 5) rfl ?_
  refine v_iload_n g dk_10_conditionAt_5 2 rfl rfl (pc' := 6) rfl ?_
  obtain ⟨q1, hq, hf⟩ := bnd hf
  refine v_callS_i (As := [.int x1, .int x2]) (rest := [.ref (ad 22)]) (r := q1) (S1 := S) g hK hA (c_CSelects_place hq) (kcC_Selects_48 g.2.2.2.2 rfl rfl (Nat.le_of_ble_eq_true rfl) (Nat.le_of_ble_eq_true rfl)) rfl rfl (Nat.le_of_ble_eq_true rfl) dk_10_conditionAt_6 (Nat.zero_le _) (Nat.zero_le _) (pc' := 9) rfl ?_
  obtain ⟨hb2, hf⟩ := grd hf
  refine alC_22 g hK hb2 dk_10_conditionAt_9 (pc' := 10) rfl ?_
  exact v_iret g hr hlk hK  (pinj hf) dk_10_conditionAt_10
abbrev rm_CX_holdingBranches : Room := { frames := 4, cells := 0, slots := 0, locals := 94 }
def L_CX_holdingBranches_6 (S : StC) (x1 : Int32) (x2 : Int64) : Nat → Int32 → Int32 → Option (Int32)
  | 0, _, _ => none
  | n + 1, x4, x5 =>
    if inb x1 24 = true then if (gA S 12 x1.toNatClampNeg) ≤ x5 then some x4
    else (m_CSelects_conditionAt S x1 x5).bind fun q2 =>
    (m_CX_isMet S q2 x2).bind fun q3 =>
    if q3 = 0 then L_CX_holdingBranches_6 S x1 x2 n x4 (x5 + 1)
    else L_CX_holdingBranches_6 S x1 x2 n (x4 ||| ((1 : Int32) <<< (x5 &&& 31))) (x5 + 1) else none
set_option maxHeartbeats 4000000 in
set_option maxRecDepth 100000 in
theorem w_CX_holdingBranches_6 {p : Program} {l : Launch} {e : Env} {s : State} {m : MethodId} {args : Array Value} {below : List Frame} {meth : Method} {c : Code} {A : Nat → Prop} {D : va_G} {ad : Nat → Nat} {ca : Nat → ClassId} {Rm : Int32 × StC} {S : StC} {x1 : Int32} {x2 : Int64} (g : CallFix p m c bk_0_holdingBranches 6 s args tb Rk_0) (hr : meth.sig.returnType = some .int) (hlk : meth.locks = false) (hK : va_K D vwCl (tyC ca) s) (hA : ∀ q, s.heap.size ≤ q → A q) : ∀ (n : Nat) (x4 : Int32) (x5 : Int32) (o : Int32), L_CX_holdingBranches_6 S x1 x2 n x4 x5 = some o → (Vj p l e rm_CX_holdingBranches s m args below meth c (MQ below (qI D vwCl (tyC ca) (wdC ad ca) A Rm) args s 0 0 A) D vwCl A 6 0 0 (wdC ad ca S) 53 [(4, .int o)] []) → Vj p l e rm_CX_holdingBranches s m args below meth c (MQ below (qI D vwCl (tyC ca) (wdC ad ca) A Rm) args s 0 0 A) D vwCl A 6 0 0 (wdC ad ca S) 6 [(0, .ref (ad 0)), (1, .int x1), (2, .long x2), (4, .int x4), (5, .int x5)] [] := by
  intro n
  induction n with
  | zero => intro x4 x5 o hf; exact nomatch (show none = some o from hf)
  | succ n ih =>
    intro x4 x5 o hf hx
    rw [L_CX_holdingBranches_6] at hf
    refine v_iload g dk_0_holdingBranches_6 4 rfl (pc' := 8) rfl ?_
    refine v_aload_n g dk_0_holdingBranches_8 0 rfl rfl (pc' := 9) rfl ?_
    refine gfC_X_47 g hK dk_0_holdingBranches_9 (pc' := 12) rfl ?_
    refine gfC_X_266 g hK dk_0_holdingBranches_12 (pc' := 15) rfl ?_
    refine v_iload_n g dk_0_holdingBranches_15 1 rfl rfl (pc' := 16) rfl ?_
    obtain ⟨hb1, hf⟩ := grd hf
    refine alC_21 g hK hb1 dk_0_holdingBranches_16 (pc' := 17) rfl ?_
    refine v_icmp_ge (tgt := 53) (pc' := 20) g dk_0_holdingBranches_17 (by decide) rfl (fun hc => ?_) (fun hc => ?_)
    · replace hf := ifT hc hf
      refine v_sub [3] rfl ?_
      have e9 := Option.some.inj hf
      subst e9
      exact hx
    · replace hf := ifF hc hf
      refine v_aload_n g dk_0_holdingBranches_20 0 rfl rfl (pc' := 21) rfl ?_
      refine v_aload_n g dk_0_holdingBranches_21 0 rfl rfl (pc' := 22) rfl ?_
      refine gfC_X_47 g hK dk_0_holdingBranches_22 (pc' := 25) rfl ?_
      refine v_iload_n g dk_0_holdingBranches_25 1 rfl rfl (pc' := 26) rfl ?_
      refine v_iload g dk_0_holdingBranches_26 4 rfl (pc' := 28) rfl ?_
      obtain ⟨q2, hq, hf⟩ := bnd hf
      refine v_callV_i (As := [.int x1, .int x5]) (rest := [.ref (ad 0)]) (r := q2) (S1 := S) g hK hA (c_CSelects_conditionAt hq) (kcC_X_292 g.2.2.2.2 rfl rfl (Nat.le_of_ble_eq_true rfl) (Nat.le_of_ble_eq_true rfl)) (ci := 7) (q0 := 16) rfl rfl rfl rfl rfl (Nat.le_of_ble_eq_true rfl) dk_0_holdingBranches_28 (Nat.zero_le _) (Nat.zero_le _) (pc' := 31) rfl ?_
      refine v_lload_n g dk_0_holdingBranches_31 2 rfl rfl (pc' := 32) rfl ?_
      obtain ⟨q3, hq, hf⟩ := bnd hf
      refine v_callV_i (As := [.int q2, .long x2]) (rest := []) (r := q3) (S1 := S) g hK hA (c_CX_isMet hq) (kcC_X_176 g.2.2.2.2 rfl rfl (Nat.le_of_ble_eq_true rfl) (Nat.le_of_ble_eq_true rfl)) (ci := 0) (q0 := 0) rfl rfl rfl rfl rfl (Nat.le_of_ble_eq_true rfl) dk_0_holdingBranches_32 (Nat.zero_le _) (Nat.zero_le _) (pc' := 35) rfl ?_
      refine v_if_eq (tgt := 47) (pc' := 38) g dk_0_holdingBranches_35 (by decide) rfl (fun hc => ?_) (fun hc => ?_)
      · replace hf := ifT hc hf
        refine v_iinc (j := 4) (v := x5 + 1) (lv' := [(5, .int (x5 + 1)), (0, .ref (ad 0)), (1, .int x1), (2, .long x2), (4, .int x4)]) g dk_0_holdingBranches_47 rfl rfl (by decide) rfl (pc' := 50) rfl ?_
        refine v_goto (tgt := 6) g dk_0_holdingBranches_50 (by decide) ?_
        refine v_sub [1, 2, 3, 4, 0] rfl ?_
        exact ih x4 (x5 + 1) o hf hx
      · replace hf := ifF hc hf
        refine v_iload g dk_0_holdingBranches_38 3 rfl (pc' := 40) rfl ?_
        refine v_iconst (v := 1) g dk_0_holdingBranches_40 (by decide) (pc' := 41) rfl ?_
        refine v_iload g dk_0_holdingBranches_41 4 rfl (pc' := 43) rfl ?_
        refine v_ishl g dk_0_holdingBranches_43 (pc' := 44) rfl ?_
        refine v_ior g dk_0_holdingBranches_44 (pc' := 45) rfl ?_
        refine v_istore (lv' := [(4, .int (x4 ||| ((1 : Int32) <<< (x5 &&& 31)))), (0, .ref (ad 0)), (1, .int x1), (2, .long x2), (5, .int x5)]) g dk_0_holdingBranches_45 (by decide) rfl (pc' := 47) rfl ?_
        refine v_iinc (j := 4) (v := x5 + 1) (lv' := [(5, .int (x5 + 1)), (4, .int (x4 ||| ((1 : Int32) <<< (x5 &&& 31)))), (0, .ref (ad 0)), (1, .int x1), (2, .long x2)]) g dk_0_holdingBranches_47 rfl rfl (by decide) rfl (pc' := 50) rfl ?_
        refine v_goto (tgt := 6) g dk_0_holdingBranches_50 (by decide) ?_
        refine v_sub [2, 3, 4, 1, 0] rfl ?_
        exact ih (x4 ||| ((1 : Int32) <<< (x5 &&& 31))) (x5 + 1) o hf hx
def m_CX_holdingBranches (S : StC) (x1 : Int32) (x2 : Int64) : Option Int32 :=
  (L_CX_holdingBranches_6 S x1 x2 100 0 0).bind fun y5 =>
    some y5
set_option maxHeartbeats 4000000 in
set_option maxRecDepth 100000 in
theorem c_CX_holdingBranches {l : Launch} {D : va_G} {ad : Nat → Nat} {ca : Nat → ClassId} {S : StC} {x1 : Int32} {x2 : Int64} {r : Int32} (hf : m_CX_holdingBranches S x1 x2 = some r) : KIC l D ad ca yk_0_holdingBranches (.code yk_0_holdingBranches bk_0_holdingBranches 6 (some .int) :: tb) rm_CX_holdingBranches [.ref (ad 0), .int x1, .long x2] S (r, S) := by
  refine met_i (by decide) (Nat.le_of_ble_eq_true rfl) (fun p e s m below meth c A g hr hlk hK hA => ?_)
  replace g : CallFix p m c bk_0_holdingBranches 6 s _ tb Rk_0 := g
  refine v_lv (lv' := [(0, .ref (ad 0)), (1, .int x1), (2, .long x2)]) rfl ?_
  unfold m_CX_holdingBranches at hf
  refine v_iconst (v := 0) g dk_0_holdingBranches_0 (by decide) (pc' := 1) rfl ?_
  refine v_istore (lv' := [(4, .int 0), (0, .ref (ad 0)), (1, .int x1), (2, .long x2)]) g dk_0_holdingBranches_1 (by decide) rfl (pc' := 3) rfl ?_
  refine v_iconst (v := 0) g dk_0_holdingBranches_3 (by decide) (pc' := 4) rfl ?_
  refine v_istore (lv' := [(5, .int 0), (4, .int 0), (0, .ref (ad 0)), (1, .int x1), (2, .long x2)]) g dk_0_holdingBranches_4 (by decide) rfl (pc' := 6) rfl ?_
  refine v_sub [2, 3, 4, 1, 0] rfl ?_
  obtain ⟨y5, hL, hf⟩ := bnd hf
  refine w_CX_holdingBranches_6 g hr hlk hK hA 100 0 0 _ hL ?_
  refine v_iload g dk_0_holdingBranches_53 0 rfl (pc' := 55) rfl ?_
  exact v_iret g hr hlk hK  (pinj hf) dk_0_holdingBranches_55
abbrev rm_CX_askedBy : Room := { frames := 2, cells := 0, slots := 0, locals := 44 }
def L_CX_askedBy_4 (S : StC) (x1 : Int32) : Nat → Int32 → Int32 → Option (Int32)
  | 0, _, _ => none
  | n + 1, x2, x3 =>
    if inb x1 40 = true then if (gA S 4 x1.toNatClampNeg) ≤ x3 then some x2
    else (m_CConditions_askingAt S x1 x3).bind fun q2 =>
    (m_CAskings_whichOf S q2).bind fun q3 =>
    (m_CAskings_isAboutAxis S q2).bind fun q4 =>
    if q4 = 0 then (m_CSettings_baseOf S q3).bind fun q5 =>
    if q5 = (-1) then L_CX_askedBy_4 S x1 n (x2 ||| (0 : Int32)) (x3 + 1)
    else L_CX_askedBy_4 S x1 n (x2 ||| ((1 : Int32) <<< (q5 &&& 31))) (x3 + 1)
    else L_CX_askedBy_4 S x1 n (x2 ||| ((1 : Int32) <<< (((16 : Int32) + q3) &&& 31))) (x3 + 1) else none
set_option maxHeartbeats 4000000 in
set_option maxRecDepth 100000 in
theorem w_CX_askedBy_4 {p : Program} {l : Launch} {e : Env} {s : State} {m : MethodId} {args : Array Value} {below : List Frame} {meth : Method} {c : Code} {A : Nat → Prop} {D : va_G} {ad : Nat → Nat} {ca : Nat → ClassId} {Rm : Int32 × StC} {S : StC} {x1 : Int32} (g : CallFix p m c bk_0_askedBy 7 s args tb Rk_0) (hr : meth.sig.returnType = some .int) (hlk : meth.locks = false) (hK : va_K D vwCl (tyC ca) s) (hA : ∀ q, s.heap.size ≤ q → A q) : ∀ (n : Nat) (x2 : Int32) (x3 : Int32) (o : Int32), L_CX_askedBy_4 S x1 n x2 x3 = some o → (Vj p l e rm_CX_askedBy s m args below meth c (MQ below (qI D vwCl (tyC ca) (wdC ad ca) A Rm) args s 0 0 A) D vwCl A 7 0 0 (wdC ad ca S) 90 [(2, .int o)] []) → Vj p l e rm_CX_askedBy s m args below meth c (MQ below (qI D vwCl (tyC ca) (wdC ad ca) A Rm) args s 0 0 A) D vwCl A 7 0 0 (wdC ad ca S) 4 [(0, .ref (ad 0)), (1, .int x1), (2, .int x2), (3, .int x3)] [] := by
  intro n
  induction n with
  | zero => intro x2 x3 o hf; exact nomatch (show none = some o from hf)
  | succ n ih =>
    intro x2 x3 o hf hx
    rw [L_CX_askedBy_4] at hf
    refine v_iload_n g dk_0_askedBy_4 3 rfl rfl (pc' := 5) rfl ?_
    refine v_aload_n g dk_0_askedBy_5 0 rfl rfl (pc' := 6) rfl ?_
    refine gfC_X_33 g hK dk_0_askedBy_6 (pc' := 9) rfl ?_
    refine gfC_X_236 g hK dk_0_askedBy_9 (pc' := 12) rfl ?_
    refine v_iload_n g dk_0_askedBy_12 1 rfl rfl (pc' := 13) rfl ?_
    obtain ⟨hb1, hf⟩ := grd hf
    refine alC_10 g hK hb1 dk_0_askedBy_13 (pc' := 14) rfl ?_
    refine v_icmp_ge (tgt := 90) (pc' := 17) g dk_0_askedBy_14 (by decide) rfl (fun hc => ?_) (fun hc => ?_)
    · replace hf := ifT hc hf
      refine v_sub [2] rfl ?_
      have e9 := Option.some.inj hf
      subst e9
      exact hx
    · replace hf := ifF hc hf
      refine v_aload_n g dk_0_askedBy_17 0 rfl rfl (pc' := 18) rfl ?_
      refine gfC_X_33 g hK dk_0_askedBy_18 (pc' := 21) rfl ?_
      refine v_iload_n g dk_0_askedBy_21 1 rfl rfl (pc' := 22) rfl ?_
      refine v_iload_n g dk_0_askedBy_22 3 rfl rfl (pc' := 23) rfl ?_
      obtain ⟨q2, hq, hf⟩ := bnd hf
      refine v_callV_i (As := [.int x1, .int x3]) (rest := []) (r := q2) (S1 := S) g hK hA (c_CConditions_askingAt hq) (kcC_X_239 g.2.2.2.2 rfl rfl (Nat.le_of_ble_eq_true rfl) (Nat.le_of_ble_eq_true rfl)) (ci := 2) (q0 := 9) rfl rfl rfl rfl rfl (Nat.le_of_ble_eq_true rfl) dk_0_askedBy_23 (Nat.zero_le _) (Nat.zero_le _) (pc' := 26) rfl ?_
      refine v_istore (lv' := [(4, .int q2), (0, .ref (ad 0)), (1, .int x1), (2, .int x2), (3, .int x3)]) g dk_0_askedBy_26 (by decide) rfl (pc' := 28) rfl ?_
      refine v_iload g dk_0_askedBy_28 0 rfl (pc' := 30) rfl ?_
      obtain ⟨q3, hq, hf⟩ := bnd hf
      refine v_callS_i (As := [.int q2]) (rest := []) (r := q3) (S1 := S) g hK hA (c_CAskings_whichOf hq) (kcC_X_245 g.2.2.2.2 rfl rfl (Nat.le_of_ble_eq_true rfl) (Nat.le_of_ble_eq_true rfl)) rfl rfl (Nat.le_of_ble_eq_true rfl) dk_0_askedBy_30 (Nat.zero_le _) (Nat.zero_le _) (pc' := 33) rfl ?_
      refine v_istore (lv' := [(5, .int q3), (4, .int q2), (0, .ref (ad 0)), (1, .int x1), (2, .int x2), (3, .int x3)]) g dk_0_askedBy_33 (by decide) rfl (pc' := 35) rfl ?_
      refine v_iload g dk_0_askedBy_35 1 rfl (pc' := 37) rfl ?_
      obtain ⟨q4, hq, hf⟩ := bnd hf
      refine v_callS_i (As := [.int q2]) (rest := []) (r := q4) (S1 := S) g hK hA (c_CAskings_isAboutAxis hq) (kcC_X_250 g.2.2.2.2 rfl rfl (Nat.le_of_ble_eq_true rfl) (Nat.le_of_ble_eq_true rfl)) rfl rfl (Nat.le_of_ble_eq_true rfl) dk_0_askedBy_37 (Nat.zero_le _) (Nat.zero_le _) (pc' := 40) rfl ?_
      refine v_if_eq (tgt := 56) (pc' := 43) g dk_0_askedBy_40 (by decide) rfl (fun hc => ?_) (fun hc => ?_)
      · replace hf := ifT hc hf
        refine v_aload_n g dk_0_askedBy_56 2 rfl rfl (pc' := 57) rfl ?_
        refine gfC_X_12 g hK dk_0_askedBy_57 (pc' := 60) rfl ?_
        refine v_iload g dk_0_askedBy_60 0 rfl (pc' := 62) rfl ?_
        obtain ⟨q5, hq, hf⟩ := bnd hf
        refine v_callV_i (As := [.int q3]) (rest := []) (r := q5) (S1 := S) g hK hA (c_CSettings_baseOf hq) (kcC_X_83 g.2.2.2.2 rfl rfl (Nat.le_of_ble_eq_true rfl) (Nat.le_of_ble_eq_true rfl)) (ci := 8) (q0 := 1) rfl rfl rfl rfl rfl (Nat.le_of_ble_eq_true rfl) dk_0_askedBy_62 (Nat.zero_le _) (Nat.zero_le _) (pc' := 65) rfl ?_
        refine v_istore (lv' := [(6, .int q5), (5, .int q3), (4, .int q2), (0, .ref (ad 0)), (1, .int x1), (2, .int x2), (3, .int x3)]) g dk_0_askedBy_65 (by decide) rfl (pc' := 67) rfl ?_
        refine v_iload_n g dk_0_askedBy_67 5 rfl rfl (pc' := 68) rfl ?_
        refine v_iload g dk_0_askedBy_68 0 rfl (pc' := 70) rfl ?_
        refine v_iconst (v := (-1)) g dk_0_askedBy_70 (by decide) (pc' := 71) rfl ?_
        refine v_icmp_ne (tgt := 78) (pc' := 74) g dk_0_askedBy_71 (by decide) rfl (fun hc => ?_) (fun hc => ?_)
        · replace hf := ifF hc hf
          refine v_iconst (v := 1) g dk_0_askedBy_78 (by decide) (pc' := 79) rfl ?_
          refine v_iload g dk_0_askedBy_79 0 rfl (pc' := 81) rfl ?_
          refine v_ishl g dk_0_askedBy_81 (pc' := 82) rfl ?_
          refine v_ior g dk_0_askedBy_82 (pc' := 83) rfl ?_
          refine v_istore_n (lv' := [(2, .int (x2 ||| ((1 : Int32) <<< (q5 &&& 31)))), (6, .int q5), (5, .int q3), (4, .int q2), (0, .ref (ad 0)), (1, .int x1), (3, .int x3)]) g dk_0_askedBy_83 rfl (by decide) rfl (pc' := 84) rfl ?_
          refine v_iinc (j := 6) (v := x3 + 1) (lv' := [(3, .int (x3 + 1)), (2, .int (x2 ||| ((1 : Int32) <<< (q5 &&& 31)))), (6, .int q5), (5, .int q3), (4, .int q2), (0, .ref (ad 0)), (1, .int x1)]) g dk_0_askedBy_84 rfl rfl (by decide) rfl (pc' := 87) rfl ?_
          refine v_goto (tgt := 4) g dk_0_askedBy_87 (by decide) ?_
          refine v_sub [5, 6, 1, 0] rfl ?_
          exact ih (x2 ||| ((1 : Int32) <<< (q5 &&& 31))) (x3 + 1) o hf hx
        · replace hf := ifT hc hf
          refine v_iconst (v := 0) g dk_0_askedBy_74 (by decide) (pc' := 75) rfl ?_
          refine v_goto (tgt := 82) g dk_0_askedBy_75 (by decide) ?_
          refine v_ior g dk_0_askedBy_82 (pc' := 83) rfl ?_
          refine v_istore_n (lv' := [(2, .int (x2 ||| (0 : Int32))), (6, .int q5), (5, .int q3), (4, .int q2), (0, .ref (ad 0)), (1, .int x1), (3, .int x3)]) g dk_0_askedBy_83 rfl (by decide) rfl (pc' := 84) rfl ?_
          refine v_iinc (j := 6) (v := x3 + 1) (lv' := [(3, .int (x3 + 1)), (2, .int (x2 ||| (0 : Int32))), (6, .int q5), (5, .int q3), (4, .int q2), (0, .ref (ad 0)), (1, .int x1)]) g dk_0_askedBy_84 rfl rfl (by decide) rfl (pc' := 87) rfl ?_
          refine v_goto (tgt := 4) g dk_0_askedBy_87 (by decide) ?_
          refine v_sub [5, 6, 1, 0] rfl ?_
          exact ih (x2 ||| (0 : Int32)) (x3 + 1) o hf hx
      · replace hf := ifF hc hf
        refine v_iload_n g dk_0_askedBy_43 4 rfl rfl (pc' := 44) rfl ?_
        refine v_iconst (v := 1) g dk_0_askedBy_44 (by decide) (pc' := 45) rfl ?_
        refine v_bipush (v := 16) g dk_0_askedBy_45 (by decide) (pc' := 47) rfl ?_
        refine v_iload g dk_0_askedBy_47 0 rfl (pc' := 49) rfl ?_
        refine v_iadd g dk_0_askedBy_49 (pc' := 50) rfl ?_
        refine v_ishl g dk_0_askedBy_50 (pc' := 51) rfl ?_
        refine v_ior g dk_0_askedBy_51 (pc' := 52) rfl ?_
        refine v_istore_n (lv' := [(2, .int (x2 ||| ((1 : Int32) <<< (((16 : Int32) + q3) &&& 31)))), (5, .int q3), (4, .int q2), (0, .ref (ad 0)), (1, .int x1), (3, .int x3)]) g dk_0_askedBy_52 rfl (by decide) rfl (pc' := 53) rfl ?_
        refine v_goto (tgt := 84) g dk_0_askedBy_53 (by decide) ?_
        refine v_iinc (j := 5) (v := x3 + 1) (lv' := [(3, .int (x3 + 1)), (2, .int (x2 ||| ((1 : Int32) <<< (((16 : Int32) + q3) &&& 31)))), (5, .int q3), (4, .int q2), (0, .ref (ad 0)), (1, .int x1)]) g dk_0_askedBy_84 rfl rfl (by decide) rfl (pc' := 87) rfl ?_
        refine v_goto (tgt := 4) g dk_0_askedBy_87 (by decide) ?_
        refine v_sub [4, 5, 1, 0] rfl ?_
        exact ih (x2 ||| ((1 : Int32) <<< (((16 : Int32) + q3) &&& 31))) (x3 + 1) o hf hx
def m_CX_askedBy (S : StC) (x1 : Int32) : Option Int32 :=
  (L_CX_askedBy_4 S x1 100 0 0).bind fun y7 =>
    some y7
set_option maxHeartbeats 4000000 in
set_option maxRecDepth 100000 in
theorem c_CX_askedBy {l : Launch} {D : va_G} {ad : Nat → Nat} {ca : Nat → ClassId} {S : StC} {x1 : Int32} {r : Int32} (hf : m_CX_askedBy S x1 = some r) : KIC l D ad ca yk_0_askedBy (.code yk_0_askedBy bk_0_askedBy 7 (some .int) :: tb) rm_CX_askedBy [.ref (ad 0), .int x1] S (r, S) := by
  refine met_i (by decide) (Nat.le_of_ble_eq_true rfl) (fun p e s m below meth c A g hr hlk hK hA => ?_)
  replace g : CallFix p m c bk_0_askedBy 7 s _ tb Rk_0 := g
  refine v_lv (lv' := [(0, .ref (ad 0)), (1, .int x1)]) rfl ?_
  unfold m_CX_askedBy at hf
  refine v_iconst (v := 0) g dk_0_askedBy_0 (by decide) (pc' := 1) rfl ?_
  refine v_istore_n (lv' := [(2, .int 0), (0, .ref (ad 0)), (1, .int x1)]) g dk_0_askedBy_1 rfl (by decide) rfl (pc' := 2) rfl ?_
  refine v_iconst (v := 0) g dk_0_askedBy_2 (by decide) (pc' := 3) rfl ?_
  refine v_istore_n (lv' := [(3, .int 0), (2, .int 0), (0, .ref (ad 0)), (1, .int x1)]) g dk_0_askedBy_3 rfl (by decide) rfl (pc' := 4) rfl ?_
  refine v_sub [2, 3, 1, 0] rfl ?_
  obtain ⟨y7, hL, hf⟩ := bnd hf
  refine w_CX_askedBy_4 g hr hlk hK hA 100 0 0 _ hL ?_
  refine v_iload_n g dk_0_askedBy_90 0 rfl rfl (pc' := 91) rfl ?_
  exact v_iret g hr hlk hK  (pinj hf) dk_0_askedBy_91
abbrev rm_CX_isOutdone : Room := { frames := 3, cells := 0, slots := 0, locals := 70 }
def L_CX_isOutdone_18 (S : StC) (x1 : Int32) (x3 : Int32) (x4 : Int32) : Nat → Int32 → Option (Unit ⊕ Int32)
  | 0, _ => none
  | n + 1, x5 =>
    if inb x1 24 = true then if (gA S 12 x1.toNatClampNeg) ≤ x5 then some (.inl ())
    else (m_CX_hasBit S x3 x5).bind fun q4 =>
    if q4 = 0 then L_CX_isOutdone_18 S x1 x3 x4 n (x5 + 1)
    else (m_CSelects_conditionAt S x1 x5).bind fun q5 =>
    (m_CX_askedBy S q5).bind fun q6 =>
    if q6 = x4 then L_CX_isOutdone_18 S x1 x3 x4 n (x5 + 1)
    else if (q6 &&& x4) = x4 then some (.inr 1)
    else L_CX_isOutdone_18 S x1 x3 x4 n (x5 + 1) else none
set_option maxHeartbeats 4000000 in
set_option maxRecDepth 100000 in
theorem w_CX_isOutdone_18 {p : Program} {l : Launch} {e : Env} {s : State} {m : MethodId} {args : Array Value} {below : List Frame} {meth : Method} {c : Code} {A : Nat → Prop} {D : va_G} {ad : Nat → Nat} {ca : Nat → ClassId} {Rm : Int32 × StC} {S : StC} {x1 : Int32} {x3 : Int32} {x4 : Int32} (g : CallFix p m c bk_0_isOutdone 7 s args tb Rk_0) (hr : meth.sig.returnType = some .boolean) (hlk : meth.locks = false) (hK : va_K D vwCl (tyC ca) s) (hA : ∀ q, s.heap.size ≤ q → A q) : ∀ (n : Nat) (x5 : Int32) (o : Unit ⊕ Int32), L_CX_isOutdone_18 S x1 x3 x4 n x5 = some o → (∀ y, o = .inl y → Vj p l e rm_CX_isOutdone s m args below meth c (MQ below (qI D vwCl (tyC ca) (wdC ad ca) A Rm) args s 0 0 A) D vwCl A 7 0 0 (wdC ad ca S) 82 [] []) → (∀ r, o = .inr r → (r, S) = Rm) → Vj p l e rm_CX_isOutdone s m args below meth c (MQ below (qI D vwCl (tyC ca) (wdC ad ca) A Rm) args s 0 0 A) D vwCl A 7 0 0 (wdC ad ca S) 18 [(0, .ref (ad 0)), (1, .int x1), (3, .int x3), (4, .int x4), (5, .int x5)] [] := by
  intro n
  induction n with
  | zero => intro x5 o hf; exact nomatch (show none = some o from hf)
  | succ n ih =>
    intro x5 o hf hx hret
    rw [L_CX_isOutdone_18] at hf
    refine v_iload g dk_0_isOutdone_18 4 rfl (pc' := 20) rfl ?_
    refine v_aload_n g dk_0_isOutdone_20 0 rfl rfl (pc' := 21) rfl ?_
    refine gfC_X_47 g hK dk_0_isOutdone_21 (pc' := 24) rfl ?_
    refine gfC_X_266 g hK dk_0_isOutdone_24 (pc' := 27) rfl ?_
    refine v_iload_n g dk_0_isOutdone_27 1 rfl rfl (pc' := 28) rfl ?_
    obtain ⟨hb3, hf⟩ := grd hf
    refine alC_21 g hK hb3 dk_0_isOutdone_28 (pc' := 29) rfl ?_
    refine v_icmp_ge (tgt := 82) (pc' := 32) g dk_0_isOutdone_29 (by decide) rfl (fun hc => ?_) (fun hc => ?_)
    · replace hf := ifT hc hf
      refine v_sub [] rfl ?_
      exact hx _ (Option.some.inj hf).symm
    · replace hf := ifF hc hf
      refine v_iload_n g dk_0_isOutdone_32 2 rfl rfl (pc' := 33) rfl ?_
      refine v_iload g dk_0_isOutdone_33 4 rfl (pc' := 35) rfl ?_
      obtain ⟨q4, hq, hf⟩ := bnd hf
      refine v_callS_i (As := [.int x3, .int x5]) (rest := []) (r := q4) (S1 := S) g hK hA (c_CX_hasBit hq) (kcC_X_269 g.2.2.2.2 rfl rfl (Nat.le_of_ble_eq_true rfl) (Nat.le_of_ble_eq_true rfl)) rfl rfl (Nat.le_of_ble_eq_true rfl) dk_0_isOutdone_35 (Nat.zero_le _) (Nat.zero_le _) (pc' := 38) rfl ?_
      refine v_if_eq (tgt := 76) (pc' := 41) g dk_0_isOutdone_38 (by decide) rfl (fun hc => ?_) (fun hc => ?_)
      · replace hf := ifT hc hf
        refine v_iinc (j := 4) (v := x5 + 1) (lv' := [(5, .int (x5 + 1)), (0, .ref (ad 0)), (1, .int x1), (3, .int x3), (4, .int x4)]) g dk_0_isOutdone_76 rfl rfl (by decide) rfl (pc' := 79) rfl ?_
        refine v_goto (tgt := 18) g dk_0_isOutdone_79 (by decide) ?_
        refine v_sub [1, 2, 3, 4, 0] rfl ?_
        exact ih (x5 + 1) o hf hx hret
      · replace hf := ifF hc hf
        refine v_aload_n g dk_0_isOutdone_41 0 rfl rfl (pc' := 42) rfl ?_
        refine v_aload_n g dk_0_isOutdone_42 0 rfl rfl (pc' := 43) rfl ?_
        refine gfC_X_47 g hK dk_0_isOutdone_43 (pc' := 46) rfl ?_
        refine v_iload_n g dk_0_isOutdone_46 1 rfl rfl (pc' := 47) rfl ?_
        refine v_iload g dk_0_isOutdone_47 4 rfl (pc' := 49) rfl ?_
        obtain ⟨q5, hq, hf⟩ := bnd hf
        refine v_callV_i (As := [.int x1, .int x5]) (rest := [.ref (ad 0)]) (r := q5) (S1 := S) g hK hA (c_CSelects_conditionAt hq) (kcC_X_292 g.2.2.2.2 rfl rfl (Nat.le_of_ble_eq_true rfl) (Nat.le_of_ble_eq_true rfl)) (ci := 7) (q0 := 16) rfl rfl rfl rfl rfl (Nat.le_of_ble_eq_true rfl) dk_0_isOutdone_49 (Nat.zero_le _) (Nat.zero_le _) (pc' := 52) rfl ?_
        obtain ⟨q6, hq, hf⟩ := bnd hf
        refine v_callV_i (As := [.int q5]) (rest := []) (r := q6) (S1 := S) g hK hA (c_CX_askedBy hq) (kcC_X_298 g.2.2.2.2 rfl rfl (Nat.le_of_ble_eq_true rfl) (Nat.le_of_ble_eq_true rfl)) (ci := 0) (q0 := 0) rfl rfl rfl rfl rfl (Nat.le_of_ble_eq_true rfl) dk_0_isOutdone_52 (Nat.zero_le _) (Nat.zero_le _) (pc' := 55) rfl ?_
        refine v_istore (lv' := [(6, .int q6), (0, .ref (ad 0)), (1, .int x1), (3, .int x3), (4, .int x4), (5, .int x5)]) g dk_0_isOutdone_55 (by decide) rfl (pc' := 57) rfl ?_
        refine v_iload g dk_0_isOutdone_57 0 rfl (pc' := 59) rfl ?_
        refine v_iload g dk_0_isOutdone_59 4 rfl (pc' := 61) rfl ?_
        refine v_icmp_eq (tgt := 76) (pc' := 64) g dk_0_isOutdone_61 (by decide) rfl (fun hc => ?_) (fun hc => ?_)
        · replace hf := ifT hc hf
          refine v_iinc (j := 5) (v := x5 + 1) (lv' := [(5, .int (x5 + 1)), (6, .int q6), (0, .ref (ad 0)), (1, .int x1), (3, .int x3), (4, .int x4)]) g dk_0_isOutdone_76 rfl rfl (by decide) rfl (pc' := 79) rfl ?_
          refine v_goto (tgt := 18) g dk_0_isOutdone_79 (by decide) ?_
          refine v_sub [2, 3, 4, 5, 0] rfl ?_
          exact ih (x5 + 1) o hf hx hret
        · replace hf := ifF hc hf
          refine v_iload g dk_0_isOutdone_64 0 rfl (pc' := 66) rfl ?_
          refine v_iload g dk_0_isOutdone_66 4 rfl (pc' := 68) rfl ?_
          refine v_iand g dk_0_isOutdone_68 (pc' := 69) rfl ?_
          refine v_iload g dk_0_isOutdone_69 4 rfl (pc' := 71) rfl ?_
          refine v_icmp_ne (tgt := 76) (pc' := 74) g dk_0_isOutdone_71 (by decide) rfl (fun hc => ?_) (fun hc => ?_)
          · replace hf := ifF hc hf
            refine v_iinc (j := 5) (v := x5 + 1) (lv' := [(5, .int (x5 + 1)), (6, .int q6), (0, .ref (ad 0)), (1, .int x1), (3, .int x3), (4, .int x4)]) g dk_0_isOutdone_76 rfl rfl (by decide) rfl (pc' := 79) rfl ?_
            refine v_goto (tgt := 18) g dk_0_isOutdone_79 (by decide) ?_
            refine v_sub [2, 3, 4, 5, 0] rfl ?_
            exact ih (x5 + 1) o hf hx hret
          · replace hf := ifT hc hf
            refine v_iconst (v := 1) g dk_0_isOutdone_74 (by decide) (pc' := 75) rfl ?_
            exact v_zret g hr hlk hK rfl (hret _ (Option.some.inj hf).symm) dk_0_isOutdone_75
def m_CX_isOutdone (S : StC) (x1 : Int32) (x2 : Int32) (x3 : Int32) : Option Int32 :=
  (m_CSelects_conditionAt S x1 x2).bind fun q1 =>
    (m_CX_askedBy S q1).bind fun q2 =>
    (L_CX_isOutdone_18 S x1 x3 q2 100 0).bind fun o7 => exK o7 fun y8 =>
    some 0
set_option maxHeartbeats 4000000 in
set_option maxRecDepth 100000 in
theorem c_CX_isOutdone {l : Launch} {D : va_G} {ad : Nat → Nat} {ca : Nat → ClassId} {S : StC} {x1 : Int32} {x2 : Int32} {x3 : Int32} {r : Int32} (hf : m_CX_isOutdone S x1 x2 x3 = some r) : KIC l D ad ca yk_0_isOutdone (.code yk_0_isOutdone bk_0_isOutdone 7 (some .boolean) :: tb) rm_CX_isOutdone [.ref (ad 0), .int x1, .int x2, .int x3] S (r, S) := by
  refine met_z (by decide) (Nat.le_of_ble_eq_true rfl) (fun p e s m below meth c A g hr hlk hK hA => ?_)
  replace g : CallFix p m c bk_0_isOutdone 7 s _ tb Rk_0 := g
  refine v_lv (lv' := [(0, .ref (ad 0)), (1, .int x1), (2, .int x2), (3, .int x3)]) rfl ?_
  unfold m_CX_isOutdone at hf
  refine v_aload_n g dk_0_isOutdone_0 0 rfl rfl (pc' := 1) rfl ?_
  refine v_aload_n g dk_0_isOutdone_1 0 rfl rfl (pc' := 2) rfl ?_
  refine gfC_X_47 g hK dk_0_isOutdone_2 (pc' := 5) rfl ?_
  refine v_iload_n g dk_0_isOutdone_5 1 rfl rfl (pc' := 6) rfl ?_
  refine v_iload_n g dk_0_isOutdone_6 2 rfl rfl (pc' := 7) rfl ?_
  obtain ⟨q1, hq, hf⟩ := bnd hf
  refine v_callV_i (As := [.int x1, .int x2]) (rest := [.ref (ad 0)]) (r := q1) (S1 := S) g hK hA (c_CSelects_conditionAt hq) (kcC_X_292 g.2.2.2.2 rfl rfl (Nat.le_of_ble_eq_true rfl) (Nat.le_of_ble_eq_true rfl)) (ci := 7) (q0 := 16) rfl rfl rfl rfl rfl (Nat.le_of_ble_eq_true rfl) dk_0_isOutdone_7 (Nat.zero_le _) (Nat.zero_le _) (pc' := 10) rfl ?_
  obtain ⟨q2, hq, hf⟩ := bnd hf
  refine v_callV_i (As := [.int q1]) (rest := []) (r := q2) (S1 := S) g hK hA (c_CX_askedBy hq) (kcC_X_298 g.2.2.2.2 rfl rfl (Nat.le_of_ble_eq_true rfl) (Nat.le_of_ble_eq_true rfl)) (ci := 0) (q0 := 0) rfl rfl rfl rfl rfl (Nat.le_of_ble_eq_true rfl) dk_0_isOutdone_10 (Nat.zero_le _) (Nat.zero_le _) (pc' := 13) rfl ?_
  refine v_istore (lv' := [(4, .int q2), (0, .ref (ad 0)), (1, .int x1), (2, .int x2), (3, .int x3)]) g dk_0_isOutdone_13 (by decide) rfl (pc' := 15) rfl ?_
  refine v_iconst (v := 0) g dk_0_isOutdone_15 (by decide) (pc' := 16) rfl ?_
  refine v_istore (lv' := [(5, .int 0), (4, .int q2), (0, .ref (ad 0)), (1, .int x1), (2, .int x2), (3, .int x3)]) g dk_0_isOutdone_16 (by decide) rfl (pc' := 18) rfl ?_
  refine v_sub [2, 3, 5, 1, 0] rfl ?_
  obtain ⟨o7, hL, hf⟩ := bnd hf
  refine w_CX_isOutdone_18 g hr hlk hK hA 100 0 _ hL (fun y8 hy => ?_) (fun r9 hy => ?_)
  · subst hy
    replace hf := exKl hf
    refine v_iconst (v := 0) g dk_0_isOutdone_82 (by decide) (pc' := 83) rfl ?_
    exact v_zret g hr hlk hK rfl (pinj hf) dk_0_isOutdone_83
  · subst hy
    exact pinj hf
abbrev rm_CX_mostSpecialBranches : Room := { frames := 4, cells := 0, slots := 0, locals := 96 }
def L_CX_mostSpecialBranches_5 (S : StC) (x1 : Int32) (x2 : Int32) : Nat → Int32 → Int32 → Option (Int32)
  | 0, _, _ => none
  | n + 1, x3, x4 =>
    if inb x1 24 = true then if (gA S 12 x1.toNatClampNeg) ≤ x4 then some x3
    else (m_CX_hasBit S x2 x4).bind fun q2 =>
    if q2 = 0 then L_CX_mostSpecialBranches_5 S x1 x2 n x3 (x4 + 1)
    else (m_CX_isOutdone S x1 x4 x2).bind fun q3 =>
    if q3 = 0 then L_CX_mostSpecialBranches_5 S x1 x2 n (x3 ||| ((1 : Int32) <<< (x4 &&& 31))) (x4 + 1)
    else L_CX_mostSpecialBranches_5 S x1 x2 n x3 (x4 + 1) else none
set_option maxHeartbeats 4000000 in
set_option maxRecDepth 100000 in
theorem w_CX_mostSpecialBranches_5 {p : Program} {l : Launch} {e : Env} {s : State} {m : MethodId} {args : Array Value} {below : List Frame} {meth : Method} {c : Code} {A : Nat → Prop} {D : va_G} {ad : Nat → Nat} {ca : Nat → ClassId} {Rm : Int32 × StC} {S : StC} {x1 : Int32} {x2 : Int32} (g : CallFix p m c bk_0_mostSpecialBranches 5 s args tb Rk_0) (hr : meth.sig.returnType = some .int) (hlk : meth.locks = false) (hK : va_K D vwCl (tyC ca) s) (hA : ∀ q, s.heap.size ≤ q → A q) : ∀ (n : Nat) (x3 : Int32) (x4 : Int32) (o : Int32), L_CX_mostSpecialBranches_5 S x1 x2 n x3 x4 = some o → (Vj p l e rm_CX_mostSpecialBranches s m args below meth c (MQ below (qI D vwCl (tyC ca) (wdC ad ca) A Rm) args s 0 0 A) D vwCl A 5 0 0 (wdC ad ca S) 52 [(3, .int o)] []) → Vj p l e rm_CX_mostSpecialBranches s m args below meth c (MQ below (qI D vwCl (tyC ca) (wdC ad ca) A Rm) args s 0 0 A) D vwCl A 5 0 0 (wdC ad ca S) 5 [(0, .ref (ad 0)), (1, .int x1), (2, .int x2), (3, .int x3), (4, .int x4)] [] := by
  intro n
  induction n with
  | zero => intro x3 x4 o hf; exact nomatch (show none = some o from hf)
  | succ n ih =>
    intro x3 x4 o hf hx
    rw [L_CX_mostSpecialBranches_5] at hf
    refine v_iload g dk_0_mostSpecialBranches_5 4 rfl (pc' := 7) rfl ?_
    refine v_aload_n g dk_0_mostSpecialBranches_7 0 rfl rfl (pc' := 8) rfl ?_
    refine gfC_X_47 g hK dk_0_mostSpecialBranches_8 (pc' := 11) rfl ?_
    refine gfC_X_266 g hK dk_0_mostSpecialBranches_11 (pc' := 14) rfl ?_
    refine v_iload_n g dk_0_mostSpecialBranches_14 1 rfl rfl (pc' := 15) rfl ?_
    obtain ⟨hb1, hf⟩ := grd hf
    refine alC_21 g hK hb1 dk_0_mostSpecialBranches_15 (pc' := 16) rfl ?_
    refine v_icmp_ge (tgt := 52) (pc' := 19) g dk_0_mostSpecialBranches_16 (by decide) rfl (fun hc => ?_) (fun hc => ?_)
    · replace hf := ifT hc hf
      refine v_sub [3] rfl ?_
      have e9 := Option.some.inj hf
      subst e9
      exact hx
    · replace hf := ifF hc hf
      refine v_iload_n g dk_0_mostSpecialBranches_19 2 rfl rfl (pc' := 20) rfl ?_
      refine v_iload g dk_0_mostSpecialBranches_20 4 rfl (pc' := 22) rfl ?_
      obtain ⟨q2, hq, hf⟩ := bnd hf
      refine v_callS_i (As := [.int x2, .int x4]) (rest := []) (r := q2) (S1 := S) g hK hA (c_CX_hasBit hq) (kcC_X_269 g.2.2.2.2 rfl rfl (Nat.le_of_ble_eq_true rfl) (Nat.le_of_ble_eq_true rfl)) rfl rfl (Nat.le_of_ble_eq_true rfl) dk_0_mostSpecialBranches_22 (Nat.zero_le _) (Nat.zero_le _) (pc' := 25) rfl ?_
      refine v_if_eq (tgt := 46) (pc' := 28) g dk_0_mostSpecialBranches_25 (by decide) rfl (fun hc => ?_) (fun hc => ?_)
      · replace hf := ifT hc hf
        refine v_iinc (j := 4) (v := x4 + 1) (lv' := [(4, .int (x4 + 1)), (0, .ref (ad 0)), (1, .int x1), (2, .int x2), (3, .int x3)]) g dk_0_mostSpecialBranches_46 rfl rfl (by decide) rfl (pc' := 49) rfl ?_
        refine v_goto (tgt := 5) g dk_0_mostSpecialBranches_49 (by decide) ?_
        refine v_sub [1, 2, 3, 4, 0] rfl ?_
        exact ih x3 (x4 + 1) o hf hx
      · replace hf := ifF hc hf
        refine v_aload_n g dk_0_mostSpecialBranches_28 0 rfl rfl (pc' := 29) rfl ?_
        refine v_iload_n g dk_0_mostSpecialBranches_29 1 rfl rfl (pc' := 30) rfl ?_
        refine v_iload g dk_0_mostSpecialBranches_30 4 rfl (pc' := 32) rfl ?_
        refine v_iload_n g dk_0_mostSpecialBranches_32 2 rfl rfl (pc' := 33) rfl ?_
        obtain ⟨q3, hq, hf⟩ := bnd hf
        refine v_callV_i (As := [.int x1, .int x4, .int x2]) (rest := []) (r := q3) (S1 := S) g hK hA (c_CX_isOutdone hq) (kcC_X_295 g.2.2.2.2 rfl rfl (Nat.le_of_ble_eq_true rfl) (Nat.le_of_ble_eq_true rfl)) (ci := 0) (q0 := 0) rfl rfl rfl rfl rfl (Nat.le_of_ble_eq_true rfl) dk_0_mostSpecialBranches_33 (Nat.zero_le _) (Nat.zero_le _) (pc' := 36) rfl ?_
        refine v_if_ne (tgt := 46) (pc' := 39) g dk_0_mostSpecialBranches_36 (by decide) rfl (fun hc => ?_) (fun hc => ?_)
        · replace hf := ifF hc hf
          refine v_iinc (j := 4) (v := x4 + 1) (lv' := [(4, .int (x4 + 1)), (0, .ref (ad 0)), (1, .int x1), (2, .int x2), (3, .int x3)]) g dk_0_mostSpecialBranches_46 rfl rfl (by decide) rfl (pc' := 49) rfl ?_
          refine v_goto (tgt := 5) g dk_0_mostSpecialBranches_49 (by decide) ?_
          refine v_sub [1, 2, 3, 4, 0] rfl ?_
          exact ih x3 (x4 + 1) o hf hx
        · replace hf := ifT hc hf
          refine v_iload_n g dk_0_mostSpecialBranches_39 3 rfl rfl (pc' := 40) rfl ?_
          refine v_iconst (v := 1) g dk_0_mostSpecialBranches_40 (by decide) (pc' := 41) rfl ?_
          refine v_iload g dk_0_mostSpecialBranches_41 4 rfl (pc' := 43) rfl ?_
          refine v_ishl g dk_0_mostSpecialBranches_43 (pc' := 44) rfl ?_
          refine v_ior g dk_0_mostSpecialBranches_44 (pc' := 45) rfl ?_
          refine v_istore_n (lv' := [(3, .int (x3 ||| ((1 : Int32) <<< (x4 &&& 31)))), (0, .ref (ad 0)), (1, .int x1), (2, .int x2), (4, .int x4)]) g dk_0_mostSpecialBranches_45 rfl (by decide) rfl (pc' := 46) rfl ?_
          refine v_iinc (j := 4) (v := x4 + 1) (lv' := [(4, .int (x4 + 1)), (3, .int (x3 ||| ((1 : Int32) <<< (x4 &&& 31)))), (0, .ref (ad 0)), (1, .int x1), (2, .int x2)]) g dk_0_mostSpecialBranches_46 rfl rfl (by decide) rfl (pc' := 49) rfl ?_
          refine v_goto (tgt := 5) g dk_0_mostSpecialBranches_49 (by decide) ?_
          refine v_sub [2, 3, 4, 1, 0] rfl ?_
          exact ih (x3 ||| ((1 : Int32) <<< (x4 &&& 31))) (x4 + 1) o hf hx
def m_CX_mostSpecialBranches (S : StC) (x1 : Int32) (x2 : Int32) : Option Int32 :=
  (L_CX_mostSpecialBranches_5 S x1 x2 100 0 0).bind fun y5 =>
    some y5
set_option maxHeartbeats 4000000 in
set_option maxRecDepth 100000 in
theorem c_CX_mostSpecialBranches {l : Launch} {D : va_G} {ad : Nat → Nat} {ca : Nat → ClassId} {S : StC} {x1 : Int32} {x2 : Int32} {r : Int32} (hf : m_CX_mostSpecialBranches S x1 x2 = some r) : KIC l D ad ca yk_0_mostSpecialBranches (.code yk_0_mostSpecialBranches bk_0_mostSpecialBranches 5 (some .int) :: tb) rm_CX_mostSpecialBranches [.ref (ad 0), .int x1, .int x2] S (r, S) := by
  refine met_i (by decide) (Nat.le_of_ble_eq_true rfl) (fun p e s m below meth c A g hr hlk hK hA => ?_)
  replace g : CallFix p m c bk_0_mostSpecialBranches 5 s _ tb Rk_0 := g
  refine v_lv (lv' := [(0, .ref (ad 0)), (1, .int x1), (2, .int x2)]) rfl ?_
  unfold m_CX_mostSpecialBranches at hf
  refine v_iconst (v := 0) g dk_0_mostSpecialBranches_0 (by decide) (pc' := 1) rfl ?_
  refine v_istore_n (lv' := [(3, .int 0), (0, .ref (ad 0)), (1, .int x1), (2, .int x2)]) g dk_0_mostSpecialBranches_1 rfl (by decide) rfl (pc' := 2) rfl ?_
  refine v_iconst (v := 0) g dk_0_mostSpecialBranches_2 (by decide) (pc' := 3) rfl ?_
  refine v_istore (lv' := [(4, .int 0), (3, .int 0), (0, .ref (ad 0)), (1, .int x1), (2, .int x2)]) g dk_0_mostSpecialBranches_3 (by decide) rfl (pc' := 5) rfl ?_
  refine v_sub [2, 3, 4, 1, 0] rfl ?_
  obtain ⟨y5, hL, hf⟩ := bnd hf
  refine w_CX_mostSpecialBranches_5 g hr hlk hK hA 100 0 0 _ hL ?_
  refine v_iload_n g dk_0_mostSpecialBranches_52 0 rfl rfl (pc' := 53) rfl ?_
  exact v_iret g hr hlk hK  (pinj hf) dk_0_mostSpecialBranches_53
abbrev rm_CX_givenBy_0 : Room := { frames := 1, cells := 0, slots := 0, locals := 20 }
def m_CX_givenBy_0 (S : StC) (x1 : Int32) (x2 : Int64) (x4 : Int32) : Option Int64 :=
  if inb x1 192 = true then if (gA S 14 x1.toNatClampNeg) = 0 then (m_CChoices_ofValue S (gA S 15 x1.toNatClampNeg)).bind fun q3 =>
    some q3
    else if x4 < 1 then none
    else (m_CChoices_nothing S).bind fun q2 =>
    some q2 else none
set_option maxHeartbeats 4000000 in
set_option maxRecDepth 100000 in
theorem c_CX_givenBy_0 {l : Launch} {D : va_G} {ad : Nat → Nat} {ca : Nat → ClassId} {S : StC} {x1 : Int32} {x2 : Int64} {x4 : Int32} {r : Int64} (hf : m_CX_givenBy_0 S x1 x2 x4 = some r) : KLC l D ad ca yk_0_givenBy (.code yk_0_givenBy bk_0_givenBy 5 (some .long) :: tb) rm_CX_givenBy_0 [.ref (ad 0), .int x1, .long x2, .int x4] S (r, S) := by
  refine met_l (by decide) (Nat.le_of_ble_eq_true rfl) (fun p e s m below meth c A g hr hlk hK hA => ?_)
  replace g : CallFix p m c bk_0_givenBy 5 s _ tb Rk_0 := g
  refine v_lv (lv' := [(0, .ref (ad 0)), (1, .int x1), (2, .long x2), (4, .int x4)]) rfl ?_
  unfold m_CX_givenBy_0 at hf
  refine v_aload_n g dk_0_givenBy_0 0 rfl rfl (pc' := 1) rfl ?_
  refine gfC_X_47 g hK dk_0_givenBy_1 (pc' := 4) rfl ?_
  refine gfC_X_286 g hK dk_0_givenBy_4 (pc' := 7) rfl ?_
  refine v_iload_n g dk_0_givenBy_7 1 rfl rfl (pc' := 8) rfl ?_
  obtain ⟨hb1, hf⟩ := grd hf
  refine alC_23 g hK hb1 dk_0_givenBy_8 (pc' := 9) rfl ?_
  refine v_if_ne (tgt := 25) (pc' := 12) g dk_0_givenBy_9 (by decide) rfl (fun hc => ?_) (fun hc => ?_)
  · replace hf := ifF hc hf
    refine v_iload g dk_0_givenBy_25 3 rfl (pc' := 27) rfl ?_
    refine v_iconst (v := 1) g dk_0_givenBy_27 (by decide) (pc' := 28) rfl ?_
    refine v_icmp_lt (tgt := 35) (pc' := 31) g dk_0_givenBy_28 (by decide) rfl (fun hc => ?_) (fun hc => ?_)
    · replace hf := ifT hc hf
      refine v_aload_n g dk_0_givenBy_35 0 rfl rfl (pc' := 36) rfl ?_
      refine v_aload_n g dk_0_givenBy_36 0 rfl rfl (pc' := 37) rfl ?_
      refine gfC_X_47 g hK dk_0_givenBy_37 (pc' := 40) rfl ?_
      refine gfC_X_289 g hK dk_0_givenBy_40 (pc' := 43) rfl ?_
      refine v_iload_n g dk_0_givenBy_43 1 rfl rfl (pc' := 44) rfl ?_
      refine alC_24 g hK hb1 dk_0_givenBy_44 (pc' := 45) rfl ?_
      refine v_lload_n g dk_0_givenBy_45 2 rfl rfl (pc' := 46) rfl ?_
      refine v_iload g dk_0_givenBy_46 3 rfl (pc' := 48) rfl ?_
      refine v_iconst (v := 1) g dk_0_givenBy_48 (by decide) (pc' := 49) rfl ?_
      refine v_iadd g dk_0_givenBy_49 (pc' := 50) rfl ?_
      cases hf
    · replace hf := ifF hc hf
      obtain ⟨q2, hq, hf⟩ := bnd hf
      refine v_callS_l (As := []) (rest := []) (r := q2) (S1 := S) g hK hA (c_CChoices_nothing hq) (kcC_X_65 g.2.2.2.2 rfl rfl (Nat.le_of_ble_eq_true rfl) (Nat.le_of_ble_eq_true rfl)) rfl rfl (Nat.le_of_ble_eq_true rfl) dk_0_givenBy_31 (Nat.zero_le _) (Nat.zero_le _) (pc' := 34) rfl ?_
      exact v_lret g hr hlk hK  (pinj hf) dk_0_givenBy_34
  · replace hf := ifT hc hf
    refine v_aload_n g dk_0_givenBy_12 0 rfl rfl (pc' := 13) rfl ?_
    refine gfC_X_47 g hK dk_0_givenBy_13 (pc' := 16) rfl ?_
    refine gfC_X_289 g hK dk_0_givenBy_16 (pc' := 19) rfl ?_
    refine v_iload_n g dk_0_givenBy_19 1 rfl rfl (pc' := 20) rfl ?_
    refine alC_24 g hK hb1 dk_0_givenBy_20 (pc' := 21) rfl ?_
    obtain ⟨q3, hq, hf⟩ := bnd hf
    refine v_callS_l (As := [.int (gA S 15 x1.toNatClampNeg)]) (rest := []) (r := q3) (S1 := S) g hK hA (c_CChoices_ofValue hq) (kcC_X_144 g.2.2.2.2 rfl rfl (Nat.le_of_ble_eq_true rfl) (Nat.le_of_ble_eq_true rfl)) rfl rfl (Nat.le_of_ble_eq_true rfl) dk_0_givenBy_21 (Nat.zero_le _) (Nat.zero_le _) (pc' := 24) rfl ?_
    exact v_lret g hr hlk hK  (pinj hf) dk_0_givenBy_24
abbrev rm_CChoices_kindOf : Room := { frames := 0, cells := 0, slots := 0, locals := 0 }
def m_CChoices_kindOf (S : StC) (x0 : Int64) : Option Int32 :=
  some (((x0.toUInt64 >>> ((32 : Int32).toInt64.toUInt64 &&& Int64.toUInt64 63)).toInt64).toInt32)
set_option maxHeartbeats 4000000 in
set_option maxRecDepth 100000 in
theorem c_CChoices_kindOf {l : Launch} {D : va_G} {ad : Nat → Nat} {ca : Nat → ClassId} {S : StC} {x0 : Int64} {r : Int32} (hf : m_CChoices_kindOf S x0 = some r) : KIC l D ad ca yk_3_kindOf (.code yk_3_kindOf bk_3_kindOf 2 (some .int) :: tb) rm_CChoices_kindOf [.long x0] S (r, S) := by
  refine met_i (by decide) (Nat.le_of_ble_eq_true rfl) (fun p e s m below meth c A g hr hlk hK hA => ?_)
  replace g : CallFix p m c bk_3_kindOf 2 s _ tb Rk_3 := g
  refine v_lv (lv' := [(0, .long x0)]) rfl ?_
  unfold m_CChoices_kindOf at hf
  refine v_lload_n g dk_3_kindOf_0 0 rfl rfl (pc' := 1) rfl ?_
  refine v_bipush (v := 32) g dk_3_kindOf_1 (by decide) (pc' := 3) rfl ?_
  refine v_lushr g dk_3_kindOf_3 (pc' := 4) rfl ?_
  refine v_l2i g dk_3_kindOf_4 (pc' := 5) rfl ?_
  exact v_iret g hr hlk hK  (pinj hf) dk_3_kindOf_5
end
section
abbrev rm_CChoices_areAlike : Room := { frames := 1, cells := 0, slots := 0, locals := 21 }
def m_CChoices_areAlike (S : StC) (x0 : Int64) (x2 : Int64) : Option Int32 :=
  (m_CChoices_kindOf S x0).bind fun q1 =>
    (m_CChoices_kindOf S x2).bind fun q2 =>
    if q1 = q2 then (m_CChoices_kindOf S x0).bind fun q3 =>
    if q3 = 1 then if (lg_cmp x0 x2) = 0 then some 1
    else some 0
    else some 1
    else some 0
set_option maxHeartbeats 4000000 in
set_option maxRecDepth 100000 in
theorem c_CChoices_areAlike {l : Launch} {D : va_G} {ad : Nat → Nat} {ca : Nat → ClassId} {S : StC} {x0 : Int64} {x2 : Int64} {r : Int32} (hf : m_CChoices_areAlike S x0 x2 = some r) : KIC l D ad ca yk_3_areAlike (.code yk_3_areAlike bk_3_areAlike 4 (some .boolean) :: tb) rm_CChoices_areAlike [.long x0, .long x2] S (r, S) := by
  refine met_z (by decide) (Nat.le_of_ble_eq_true rfl) (fun p e s m below meth c A g hr hlk hK hA => ?_)
  replace g : CallFix p m c bk_3_areAlike 4 s _ tb Rk_3 := g
  refine v_lv (lv' := [(0, .long x0), (2, .long x2)]) rfl ?_
  unfold m_CChoices_areAlike at hf
  refine v_lload_n g dk_3_areAlike_0 0 rfl rfl (pc' := 1) rfl ?_
  obtain ⟨q1, hq, hf⟩ := bnd hf
  refine v_callS_i (As := [.long x0]) (rest := []) (r := q1) (S1 := S) g hK hA (c_CChoices_kindOf hq) (kcC_Choices_17 g.2.2.2.2 rfl rfl (Nat.le_of_ble_eq_true rfl) (Nat.le_of_ble_eq_true rfl)) rfl rfl (Nat.le_of_ble_eq_true rfl) dk_3_areAlike_1 (Nat.zero_le _) (Nat.zero_le _) (pc' := 4) rfl ?_
  refine v_lload_n g dk_3_areAlike_4 1 rfl rfl (pc' := 5) rfl ?_
  obtain ⟨q2, hq, hf⟩ := bnd hf
  refine v_callS_i (As := [.long x2]) (rest := [.int q1]) (r := q2) (S1 := S) g hK hA (c_CChoices_kindOf hq) (kcC_Choices_17 g.2.2.2.2 rfl rfl (Nat.le_of_ble_eq_true rfl) (Nat.le_of_ble_eq_true rfl)) rfl rfl (Nat.le_of_ble_eq_true rfl) dk_3_areAlike_5 (Nat.zero_le _) (Nat.zero_le _) (pc' := 8) rfl ?_
  refine v_icmp_ne (tgt := 29) (pc' := 11) g dk_3_areAlike_8 (by decide) rfl (fun hc => ?_) (fun hc => ?_)
  · replace hf := ifF hc hf
    refine v_iconst (v := 0) g dk_3_areAlike_29 (by decide) (pc' := 30) rfl ?_
    exact v_zret g hr hlk hK rfl (pinj hf) dk_3_areAlike_30
  · replace hf := ifT hc hf
    refine v_lload_n g dk_3_areAlike_11 0 rfl rfl (pc' := 12) rfl ?_
    obtain ⟨q3, hq, hf⟩ := bnd hf
    refine v_callS_i (As := [.long x0]) (rest := []) (r := q3) (S1 := S) g hK hA (c_CChoices_kindOf hq) (kcC_Choices_17 g.2.2.2.2 rfl rfl (Nat.le_of_ble_eq_true rfl) (Nat.le_of_ble_eq_true rfl)) rfl rfl (Nat.le_of_ble_eq_true rfl) dk_3_areAlike_12 (Nat.zero_le _) (Nat.zero_le _) (pc' := 15) rfl ?_
    refine v_iconst (v := 1) g dk_3_areAlike_15 (by decide) (pc' := 16) rfl ?_
    refine v_icmp_ne (tgt := 25) (pc' := 19) g dk_3_areAlike_16 (by decide) rfl (fun hc => ?_) (fun hc => ?_)
    · replace hf := ifF hc hf
      refine v_iconst (v := 1) g dk_3_areAlike_25 (by decide) (pc' := 26) rfl ?_
      refine v_goto (tgt := 30) g dk_3_areAlike_26 (by decide) ?_
      exact v_zret g hr hlk hK rfl (pinj hf) dk_3_areAlike_30
    · replace hf := ifT hc hf
      refine v_lload_n g dk_3_areAlike_19 0 rfl rfl (pc' := 20) rfl ?_
      refine v_lload_n g dk_3_areAlike_20 1 rfl rfl (pc' := 21) rfl ?_
      refine v_lcmp g dk_3_areAlike_21 (pc' := 22) rfl ?_
      refine v_if_ne (tgt := 29) (pc' := 25) g dk_3_areAlike_22 (by decide) rfl (fun hc => ?_) (fun hc => ?_)
      · replace hf := ifF hc hf
        refine v_iconst (v := 0) g dk_3_areAlike_29 (by decide) (pc' := 30) rfl ?_
        exact v_zret g hr hlk hK rfl (pinj hf) dk_3_areAlike_30
      · replace hf := ifT hc hf
        refine v_iconst (v := 1) g dk_3_areAlike_25 (by decide) (pc' := 26) rfl ?_
        refine v_goto (tgt := 30) g dk_3_areAlike_26 (by decide) ?_
        exact v_zret g hr hlk hK rfl (pinj hf) dk_3_areAlike_30
abbrev rm_CChoices_ofClash : Room := { frames := 0, cells := 0, slots := 0, locals := 0 }
def m_CChoices_ofClash (S : StC) (x0 : Int32) (x1 : Int32) : Option Int64 :=
  some ((8589934592 : Int64) ||| (((x0 * (8 : Int32)) + x1).toInt64))
set_option maxHeartbeats 4000000 in
set_option maxRecDepth 100000 in
theorem c_CChoices_ofClash {l : Launch} {D : va_G} {ad : Nat → Nat} {ca : Nat → ClassId} {S : StC} {x0 : Int32} {x1 : Int32} {r : Int64} (hf : m_CChoices_ofClash S x0 x1 = some r) : KLC l D ad ca yk_3_ofClash (.code yk_3_ofClash bk_3_ofClash 2 (some .long) :: tb) rm_CChoices_ofClash [.int x0, .int x1] S (r, S) := by
  refine met_l (by decide) (Nat.le_of_ble_eq_true rfl) (fun p e s m below meth c A g hr hlk hK hA => ?_)
  replace g : CallFix p m c bk_3_ofClash 2 s _ tb Rk_3 := g
  refine v_lv (lv' := [(0, .int x0), (1, .int x1)]) rfl ?_
  unfold m_CChoices_ofClash at hf
  refine v_ldc2 g dk_3_ofClash_0 lcC_Choices_15 (pc' := 3) rfl ?_
  refine v_iload_n g dk_3_ofClash_3 0 rfl rfl (pc' := 4) rfl ?_
  refine v_bipush (v := 8) g dk_3_ofClash_4 (by decide) (pc' := 6) rfl ?_
  refine v_imul g dk_3_ofClash_6 (pc' := 7) rfl ?_
  refine v_iload_n g dk_3_ofClash_7 1 rfl rfl (pc' := 8) rfl ?_
  refine v_iadd g dk_3_ofClash_8 (pc' := 9) rfl ?_
  refine v_i2l g dk_3_ofClash_9 (pc' := 10) rfl ?_
  refine v_lor g dk_3_ofClash_10 (pc' := 11) rfl ?_
  exact v_lret g hr hlk hK  (pinj hf) dk_3_ofClash_11
abbrev rm_CX_choosing_0 : Room := { frames := 5, cells := 0, slots := 0, locals := 120 }
def L_CX_choosing_0_39 (S : StC) (x1 : Int32) (x2 : Int64) (x4 : Int32) (x5 : Int32) : Nat → Int32 → Int64 → Int32 → Option (Int64 ⊕ Int64)
  | 0, _, _, _ => none
  | n + 1, x6, x7, x9 =>
    if inb x1 24 = true then if (gA S 12 x1.toNatClampNeg) ≤ x9 then some (.inl x7)
    else (m_CX_hasBit S x5 x9).bind fun q5 =>
    if q5 = 0 then L_CX_choosing_0_39 S x1 x2 x4 x5 n x6 x7 (x9 + 1)
    else (m_CSelects_place S x1 x9).bind fun q6 =>
    (m_CX_givenBy_0 S q6 x2 x4).bind fun q7 =>
    if x6 = (-1) then L_CX_choosing_0_39 S x1 x2 x4 x5 n x9 q7 (x9 + 1)
    else (m_CChoices_areAlike S x7 q7).bind fun q8 =>
    if q8 = 0 then (m_CChoices_ofClash S x6 x9).bind fun q9 =>
    some (.inr q9)
    else L_CX_choosing_0_39 S x1 x2 x4 x5 n x6 x7 (x9 + 1) else none
set_option maxHeartbeats 4000000 in
set_option maxRecDepth 100000 in
theorem w_CX_choosing_0_39 {p : Program} {l : Launch} {e : Env} {s : State} {m : MethodId} {args : Array Value} {below : List Frame} {meth : Method} {c : Code} {A : Nat → Prop} {D : va_G} {ad : Nat → Nat} {ca : Nat → ClassId} {Rm : Int64 × StC} {S : StC} {x1 : Int32} {x2 : Int64} {x4 : Int32} {x5 : Int32} (g : CallFix p m c bk_0_choosing 12 s args tb Rk_0) (hr : meth.sig.returnType = some .long) (hlk : meth.locks = false) (hK : va_K D vwCl (tyC ca) s) (hA : ∀ q, s.heap.size ≤ q → A q) : ∀ (n : Nat) (x6 : Int32) (x7 : Int64) (x9 : Int32) (o : Int64 ⊕ Int64), L_CX_choosing_0_39 S x1 x2 x4 x5 n x6 x7 x9 = some o → (∀ y, o = .inl y → Vj p l e rm_CX_choosing_0 s m args below meth c (MQ below (qL D vwCl (tyC ca) (wdC ad ca) A Rm) args s 0 0 A) D vwCl A 12 0 0 (wdC ad ca S) 122 [(7, .long y)] []) → (∀ r, o = .inr r → (r, S) = Rm) → Vj p l e rm_CX_choosing_0 s m args below meth c (MQ below (qL D vwCl (tyC ca) (wdC ad ca) A Rm) args s 0 0 A) D vwCl A 12 0 0 (wdC ad ca S) 39 [(0, .ref (ad 0)), (1, .int x1), (2, .long x2), (4, .int x4), (5, .int x5), (6, .int x6), (7, .long x7), (9, .int x9)] [] := by
  intro n
  induction n with
  | zero => intro x6 x7 x9 o hf; exact nomatch (show none = some o from hf)
  | succ n ih =>
    intro x6 x7 x9 o hf hx hret
    rw [L_CX_choosing_0_39] at hf
    refine v_iload g dk_0_choosing_39 7 rfl (pc' := 41) rfl ?_
    refine v_aload_n g dk_0_choosing_41 0 rfl rfl (pc' := 42) rfl ?_
    refine gfC_X_47 g hK dk_0_choosing_42 (pc' := 45) rfl ?_
    refine gfC_X_266 g hK dk_0_choosing_45 (pc' := 48) rfl ?_
    refine v_iload_n g dk_0_choosing_48 1 rfl rfl (pc' := 49) rfl ?_
    obtain ⟨hb4, hf⟩ := grd hf
    refine alC_21 g hK hb4 dk_0_choosing_49 (pc' := 50) rfl ?_
    refine v_icmp_ge (tgt := 122) (pc' := 53) g dk_0_choosing_50 (by decide) rfl (fun hc => ?_) (fun hc => ?_)
    · replace hf := ifT hc hf
      refine v_sub [6] rfl ?_
      exact hx _ (Option.some.inj hf).symm
    · replace hf := ifF hc hf
      refine v_iload g dk_0_choosing_53 4 rfl (pc' := 55) rfl ?_
      refine v_iload g dk_0_choosing_55 7 rfl (pc' := 57) rfl ?_
      obtain ⟨q5, hq, hf⟩ := bnd hf
      refine v_callS_i (As := [.int x5, .int x9]) (rest := []) (r := q5) (S1 := S) g hK hA (c_CX_hasBit hq) (kcC_X_269 g.2.2.2.2 rfl rfl (Nat.le_of_ble_eq_true rfl) (Nat.le_of_ble_eq_true rfl)) rfl rfl (Nat.le_of_ble_eq_true rfl) dk_0_choosing_57 (Nat.zero_le _) (Nat.zero_le _) (pc' := 60) rfl ?_
      refine v_if_ne (tgt := 66) (pc' := 63) g dk_0_choosing_60 (by decide) rfl (fun hc => ?_) (fun hc => ?_)
      · replace hf := ifF hc hf
        refine v_aload_n g dk_0_choosing_66 0 rfl rfl (pc' := 67) rfl ?_
        refine v_iload_n g dk_0_choosing_67 1 rfl rfl (pc' := 68) rfl ?_
        refine v_iload g dk_0_choosing_68 7 rfl (pc' := 70) rfl ?_
        obtain ⟨q6, hq, hf⟩ := bnd hf
        refine v_callS_i (As := [.int x1, .int x9]) (rest := [.ref (ad 0)]) (r := q6) (S1 := S) g hK hA (c_CSelects_place hq) (kcC_X_272 g.2.2.2.2 rfl rfl (Nat.le_of_ble_eq_true rfl) (Nat.le_of_ble_eq_true rfl)) rfl rfl (Nat.le_of_ble_eq_true rfl) dk_0_choosing_70 (Nat.zero_le _) (Nat.zero_le _) (pc' := 73) rfl ?_
        refine v_lload_n g dk_0_choosing_73 2 rfl rfl (pc' := 74) rfl ?_
        refine v_iload g dk_0_choosing_74 3 rfl (pc' := 76) rfl ?_
        obtain ⟨q7, hq, hf⟩ := bnd hf
        refine v_callV_l (As := [.int q6, .long x2, .int x4]) (rest := []) (r := q7) (S1 := S) g hK hA (c_CX_givenBy_0 hq) (kcC_X_275 g.2.2.2.2 rfl rfl (Nat.le_of_ble_eq_true rfl) (Nat.le_of_ble_eq_true rfl)) (ci := 0) (q0 := 0) rfl rfl rfl rfl rfl (Nat.le_of_ble_eq_true rfl) dk_0_choosing_76 (Nat.zero_le _) (Nat.zero_le _) (pc' := 79) rfl ?_
        refine v_lstore (lv' := [(10, .long q7), (0, .ref (ad 0)), (1, .int x1), (2, .long x2), (4, .int x4), (5, .int x5), (6, .int x6), (7, .long x7), (9, .int x9)]) g dk_0_choosing_79 (by decide) rfl (pc' := 81) rfl ?_
        refine v_iload g dk_0_choosing_81 6 rfl (pc' := 83) rfl ?_
        refine v_iconst (v := (-1)) g dk_0_choosing_83 (by decide) (pc' := 84) rfl ?_
        refine v_icmp_ne (tgt := 98) (pc' := 87) g dk_0_choosing_84 (by decide) rfl (fun hc => ?_) (fun hc => ?_)
        · replace hf := ifF hc hf
          refine v_lload g dk_0_choosing_98 7 rfl (pc' := 100) rfl ?_
          refine v_lload g dk_0_choosing_100 0 rfl (pc' := 102) rfl ?_
          obtain ⟨q8, hq, hf⟩ := bnd hf
          refine v_callS_i (As := [.long x7, .long q7]) (rest := []) (r := q8) (S1 := S) g hK hA (c_CChoices_areAlike hq) (kcC_X_278 g.2.2.2.2 rfl rfl (Nat.le_of_ble_eq_true rfl) (Nat.le_of_ble_eq_true rfl)) rfl rfl (Nat.le_of_ble_eq_true rfl) dk_0_choosing_102 (Nat.zero_le _) (Nat.zero_le _) (pc' := 105) rfl ?_
          refine v_if_ne (tgt := 116) (pc' := 108) g dk_0_choosing_105 (by decide) rfl (fun hc => ?_) (fun hc => ?_)
          · replace hf := ifF hc hf
            refine v_iinc (j := 8) (v := x9 + 1) (lv' := [(9, .int (x9 + 1)), (10, .long q7), (0, .ref (ad 0)), (1, .int x1), (2, .long x2), (4, .int x4), (5, .int x5), (6, .int x6), (7, .long x7)]) g dk_0_choosing_116 rfl rfl (by decide) rfl (pc' := 119) rfl ?_
            refine v_goto (tgt := 39) g dk_0_choosing_119 (by decide) ?_
            refine v_sub [2, 3, 4, 5, 6, 7, 8, 0] rfl ?_
            exact ih x6 x7 (x9 + 1) o hf hx hret
          · replace hf := ifT hc hf
            refine v_iload g dk_0_choosing_108 6 rfl (pc' := 110) rfl ?_
            refine v_iload g dk_0_choosing_110 8 rfl (pc' := 112) rfl ?_
            obtain ⟨q9, hq, hf⟩ := bnd hf
            refine v_callS_l (As := [.int x6, .int x9]) (rest := []) (r := q9) (S1 := S) g hK hA (c_CChoices_ofClash hq) (kcC_X_282 g.2.2.2.2 rfl rfl (Nat.le_of_ble_eq_true rfl) (Nat.le_of_ble_eq_true rfl)) rfl rfl (Nat.le_of_ble_eq_true rfl) dk_0_choosing_112 (Nat.zero_le _) (Nat.zero_le _) (pc' := 115) rfl ?_
            exact v_lret g hr hlk hK  (hret _ (Option.some.inj hf).symm) dk_0_choosing_115
        · replace hf := ifT hc hf
          refine v_iload g dk_0_choosing_87 8 rfl (pc' := 89) rfl ?_
          refine v_istore (lv' := [(6, .int x9), (10, .long q7), (0, .ref (ad 0)), (1, .int x1), (2, .long x2), (4, .int x4), (5, .int x5), (7, .long x7), (9, .int x9)]) g dk_0_choosing_89 (by decide) rfl (pc' := 91) rfl ?_
          refine v_lload g dk_0_choosing_91 1 rfl (pc' := 93) rfl ?_
          refine v_lstore (lv' := [(7, .long q7), (6, .int x9), (10, .long q7), (0, .ref (ad 0)), (1, .int x1), (2, .long x2), (4, .int x4), (5, .int x5), (9, .int x9)]) g dk_0_choosing_93 (by decide) rfl (pc' := 95) rfl ?_
          refine v_goto (tgt := 116) g dk_0_choosing_95 (by decide) ?_
          refine v_iinc (j := 8) (v := x9 + 1) (lv' := [(9, .int (x9 + 1)), (7, .long q7), (6, .int x9), (10, .long q7), (0, .ref (ad 0)), (1, .int x1), (2, .long x2), (4, .int x4), (5, .int x5)]) g dk_0_choosing_116 rfl rfl (by decide) rfl (pc' := 119) rfl ?_
          refine v_goto (tgt := 39) g dk_0_choosing_119 (by decide) ?_
          refine v_sub [4, 5, 6, 7, 8, 2, 1, 0] rfl ?_
          exact ih x9 q7 (x9 + 1) o hf hx hret
      · replace hf := ifT hc hf
        refine v_goto (tgt := 116) g dk_0_choosing_63 (by decide) ?_
        refine v_iinc (j := 7) (v := x9 + 1) (lv' := [(9, .int (x9 + 1)), (0, .ref (ad 0)), (1, .int x1), (2, .long x2), (4, .int x4), (5, .int x5), (6, .int x6), (7, .long x7)]) g dk_0_choosing_116 rfl rfl (by decide) rfl (pc' := 119) rfl ?_
        refine v_goto (tgt := 39) g dk_0_choosing_119 (by decide) ?_
        refine v_sub [1, 2, 3, 4, 5, 6, 7, 0] rfl ?_
        exact ih x6 x7 (x9 + 1) o hf hx hret
def m_CX_choosing_0 (S : StC) (x1 : Int32) (x2 : Int64) (x4 : Int32) : Option Int64 :=
  (m_CX_holdingBranches S x1 x2).bind fun q1 =>
    (m_CX_mostSpecialBranches S x1 q1).bind fun q2 =>
    if q2 = 0 then if inb x1 24 = true then some (gB S 1 x1.toNatClampNeg) else none
    else (m_CChoices_nothing S).bind fun q3 =>
    (L_CX_choosing_0_39 S x1 x2 x4 q2 100 (-1) q3 0).bind fun o10 => exK o10 fun y11 =>
    some y11
set_option maxHeartbeats 4000000 in
set_option maxRecDepth 100000 in
theorem c_CX_choosing_0 {l : Launch} {D : va_G} {ad : Nat → Nat} {ca : Nat → ClassId} {S : StC} {x1 : Int32} {x2 : Int64} {x4 : Int32} {r : Int64} (hf : m_CX_choosing_0 S x1 x2 x4 = some r) : KLC l D ad ca yk_0_choosing (.code yk_0_choosing bk_0_choosing 12 (some .long) :: tb) rm_CX_choosing_0 [.ref (ad 0), .int x1, .long x2, .int x4] S (r, S) := by
  refine met_l (by decide) (Nat.le_of_ble_eq_true rfl) (fun p e s m below meth c A g hr hlk hK hA => ?_)
  replace g : CallFix p m c bk_0_choosing 12 s _ tb Rk_0 := g
  refine v_lv (lv' := [(0, .ref (ad 0)), (1, .int x1), (2, .long x2), (4, .int x4)]) rfl ?_
  unfold m_CX_choosing_0 at hf
  refine v_aload_n g dk_0_choosing_0 0 rfl rfl (pc' := 1) rfl ?_
  refine v_iload_n g dk_0_choosing_1 1 rfl rfl (pc' := 2) rfl ?_
  refine v_aload_n g dk_0_choosing_2 0 rfl rfl (pc' := 3) rfl ?_
  refine v_iload_n g dk_0_choosing_3 1 rfl rfl (pc' := 4) rfl ?_
  refine v_lload_n g dk_0_choosing_4 2 rfl rfl (pc' := 5) rfl ?_
  obtain ⟨q1, hq, hf⟩ := bnd hf
  refine v_callV_i (As := [.int x1, .long x2]) (rest := [.int x1, .ref (ad 0)]) (r := q1) (S1 := S) g hK hA (c_CX_holdingBranches hq) (kcC_X_259 g.2.2.2.2 rfl rfl (Nat.le_of_ble_eq_true rfl) (Nat.le_of_ble_eq_true rfl)) (ci := 0) (q0 := 0) rfl rfl rfl rfl rfl (Nat.le_of_ble_eq_true rfl) dk_0_choosing_5 (Nat.zero_le _) (Nat.zero_le _) (pc' := 8) rfl ?_
  obtain ⟨q2, hq, hf⟩ := bnd hf
  refine v_callV_i (As := [.int x1, .int q1]) (rest := []) (r := q2) (S1 := S) g hK hA (c_CX_mostSpecialBranches hq) (kcC_X_263 g.2.2.2.2 rfl rfl (Nat.le_of_ble_eq_true rfl) (Nat.le_of_ble_eq_true rfl)) (ci := 0) (q0 := 0) rfl rfl rfl rfl rfl (Nat.le_of_ble_eq_true rfl) dk_0_choosing_8 (Nat.zero_le _) (Nat.zero_le _) (pc' := 11) rfl ?_
  refine v_istore (lv' := [(5, .int q2), (0, .ref (ad 0)), (1, .int x1), (2, .long x2), (4, .int x4)]) g dk_0_choosing_11 (by decide) rfl (pc' := 13) rfl ?_
  refine v_iload g dk_0_choosing_13 0 rfl (pc' := 15) rfl ?_
  refine v_if_ne (tgt := 28) (pc' := 18) g dk_0_choosing_15 (by decide) rfl (fun hc => ?_) (fun hc => ?_)
  · replace hf := ifF hc hf
    refine v_iconst (v := (-1)) g dk_0_choosing_28 (by decide) (pc' := 29) rfl ?_
    refine v_istore (lv' := [(6, .int (-1)), (5, .int q2), (0, .ref (ad 0)), (1, .int x1), (2, .long x2), (4, .int x4)]) g dk_0_choosing_29 (by decide) rfl (pc' := 31) rfl ?_
    obtain ⟨q3, hq, hf⟩ := bnd hf
    refine v_callS_l (As := []) (rest := []) (r := q3) (S1 := S) g hK hA (c_CChoices_nothing hq) (kcC_X_65 g.2.2.2.2 rfl rfl (Nat.le_of_ble_eq_true rfl) (Nat.le_of_ble_eq_true rfl)) rfl rfl (Nat.le_of_ble_eq_true rfl) dk_0_choosing_31 (Nat.zero_le _) (Nat.zero_le _) (pc' := 34) rfl ?_
    refine v_lstore (lv' := [(7, .long q3), (6, .int (-1)), (5, .int q2), (0, .ref (ad 0)), (1, .int x1), (2, .long x2), (4, .int x4)]) g dk_0_choosing_34 (by decide) rfl (pc' := 36) rfl ?_
    refine v_iconst (v := 0) g dk_0_choosing_36 (by decide) (pc' := 37) rfl ?_
    refine v_istore (lv' := [(9, .int 0), (7, .long q3), (6, .int (-1)), (5, .int q2), (0, .ref (ad 0)), (1, .int x1), (2, .long x2), (4, .int x4)]) g dk_0_choosing_37 (by decide) rfl (pc' := 39) rfl ?_
    refine v_sub [4, 5, 6, 7, 3, 2, 1, 0] rfl ?_
    obtain ⟨o10, hL, hf⟩ := bnd hf
    refine w_CX_choosing_0_39 g hr hlk hK hA 100 (-1) q3 0 _ hL (fun y11 hy => ?_) (fun r9 hy => ?_)
    · subst hy
      replace hf := exKl hf
      refine v_lload g dk_0_choosing_122 0 rfl (pc' := 124) rfl ?_
      exact v_lret g hr hlk hK  (pinj hf) dk_0_choosing_124
    · subst hy
      exact pinj hf
  · replace hf := ifT hc hf
    refine v_aload_n g dk_0_choosing_18 1 rfl rfl (pc' := 19) rfl ?_
    refine gfC_X_47 g hK dk_0_choosing_19 (pc' := 22) rfl ?_
    refine gfC_X_140 g hK dk_0_choosing_22 (pc' := 25) rfl ?_
    refine v_iload_n g dk_0_choosing_25 2 rfl rfl (pc' := 26) rfl ?_
    obtain ⟨hb12, hf⟩ := grd hf
    refine alC_18 g hK hb12 dk_0_choosing_26 (pc' := 27) rfl ?_
    exact v_lret g hr hlk hK  (pinj hf) dk_0_choosing_27
abbrev rm_CX_givenBy_1 : Room := { frames := 6, cells := 0, slots := 0, locals := 151 }
def m_CX_givenBy_1 (S : StC) (x1 : Int32) (x2 : Int64) (x4 : Int32) : Option Int64 :=
  if inb x1 192 = true then if (gA S 14 x1.toNatClampNeg) = 0 then (m_CChoices_ofValue S (gA S 15 x1.toNatClampNeg)).bind fun q4 =>
    some q4
    else if x4 < 1 then (m_CX_choosing_0 S (gA S 15 x1.toNatClampNeg) x2 (x4 + (1 : Int32))).bind fun q2 =>
    some q2
    else (m_CChoices_nothing S).bind fun q3 =>
    some q3 else none
set_option maxHeartbeats 4000000 in
set_option maxRecDepth 100000 in
theorem c_CX_givenBy_1 {l : Launch} {D : va_G} {ad : Nat → Nat} {ca : Nat → ClassId} {S : StC} {x1 : Int32} {x2 : Int64} {x4 : Int32} {r : Int64} (hf : m_CX_givenBy_1 S x1 x2 x4 = some r) : KLC l D ad ca yk_0_givenBy (.code yk_0_givenBy bk_0_givenBy 5 (some .long) :: tb) rm_CX_givenBy_1 [.ref (ad 0), .int x1, .long x2, .int x4] S (r, S) := by
  refine met_l (by decide) (Nat.le_of_ble_eq_true rfl) (fun p e s m below meth c A g hr hlk hK hA => ?_)
  replace g : CallFix p m c bk_0_givenBy 5 s _ tb Rk_0 := g
  refine v_lv (lv' := [(0, .ref (ad 0)), (1, .int x1), (2, .long x2), (4, .int x4)]) rfl ?_
  unfold m_CX_givenBy_1 at hf
  refine v_aload_n g dk_0_givenBy_0 0 rfl rfl (pc' := 1) rfl ?_
  refine gfC_X_47 g hK dk_0_givenBy_1 (pc' := 4) rfl ?_
  refine gfC_X_286 g hK dk_0_givenBy_4 (pc' := 7) rfl ?_
  refine v_iload_n g dk_0_givenBy_7 1 rfl rfl (pc' := 8) rfl ?_
  obtain ⟨hb1, hf⟩ := grd hf
  refine alC_23 g hK hb1 dk_0_givenBy_8 (pc' := 9) rfl ?_
  refine v_if_ne (tgt := 25) (pc' := 12) g dk_0_givenBy_9 (by decide) rfl (fun hc => ?_) (fun hc => ?_)
  · replace hf := ifF hc hf
    refine v_iload g dk_0_givenBy_25 3 rfl (pc' := 27) rfl ?_
    refine v_iconst (v := 1) g dk_0_givenBy_27 (by decide) (pc' := 28) rfl ?_
    refine v_icmp_lt (tgt := 35) (pc' := 31) g dk_0_givenBy_28 (by decide) rfl (fun hc => ?_) (fun hc => ?_)
    · replace hf := ifT hc hf
      refine v_aload_n g dk_0_givenBy_35 0 rfl rfl (pc' := 36) rfl ?_
      refine v_aload_n g dk_0_givenBy_36 0 rfl rfl (pc' := 37) rfl ?_
      refine gfC_X_47 g hK dk_0_givenBy_37 (pc' := 40) rfl ?_
      refine gfC_X_289 g hK dk_0_givenBy_40 (pc' := 43) rfl ?_
      refine v_iload_n g dk_0_givenBy_43 1 rfl rfl (pc' := 44) rfl ?_
      refine alC_24 g hK hb1 dk_0_givenBy_44 (pc' := 45) rfl ?_
      refine v_lload_n g dk_0_givenBy_45 2 rfl rfl (pc' := 46) rfl ?_
      refine v_iload g dk_0_givenBy_46 3 rfl (pc' := 48) rfl ?_
      refine v_iconst (v := 1) g dk_0_givenBy_48 (by decide) (pc' := 49) rfl ?_
      refine v_iadd g dk_0_givenBy_49 (pc' := 50) rfl ?_
      obtain ⟨q2, hq, hf⟩ := bnd hf
      refine v_callV_l (As := [.int (gA S 15 x1.toNatClampNeg), .long x2, .int (x4 + (1 : Int32))]) (rest := []) (r := q2) (S1 := S) g hK hA (c_CX_choosing_0 hq) (kcC_X_180 g.2.2.2.2 rfl rfl (Nat.le_of_ble_eq_true rfl) (Nat.le_of_ble_eq_true rfl)) (ci := 0) (q0 := 0) rfl rfl rfl rfl rfl (Nat.le_of_ble_eq_true rfl) dk_0_givenBy_50 (Nat.zero_le _) (Nat.zero_le _) (pc' := 53) rfl ?_
      exact v_lret g hr hlk hK  (pinj hf) dk_0_givenBy_53
    · replace hf := ifF hc hf
      obtain ⟨q3, hq, hf⟩ := bnd hf
      refine v_callS_l (As := []) (rest := []) (r := q3) (S1 := S) g hK hA (c_CChoices_nothing hq) (kcC_X_65 g.2.2.2.2 rfl rfl (Nat.le_of_ble_eq_true rfl) (Nat.le_of_ble_eq_true rfl)) rfl rfl (Nat.le_of_ble_eq_true rfl) dk_0_givenBy_31 (Nat.zero_le _) (Nat.zero_le _) (pc' := 34) rfl ?_
      exact v_lret g hr hlk hK  (pinj hf) dk_0_givenBy_34
  · replace hf := ifT hc hf
    refine v_aload_n g dk_0_givenBy_12 0 rfl rfl (pc' := 13) rfl ?_
    refine gfC_X_47 g hK dk_0_givenBy_13 (pc' := 16) rfl ?_
    refine gfC_X_289 g hK dk_0_givenBy_16 (pc' := 19) rfl ?_
    refine v_iload_n g dk_0_givenBy_19 1 rfl rfl (pc' := 20) rfl ?_
    refine alC_24 g hK hb1 dk_0_givenBy_20 (pc' := 21) rfl ?_
    obtain ⟨q4, hq, hf⟩ := bnd hf
    refine v_callS_l (As := [.int (gA S 15 x1.toNatClampNeg)]) (rest := []) (r := q4) (S1 := S) g hK hA (c_CChoices_ofValue hq) (kcC_X_144 g.2.2.2.2 rfl rfl (Nat.le_of_ble_eq_true rfl) (Nat.le_of_ble_eq_true rfl)) rfl rfl (Nat.le_of_ble_eq_true rfl) dk_0_givenBy_21 (Nat.zero_le _) (Nat.zero_le _) (pc' := 24) rfl ?_
    exact v_lret g hr hlk hK  (pinj hf) dk_0_givenBy_24
abbrev rm_CX_choosing_1 : Room := { frames := 7, cells := 0, slots := 0, locals := 175 }
def L_CX_choosing_1_39 (S : StC) (x1 : Int32) (x2 : Int64) (x4 : Int32) (x5 : Int32) : Nat → Int32 → Int64 → Int32 → Option (Int64 ⊕ Int64)
  | 0, _, _, _ => none
  | n + 1, x6, x7, x9 =>
    if inb x1 24 = true then if (gA S 12 x1.toNatClampNeg) ≤ x9 then some (.inl x7)
    else (m_CX_hasBit S x5 x9).bind fun q5 =>
    if q5 = 0 then L_CX_choosing_1_39 S x1 x2 x4 x5 n x6 x7 (x9 + 1)
    else (m_CSelects_place S x1 x9).bind fun q6 =>
    (m_CX_givenBy_1 S q6 x2 x4).bind fun q7 =>
    if x6 = (-1) then L_CX_choosing_1_39 S x1 x2 x4 x5 n x9 q7 (x9 + 1)
    else (m_CChoices_areAlike S x7 q7).bind fun q8 =>
    if q8 = 0 then (m_CChoices_ofClash S x6 x9).bind fun q9 =>
    some (.inr q9)
    else L_CX_choosing_1_39 S x1 x2 x4 x5 n x6 x7 (x9 + 1) else none
set_option maxHeartbeats 4000000 in
set_option maxRecDepth 100000 in
theorem w_CX_choosing_1_39 {p : Program} {l : Launch} {e : Env} {s : State} {m : MethodId} {args : Array Value} {below : List Frame} {meth : Method} {c : Code} {A : Nat → Prop} {D : va_G} {ad : Nat → Nat} {ca : Nat → ClassId} {Rm : Int64 × StC} {S : StC} {x1 : Int32} {x2 : Int64} {x4 : Int32} {x5 : Int32} (g : CallFix p m c bk_0_choosing 12 s args tb Rk_0) (hr : meth.sig.returnType = some .long) (hlk : meth.locks = false) (hK : va_K D vwCl (tyC ca) s) (hA : ∀ q, s.heap.size ≤ q → A q) : ∀ (n : Nat) (x6 : Int32) (x7 : Int64) (x9 : Int32) (o : Int64 ⊕ Int64), L_CX_choosing_1_39 S x1 x2 x4 x5 n x6 x7 x9 = some o → (∀ y, o = .inl y → Vj p l e rm_CX_choosing_1 s m args below meth c (MQ below (qL D vwCl (tyC ca) (wdC ad ca) A Rm) args s 0 0 A) D vwCl A 12 0 0 (wdC ad ca S) 122 [(7, .long y)] []) → (∀ r, o = .inr r → (r, S) = Rm) → Vj p l e rm_CX_choosing_1 s m args below meth c (MQ below (qL D vwCl (tyC ca) (wdC ad ca) A Rm) args s 0 0 A) D vwCl A 12 0 0 (wdC ad ca S) 39 [(0, .ref (ad 0)), (1, .int x1), (2, .long x2), (4, .int x4), (5, .int x5), (6, .int x6), (7, .long x7), (9, .int x9)] [] := by
  intro n
  induction n with
  | zero => intro x6 x7 x9 o hf; exact nomatch (show none = some o from hf)
  | succ n ih =>
    intro x6 x7 x9 o hf hx hret
    rw [L_CX_choosing_1_39] at hf
    refine v_iload g dk_0_choosing_39 7 rfl (pc' := 41) rfl ?_
    refine v_aload_n g dk_0_choosing_41 0 rfl rfl (pc' := 42) rfl ?_
    refine gfC_X_47 g hK dk_0_choosing_42 (pc' := 45) rfl ?_
    refine gfC_X_266 g hK dk_0_choosing_45 (pc' := 48) rfl ?_
    refine v_iload_n g dk_0_choosing_48 1 rfl rfl (pc' := 49) rfl ?_
    obtain ⟨hb4, hf⟩ := grd hf
    refine alC_21 g hK hb4 dk_0_choosing_49 (pc' := 50) rfl ?_
    refine v_icmp_ge (tgt := 122) (pc' := 53) g dk_0_choosing_50 (by decide) rfl (fun hc => ?_) (fun hc => ?_)
    · replace hf := ifT hc hf
      refine v_sub [6] rfl ?_
      exact hx _ (Option.some.inj hf).symm
    · replace hf := ifF hc hf
      refine v_iload g dk_0_choosing_53 4 rfl (pc' := 55) rfl ?_
      refine v_iload g dk_0_choosing_55 7 rfl (pc' := 57) rfl ?_
      obtain ⟨q5, hq, hf⟩ := bnd hf
      refine v_callS_i (As := [.int x5, .int x9]) (rest := []) (r := q5) (S1 := S) g hK hA (c_CX_hasBit hq) (kcC_X_269 g.2.2.2.2 rfl rfl (Nat.le_of_ble_eq_true rfl) (Nat.le_of_ble_eq_true rfl)) rfl rfl (Nat.le_of_ble_eq_true rfl) dk_0_choosing_57 (Nat.zero_le _) (Nat.zero_le _) (pc' := 60) rfl ?_
      refine v_if_ne (tgt := 66) (pc' := 63) g dk_0_choosing_60 (by decide) rfl (fun hc => ?_) (fun hc => ?_)
      · replace hf := ifF hc hf
        refine v_aload_n g dk_0_choosing_66 0 rfl rfl (pc' := 67) rfl ?_
        refine v_iload_n g dk_0_choosing_67 1 rfl rfl (pc' := 68) rfl ?_
        refine v_iload g dk_0_choosing_68 7 rfl (pc' := 70) rfl ?_
        obtain ⟨q6, hq, hf⟩ := bnd hf
        refine v_callS_i (As := [.int x1, .int x9]) (rest := [.ref (ad 0)]) (r := q6) (S1 := S) g hK hA (c_CSelects_place hq) (kcC_X_272 g.2.2.2.2 rfl rfl (Nat.le_of_ble_eq_true rfl) (Nat.le_of_ble_eq_true rfl)) rfl rfl (Nat.le_of_ble_eq_true rfl) dk_0_choosing_70 (Nat.zero_le _) (Nat.zero_le _) (pc' := 73) rfl ?_
        refine v_lload_n g dk_0_choosing_73 2 rfl rfl (pc' := 74) rfl ?_
        refine v_iload g dk_0_choosing_74 3 rfl (pc' := 76) rfl ?_
        obtain ⟨q7, hq, hf⟩ := bnd hf
        refine v_callV_l (As := [.int q6, .long x2, .int x4]) (rest := []) (r := q7) (S1 := S) g hK hA (c_CX_givenBy_1 hq) (kcC_X_275 g.2.2.2.2 rfl rfl (Nat.le_of_ble_eq_true rfl) (Nat.le_of_ble_eq_true rfl)) (ci := 0) (q0 := 0) rfl rfl rfl rfl rfl (Nat.le_of_ble_eq_true rfl) dk_0_choosing_76 (Nat.zero_le _) (Nat.zero_le _) (pc' := 79) rfl ?_
        refine v_lstore (lv' := [(10, .long q7), (0, .ref (ad 0)), (1, .int x1), (2, .long x2), (4, .int x4), (5, .int x5), (6, .int x6), (7, .long x7), (9, .int x9)]) g dk_0_choosing_79 (by decide) rfl (pc' := 81) rfl ?_
        refine v_iload g dk_0_choosing_81 6 rfl (pc' := 83) rfl ?_
        refine v_iconst (v := (-1)) g dk_0_choosing_83 (by decide) (pc' := 84) rfl ?_
        refine v_icmp_ne (tgt := 98) (pc' := 87) g dk_0_choosing_84 (by decide) rfl (fun hc => ?_) (fun hc => ?_)
        · replace hf := ifF hc hf
          refine v_lload g dk_0_choosing_98 7 rfl (pc' := 100) rfl ?_
          refine v_lload g dk_0_choosing_100 0 rfl (pc' := 102) rfl ?_
          obtain ⟨q8, hq, hf⟩ := bnd hf
          refine v_callS_i (As := [.long x7, .long q7]) (rest := []) (r := q8) (S1 := S) g hK hA (c_CChoices_areAlike hq) (kcC_X_278 g.2.2.2.2 rfl rfl (Nat.le_of_ble_eq_true rfl) (Nat.le_of_ble_eq_true rfl)) rfl rfl (Nat.le_of_ble_eq_true rfl) dk_0_choosing_102 (Nat.zero_le _) (Nat.zero_le _) (pc' := 105) rfl ?_
          refine v_if_ne (tgt := 116) (pc' := 108) g dk_0_choosing_105 (by decide) rfl (fun hc => ?_) (fun hc => ?_)
          · replace hf := ifF hc hf
            refine v_iinc (j := 8) (v := x9 + 1) (lv' := [(9, .int (x9 + 1)), (10, .long q7), (0, .ref (ad 0)), (1, .int x1), (2, .long x2), (4, .int x4), (5, .int x5), (6, .int x6), (7, .long x7)]) g dk_0_choosing_116 rfl rfl (by decide) rfl (pc' := 119) rfl ?_
            refine v_goto (tgt := 39) g dk_0_choosing_119 (by decide) ?_
            refine v_sub [2, 3, 4, 5, 6, 7, 8, 0] rfl ?_
            exact ih x6 x7 (x9 + 1) o hf hx hret
          · replace hf := ifT hc hf
            refine v_iload g dk_0_choosing_108 6 rfl (pc' := 110) rfl ?_
            refine v_iload g dk_0_choosing_110 8 rfl (pc' := 112) rfl ?_
            obtain ⟨q9, hq, hf⟩ := bnd hf
            refine v_callS_l (As := [.int x6, .int x9]) (rest := []) (r := q9) (S1 := S) g hK hA (c_CChoices_ofClash hq) (kcC_X_282 g.2.2.2.2 rfl rfl (Nat.le_of_ble_eq_true rfl) (Nat.le_of_ble_eq_true rfl)) rfl rfl (Nat.le_of_ble_eq_true rfl) dk_0_choosing_112 (Nat.zero_le _) (Nat.zero_le _) (pc' := 115) rfl ?_
            exact v_lret g hr hlk hK  (hret _ (Option.some.inj hf).symm) dk_0_choosing_115
        · replace hf := ifT hc hf
          refine v_iload g dk_0_choosing_87 8 rfl (pc' := 89) rfl ?_
          refine v_istore (lv' := [(6, .int x9), (10, .long q7), (0, .ref (ad 0)), (1, .int x1), (2, .long x2), (4, .int x4), (5, .int x5), (7, .long x7), (9, .int x9)]) g dk_0_choosing_89 (by decide) rfl (pc' := 91) rfl ?_
          refine v_lload g dk_0_choosing_91 1 rfl (pc' := 93) rfl ?_
          refine v_lstore (lv' := [(7, .long q7), (6, .int x9), (10, .long q7), (0, .ref (ad 0)), (1, .int x1), (2, .long x2), (4, .int x4), (5, .int x5), (9, .int x9)]) g dk_0_choosing_93 (by decide) rfl (pc' := 95) rfl ?_
          refine v_goto (tgt := 116) g dk_0_choosing_95 (by decide) ?_
          refine v_iinc (j := 8) (v := x9 + 1) (lv' := [(9, .int (x9 + 1)), (7, .long q7), (6, .int x9), (10, .long q7), (0, .ref (ad 0)), (1, .int x1), (2, .long x2), (4, .int x4), (5, .int x5)]) g dk_0_choosing_116 rfl rfl (by decide) rfl (pc' := 119) rfl ?_
          refine v_goto (tgt := 39) g dk_0_choosing_119 (by decide) ?_
          refine v_sub [4, 5, 6, 7, 8, 2, 1, 0] rfl ?_
          exact ih x9 q7 (x9 + 1) o hf hx hret
      · replace hf := ifT hc hf
        refine v_goto (tgt := 116) g dk_0_choosing_63 (by decide) ?_
        refine v_iinc (j := 7) (v := x9 + 1) (lv' := [(9, .int (x9 + 1)), (0, .ref (ad 0)), (1, .int x1), (2, .long x2), (4, .int x4), (5, .int x5), (6, .int x6), (7, .long x7)]) g dk_0_choosing_116 rfl rfl (by decide) rfl (pc' := 119) rfl ?_
        refine v_goto (tgt := 39) g dk_0_choosing_119 (by decide) ?_
        refine v_sub [1, 2, 3, 4, 5, 6, 7, 0] rfl ?_
        exact ih x6 x7 (x9 + 1) o hf hx hret
def m_CX_choosing_1 (S : StC) (x1 : Int32) (x2 : Int64) (x4 : Int32) : Option Int64 :=
  (m_CX_holdingBranches S x1 x2).bind fun q1 =>
    (m_CX_mostSpecialBranches S x1 q1).bind fun q2 =>
    if q2 = 0 then if inb x1 24 = true then some (gB S 1 x1.toNatClampNeg) else none
    else (m_CChoices_nothing S).bind fun q3 =>
    (L_CX_choosing_1_39 S x1 x2 x4 q2 100 (-1) q3 0).bind fun o10 => exK o10 fun y11 =>
    some y11
set_option maxHeartbeats 4000000 in
set_option maxRecDepth 100000 in
theorem c_CX_choosing_1 {l : Launch} {D : va_G} {ad : Nat → Nat} {ca : Nat → ClassId} {S : StC} {x1 : Int32} {x2 : Int64} {x4 : Int32} {r : Int64} (hf : m_CX_choosing_1 S x1 x2 x4 = some r) : KLC l D ad ca yk_0_choosing (.code yk_0_choosing bk_0_choosing 12 (some .long) :: tb) rm_CX_choosing_1 [.ref (ad 0), .int x1, .long x2, .int x4] S (r, S) := by
  refine met_l (by decide) (Nat.le_of_ble_eq_true rfl) (fun p e s m below meth c A g hr hlk hK hA => ?_)
  replace g : CallFix p m c bk_0_choosing 12 s _ tb Rk_0 := g
  refine v_lv (lv' := [(0, .ref (ad 0)), (1, .int x1), (2, .long x2), (4, .int x4)]) rfl ?_
  unfold m_CX_choosing_1 at hf
  refine v_aload_n g dk_0_choosing_0 0 rfl rfl (pc' := 1) rfl ?_
  refine v_iload_n g dk_0_choosing_1 1 rfl rfl (pc' := 2) rfl ?_
  refine v_aload_n g dk_0_choosing_2 0 rfl rfl (pc' := 3) rfl ?_
  refine v_iload_n g dk_0_choosing_3 1 rfl rfl (pc' := 4) rfl ?_
  refine v_lload_n g dk_0_choosing_4 2 rfl rfl (pc' := 5) rfl ?_
  obtain ⟨q1, hq, hf⟩ := bnd hf
  refine v_callV_i (As := [.int x1, .long x2]) (rest := [.int x1, .ref (ad 0)]) (r := q1) (S1 := S) g hK hA (c_CX_holdingBranches hq) (kcC_X_259 g.2.2.2.2 rfl rfl (Nat.le_of_ble_eq_true rfl) (Nat.le_of_ble_eq_true rfl)) (ci := 0) (q0 := 0) rfl rfl rfl rfl rfl (Nat.le_of_ble_eq_true rfl) dk_0_choosing_5 (Nat.zero_le _) (Nat.zero_le _) (pc' := 8) rfl ?_
  obtain ⟨q2, hq, hf⟩ := bnd hf
  refine v_callV_i (As := [.int x1, .int q1]) (rest := []) (r := q2) (S1 := S) g hK hA (c_CX_mostSpecialBranches hq) (kcC_X_263 g.2.2.2.2 rfl rfl (Nat.le_of_ble_eq_true rfl) (Nat.le_of_ble_eq_true rfl)) (ci := 0) (q0 := 0) rfl rfl rfl rfl rfl (Nat.le_of_ble_eq_true rfl) dk_0_choosing_8 (Nat.zero_le _) (Nat.zero_le _) (pc' := 11) rfl ?_
  refine v_istore (lv' := [(5, .int q2), (0, .ref (ad 0)), (1, .int x1), (2, .long x2), (4, .int x4)]) g dk_0_choosing_11 (by decide) rfl (pc' := 13) rfl ?_
  refine v_iload g dk_0_choosing_13 0 rfl (pc' := 15) rfl ?_
  refine v_if_ne (tgt := 28) (pc' := 18) g dk_0_choosing_15 (by decide) rfl (fun hc => ?_) (fun hc => ?_)
  · replace hf := ifF hc hf
    refine v_iconst (v := (-1)) g dk_0_choosing_28 (by decide) (pc' := 29) rfl ?_
    refine v_istore (lv' := [(6, .int (-1)), (5, .int q2), (0, .ref (ad 0)), (1, .int x1), (2, .long x2), (4, .int x4)]) g dk_0_choosing_29 (by decide) rfl (pc' := 31) rfl ?_
    obtain ⟨q3, hq, hf⟩ := bnd hf
    refine v_callS_l (As := []) (rest := []) (r := q3) (S1 := S) g hK hA (c_CChoices_nothing hq) (kcC_X_65 g.2.2.2.2 rfl rfl (Nat.le_of_ble_eq_true rfl) (Nat.le_of_ble_eq_true rfl)) rfl rfl (Nat.le_of_ble_eq_true rfl) dk_0_choosing_31 (Nat.zero_le _) (Nat.zero_le _) (pc' := 34) rfl ?_
    refine v_lstore (lv' := [(7, .long q3), (6, .int (-1)), (5, .int q2), (0, .ref (ad 0)), (1, .int x1), (2, .long x2), (4, .int x4)]) g dk_0_choosing_34 (by decide) rfl (pc' := 36) rfl ?_
    refine v_iconst (v := 0) g dk_0_choosing_36 (by decide) (pc' := 37) rfl ?_
    refine v_istore (lv' := [(9, .int 0), (7, .long q3), (6, .int (-1)), (5, .int q2), (0, .ref (ad 0)), (1, .int x1), (2, .long x2), (4, .int x4)]) g dk_0_choosing_37 (by decide) rfl (pc' := 39) rfl ?_
    refine v_sub [4, 5, 6, 7, 3, 2, 1, 0] rfl ?_
    obtain ⟨o10, hL, hf⟩ := bnd hf
    refine w_CX_choosing_1_39 g hr hlk hK hA 100 (-1) q3 0 _ hL (fun y11 hy => ?_) (fun r9 hy => ?_)
    · subst hy
      replace hf := exKl hf
      refine v_lload g dk_0_choosing_122 0 rfl (pc' := 124) rfl ?_
      exact v_lret g hr hlk hK  (pinj hf) dk_0_choosing_124
    · subst hy
      exact pinj hf
  · replace hf := ifT hc hf
    refine v_aload_n g dk_0_choosing_18 1 rfl rfl (pc' := 19) rfl ?_
    refine gfC_X_47 g hK dk_0_choosing_19 (pc' := 22) rfl ?_
    refine gfC_X_140 g hK dk_0_choosing_22 (pc' := 25) rfl ?_
    refine v_iload_n g dk_0_choosing_25 2 rfl rfl (pc' := 26) rfl ?_
    obtain ⟨hb12, hf⟩ := grd hf
    refine alC_18 g hK hb12 dk_0_choosing_26 (pc' := 27) rfl ?_
    exact v_lret g hr hlk hK  (pinj hf) dk_0_choosing_27
abbrev rm_CX_choose : Room := { frames := 8, cells := 0, slots := 0, locals := 206 }
def m_CX_choose (S : StC) (x1 : Int32) (x2 : Int32) : Option (Int32 × StC) :=
  (m_CSelects_isThere S x1).bind fun q1 =>
    if q1 = 0 then some ((-1), S)
    else (m_CConfigurations_isThere S x2).bind fun q2 =>
    if q2 = 0 then some ((-1), S)
    else if inb x2 60 = true then (m_CX_choosing_1 S x1 (gB S 0 x2.toNatClampNeg) 0).bind fun q4 =>
    (m_CChoices_kindOf (sL S 0 q4) q4).bind fun q5 =>
    some (q5, sL S 0 q4) else none
set_option maxHeartbeats 4000000 in
set_option maxRecDepth 100000 in
theorem c_CX_choose {l : Launch} {D : va_G} {ad : Nat → Nat} {ca : Nat → ClassId} {S : StC} {x1 : Int32} {x2 : Int32} {r : Int32 × StC} (hf : m_CX_choose S x1 x2 = some r) : KIC l D ad ca yk_0_choose (.code yk_0_choose bk_0_choose 3 (some .int) :: tb) rm_CX_choose [.ref (ad 0), .int x1, .int x2] S r := by
  refine met_i (by decide) (Nat.le_of_ble_eq_true rfl) (fun p e s m below meth c A g hr hlk hK hA => ?_)
  replace g : CallFix p m c bk_0_choose 3 s _ tb Rk_0 := g
  refine v_lv (lv' := [(0, .ref (ad 0)), (1, .int x1), (2, .int x2)]) rfl ?_
  unfold m_CX_choose at hf
  refine v_aload_n g dk_0_choose_0 0 rfl rfl (pc' := 1) rfl ?_
  refine gfC_X_47 g hK dk_0_choose_1 (pc' := 4) rfl ?_
  refine v_iload_n g dk_0_choose_4 1 rfl rfl (pc' := 5) rfl ?_
  obtain ⟨q1, hq, hf⟩ := bnd hf
  refine v_callV_i (As := [.int x1]) (rest := []) (r := q1) (S1 := S) g hK hA (c_CSelects_isThere hq) (kcC_X_132 g.2.2.2.2 rfl rfl (Nat.le_of_ble_eq_true rfl) (Nat.le_of_ble_eq_true rfl)) (ci := 7) (q0 := 16) rfl rfl rfl rfl rfl (Nat.le_of_ble_eq_true rfl) dk_0_choose_5 (Nat.zero_le _) (Nat.zero_le _) (pc' := 8) rfl ?_
  refine v_if_eq (tgt := 22) (pc' := 11) g dk_0_choose_8 (by decide) rfl (fun hc => ?_) (fun hc => ?_)
  · replace hf := ifT hc hf
    refine v_iconst (v := (-1)) g dk_0_choose_22 (by decide) (pc' := 23) rfl ?_
    exact v_iret g hr hlk hK  (Option.some.inj hf) dk_0_choose_23
  · replace hf := ifF hc hf
    refine v_aload_n g dk_0_choose_11 0 rfl rfl (pc' := 12) rfl ?_
    refine gfC_X_26 g hK dk_0_choose_12 (pc' := 15) rfl ?_
    refine v_iload_n g dk_0_choose_15 2 rfl rfl (pc' := 16) rfl ?_
    obtain ⟨q2, hq, hf⟩ := bnd hf
    refine v_callV_i (As := [.int x2]) (rest := []) (r := q2) (S1 := S) g hK hA (c_CConfigurations_isThere hq) (kcC_X_161 g.2.2.2.2 rfl rfl (Nat.le_of_ble_eq_true rfl) (Nat.le_of_ble_eq_true rfl)) (ci := 3) (q0 := 7) rfl rfl rfl rfl rfl (Nat.le_of_ble_eq_true rfl) dk_0_choose_16 (Nat.zero_le _) (Nat.zero_le _) (pc' := 19) rfl ?_
    refine v_if_ne (tgt := 24) (pc' := 22) g dk_0_choose_19 (by decide) rfl (fun hc => ?_) (fun hc => ?_)
    · replace hf := ifF hc hf
      refine v_aload_n g dk_0_choose_24 0 rfl rfl (pc' := 25) rfl ?_
      refine v_aload_n g dk_0_choose_25 0 rfl rfl (pc' := 26) rfl ?_
      refine v_iload_n g dk_0_choose_26 1 rfl rfl (pc' := 27) rfl ?_
      refine v_aload_n g dk_0_choose_27 0 rfl rfl (pc' := 28) rfl ?_
      refine gfC_X_26 g hK dk_0_choose_28 (pc' := 31) rfl ?_
      refine gfC_X_165 g hK dk_0_choose_31 (pc' := 34) rfl ?_
      refine v_iload_n g dk_0_choose_34 2 rfl rfl (pc' := 35) rfl ?_
      obtain ⟨hb3, hf⟩ := grd hf
      refine alC_8 g hK hb3 dk_0_choose_35 (pc' := 36) rfl ?_
      refine v_iconst (v := 0) g dk_0_choose_36 (by decide) (pc' := 37) rfl ?_
      obtain ⟨q4, hq, hf⟩ := bnd hf
      refine v_callV_l (As := [.int x1, .long (gB S 0 x2.toNatClampNeg), .int 0]) (rest := [.ref (ad 0)]) (r := q4) (S1 := S) g hK hA (c_CX_choosing_1 hq) (kcC_X_180 g.2.2.2.2 rfl rfl (Nat.le_of_ble_eq_true rfl) (Nat.le_of_ble_eq_true rfl)) (ci := 0) (q0 := 0) rfl rfl rfl rfl rfl (Nat.le_of_ble_eq_true rfl) dk_0_choose_37 (Nat.zero_le _) (Nat.zero_le _) (pc' := 40) rfl ?_
      refine pfC_X_71 g hK dk_0_choose_40 (pc' := 43) rfl ?_
      refine v_aload_n g dk_0_choose_43 0 rfl rfl (pc' := 44) rfl ?_
      refine gfC_X_71 g hK dk_0_choose_44 (pc' := 47) rfl ?_
      obtain ⟨q5, hq, hf⟩ := bnd hf
      refine v_callS_i (As := [.long q4]) (rest := []) (r := q5) (S1 := sL S 0 q4) g hK hA (c_CChoices_kindOf hq) (kcC_X_184 g.2.2.2.2 rfl rfl (Nat.le_of_ble_eq_true rfl) (Nat.le_of_ble_eq_true rfl)) rfl rfl (Nat.le_of_ble_eq_true rfl) dk_0_choose_47 (Nat.zero_le _) (Nat.zero_le _) (pc' := 50) rfl ?_
      exact v_iret g hr hlk hK  (Option.some.inj hf) dk_0_choose_50
    · replace hf := ifT hc hf
      refine v_iconst (v := (-1)) g dk_0_choose_22 (by decide) (pc' := 23) rfl ?_
      exact v_iret g hr hlk hK  (Option.some.inj hf) dk_0_choose_23
abbrev rm_CChoices_valueOf : Room := { frames := 0, cells := 0, slots := 0, locals := 0 }
def m_CChoices_valueOf (S : StC) (x0 : Int64) : Option Int32 :=
  some x0.toInt32
set_option maxHeartbeats 4000000 in
set_option maxRecDepth 100000 in
theorem c_CChoices_valueOf {l : Launch} {D : va_G} {ad : Nat → Nat} {ca : Nat → ClassId} {S : StC} {x0 : Int64} {r : Int32} (hf : m_CChoices_valueOf S x0 = some r) : KIC l D ad ca yk_3_valueOf (.code yk_3_valueOf bk_3_valueOf 2 (some .int) :: tb) rm_CChoices_valueOf [.long x0] S (r, S) := by
  refine met_i (by decide) (Nat.le_of_ble_eq_true rfl) (fun p e s m below meth c A g hr hlk hK hA => ?_)
  replace g : CallFix p m c bk_3_valueOf 2 s _ tb Rk_3 := g
  refine v_lv (lv' := [(0, .long x0)]) rfl ?_
  unfold m_CChoices_valueOf at hf
  refine v_lload_n g dk_3_valueOf_0 0 rfl rfl (pc' := 1) rfl ?_
  refine v_l2i g dk_3_valueOf_1 (pc' := 2) rfl ?_
  exact v_iret g hr hlk hK  (pinj hf) dk_3_valueOf_2
abbrev rm_CChoices_firstOf : Room := { frames := 0, cells := 0, slots := 0, locals := 0 }
def m_CChoices_firstOf (S : StC) (x0 : Int64) : Option Int32 :=
  some (x0.toInt32 / 8)
set_option maxHeartbeats 4000000 in
set_option maxRecDepth 100000 in
theorem c_CChoices_firstOf {l : Launch} {D : va_G} {ad : Nat → Nat} {ca : Nat → ClassId} {S : StC} {x0 : Int64} {r : Int32} (hf : m_CChoices_firstOf S x0 = some r) : KIC l D ad ca yk_3_firstOf (.code yk_3_firstOf bk_3_firstOf 2 (some .int) :: tb) rm_CChoices_firstOf [.long x0] S (r, S) := by
  refine met_i (by decide) (Nat.le_of_ble_eq_true rfl) (fun p e s m below meth c A g hr hlk hK hA => ?_)
  replace g : CallFix p m c bk_3_firstOf 2 s _ tb Rk_3 := g
  refine v_lv (lv' := [(0, .long x0)]) rfl ?_
  unfold m_CChoices_firstOf at hf
  refine v_lload_n g dk_3_firstOf_0 0 rfl rfl (pc' := 1) rfl ?_
  refine v_l2i g dk_3_firstOf_1 (pc' := 2) rfl ?_
  refine v_bipush (v := 8) g dk_3_firstOf_2 (by decide) (pc' := 4) rfl ?_
  refine v_idiv g dk_3_firstOf_4 (by decide) (pc' := 5) rfl ?_
  exact v_iret g hr hlk hK  (pinj hf) dk_3_firstOf_5
abbrev rm_CChoices_secondOf : Room := { frames := 0, cells := 0, slots := 0, locals := 0 }
def m_CChoices_secondOf (S : StC) (x0 : Int64) : Option Int32 :=
  some (x0.toInt32 - x0.toInt32 / 8 * 8)
set_option maxHeartbeats 4000000 in
set_option maxRecDepth 100000 in
theorem c_CChoices_secondOf {l : Launch} {D : va_G} {ad : Nat → Nat} {ca : Nat → ClassId} {S : StC} {x0 : Int64} {r : Int32} (hf : m_CChoices_secondOf S x0 = some r) : KIC l D ad ca yk_3_secondOf (.code yk_3_secondOf bk_3_secondOf 2 (some .int) :: tb) rm_CChoices_secondOf [.long x0] S (r, S) := by
  refine met_i (by decide) (Nat.le_of_ble_eq_true rfl) (fun p e s m below meth c A g hr hlk hK hA => ?_)
  replace g : CallFix p m c bk_3_secondOf 2 s _ tb Rk_3 := g
  refine v_lv (lv' := [(0, .long x0)]) rfl ?_
  unfold m_CChoices_secondOf at hf
  refine v_lload_n g dk_3_secondOf_0 0 rfl rfl (pc' := 1) rfl ?_
  refine v_l2i g dk_3_secondOf_1 (pc' := 2) rfl ?_
  refine v_bipush (v := 8) g dk_3_secondOf_2 (by decide) (pc' := 4) rfl ?_
  refine v_irem g dk_3_secondOf_4 (by decide) (pc' := 5) rfl ?_
  exact v_iret g hr hlk hK  (pinj hf) dk_3_secondOf_5
end
section
abbrev rm_CX_chosen : Room := { frames := 1, cells := 0, slots := 0, locals := 21 }
def m_CX_chosen (S : StC) (x1 : Int32) : Option Int32 :=
  (m_CChoices_kindOf S (gL S 0)).bind fun q1 =>
    if q1 = 1 then if x1 = 0 then (m_CChoices_valueOf S (gL S 0)).bind fun q8 =>
    some q8
    else if q1 = 2 then if x1 = 0 then (m_CChoices_firstOf S (gL S 0)).bind fun q7 =>
    some q7
    else if q1 = 2 then if x1 = 1 then (m_CChoices_secondOf S (gL S 0)).bind fun q6 =>
    some q6
    else some (-1)
    else some (-1)
    else if q1 = 2 then if x1 = 1 then (m_CChoices_secondOf S (gL S 0)).bind fun q5 =>
    some q5
    else some (-1)
    else some (-1)
    else if q1 = 2 then if x1 = 0 then (m_CChoices_firstOf S (gL S 0)).bind fun q4 =>
    some q4
    else if q1 = 2 then if x1 = 1 then (m_CChoices_secondOf S (gL S 0)).bind fun q3 =>
    some q3
    else some (-1)
    else some (-1)
    else if q1 = 2 then if x1 = 1 then (m_CChoices_secondOf S (gL S 0)).bind fun q2 =>
    some q2
    else some (-1)
    else some (-1)
set_option maxHeartbeats 4000000 in
set_option maxRecDepth 100000 in
theorem c_CX_chosen {l : Launch} {D : va_G} {ad : Nat → Nat} {ca : Nat → ClassId} {S : StC} {x1 : Int32} {r : Int32} (hf : m_CX_chosen S x1 = some r) : KIC l D ad ca yk_0_chosen (.code yk_0_chosen bk_0_chosen 3 (some .int) :: tb) rm_CX_chosen [.ref (ad 0), .int x1] S (r, S) := by
  refine met_i (by decide) (Nat.le_of_ble_eq_true rfl) (fun p e s m below meth c A g hr hlk hK hA => ?_)
  replace g : CallFix p m c bk_0_chosen 3 s _ tb Rk_0 := g
  refine v_lv (lv' := [(0, .ref (ad 0)), (1, .int x1)]) rfl ?_
  unfold m_CX_chosen at hf
  refine v_aload_n g dk_0_chosen_0 0 rfl rfl (pc' := 1) rfl ?_
  refine gfC_X_71 g hK dk_0_chosen_1 (pc' := 4) rfl ?_
  obtain ⟨q1, hq, hf⟩ := bnd hf
  refine v_callS_i (As := [.long (gL S 0)]) (rest := []) (r := q1) (S1 := S) g hK hA (c_CChoices_kindOf hq) (kcC_X_184 g.2.2.2.2 rfl rfl (Nat.le_of_ble_eq_true rfl) (Nat.le_of_ble_eq_true rfl)) rfl rfl (Nat.le_of_ble_eq_true rfl) dk_0_chosen_4 (Nat.zero_le _) (Nat.zero_le _) (pc' := 7) rfl ?_
  refine v_istore_n (lv' := [(2, .int q1), (0, .ref (ad 0)), (1, .int x1)]) g dk_0_chosen_7 rfl (by decide) rfl (pc' := 8) rfl ?_
  refine v_iload_n g dk_0_chosen_8 0 rfl rfl (pc' := 9) rfl ?_
  refine v_iconst (v := 1) g dk_0_chosen_9 (by decide) (pc' := 10) rfl ?_
  refine v_icmp_ne (tgt := 25) (pc' := 13) g dk_0_chosen_10 (by decide) rfl (fun hc => ?_) (fun hc => ?_)
  · replace hf := ifF hc hf
    refine v_iload_n g dk_0_chosen_25 0 rfl rfl (pc' := 26) rfl ?_
    refine v_iconst (v := 2) g dk_0_chosen_26 (by decide) (pc' := 27) rfl ?_
    refine v_icmp_ne (tgt := 42) (pc' := 30) g dk_0_chosen_27 (by decide) rfl (fun hc => ?_) (fun hc => ?_)
    · replace hf := ifF hc hf
      refine v_iload_n g dk_0_chosen_42 0 rfl rfl (pc' := 43) rfl ?_
      refine v_iconst (v := 2) g dk_0_chosen_43 (by decide) (pc' := 44) rfl ?_
      refine v_icmp_ne (tgt := 60) (pc' := 47) g dk_0_chosen_44 (by decide) rfl (fun hc => ?_) (fun hc => ?_)
      · replace hf := ifF hc hf
        refine v_iconst (v := (-1)) g dk_0_chosen_60 (by decide) (pc' := 61) rfl ?_
        exact v_iret g hr hlk hK  (pinj hf) dk_0_chosen_61
      · replace hf := ifT hc hf
        refine v_iload_n g dk_0_chosen_47 2 rfl rfl (pc' := 48) rfl ?_
        refine v_iconst (v := 1) g dk_0_chosen_48 (by decide) (pc' := 49) rfl ?_
        refine v_icmp_ne (tgt := 60) (pc' := 52) g dk_0_chosen_49 (by decide) rfl (fun hc => ?_) (fun hc => ?_)
        · replace hf := ifF hc hf
          refine v_iconst (v := (-1)) g dk_0_chosen_60 (by decide) (pc' := 61) rfl ?_
          exact v_iret g hr hlk hK  (pinj hf) dk_0_chosen_61
        · replace hf := ifT hc hf
          refine v_aload_n g dk_0_chosen_52 1 rfl rfl (pc' := 53) rfl ?_
          refine gfC_X_71 g hK dk_0_chosen_53 (pc' := 56) rfl ?_
          obtain ⟨q2, hq, hf⟩ := bnd hf
          refine v_callS_i (As := [.long (gL S 0)]) (rest := []) (r := q2) (S1 := S) g hK hA (c_CChoices_secondOf hq) (kcC_X_193 g.2.2.2.2 rfl rfl (Nat.le_of_ble_eq_true rfl) (Nat.le_of_ble_eq_true rfl)) rfl rfl (Nat.le_of_ble_eq_true rfl) dk_0_chosen_56 (Nat.zero_le _) (Nat.zero_le _) (pc' := 59) rfl ?_
          exact v_iret g hr hlk hK  (pinj hf) dk_0_chosen_59
    · replace hf := ifT hc hf
      refine v_iload_n g dk_0_chosen_30 2 rfl rfl (pc' := 31) rfl ?_
      refine v_if_ne (tgt := 42) (pc' := 34) g dk_0_chosen_31 (by decide) rfl (fun hc => ?_) (fun hc => ?_)
      · replace hf := ifF hc hf
        refine v_iload_n g dk_0_chosen_42 0 rfl rfl (pc' := 43) rfl ?_
        refine v_iconst (v := 2) g dk_0_chosen_43 (by decide) (pc' := 44) rfl ?_
        refine v_icmp_ne (tgt := 60) (pc' := 47) g dk_0_chosen_44 (by decide) rfl (fun hc => ?_) (fun hc => ?_)
        · replace hf := ifF hc hf
          refine v_iconst (v := (-1)) g dk_0_chosen_60 (by decide) (pc' := 61) rfl ?_
          exact v_iret g hr hlk hK  (pinj hf) dk_0_chosen_61
        · replace hf := ifT hc hf
          refine v_iload_n g dk_0_chosen_47 2 rfl rfl (pc' := 48) rfl ?_
          refine v_iconst (v := 1) g dk_0_chosen_48 (by decide) (pc' := 49) rfl ?_
          refine v_icmp_ne (tgt := 60) (pc' := 52) g dk_0_chosen_49 (by decide) rfl (fun hc => ?_) (fun hc => ?_)
          · replace hf := ifF hc hf
            refine v_iconst (v := (-1)) g dk_0_chosen_60 (by decide) (pc' := 61) rfl ?_
            exact v_iret g hr hlk hK  (pinj hf) dk_0_chosen_61
          · replace hf := ifT hc hf
            refine v_aload_n g dk_0_chosen_52 1 rfl rfl (pc' := 53) rfl ?_
            refine gfC_X_71 g hK dk_0_chosen_53 (pc' := 56) rfl ?_
            obtain ⟨q3, hq, hf⟩ := bnd hf
            refine v_callS_i (As := [.long (gL S 0)]) (rest := []) (r := q3) (S1 := S) g hK hA (c_CChoices_secondOf hq) (kcC_X_193 g.2.2.2.2 rfl rfl (Nat.le_of_ble_eq_true rfl) (Nat.le_of_ble_eq_true rfl)) rfl rfl (Nat.le_of_ble_eq_true rfl) dk_0_chosen_56 (Nat.zero_le _) (Nat.zero_le _) (pc' := 59) rfl ?_
            exact v_iret g hr hlk hK  (pinj hf) dk_0_chosen_59
      · replace hf := ifT hc hf
        refine v_aload_n g dk_0_chosen_34 1 rfl rfl (pc' := 35) rfl ?_
        refine gfC_X_71 g hK dk_0_chosen_35 (pc' := 38) rfl ?_
        obtain ⟨q4, hq, hf⟩ := bnd hf
        refine v_callS_i (As := [.long (gL S 0)]) (rest := []) (r := q4) (S1 := S) g hK hA (c_CChoices_firstOf hq) (kcC_X_190 g.2.2.2.2 rfl rfl (Nat.le_of_ble_eq_true rfl) (Nat.le_of_ble_eq_true rfl)) rfl rfl (Nat.le_of_ble_eq_true rfl) dk_0_chosen_38 (Nat.zero_le _) (Nat.zero_le _) (pc' := 41) rfl ?_
        exact v_iret g hr hlk hK  (pinj hf) dk_0_chosen_41
  · replace hf := ifT hc hf
    refine v_iload_n g dk_0_chosen_13 2 rfl rfl (pc' := 14) rfl ?_
    refine v_if_ne (tgt := 25) (pc' := 17) g dk_0_chosen_14 (by decide) rfl (fun hc => ?_) (fun hc => ?_)
    · replace hf := ifF hc hf
      refine v_iload_n g dk_0_chosen_25 0 rfl rfl (pc' := 26) rfl ?_
      refine v_iconst (v := 2) g dk_0_chosen_26 (by decide) (pc' := 27) rfl ?_
      refine v_icmp_ne (tgt := 42) (pc' := 30) g dk_0_chosen_27 (by decide) rfl (fun hc => ?_) (fun hc => ?_)
      · replace hf := ifF hc hf
        refine v_iload_n g dk_0_chosen_42 0 rfl rfl (pc' := 43) rfl ?_
        refine v_iconst (v := 2) g dk_0_chosen_43 (by decide) (pc' := 44) rfl ?_
        refine v_icmp_ne (tgt := 60) (pc' := 47) g dk_0_chosen_44 (by decide) rfl (fun hc => ?_) (fun hc => ?_)
        · replace hf := ifF hc hf
          refine v_iconst (v := (-1)) g dk_0_chosen_60 (by decide) (pc' := 61) rfl ?_
          exact v_iret g hr hlk hK  (pinj hf) dk_0_chosen_61
        · replace hf := ifT hc hf
          refine v_iload_n g dk_0_chosen_47 2 rfl rfl (pc' := 48) rfl ?_
          refine v_iconst (v := 1) g dk_0_chosen_48 (by decide) (pc' := 49) rfl ?_
          refine v_icmp_ne (tgt := 60) (pc' := 52) g dk_0_chosen_49 (by decide) rfl (fun hc => ?_) (fun hc => ?_)
          · replace hf := ifF hc hf
            refine v_iconst (v := (-1)) g dk_0_chosen_60 (by decide) (pc' := 61) rfl ?_
            exact v_iret g hr hlk hK  (pinj hf) dk_0_chosen_61
          · replace hf := ifT hc hf
            refine v_aload_n g dk_0_chosen_52 1 rfl rfl (pc' := 53) rfl ?_
            refine gfC_X_71 g hK dk_0_chosen_53 (pc' := 56) rfl ?_
            obtain ⟨q5, hq, hf⟩ := bnd hf
            refine v_callS_i (As := [.long (gL S 0)]) (rest := []) (r := q5) (S1 := S) g hK hA (c_CChoices_secondOf hq) (kcC_X_193 g.2.2.2.2 rfl rfl (Nat.le_of_ble_eq_true rfl) (Nat.le_of_ble_eq_true rfl)) rfl rfl (Nat.le_of_ble_eq_true rfl) dk_0_chosen_56 (Nat.zero_le _) (Nat.zero_le _) (pc' := 59) rfl ?_
            exact v_iret g hr hlk hK  (pinj hf) dk_0_chosen_59
      · replace hf := ifT hc hf
        refine v_iload_n g dk_0_chosen_30 2 rfl rfl (pc' := 31) rfl ?_
        refine v_if_ne (tgt := 42) (pc' := 34) g dk_0_chosen_31 (by decide) rfl (fun hc => ?_) (fun hc => ?_)
        · replace hf := ifF hc hf
          refine v_iload_n g dk_0_chosen_42 0 rfl rfl (pc' := 43) rfl ?_
          refine v_iconst (v := 2) g dk_0_chosen_43 (by decide) (pc' := 44) rfl ?_
          refine v_icmp_ne (tgt := 60) (pc' := 47) g dk_0_chosen_44 (by decide) rfl (fun hc => ?_) (fun hc => ?_)
          · replace hf := ifF hc hf
            refine v_iconst (v := (-1)) g dk_0_chosen_60 (by decide) (pc' := 61) rfl ?_
            exact v_iret g hr hlk hK  (pinj hf) dk_0_chosen_61
          · replace hf := ifT hc hf
            refine v_iload_n g dk_0_chosen_47 2 rfl rfl (pc' := 48) rfl ?_
            refine v_iconst (v := 1) g dk_0_chosen_48 (by decide) (pc' := 49) rfl ?_
            refine v_icmp_ne (tgt := 60) (pc' := 52) g dk_0_chosen_49 (by decide) rfl (fun hc => ?_) (fun hc => ?_)
            · replace hf := ifF hc hf
              refine v_iconst (v := (-1)) g dk_0_chosen_60 (by decide) (pc' := 61) rfl ?_
              exact v_iret g hr hlk hK  (pinj hf) dk_0_chosen_61
            · replace hf := ifT hc hf
              refine v_aload_n g dk_0_chosen_52 1 rfl rfl (pc' := 53) rfl ?_
              refine gfC_X_71 g hK dk_0_chosen_53 (pc' := 56) rfl ?_
              obtain ⟨q6, hq, hf⟩ := bnd hf
              refine v_callS_i (As := [.long (gL S 0)]) (rest := []) (r := q6) (S1 := S) g hK hA (c_CChoices_secondOf hq) (kcC_X_193 g.2.2.2.2 rfl rfl (Nat.le_of_ble_eq_true rfl) (Nat.le_of_ble_eq_true rfl)) rfl rfl (Nat.le_of_ble_eq_true rfl) dk_0_chosen_56 (Nat.zero_le _) (Nat.zero_le _) (pc' := 59) rfl ?_
              exact v_iret g hr hlk hK  (pinj hf) dk_0_chosen_59
        · replace hf := ifT hc hf
          refine v_aload_n g dk_0_chosen_34 1 rfl rfl (pc' := 35) rfl ?_
          refine gfC_X_71 g hK dk_0_chosen_35 (pc' := 38) rfl ?_
          obtain ⟨q7, hq, hf⟩ := bnd hf
          refine v_callS_i (As := [.long (gL S 0)]) (rest := []) (r := q7) (S1 := S) g hK hA (c_CChoices_firstOf hq) (kcC_X_190 g.2.2.2.2 rfl rfl (Nat.le_of_ble_eq_true rfl) (Nat.le_of_ble_eq_true rfl)) rfl rfl (Nat.le_of_ble_eq_true rfl) dk_0_chosen_38 (Nat.zero_le _) (Nat.zero_le _) (pc' := 41) rfl ?_
          exact v_iret g hr hlk hK  (pinj hf) dk_0_chosen_41
    · replace hf := ifT hc hf
      refine v_aload_n g dk_0_chosen_17 1 rfl rfl (pc' := 18) rfl ?_
      refine gfC_X_71 g hK dk_0_chosen_18 (pc' := 21) rfl ?_
      obtain ⟨q8, hq, hf⟩ := bnd hf
      refine v_callS_i (As := [.long (gL S 0)]) (rest := []) (r := q8) (S1 := S) g hK hA (c_CChoices_valueOf hq) (kcC_X_187 g.2.2.2.2 rfl rfl (Nat.le_of_ble_eq_true rfl) (Nat.le_of_ble_eq_true rfl)) rfl rfl (Nat.le_of_ble_eq_true rfl) dk_0_chosen_21 (Nat.zero_le _) (Nat.zero_le _) (pc' := 24) rfl ?_
      exact v_iret g hr hlk hK  (pinj hf) dk_0_chosen_24
abbrev rm_CNeeds_add : Room := { frames := 0, cells := 0, slots := 0, locals := 0 }
def m_CNeeds_add (S : StC) (x1 : Int32) (x2 : Int32) : Option (Int32 × StC) :=
  if (gI S 6) < 40 then if inb (gI S 6) 40 = true then some (gI S 6, sI (tA (tA S 16 (gI S 6) x1) 17 (gI S 6) x2) 6 ((gI S 6) + (1 : Int32))) else none
    else some ((-1), S)
set_option maxHeartbeats 4000000 in
set_option maxRecDepth 100000 in
theorem c_CNeeds_add {l : Launch} {D : va_G} {ad : Nat → Nat} {ca : Nat → ClassId} {S : StC} {x1 : Int32} {x2 : Int32} {r : Int32 × StC} (hf : m_CNeeds_add S x1 x2 = some r) : KIC l D ad ca yk_7_add (.code yk_7_add bk_7_add 3 (some .int) :: tb) rm_CNeeds_add [.ref (ad 25), .int x1, .int x2] S r := by
  refine met_i (by decide) (Nat.le_of_ble_eq_true rfl) (fun p e s m below meth c A g hr hlk hK hA => ?_)
  replace g : CallFix p m c bk_7_add 3 s _ tb Rk_7 := g
  refine v_lv (lv' := [(0, .ref (ad 25)), (1, .int x1), (2, .int x2)]) rfl ?_
  unfold m_CNeeds_add at hf
  refine v_aload_n g dk_7_add_0 0 rfl rfl (pc' := 1) rfl ?_
  refine gfC_Needs_27 g hK dk_7_add_1 (pc' := 4) rfl ?_
  refine v_bipush (v := 40) g dk_7_add_4 (by decide) (pc' := 6) rfl ?_
  refine v_icmp_lt (tgt := 11) (pc' := 9) g dk_7_add_6 (by decide) rfl (fun hc => ?_) (fun hc => ?_)
  · replace hf := ifT hc hf
    refine v_aload_n g dk_7_add_11 0 rfl rfl (pc' := 12) rfl ?_
    refine gfC_Needs_9 g hK dk_7_add_12 (pc' := 15) rfl ?_
    refine v_aload_n g dk_7_add_15 0 rfl rfl (pc' := 16) rfl ?_
    refine gfC_Needs_27 g hK dk_7_add_16 (pc' := 19) rfl ?_
    refine v_iload_n g dk_7_add_19 1 rfl rfl (pc' := 20) rfl ?_
    obtain ⟨hb1, hf⟩ := grd hf
    refine asC_26 g hK hb1 dk_7_add_20 (pc' := 21) rfl ?_
    refine v_aload_n g dk_7_add_21 0 rfl rfl (pc' := 22) rfl ?_
    refine gfC_Needs_15 g hK dk_7_add_22 (pc' := 25) rfl ?_
    refine v_aload_n g dk_7_add_25 0 rfl rfl (pc' := 26) rfl ?_
    refine gfC_Needs_27 g hK dk_7_add_26 (pc' := 29) rfl ?_
    refine v_iload_n g dk_7_add_29 2 rfl rfl (pc' := 30) rfl ?_
    refine asC_27 g hK hb1 dk_7_add_30 (pc' := 31) rfl ?_
    refine v_aload_n g dk_7_add_31 0 rfl rfl (pc' := 32) rfl ?_
    refine v_dup g dk_7_add_32 rfl (pc' := 33) rfl ?_
    refine gfC_Needs_27 g hK dk_7_add_33 (pc' := 36) rfl ?_
    refine v_dup_x1 g dk_7_add_36 rfl rfl (pc' := 37) rfl ?_
    refine v_iconst (v := 1) g dk_7_add_37 (by decide) (pc' := 38) rfl ?_
    refine v_iadd g dk_7_add_38 (pc' := 39) rfl ?_
    refine pfC_Needs_27 g hK dk_7_add_39 (pc' := 42) rfl ?_
    exact v_iret g hr hlk hK  (Option.some.inj hf) dk_7_add_42
  · replace hf := ifF hc hf
    refine v_iconst (v := (-1)) g dk_7_add_9 (by decide) (pc' := 10) rfl ?_
    exact v_iret g hr hlk hK  (Option.some.inj hf) dk_7_add_10
abbrev rm_CX_need : Room := { frames := 1, cells := 0, slots := 0, locals := 22 }
def m_CX_need (S : StC) (x1 : Int32) (x2 : Int32) : Option (Int32 × StC) :=
  (m_CTargets_isThere S x1).bind fun q1 =>
    if q1 = 0 then some ((-1), S)
    else (m_CTargets_isThere S x2).bind fun q2 =>
    if q2 = 0 then some ((-1), S)
    else (m_CNeeds_add S x1 x2).bind fun q3 =>
    some (q3.1, q3.2)
set_option maxHeartbeats 4000000 in
set_option maxRecDepth 100000 in
theorem c_CX_need {l : Launch} {D : va_G} {ad : Nat → Nat} {ca : Nat → ClassId} {S : StC} {x1 : Int32} {x2 : Int32} {r : Int32 × StC} (hf : m_CX_need S x1 x2 = some r) : KIC l D ad ca yk_0_need (.code yk_0_need bk_0_need 3 (some .int) :: tb) rm_CX_need [.ref (ad 0), .int x1, .int x2] S r := by
  refine met_i (by decide) (Nat.le_of_ble_eq_true rfl) (fun p e s m below meth c A g hr hlk hK hA => ?_)
  replace g : CallFix p m c bk_0_need 3 s _ tb Rk_0 := g
  refine v_lv (lv' := [(0, .ref (ad 0)), (1, .int x1), (2, .int x2)]) rfl ?_
  unfold m_CX_need at hf
  refine v_aload_n g dk_0_need_0 0 rfl rfl (pc' := 1) rfl ?_
  refine gfC_X_40 g hK dk_0_need_1 (pc' := 4) rfl ?_
  refine v_iload_n g dk_0_need_4 1 rfl rfl (pc' := 5) rfl ?_
  obtain ⟨q1, hq, hf⟩ := bnd hf
  refine v_callV_i (As := [.int x1]) (rest := []) (r := q1) (S1 := S) g hK hA (c_CTargets_isThere hq) (kcC_X_121 g.2.2.2.2 rfl rfl (Nat.le_of_ble_eq_true rfl) (Nat.le_of_ble_eq_true rfl)) (ci := 9) (q0 := 13) rfl rfl rfl rfl rfl (Nat.le_of_ble_eq_true rfl) dk_0_need_5 (Nat.zero_le _) (Nat.zero_le _) (pc' := 8) rfl ?_
  refine v_if_eq (tgt := 22) (pc' := 11) g dk_0_need_8 (by decide) rfl (fun hc => ?_) (fun hc => ?_)
  · replace hf := ifT hc hf
    refine v_iconst (v := (-1)) g dk_0_need_22 (by decide) (pc' := 23) rfl ?_
    exact v_iret g hr hlk hK  (Option.some.inj hf) dk_0_need_23
  · replace hf := ifF hc hf
    refine v_aload_n g dk_0_need_11 0 rfl rfl (pc' := 12) rfl ?_
    refine gfC_X_40 g hK dk_0_need_12 (pc' := 15) rfl ?_
    refine v_iload_n g dk_0_need_15 2 rfl rfl (pc' := 16) rfl ?_
    obtain ⟨q2, hq, hf⟩ := bnd hf
    refine v_callV_i (As := [.int x2]) (rest := []) (r := q2) (S1 := S) g hK hA (c_CTargets_isThere hq) (kcC_X_121 g.2.2.2.2 rfl rfl (Nat.le_of_ble_eq_true rfl) (Nat.le_of_ble_eq_true rfl)) (ci := 9) (q0 := 13) rfl rfl rfl rfl rfl (Nat.le_of_ble_eq_true rfl) dk_0_need_16 (Nat.zero_le _) (Nat.zero_le _) (pc' := 19) rfl ?_
    refine v_if_ne (tgt := 24) (pc' := 22) g dk_0_need_19 (by decide) rfl (fun hc => ?_) (fun hc => ?_)
    · replace hf := ifF hc hf
      refine v_aload_n g dk_0_need_24 0 rfl rfl (pc' := 25) rfl ?_
      refine gfC_X_54 g hK dk_0_need_25 (pc' := 28) rfl ?_
      refine v_iload_n g dk_0_need_28 1 rfl rfl (pc' := 29) rfl ?_
      refine v_iload_n g dk_0_need_29 2 rfl rfl (pc' := 30) rfl ?_
      obtain ⟨q3, hq, hf⟩ := bnd hf
      refine v_callV_i (As := [.int x1, .int x2]) (rest := []) (r := q3.1) (S1 := q3.2) g hK hA (c_CNeeds_add hq) (kcC_X_196 g.2.2.2.2 rfl rfl (Nat.le_of_ble_eq_true rfl) (Nat.le_of_ble_eq_true rfl)) (ci := 4) (q0 := 25) rfl rfl rfl rfl rfl (Nat.le_of_ble_eq_true rfl) dk_0_need_30 (Nat.zero_le _) (Nat.zero_le _) (pc' := 33) rfl ?_
      exact v_iret g hr hlk hK  (Option.some.inj hf) dk_0_need_33
    · replace hf := ifT hc hf
      refine v_iconst (v := (-1)) g dk_0_need_22 (by decide) (pc' := 23) rfl ?_
      exact v_iret g hr hlk hK  (Option.some.inj hf) dk_0_need_23
abbrev rm_CNeeds_isThere : Room := { frames := 0, cells := 0, slots := 0, locals := 0 }
def m_CNeeds_isThere (S : StC) (x1 : Int32) : Option Int32 :=
  if x1 < 0 then some 0
    else if (gI S 6) ≤ x1 then some 0
    else some 1
set_option maxHeartbeats 4000000 in
set_option maxRecDepth 100000 in
theorem c_CNeeds_isThere {l : Launch} {D : va_G} {ad : Nat → Nat} {ca : Nat → ClassId} {S : StC} {x1 : Int32} {r : Int32} (hf : m_CNeeds_isThere S x1 = some r) : KIC l D ad ca yk_7_isThere (.code yk_7_isThere bk_7_isThere 2 (some .boolean) :: tb) rm_CNeeds_isThere [.ref (ad 25), .int x1] S (r, S) := by
  refine met_z (by decide) (Nat.le_of_ble_eq_true rfl) (fun p e s m below meth c A g hr hlk hK hA => ?_)
  replace g : CallFix p m c bk_7_isThere 2 s _ tb Rk_7 := g
  refine v_lv (lv' := [(0, .ref (ad 25)), (1, .int x1)]) rfl ?_
  unfold m_CNeeds_isThere at hf
  refine v_iload_n g dk_7_isThere_0 1 rfl rfl (pc' := 1) rfl ?_
  refine v_if_lt (tgt := 16) (pc' := 4) g dk_7_isThere_1 (by decide) rfl (fun hc => ?_) (fun hc => ?_)
  · replace hf := ifT hc hf
    refine v_iconst (v := 0) g dk_7_isThere_16 (by decide) (pc' := 17) rfl ?_
    exact v_zret g hr hlk hK rfl (pinj hf) dk_7_isThere_17
  · replace hf := ifF hc hf
    refine v_iload_n g dk_7_isThere_4 1 rfl rfl (pc' := 5) rfl ?_
    refine v_aload_n g dk_7_isThere_5 0 rfl rfl (pc' := 6) rfl ?_
    refine gfC_Needs_27 g hK dk_7_isThere_6 (pc' := 9) rfl ?_
    refine v_icmp_ge (tgt := 16) (pc' := 12) g dk_7_isThere_9 (by decide) rfl (fun hc => ?_) (fun hc => ?_)
    · replace hf := ifT hc hf
      refine v_iconst (v := 0) g dk_7_isThere_16 (by decide) (pc' := 17) rfl ?_
      exact v_zret g hr hlk hK rfl (pinj hf) dk_7_isThere_17
    · replace hf := ifF hc hf
      refine v_iconst (v := 1) g dk_7_isThere_12 (by decide) (pc' := 13) rfl ?_
      refine v_goto (tgt := 17) g dk_7_isThere_13 (by decide) ?_
      exact v_zret g hr hlk hK rfl (pinj hf) dk_7_isThere_17
abbrev rm_CNeeds_addChange : Room := { frames := 0, cells := 0, slots := 0, locals := 0 }
def m_CNeeds_addChange (S : StC) (x1 : Int32) (x2 : Int32) (x3 : Int32) : Option (Int32 × StC) :=
  if inb x1 40 = true then if (gA S 18 x1.toNatClampNeg) < 2 then if inb ((x1 * (2 : Int32)) + (gA S 18 x1.toNatClampNeg)) 80 = true then some (1, tA (tA (tA S 19 ((x1 * (2 : Int32)) + (gA S 18 x1.toNatClampNeg)) x2) 20 ((x1 * (2 : Int32)) + (gA S 18 x1.toNatClampNeg)) x3) 18 x1 ((gA S 18 x1.toNatClampNeg) + (1 : Int32))) else none
    else some (0, S) else none
set_option maxHeartbeats 4000000 in
set_option maxRecDepth 100000 in
theorem c_CNeeds_addChange {l : Launch} {D : va_G} {ad : Nat → Nat} {ca : Nat → ClassId} {S : StC} {x1 : Int32} {x2 : Int32} {x3 : Int32} {r : Int32 × StC} (hf : m_CNeeds_addChange S x1 x2 x3 = some r) : KIC l D ad ca yk_7_addChange (.code yk_7_addChange bk_7_addChange 5 (some .boolean) :: tb) rm_CNeeds_addChange [.ref (ad 25), .int x1, .int x2, .int x3] S r := by
  refine met_z (by decide) (Nat.le_of_ble_eq_true rfl) (fun p e s m below meth c A g hr hlk hK hA => ?_)
  replace g : CallFix p m c bk_7_addChange 5 s _ tb Rk_7 := g
  refine v_lv (lv' := [(0, .ref (ad 25)), (1, .int x1), (2, .int x2), (3, .int x3)]) rfl ?_
  unfold m_CNeeds_addChange at hf
  refine v_aload_n g dk_7_addChange_0 0 rfl rfl (pc' := 1) rfl ?_
  refine gfC_Needs_18 g hK dk_7_addChange_1 (pc' := 4) rfl ?_
  refine v_iload_n g dk_7_addChange_4 1 rfl rfl (pc' := 5) rfl ?_
  obtain ⟨hb1, hf⟩ := grd hf
  refine alC_28 g hK hb1 dk_7_addChange_5 (pc' := 6) rfl ?_
  refine v_iconst (v := 2) g dk_7_addChange_6 (by decide) (pc' := 7) rfl ?_
  refine v_icmp_lt (tgt := 12) (pc' := 10) g dk_7_addChange_7 (by decide) rfl (fun hc => ?_) (fun hc => ?_)
  · replace hf := ifT hc hf
    refine v_iload_n g dk_7_addChange_12 1 rfl rfl (pc' := 13) rfl ?_
    refine v_iconst (v := 2) g dk_7_addChange_13 (by decide) (pc' := 14) rfl ?_
    refine v_imul g dk_7_addChange_14 (pc' := 15) rfl ?_
    refine v_aload_n g dk_7_addChange_15 0 rfl rfl (pc' := 16) rfl ?_
    refine gfC_Needs_18 g hK dk_7_addChange_16 (pc' := 19) rfl ?_
    refine v_iload_n g dk_7_addChange_19 1 rfl rfl (pc' := 20) rfl ?_
    refine alC_28 g hK hb1 dk_7_addChange_20 (pc' := 21) rfl ?_
    refine v_iadd g dk_7_addChange_21 (pc' := 22) rfl ?_
    refine v_istore (lv' := [(4, .int ((x1 * (2 : Int32)) + (gA S 18 x1.toNatClampNeg))), (0, .ref (ad 25)), (1, .int x1), (2, .int x2), (3, .int x3)]) g dk_7_addChange_22 (by decide) rfl (pc' := 24) rfl ?_
    refine v_aload_n g dk_7_addChange_24 1 rfl rfl (pc' := 25) rfl ?_
    refine gfC_Needs_21 g hK dk_7_addChange_25 (pc' := 28) rfl ?_
    refine v_iload g dk_7_addChange_28 0 rfl (pc' := 30) rfl ?_
    refine v_iload_n g dk_7_addChange_30 3 rfl rfl (pc' := 31) rfl ?_
    obtain ⟨hb2, hf⟩ := grd hf
    refine asC_29 g hK hb2 dk_7_addChange_31 (pc' := 32) rfl ?_
    refine v_aload_n g dk_7_addChange_32 1 rfl rfl (pc' := 33) rfl ?_
    refine gfC_Needs_24 g hK dk_7_addChange_33 (pc' := 36) rfl ?_
    refine v_iload g dk_7_addChange_36 0 rfl (pc' := 38) rfl ?_
    refine v_iload_n g dk_7_addChange_38 4 rfl rfl (pc' := 39) rfl ?_
    refine asC_30 g hK hb2 dk_7_addChange_39 (pc' := 40) rfl ?_
    refine v_aload_n g dk_7_addChange_40 1 rfl rfl (pc' := 41) rfl ?_
    refine gfC_Needs_18 g hK dk_7_addChange_41 (pc' := 44) rfl ?_
    refine v_iload_n g dk_7_addChange_44 2 rfl rfl (pc' := 45) rfl ?_
    refine v_dup2 g dk_7_addChange_45 rfl rfl (pc' := 46) rfl ?_
    refine alC_28 g hK hb1 dk_7_addChange_46 (pc' := 47) rfl ?_
    refine v_iconst (v := 1) g dk_7_addChange_47 (by decide) (pc' := 48) rfl ?_
    refine v_iadd g dk_7_addChange_48 (pc' := 49) rfl ?_
    refine asC_28 g hK hb1 dk_7_addChange_49 (pc' := 50) rfl ?_
    refine v_iconst (v := 1) g dk_7_addChange_50 (by decide) (pc' := 51) rfl ?_
    exact v_zret g hr hlk hK rfl (Option.some.inj hf) dk_7_addChange_51
  · replace hf := ifF hc hf
    refine v_iconst (v := 0) g dk_7_addChange_10 (by decide) (pc' := 11) rfl ?_
    exact v_zret g hr hlk hK rfl (Option.some.inj hf) dk_7_addChange_11
abbrev rm_CX_change : Room := { frames := 1, cells := 0, slots := 0, locals := 24 }
def m_CX_change (S : StC) (x1 : Int32) (x2 : Int32) (x3 : Int32) : Option (Int32 × StC) :=
  (m_CNeeds_isThere S x1).bind fun q1 =>
    if q1 = 0 then some (0, S)
    else (m_CSettings_isThere S x2).bind fun q2 =>
    if q2 = 0 then some (0, S)
    else if (x3 &&& (255 : Int32)) = 0 then some (0, S)
    else (m_CNeeds_addChange S x1 x2 (x3 &&& (255 : Int32))).bind fun q3 =>
    if isB q3.1 = true then some (q3.1, q3.2) else none
set_option maxHeartbeats 4000000 in
set_option maxRecDepth 100000 in
theorem c_CX_change {l : Launch} {D : va_G} {ad : Nat → Nat} {ca : Nat → ClassId} {S : StC} {x1 : Int32} {x2 : Int32} {x3 : Int32} {r : Int32 × StC} (hf : m_CX_change S x1 x2 x3 = some r) : KIC l D ad ca yk_0_change (.code yk_0_change bk_0_change 5 (some .boolean) :: tb) rm_CX_change [.ref (ad 0), .int x1, .int x2, .int x3] S r := by
  refine met_z (by decide) (Nat.le_of_ble_eq_true rfl) (fun p e s m below meth c A g hr hlk hK hA => ?_)
  replace g : CallFix p m c bk_0_change 5 s _ tb Rk_0 := g
  refine v_lv (lv' := [(0, .ref (ad 0)), (1, .int x1), (2, .int x2), (3, .int x3)]) rfl ?_
  unfold m_CX_change at hf
  refine v_iload_n g dk_0_change_0 3 rfl rfl (pc' := 1) rfl ?_
  refine v_sipush (v := 255) g dk_0_change_1 (by decide) (pc' := 4) rfl ?_
  refine v_iand g dk_0_change_4 (pc' := 5) rfl ?_
  refine v_istore (lv' := [(4, .int (x3 &&& (255 : Int32))), (0, .ref (ad 0)), (1, .int x1), (2, .int x2), (3, .int x3)]) g dk_0_change_5 (by decide) rfl (pc' := 7) rfl ?_
  refine v_aload_n g dk_0_change_7 1 rfl rfl (pc' := 8) rfl ?_
  refine gfC_X_54 g hK dk_0_change_8 (pc' := 11) rfl ?_
  refine v_iload_n g dk_0_change_11 2 rfl rfl (pc' := 12) rfl ?_
  obtain ⟨q1, hq, hf⟩ := bnd hf
  refine v_callV_i (As := [.int x1]) (rest := []) (r := q1) (S1 := S) g hK hA (c_CNeeds_isThere hq) (kcC_X_199 g.2.2.2.2 rfl rfl (Nat.le_of_ble_eq_true rfl) (Nat.le_of_ble_eq_true rfl)) (ci := 4) (q0 := 25) rfl rfl rfl rfl rfl (Nat.le_of_ble_eq_true rfl) dk_0_change_12 (Nat.zero_le _) (Nat.zero_le _) (pc' := 15) rfl ?_
  refine v_if_eq (tgt := 34) (pc' := 18) g dk_0_change_15 (by decide) rfl (fun hc => ?_) (fun hc => ?_)
  · replace hf := ifT hc hf
    refine v_iconst (v := 0) g dk_0_change_34 (by decide) (pc' := 35) rfl ?_
    exact v_zret g hr hlk hK rfl (Option.some.inj hf) dk_0_change_35
  · replace hf := ifF hc hf
    refine v_aload_n g dk_0_change_18 1 rfl rfl (pc' := 19) rfl ?_
    refine gfC_X_12 g hK dk_0_change_19 (pc' := 22) rfl ?_
    refine v_iload_n g dk_0_change_22 3 rfl rfl (pc' := 23) rfl ?_
    obtain ⟨q2, hq, hf⟩ := bnd hf
    refine v_callV_i (As := [.int x2]) (rest := []) (r := q2) (S1 := S) g hK hA (c_CSettings_isThere hq) (kcC_X_109 g.2.2.2.2 rfl rfl (Nat.le_of_ble_eq_true rfl) (Nat.le_of_ble_eq_true rfl)) (ci := 8) (q0 := 1) rfl rfl rfl rfl rfl (Nat.le_of_ble_eq_true rfl) dk_0_change_23 (Nat.zero_le _) (Nat.zero_le _) (pc' := 26) rfl ?_
    refine v_if_eq (tgt := 34) (pc' := 29) g dk_0_change_26 (by decide) rfl (fun hc => ?_) (fun hc => ?_)
    · replace hf := ifT hc hf
      refine v_iconst (v := 0) g dk_0_change_34 (by decide) (pc' := 35) rfl ?_
      exact v_zret g hr hlk hK rfl (Option.some.inj hf) dk_0_change_35
    · replace hf := ifF hc hf
      refine v_iload g dk_0_change_29 0 rfl (pc' := 31) rfl ?_
      refine v_if_ne (tgt := 36) (pc' := 34) g dk_0_change_31 (by decide) rfl (fun hc => ?_) (fun hc => ?_)
      · replace hf := ifF hc hf
        refine v_aload_n g dk_0_change_36 1 rfl rfl (pc' := 37) rfl ?_
        refine gfC_X_54 g hK dk_0_change_37 (pc' := 40) rfl ?_
        refine v_iload_n g dk_0_change_40 2 rfl rfl (pc' := 41) rfl ?_
        refine v_iload_n g dk_0_change_41 3 rfl rfl (pc' := 42) rfl ?_
        refine v_iload g dk_0_change_42 0 rfl (pc' := 44) rfl ?_
        obtain ⟨q3, hq, hf⟩ := bnd hf
        refine v_callV_i (As := [.int x1, .int x2, .int (x3 &&& (255 : Int32))]) (rest := []) (r := q3.1) (S1 := q3.2) g hK hA (c_CNeeds_addChange hq) (kcC_X_200 g.2.2.2.2 rfl rfl (Nat.le_of_ble_eq_true rfl) (Nat.le_of_ble_eq_true rfl)) (ci := 4) (q0 := 25) rfl rfl rfl rfl rfl (Nat.le_of_ble_eq_true rfl) dk_0_change_44 (Nat.zero_le _) (Nat.zero_le _) (pc' := 47) rfl ?_
        obtain ⟨hz, hf⟩ := grd hf
        exact v_zret g hr hlk hK hz (Option.some.inj hf) dk_0_change_47
      · replace hf := ifT hc hf
        refine v_iconst (v := 0) g dk_0_change_34 (by decide) (pc' := 35) rfl ?_
        exact v_zret g hr hlk hK rfl (Option.some.inj hf) dk_0_change_35
end
section
abbrev rm_CX_findWhatTargetsRead : Room := { frames := 3, cells := 0, slots := 0, locals := 70 }
def L_CX_findWhatTargetsRead_2 : Nat → StC → Int32 → Option (StC)
  | 0, _, _ => none
  | n + 1, S, x1 =>
    if (gI S 4) ≤ x1 then some S
    else if inb x1 16 = true then if (gA S 7 x1.toNatClampNeg) = (-1) then L_CX_findWhatTargetsRead_2 n (tA S 8 x1 0) (x1 + 1)
    else (m_CX_askedBy S (gA S 7 x1.toNatClampNeg)).bind fun q2 =>
    L_CX_findWhatTargetsRead_2 n (tA S 8 x1 (q2 &&& (65535 : Int32))) (x1 + 1) else none
set_option maxHeartbeats 4000000 in
set_option maxRecDepth 100000 in
theorem w_CX_findWhatTargetsRead_2 {p : Program} {l : Launch} {e : Env} {s : State} {m : MethodId} {args : Array Value} {below : List Frame} {meth : Method} {c : Code} {A : Nat → Prop} {D : va_G} {ad : Nat → Nat} {ca : Nat → ClassId} {Rm : StC} (g : CallFix p m c bk_0_findWhatTargetsRead 4 s args tb Rk_0) (hr : meth.sig.returnType = none) (hlk : meth.locks = false) (hK : va_K D vwCl (tyC ca) s) (hA : ∀ q, s.heap.size ≤ q → A q) : ∀ (n : Nat) (S : StC) (x1 : Int32) (o : StC), L_CX_findWhatTargetsRead_2 n S x1 = some o → (Vj p l e rm_CX_findWhatTargetsRead s m args below meth c (MQ below (qV D vwCl (tyC ca) (wdC ad ca) A Rm) args s 0 0 A) D vwCl A 4 0 0 (wdC ad ca o) 56 [(0, .ref (ad 0))] []) → Vj p l e rm_CX_findWhatTargetsRead s m args below meth c (MQ below (qV D vwCl (tyC ca) (wdC ad ca) A Rm) args s 0 0 A) D vwCl A 4 0 0 (wdC ad ca S) 2 [(0, .ref (ad 0)), (1, .int x1)] [] := by
  intro n
  induction n with
  | zero => intro S x1 o hf; exact nomatch (show none = some o from hf)
  | succ n ih =>
    intro S x1 o hf hx
    rw [L_CX_findWhatTargetsRead_2] at hf
    refine v_iload_n g dk_0_findWhatTargetsRead_2 1 rfl rfl (pc' := 3) rfl ?_
    refine v_aload_n g dk_0_findWhatTargetsRead_3 0 rfl rfl (pc' := 4) rfl ?_
    refine gfC_X_40 g hK dk_0_findWhatTargetsRead_4 (pc' := 7) rfl ?_
    refine gfC_X_301 g hK dk_0_findWhatTargetsRead_7 (pc' := 10) rfl ?_
    refine v_icmp_ge (tgt := 56) (pc' := 13) g dk_0_findWhatTargetsRead_10 (by decide) rfl (fun hc => ?_) (fun hc => ?_)
    · replace hf := ifT hc hf
      refine v_sub [0] rfl ?_
      have e9 := Option.some.inj hf
      subst e9
      exact hx
    · replace hf := ifF hc hf
      refine v_aload_n g dk_0_findWhatTargetsRead_13 0 rfl rfl (pc' := 14) rfl ?_
      refine gfC_X_40 g hK dk_0_findWhatTargetsRead_14 (pc' := 17) rfl ?_
      refine gfC_X_122 g hK dk_0_findWhatTargetsRead_17 (pc' := 20) rfl ?_
      refine v_iload_n g dk_0_findWhatTargetsRead_20 1 rfl rfl (pc' := 21) rfl ?_
      obtain ⟨hb1, hf⟩ := grd hf
      refine alC_14 g hK hb1 dk_0_findWhatTargetsRead_21 (pc' := 22) rfl ?_
      refine v_istore_n (lv' := [(2, .int (gA S 7 x1.toNatClampNeg)), (0, .ref (ad 0)), (1, .int x1)]) g dk_0_findWhatTargetsRead_22 rfl (by decide) rfl (pc' := 23) rfl ?_
      refine v_aload_n g dk_0_findWhatTargetsRead_23 1 rfl rfl (pc' := 24) rfl ?_
      refine gfC_X_40 g hK dk_0_findWhatTargetsRead_24 (pc' := 27) rfl ?_
      refine gfC_X_207 g hK dk_0_findWhatTargetsRead_27 (pc' := 30) rfl ?_
      refine v_iload_n g dk_0_findWhatTargetsRead_30 2 rfl rfl (pc' := 31) rfl ?_
      refine v_iload_n g dk_0_findWhatTargetsRead_31 0 rfl rfl (pc' := 32) rfl ?_
      refine v_iconst (v := (-1)) g dk_0_findWhatTargetsRead_32 (by decide) (pc' := 33) rfl ?_
      refine v_icmp_ne (tgt := 40) (pc' := 36) g dk_0_findWhatTargetsRead_33 (by decide) rfl (fun hc => ?_) (fun hc => ?_)
      · replace hf := ifF hc hf
        refine v_aload_n g dk_0_findWhatTargetsRead_40 1 rfl rfl (pc' := 41) rfl ?_
        refine v_iload_n g dk_0_findWhatTargetsRead_41 0 rfl rfl (pc' := 42) rfl ?_
        obtain ⟨q2, hq, hf⟩ := bnd hf
        refine v_callV_i (As := [.int (gA S 7 x1.toNatClampNeg)]) (rest := [.int x1, .ref (ad 15)]) (r := q2) (S1 := S) g hK hA (c_CX_askedBy hq) (kcC_X_298 g.2.2.2.2 rfl rfl (Nat.le_of_ble_eq_true rfl) (Nat.le_of_ble_eq_true rfl)) (ci := 0) (q0 := 0) rfl rfl rfl rfl rfl (Nat.le_of_ble_eq_true rfl) dk_0_findWhatTargetsRead_42 (Nat.zero_le _) (Nat.zero_le _) (pc' := 45) rfl ?_
        refine v_ldcw g dk_0_findWhatTargetsRead_45 lcC_X_302 (pc' := 48) rfl ?_
        refine v_iand g dk_0_findWhatTargetsRead_48 (pc' := 49) rfl ?_
        refine asC_15 g hK hb1 dk_0_findWhatTargetsRead_49 (pc' := 50) rfl ?_
        refine v_iinc (j := 2) (v := x1 + 1) (lv' := [(1, .int (x1 + 1)), (2, .int (gA S 7 x1.toNatClampNeg)), (0, .ref (ad 0))]) g dk_0_findWhatTargetsRead_50 rfl rfl (by decide) rfl (pc' := 53) rfl ?_
        refine v_goto (tgt := 2) g dk_0_findWhatTargetsRead_53 (by decide) ?_
        refine v_sub [2, 0] rfl ?_
        exact ih (tA S 8 x1 (q2 &&& (65535 : Int32))) (x1 + 1) o hf hx
      · replace hf := ifT hc hf
        refine v_iconst (v := 0) g dk_0_findWhatTargetsRead_36 (by decide) (pc' := 37) rfl ?_
        refine v_goto (tgt := 49) g dk_0_findWhatTargetsRead_37 (by decide) ?_
        refine asC_15 g hK hb1 dk_0_findWhatTargetsRead_49 (pc' := 50) rfl ?_
        refine v_iinc (j := 2) (v := x1 + 1) (lv' := [(1, .int (x1 + 1)), (2, .int (gA S 7 x1.toNatClampNeg)), (0, .ref (ad 0))]) g dk_0_findWhatTargetsRead_50 rfl rfl (by decide) rfl (pc' := 53) rfl ?_
        refine v_goto (tgt := 2) g dk_0_findWhatTargetsRead_53 (by decide) ?_
        refine v_sub [2, 0] rfl ?_
        exact ih (tA S 8 x1 0) (x1 + 1) o hf hx
def L_CX_findWhatTargetsRead_71 (x1 : Int32) : Nat → StC → Int32 → Option (StC)
  | 0, _, _ => none
  | n + 1, S, x2 =>
    if inb x1 24 = true then if (gA S 12 x1.toNatClampNeg) ≤ x2 then some S
    else (m_CSelects_conditionAt S x1 x2).bind fun q6 =>
    (m_CX_askedBy S q6).bind fun q7 =>
    if inb (gA S 9 x1.toNatClampNeg) 16 = true then L_CX_findWhatTargetsRead_71 x1 n (tA S 8 (gA S 9 x1.toNatClampNeg) ((gA S 8 (gA S 9 x1.toNatClampNeg).toNatClampNeg) ||| (q7 &&& (65535 : Int32)))) (x2 + 1) else none else none
set_option maxHeartbeats 4000000 in
set_option maxRecDepth 100000 in
theorem w_CX_findWhatTargetsRead_71 {p : Program} {l : Launch} {e : Env} {s : State} {m : MethodId} {args : Array Value} {below : List Frame} {meth : Method} {c : Code} {A : Nat → Prop} {D : va_G} {ad : Nat → Nat} {ca : Nat → ClassId} {Rm : StC} {x1 : Int32} (g : CallFix p m c bk_0_findWhatTargetsRead 4 s args tb Rk_0) (hr : meth.sig.returnType = none) (hlk : meth.locks = false) (hK : va_K D vwCl (tyC ca) s) (hA : ∀ q, s.heap.size ≤ q → A q) : ∀ (n : Nat) (S : StC) (x2 : Int32) (o : StC), L_CX_findWhatTargetsRead_71 x1 n S x2 = some o → (Vj p l e rm_CX_findWhatTargetsRead s m args below meth c (MQ below (qV D vwCl (tyC ca) (wdC ad ca) A Rm) args s 0 0 A) D vwCl A 4 0 0 (wdC ad ca o) 129 [(0, .ref (ad 0)), (1, .int x1)] []) → Vj p l e rm_CX_findWhatTargetsRead s m args below meth c (MQ below (qV D vwCl (tyC ca) (wdC ad ca) A Rm) args s 0 0 A) D vwCl A 4 0 0 (wdC ad ca S) 71 [(0, .ref (ad 0)), (1, .int x1), (2, .int x2)] [] := by
  intro n
  induction n with
  | zero => intro S x2 o hf; exact nomatch (show none = some o from hf)
  | succ n ih =>
    intro S x2 o hf hx
    rw [L_CX_findWhatTargetsRead_71] at hf
    refine v_iload_n g dk_0_findWhatTargetsRead_71 2 rfl rfl (pc' := 72) rfl ?_
    refine v_aload_n g dk_0_findWhatTargetsRead_72 0 rfl rfl (pc' := 73) rfl ?_
    refine gfC_X_47 g hK dk_0_findWhatTargetsRead_73 (pc' := 76) rfl ?_
    refine gfC_X_266 g hK dk_0_findWhatTargetsRead_76 (pc' := 79) rfl ?_
    refine v_iload_n g dk_0_findWhatTargetsRead_79 1 rfl rfl (pc' := 80) rfl ?_
    obtain ⟨hb5, hf⟩ := grd hf
    refine alC_21 g hK hb5 dk_0_findWhatTargetsRead_80 (pc' := 81) rfl ?_
    refine v_icmp_ge (tgt := 129) (pc' := 84) g dk_0_findWhatTargetsRead_81 (by decide) rfl (fun hc => ?_) (fun hc => ?_)
    · replace hf := ifT hc hf
      refine v_sub [0, 1] rfl ?_
      have e9 := Option.some.inj hf
      subst e9
      exact hx
    · replace hf := ifF hc hf
      refine v_aload_n g dk_0_findWhatTargetsRead_84 0 rfl rfl (pc' := 85) rfl ?_
      refine v_aload_n g dk_0_findWhatTargetsRead_85 0 rfl rfl (pc' := 86) rfl ?_
      refine gfC_X_47 g hK dk_0_findWhatTargetsRead_86 (pc' := 89) rfl ?_
      refine v_iload_n g dk_0_findWhatTargetsRead_89 1 rfl rfl (pc' := 90) rfl ?_
      refine v_iload_n g dk_0_findWhatTargetsRead_90 2 rfl rfl (pc' := 91) rfl ?_
      obtain ⟨q6, hq, hf⟩ := bnd hf
      refine v_callV_i (As := [.int x1, .int x2]) (rest := [.ref (ad 0)]) (r := q6) (S1 := S) g hK hA (c_CSelects_conditionAt hq) (kcC_X_292 g.2.2.2.2 rfl rfl (Nat.le_of_ble_eq_true rfl) (Nat.le_of_ble_eq_true rfl)) (ci := 7) (q0 := 16) rfl rfl rfl rfl rfl (Nat.le_of_ble_eq_true rfl) dk_0_findWhatTargetsRead_91 (Nat.zero_le _) (Nat.zero_le _) (pc' := 94) rfl ?_
      obtain ⟨q7, hq, hf⟩ := bnd hf
      refine v_callV_i (As := [.int q6]) (rest := []) (r := q7) (S1 := S) g hK hA (c_CX_askedBy hq) (kcC_X_298 g.2.2.2.2 rfl rfl (Nat.le_of_ble_eq_true rfl) (Nat.le_of_ble_eq_true rfl)) (ci := 0) (q0 := 0) rfl rfl rfl rfl rfl (Nat.le_of_ble_eq_true rfl) dk_0_findWhatTargetsRead_94 (Nat.zero_le _) (Nat.zero_le _) (pc' := 97) rfl ?_
      refine v_istore_n (lv' := [(3, .int q7), (0, .ref (ad 0)), (1, .int x1), (2, .int x2)]) g dk_0_findWhatTargetsRead_97 rfl (by decide) rfl (pc' := 98) rfl ?_
      refine v_aload_n g dk_0_findWhatTargetsRead_98 1 rfl rfl (pc' := 99) rfl ?_
      refine gfC_X_40 g hK dk_0_findWhatTargetsRead_99 (pc' := 102) rfl ?_
      refine gfC_X_207 g hK dk_0_findWhatTargetsRead_102 (pc' := 105) rfl ?_
      refine v_aload_n g dk_0_findWhatTargetsRead_105 1 rfl rfl (pc' := 106) rfl ?_
      refine gfC_X_47 g hK dk_0_findWhatTargetsRead_106 (pc' := 109) rfl ?_
      refine gfC_X_304 g hK dk_0_findWhatTargetsRead_109 (pc' := 112) rfl ?_
      refine v_iload_n g dk_0_findWhatTargetsRead_112 2 rfl rfl (pc' := 113) rfl ?_
      refine alC_17 g hK hb5 dk_0_findWhatTargetsRead_113 (pc' := 114) rfl ?_
      refine v_dup2 g dk_0_findWhatTargetsRead_114 rfl rfl (pc' := 115) rfl ?_
      obtain ⟨hb8, hf⟩ := grd hf
      refine alC_15 g hK hb8 dk_0_findWhatTargetsRead_115 (pc' := 116) rfl ?_
      refine v_iload_n g dk_0_findWhatTargetsRead_116 0 rfl rfl (pc' := 117) rfl ?_
      refine v_ldcw g dk_0_findWhatTargetsRead_117 lcC_X_302 (pc' := 120) rfl ?_
      refine v_iand g dk_0_findWhatTargetsRead_120 (pc' := 121) rfl ?_
      refine v_ior g dk_0_findWhatTargetsRead_121 (pc' := 122) rfl ?_
      refine asC_15 g hK hb8 dk_0_findWhatTargetsRead_122 (pc' := 123) rfl ?_
      refine v_iinc (j := 3) (v := x2 + 1) (lv' := [(2, .int (x2 + 1)), (3, .int q7), (0, .ref (ad 0)), (1, .int x1)]) g dk_0_findWhatTargetsRead_123 rfl rfl (by decide) rfl (pc' := 126) rfl ?_
      refine v_goto (tgt := 71) g dk_0_findWhatTargetsRead_126 (by decide) ?_
      refine v_sub [2, 3, 0] rfl ?_
      exact ih (tA S 8 (gA S 9 x1.toNatClampNeg) ((gA S 8 (gA S 9 x1.toNatClampNeg).toNatClampNeg) ||| (q7 &&& (65535 : Int32)))) (x2 + 1) o hf hx
def L_CX_findWhatTargetsRead_58 : Nat → StC → Int32 → Option (StC)
  | 0, _, _ => none
  | n + 1, S, x1 =>
    if (gI S 5) ≤ x1 then some S
    else (L_CX_findWhatTargetsRead_71 x1 100 S 0).bind fun y10 =>
    L_CX_findWhatTargetsRead_58 n y10 (x1 + 1)
set_option maxHeartbeats 4000000 in
set_option maxRecDepth 100000 in
theorem w_CX_findWhatTargetsRead_58 {p : Program} {l : Launch} {e : Env} {s : State} {m : MethodId} {args : Array Value} {below : List Frame} {meth : Method} {c : Code} {A : Nat → Prop} {D : va_G} {ad : Nat → Nat} {ca : Nat → ClassId} {Rm : StC} (g : CallFix p m c bk_0_findWhatTargetsRead 4 s args tb Rk_0) (hr : meth.sig.returnType = none) (hlk : meth.locks = false) (hK : va_K D vwCl (tyC ca) s) (hA : ∀ q, s.heap.size ≤ q → A q) : ∀ (n : Nat) (S : StC) (x1 : Int32) (o : StC), L_CX_findWhatTargetsRead_58 n S x1 = some o → (Vj p l e rm_CX_findWhatTargetsRead s m args below meth c (MQ below (qV D vwCl (tyC ca) (wdC ad ca) A Rm) args s 0 0 A) D vwCl A 4 0 0 (wdC ad ca o) 135 [(0, .ref (ad 0))] []) → Vj p l e rm_CX_findWhatTargetsRead s m args below meth c (MQ below (qV D vwCl (tyC ca) (wdC ad ca) A Rm) args s 0 0 A) D vwCl A 4 0 0 (wdC ad ca S) 58 [(0, .ref (ad 0)), (1, .int x1)] [] := by
  intro n
  induction n with
  | zero => intro S x1 o hf; exact nomatch (show none = some o from hf)
  | succ n ih =>
    intro S x1 o hf hx
    rw [L_CX_findWhatTargetsRead_58] at hf
    refine v_iload_n g dk_0_findWhatTargetsRead_58 1 rfl rfl (pc' := 59) rfl ?_
    refine v_aload_n g dk_0_findWhatTargetsRead_59 0 rfl rfl (pc' := 60) rfl ?_
    refine gfC_X_47 g hK dk_0_findWhatTargetsRead_60 (pc' := 63) rfl ?_
    refine gfC_X_303 g hK dk_0_findWhatTargetsRead_63 (pc' := 66) rfl ?_
    refine v_icmp_ge (tgt := 135) (pc' := 69) g dk_0_findWhatTargetsRead_66 (by decide) rfl (fun hc => ?_) (fun hc => ?_)
    · replace hf := ifT hc hf
      refine v_sub [0] rfl ?_
      have e9 := Option.some.inj hf
      subst e9
      exact hx
    · replace hf := ifF hc hf
      refine v_iconst (v := 0) g dk_0_findWhatTargetsRead_69 (by decide) (pc' := 70) rfl ?_
      refine v_istore_n (lv' := [(2, .int 0), (0, .ref (ad 0)), (1, .int x1)]) g dk_0_findWhatTargetsRead_70 rfl (by decide) rfl (pc' := 71) rfl ?_
      refine v_sub [1, 2, 0] rfl ?_
      obtain ⟨y10, hL, hf⟩ := bnd hf
      refine w_CX_findWhatTargetsRead_71 g hr hlk hK hA 100 S 0 _ hL ?_
      refine v_iinc (j := 1) (v := x1 + 1) (lv' := [(1, .int (x1 + 1)), (0, .ref (ad 0))]) g dk_0_findWhatTargetsRead_129 rfl rfl (by decide) rfl (pc' := 132) rfl ?_
      refine v_goto (tgt := 58) g dk_0_findWhatTargetsRead_132 (by decide) ?_
      refine v_sub [1, 0] rfl ?_
      exact ih y10 (x1 + 1) o hf hx
def L_CX_findWhatTargetsRead_145 (x1 : Int32) : Nat → StC → Int32 → Option (StC)
  | 0, _, _ => none
  | n + 1, S, x2 =>
    if (gI S 6) ≤ x2 then some S
    else if inb x2 40 = true then if inb (gA S 16 x2.toNatClampNeg) 16 = true then if inb (gA S 17 x2.toNatClampNeg) 16 = true then L_CX_findWhatTargetsRead_145 x1 n (tA S 8 (gA S 16 x2.toNatClampNeg) ((gA S 8 (gA S 16 x2.toNatClampNeg).toNatClampNeg) ||| (gA S 8 (gA S 17 x2.toNatClampNeg).toNatClampNeg))) (x2 + 1) else none else none else none
set_option maxHeartbeats 4000000 in
set_option maxRecDepth 100000 in
theorem w_CX_findWhatTargetsRead_145 {p : Program} {l : Launch} {e : Env} {s : State} {m : MethodId} {args : Array Value} {below : List Frame} {meth : Method} {c : Code} {A : Nat → Prop} {D : va_G} {ad : Nat → Nat} {ca : Nat → ClassId} {Rm : StC} {x1 : Int32} (g : CallFix p m c bk_0_findWhatTargetsRead 4 s args tb Rk_0) (hr : meth.sig.returnType = none) (hlk : meth.locks = false) (hK : va_K D vwCl (tyC ca) s) (hA : ∀ q, s.heap.size ≤ q → A q) : ∀ (n : Nat) (S : StC) (x2 : Int32) (o : StC), L_CX_findWhatTargetsRead_145 x1 n S x2 = some o → (Vj p l e rm_CX_findWhatTargetsRead s m args below meth c (MQ below (qV D vwCl (tyC ca) (wdC ad ca) A Rm) args s 0 0 A) D vwCl A 4 0 0 (wdC ad ca o) 199 [(0, .ref (ad 0)), (1, .int x1)] []) → Vj p l e rm_CX_findWhatTargetsRead s m args below meth c (MQ below (qV D vwCl (tyC ca) (wdC ad ca) A Rm) args s 0 0 A) D vwCl A 4 0 0 (wdC ad ca S) 145 [(0, .ref (ad 0)), (1, .int x1), (2, .int x2)] [] := by
  intro n
  induction n with
  | zero => intro S x2 o hf; exact nomatch (show none = some o from hf)
  | succ n ih =>
    intro S x2 o hf hx
    rw [L_CX_findWhatTargetsRead_145] at hf
    refine v_iload_n g dk_0_findWhatTargetsRead_145 2 rfl rfl (pc' := 146) rfl ?_
    refine v_aload_n g dk_0_findWhatTargetsRead_146 0 rfl rfl (pc' := 147) rfl ?_
    refine gfC_X_54 g hK dk_0_findWhatTargetsRead_147 (pc' := 150) rfl ?_
    refine gfC_X_305 g hK dk_0_findWhatTargetsRead_150 (pc' := 153) rfl ?_
    refine v_icmp_ge (tgt := 199) (pc' := 156) g dk_0_findWhatTargetsRead_153 (by decide) rfl (fun hc => ?_) (fun hc => ?_)
    · replace hf := ifT hc hf
      refine v_sub [0, 1] rfl ?_
      have e9 := Option.some.inj hf
      subst e9
      exact hx
    · replace hf := ifF hc hf
      refine v_aload_n g dk_0_findWhatTargetsRead_156 0 rfl rfl (pc' := 157) rfl ?_
      refine gfC_X_40 g hK dk_0_findWhatTargetsRead_157 (pc' := 160) rfl ?_
      refine gfC_X_207 g hK dk_0_findWhatTargetsRead_160 (pc' := 163) rfl ?_
      refine v_aload_n g dk_0_findWhatTargetsRead_163 0 rfl rfl (pc' := 164) rfl ?_
      refine gfC_X_54 g hK dk_0_findWhatTargetsRead_164 (pc' := 167) rfl ?_
      refine gfC_X_306 g hK dk_0_findWhatTargetsRead_167 (pc' := 170) rfl ?_
      refine v_iload_n g dk_0_findWhatTargetsRead_170 2 rfl rfl (pc' := 171) rfl ?_
      obtain ⟨hb13, hf⟩ := grd hf
      refine alC_26 g hK hb13 dk_0_findWhatTargetsRead_171 (pc' := 172) rfl ?_
      refine v_dup2 g dk_0_findWhatTargetsRead_172 rfl rfl (pc' := 173) rfl ?_
      obtain ⟨hb14, hf⟩ := grd hf
      refine alC_15 g hK hb14 dk_0_findWhatTargetsRead_173 (pc' := 174) rfl ?_
      refine v_aload_n g dk_0_findWhatTargetsRead_174 0 rfl rfl (pc' := 175) rfl ?_
      refine gfC_X_40 g hK dk_0_findWhatTargetsRead_175 (pc' := 178) rfl ?_
      refine gfC_X_207 g hK dk_0_findWhatTargetsRead_178 (pc' := 181) rfl ?_
      refine v_aload_n g dk_0_findWhatTargetsRead_181 0 rfl rfl (pc' := 182) rfl ?_
      refine gfC_X_54 g hK dk_0_findWhatTargetsRead_182 (pc' := 185) rfl ?_
      refine gfC_X_307 g hK dk_0_findWhatTargetsRead_185 (pc' := 188) rfl ?_
      refine v_iload_n g dk_0_findWhatTargetsRead_188 2 rfl rfl (pc' := 189) rfl ?_
      refine alC_27 g hK hb13 dk_0_findWhatTargetsRead_189 (pc' := 190) rfl ?_
      obtain ⟨hb15, hf⟩ := grd hf
      refine alC_15 g hK hb15 dk_0_findWhatTargetsRead_190 (pc' := 191) rfl ?_
      refine v_ior g dk_0_findWhatTargetsRead_191 (pc' := 192) rfl ?_
      refine asC_15 g hK hb14 dk_0_findWhatTargetsRead_192 (pc' := 193) rfl ?_
      refine v_iinc (j := 2) (v := x2 + 1) (lv' := [(2, .int (x2 + 1)), (0, .ref (ad 0)), (1, .int x1)]) g dk_0_findWhatTargetsRead_193 rfl rfl (by decide) rfl (pc' := 196) rfl ?_
      refine v_goto (tgt := 145) g dk_0_findWhatTargetsRead_196 (by decide) ?_
      refine v_sub [1, 2, 0] rfl ?_
      exact ih (tA S 8 (gA S 16 x2.toNatClampNeg) ((gA S 8 (gA S 16 x2.toNatClampNeg).toNatClampNeg) ||| (gA S 8 (gA S 17 x2.toNatClampNeg).toNatClampNeg))) (x2 + 1) o hf hx
def L_CX_findWhatTargetsRead_137 : Nat → StC → Int32 → Option (StC)
  | 0, _, _ => none
  | n + 1, S, x1 =>
    if 16 ≤ x1 then some S
    else (L_CX_findWhatTargetsRead_145 x1 100 S 0).bind fun y17 =>
    L_CX_findWhatTargetsRead_137 n y17 (x1 + 1)
set_option maxHeartbeats 4000000 in
set_option maxRecDepth 100000 in
theorem w_CX_findWhatTargetsRead_137 {p : Program} {l : Launch} {e : Env} {s : State} {m : MethodId} {args : Array Value} {below : List Frame} {meth : Method} {c : Code} {A : Nat → Prop} {D : va_G} {ad : Nat → Nat} {ca : Nat → ClassId} {Rm : StC} (g : CallFix p m c bk_0_findWhatTargetsRead 4 s args tb Rk_0) (hr : meth.sig.returnType = none) (hlk : meth.locks = false) (hK : va_K D vwCl (tyC ca) s) (hA : ∀ q, s.heap.size ≤ q → A q) : ∀ (n : Nat) (S : StC) (x1 : Int32) (o : StC), L_CX_findWhatTargetsRead_137 n S x1 = some o → (Vj p l e rm_CX_findWhatTargetsRead s m args below meth c (MQ below (qV D vwCl (tyC ca) (wdC ad ca) A Rm) args s 0 0 A) D vwCl A 4 0 0 (wdC ad ca o) 205 [] []) → Vj p l e rm_CX_findWhatTargetsRead s m args below meth c (MQ below (qV D vwCl (tyC ca) (wdC ad ca) A Rm) args s 0 0 A) D vwCl A 4 0 0 (wdC ad ca S) 137 [(0, .ref (ad 0)), (1, .int x1)] [] := by
  intro n
  induction n with
  | zero => intro S x1 o hf; exact nomatch (show none = some o from hf)
  | succ n ih =>
    intro S x1 o hf hx
    rw [L_CX_findWhatTargetsRead_137] at hf
    refine v_iload_n g dk_0_findWhatTargetsRead_137 1 rfl rfl (pc' := 138) rfl ?_
    refine v_bipush (v := 16) g dk_0_findWhatTargetsRead_138 (by decide) (pc' := 140) rfl ?_
    refine v_icmp_ge (tgt := 205) (pc' := 143) g dk_0_findWhatTargetsRead_140 (by decide) rfl (fun hc => ?_) (fun hc => ?_)
    · replace hf := ifT hc hf
      refine v_sub [] rfl ?_
      have e9 := Option.some.inj hf
      subst e9
      exact hx
    · replace hf := ifF hc hf
      refine v_iconst (v := 0) g dk_0_findWhatTargetsRead_143 (by decide) (pc' := 144) rfl ?_
      refine v_istore_n (lv' := [(2, .int 0), (0, .ref (ad 0)), (1, .int x1)]) g dk_0_findWhatTargetsRead_144 rfl (by decide) rfl (pc' := 145) rfl ?_
      refine v_sub [1, 2, 0] rfl ?_
      obtain ⟨y17, hL, hf⟩ := bnd hf
      refine w_CX_findWhatTargetsRead_145 g hr hlk hK hA 100 S 0 _ hL ?_
      refine v_iinc (j := 1) (v := x1 + 1) (lv' := [(1, .int (x1 + 1)), (0, .ref (ad 0))]) g dk_0_findWhatTargetsRead_199 rfl rfl (by decide) rfl (pc' := 202) rfl ?_
      refine v_goto (tgt := 137) g dk_0_findWhatTargetsRead_202 (by decide) ?_
      refine v_sub [1, 0] rfl ?_
      exact ih y17 (x1 + 1) o hf hx
def m_CX_findWhatTargetsRead (S : StC) : Option StC :=
  (L_CX_findWhatTargetsRead_2 100 S 0).bind fun y4 =>
    (L_CX_findWhatTargetsRead_58 100 y4 0).bind fun y12 =>
    (L_CX_findWhatTargetsRead_137 100 y12 0).bind fun y19 =>
    some y19
set_option maxHeartbeats 4000000 in
set_option maxRecDepth 100000 in
theorem c_CX_findWhatTargetsRead {l : Launch} {D : va_G} {ad : Nat → Nat} {ca : Nat → ClassId} {S : StC} {r : StC} (hf : m_CX_findWhatTargetsRead S = some r) : KVC l D ad ca yk_0_findWhatTargetsRead (.code yk_0_findWhatTargetsRead bk_0_findWhatTargetsRead 4 none :: tb) rm_CX_findWhatTargetsRead [.ref (ad 0)] S r := by
  refine met_v (by decide) (Nat.le_of_ble_eq_true rfl) (fun p e s m below meth c A g hr hlk hK hA => ?_)
  replace g : CallFix p m c bk_0_findWhatTargetsRead 4 s _ tb Rk_0 := g
  refine v_lv (lv' := [(0, .ref (ad 0))]) rfl ?_
  unfold m_CX_findWhatTargetsRead at hf
  refine v_iconst (v := 0) g dk_0_findWhatTargetsRead_0 (by decide) (pc' := 1) rfl ?_
  refine v_istore_n (lv' := [(1, .int 0), (0, .ref (ad 0))]) g dk_0_findWhatTargetsRead_1 rfl (by decide) rfl (pc' := 2) rfl ?_
  refine v_sub [1, 0] rfl ?_
  obtain ⟨y4, hL, hf⟩ := bnd hf
  refine w_CX_findWhatTargetsRead_2 g hr hlk hK hA 100 S 0 _ hL ?_
  refine v_iconst (v := 0) g dk_0_findWhatTargetsRead_56 (by decide) (pc' := 57) rfl ?_
  refine v_istore_n (lv' := [(1, .int 0), (0, .ref (ad 0))]) g dk_0_findWhatTargetsRead_57 rfl (by decide) rfl (pc' := 58) rfl ?_
  refine v_sub [1, 0] rfl ?_
  obtain ⟨y12, hL, hf⟩ := bnd hf
  refine w_CX_findWhatTargetsRead_58 g hr hlk hK hA 100 y4 0 _ hL ?_
  refine v_iconst (v := 0) g dk_0_findWhatTargetsRead_135 (by decide) (pc' := 136) rfl ?_
  refine v_istore_n (lv' := [(1, .int 0), (0, .ref (ad 0))]) g dk_0_findWhatTargetsRead_136 rfl (by decide) rfl (pc' := 137) rfl ?_
  refine v_sub [1, 0] rfl ?_
  obtain ⟨y19, hL, hf⟩ := bnd hf
  refine w_CX_findWhatTargetsRead_137 g hr hlk hK hA 100 y12 0 _ hL ?_
  exact v_vret g hr hlk hK  (Option.some.inj hf) dk_0_findWhatTargetsRead_205
abbrev rm_CX_reads : Room := { frames := 4, cells := 0, slots := 0, locals := 93 }
def m_CX_reads (S : StC) (x1 : Int32) : Option (Int32 × StC) :=
  (m_CTargets_isThere S x1).bind fun q1 =>
    if q1 = 0 then some (0, S)
    else (m_CX_findWhatTargetsRead S).bind fun q2 =>
    if inb x1 16 = true then some (gA q2 8 x1.toNatClampNeg, q2) else none
set_option maxHeartbeats 4000000 in
set_option maxRecDepth 100000 in
theorem c_CX_reads {l : Launch} {D : va_G} {ad : Nat → Nat} {ca : Nat → ClassId} {S : StC} {x1 : Int32} {r : Int32 × StC} (hf : m_CX_reads S x1 = some r) : KIC l D ad ca yk_0_reads (.code yk_0_reads bk_0_reads 2 (some .int) :: tb) rm_CX_reads [.ref (ad 0), .int x1] S r := by
  refine met_i (by decide) (Nat.le_of_ble_eq_true rfl) (fun p e s m below meth c A g hr hlk hK hA => ?_)
  replace g : CallFix p m c bk_0_reads 2 s _ tb Rk_0 := g
  refine v_lv (lv' := [(0, .ref (ad 0)), (1, .int x1)]) rfl ?_
  unfold m_CX_reads at hf
  refine v_aload_n g dk_0_reads_0 0 rfl rfl (pc' := 1) rfl ?_
  refine gfC_X_40 g hK dk_0_reads_1 (pc' := 4) rfl ?_
  refine v_iload_n g dk_0_reads_4 1 rfl rfl (pc' := 5) rfl ?_
  obtain ⟨q1, hq, hf⟩ := bnd hf
  refine v_callV_i (As := [.int x1]) (rest := []) (r := q1) (S1 := S) g hK hA (c_CTargets_isThere hq) (kcC_X_121 g.2.2.2.2 rfl rfl (Nat.le_of_ble_eq_true rfl) (Nat.le_of_ble_eq_true rfl)) (ci := 9) (q0 := 13) rfl rfl rfl rfl rfl (Nat.le_of_ble_eq_true rfl) dk_0_reads_5 (Nat.zero_le _) (Nat.zero_le _) (pc' := 8) rfl ?_
  refine v_if_ne (tgt := 13) (pc' := 11) g dk_0_reads_8 (by decide) rfl (fun hc => ?_) (fun hc => ?_)
  · replace hf := ifF hc hf
    refine v_aload_n g dk_0_reads_13 0 rfl rfl (pc' := 14) rfl ?_
    obtain ⟨q2, hq, hf⟩ := bnd hf
    refine v_callV_v (As := []) (rest := []) (S1 := q2) g hK hA (c_CX_findWhatTargetsRead hq) (kcC_X_204 g.2.2.2.2 rfl rfl (Nat.le_of_ble_eq_true rfl) (Nat.le_of_ble_eq_true rfl)) (ci := 0) (q0 := 0) rfl rfl rfl rfl rfl (Nat.le_of_ble_eq_true rfl) dk_0_reads_14 (Nat.zero_le _) (Nat.zero_le _) (pc' := 17) rfl ?_
    refine v_aload_n g dk_0_reads_17 0 rfl rfl (pc' := 18) rfl ?_
    refine gfC_X_40 g hK dk_0_reads_18 (pc' := 21) rfl ?_
    refine gfC_X_207 g hK dk_0_reads_21 (pc' := 24) rfl ?_
    refine v_iload_n g dk_0_reads_24 1 rfl rfl (pc' := 25) rfl ?_
    obtain ⟨hb3, hf⟩ := grd hf
    refine alC_15 g hK hb3 dk_0_reads_25 (pc' := 26) rfl ?_
    exact v_iret g hr hlk hK  (Option.some.inj hf) dk_0_reads_26
  · replace hf := ifT hc hf
    refine v_iconst (v := 0) g dk_0_reads_11 (by decide) (pc' := 12) rfl ?_
    exact v_iret g hr hlk hK  (Option.some.inj hf) dk_0_reads_12
abbrev rm_CX_trim : Room := { frames := 4, cells := 0, slots := 0, locals := 93 }
def m_CX_trim (S : StC) (x1 : Int32) (x2 : Int32) : Option (Int32 × StC) :=
  (m_CTargets_isThere S x1).bind fun q1 =>
    if q1 = 0 then some ((-1), S)
    else (m_CConfigurations_isThere S x2).bind fun q2 =>
    if q2 = 0 then some ((-1), S)
    else (m_CX_findWhatTargetsRead S).bind fun q3 =>
    if inb x2 60 = true then if inb x1 16 = true then (m_CX_trimmed q3 (gB q3 0 x2.toNatClampNeg) (gA q3 8 x1.toNatClampNeg)).bind fun q6 =>
    (m_CConfigurations_numberOf q3 q6).bind fun q7 =>
    some (q7.1, q7.2) else none else none
set_option maxHeartbeats 4000000 in
set_option maxRecDepth 100000 in
theorem c_CX_trim {l : Launch} {D : va_G} {ad : Nat → Nat} {ca : Nat → ClassId} {S : StC} {x1 : Int32} {x2 : Int32} {r : Int32 × StC} (hf : m_CX_trim S x1 x2 = some r) : KIC l D ad ca yk_0_trim (.code yk_0_trim bk_0_trim 5 (some .int) :: tb) rm_CX_trim [.ref (ad 0), .int x1, .int x2] S r := by
  refine met_i (by decide) (Nat.le_of_ble_eq_true rfl) (fun p e s m below meth c A g hr hlk hK hA => ?_)
  replace g : CallFix p m c bk_0_trim 5 s _ tb Rk_0 := g
  refine v_lv (lv' := [(0, .ref (ad 0)), (1, .int x1), (2, .int x2)]) rfl ?_
  unfold m_CX_trim at hf
  refine v_aload_n g dk_0_trim_0 0 rfl rfl (pc' := 1) rfl ?_
  refine gfC_X_40 g hK dk_0_trim_1 (pc' := 4) rfl ?_
  refine v_iload_n g dk_0_trim_4 1 rfl rfl (pc' := 5) rfl ?_
  obtain ⟨q1, hq, hf⟩ := bnd hf
  refine v_callV_i (As := [.int x1]) (rest := []) (r := q1) (S1 := S) g hK hA (c_CTargets_isThere hq) (kcC_X_121 g.2.2.2.2 rfl rfl (Nat.le_of_ble_eq_true rfl) (Nat.le_of_ble_eq_true rfl)) (ci := 9) (q0 := 13) rfl rfl rfl rfl rfl (Nat.le_of_ble_eq_true rfl) dk_0_trim_5 (Nat.zero_le _) (Nat.zero_le _) (pc' := 8) rfl ?_
  refine v_if_eq (tgt := 22) (pc' := 11) g dk_0_trim_8 (by decide) rfl (fun hc => ?_) (fun hc => ?_)
  · replace hf := ifT hc hf
    refine v_iconst (v := (-1)) g dk_0_trim_22 (by decide) (pc' := 23) rfl ?_
    exact v_iret g hr hlk hK  (Option.some.inj hf) dk_0_trim_23
  · replace hf := ifF hc hf
    refine v_aload_n g dk_0_trim_11 0 rfl rfl (pc' := 12) rfl ?_
    refine gfC_X_26 g hK dk_0_trim_12 (pc' := 15) rfl ?_
    refine v_iload_n g dk_0_trim_15 2 rfl rfl (pc' := 16) rfl ?_
    obtain ⟨q2, hq, hf⟩ := bnd hf
    refine v_callV_i (As := [.int x2]) (rest := []) (r := q2) (S1 := S) g hK hA (c_CConfigurations_isThere hq) (kcC_X_161 g.2.2.2.2 rfl rfl (Nat.le_of_ble_eq_true rfl) (Nat.le_of_ble_eq_true rfl)) (ci := 3) (q0 := 7) rfl rfl rfl rfl rfl (Nat.le_of_ble_eq_true rfl) dk_0_trim_16 (Nat.zero_le _) (Nat.zero_le _) (pc' := 19) rfl ?_
    refine v_if_ne (tgt := 24) (pc' := 22) g dk_0_trim_19 (by decide) rfl (fun hc => ?_) (fun hc => ?_)
    · replace hf := ifF hc hf
      refine v_aload_n g dk_0_trim_24 0 rfl rfl (pc' := 25) rfl ?_
      obtain ⟨q3, hq, hf⟩ := bnd hf
      refine v_callV_v (As := []) (rest := []) (S1 := q3) g hK hA (c_CX_findWhatTargetsRead hq) (kcC_X_204 g.2.2.2.2 rfl rfl (Nat.le_of_ble_eq_true rfl) (Nat.le_of_ble_eq_true rfl)) (ci := 0) (q0 := 0) rfl rfl rfl rfl rfl (Nat.le_of_ble_eq_true rfl) dk_0_trim_25 (Nat.zero_le _) (Nat.zero_le _) (pc' := 28) rfl ?_
      refine v_aload_n g dk_0_trim_28 0 rfl rfl (pc' := 29) rfl ?_
      refine gfC_X_26 g hK dk_0_trim_29 (pc' := 32) rfl ?_
      refine gfC_X_165 g hK dk_0_trim_32 (pc' := 35) rfl ?_
      refine v_iload_n g dk_0_trim_35 2 rfl rfl (pc' := 36) rfl ?_
      obtain ⟨hb4, hf⟩ := grd hf
      refine alC_8 g hK hb4 dk_0_trim_36 (pc' := 37) rfl ?_
      refine v_lstore_n (lv' := [(3, .long (gB q3 0 x2.toNatClampNeg)), (0, .ref (ad 0)), (1, .int x1), (2, .int x2)]) g dk_0_trim_37 rfl (by decide) rfl (pc' := 38) rfl ?_
      refine v_aload_n g dk_0_trim_38 1 rfl rfl (pc' := 39) rfl ?_
      refine gfC_X_26 g hK dk_0_trim_39 (pc' := 42) rfl ?_
      refine v_aload_n g dk_0_trim_42 1 rfl rfl (pc' := 43) rfl ?_
      refine v_lload_n g dk_0_trim_43 0 rfl rfl (pc' := 44) rfl ?_
      refine v_aload_n g dk_0_trim_44 1 rfl rfl (pc' := 45) rfl ?_
      refine gfC_X_40 g hK dk_0_trim_45 (pc' := 48) rfl ?_
      refine gfC_X_207 g hK dk_0_trim_48 (pc' := 51) rfl ?_
      refine v_iload_n g dk_0_trim_51 2 rfl rfl (pc' := 52) rfl ?_
      obtain ⟨hb5, hf⟩ := grd hf
      refine alC_15 g hK hb5 dk_0_trim_52 (pc' := 53) rfl ?_
      obtain ⟨q6, hq, hf⟩ := bnd hf
      refine v_callV_l (As := [.long (gB q3 0 x2.toNatClampNeg), .int (gA q3 8 x1.toNatClampNeg)]) (rest := [.ref (ad 7)]) (r := q6) (S1 := q3) g hK hA (c_CX_trimmed hq) (kcC_X_153 g.2.2.2.2 rfl rfl (Nat.le_of_ble_eq_true rfl) (Nat.le_of_ble_eq_true rfl)) (ci := 0) (q0 := 0) rfl rfl rfl rfl rfl (Nat.le_of_ble_eq_true rfl) dk_0_trim_53 (Nat.zero_le _) (Nat.zero_le _) (pc' := 56) rfl ?_
      obtain ⟨q7, hq, hf⟩ := bnd hf
      refine v_callV_i (As := [.long q6]) (rest := []) (r := q7.1) (S1 := q7.2) g hK hA (c_CConfigurations_numberOf hq) (kcC_X_157 g.2.2.2.2 rfl rfl (Nat.le_of_ble_eq_true rfl) (Nat.le_of_ble_eq_true rfl)) (ci := 3) (q0 := 7) rfl rfl rfl rfl rfl (Nat.le_of_ble_eq_true rfl) dk_0_trim_56 (Nat.zero_le _) (Nat.zero_le _) (pc' := 59) rfl ?_
      exact v_iret g hr hlk hK  (Option.some.inj hf) dk_0_trim_59
    · replace hf := ifT hc hf
      refine v_iconst (v := (-1)) g dk_0_trim_22 (by decide) (pc' := 23) rfl ?_
      exact v_iret g hr hlk hK  (Option.some.inj hf) dk_0_trim_23
abbrev rm_CPairs_clear : Room := { frames := 0, cells := 0, slots := 0, locals := 0 }
def m_CPairs_clear (S : StC) : Option StC :=
  some (sI S 7 0)
set_option maxHeartbeats 4000000 in
set_option maxRecDepth 100000 in
theorem c_CPairs_clear {l : Launch} {D : va_G} {ad : Nat → Nat} {ca : Nat → ClassId} {S : StC} {r : StC} (hf : m_CPairs_clear S = some r) : KVC l D ad ca yk_8_clear (.code yk_8_clear bk_8_clear 1 none :: tb) rm_CPairs_clear [.ref (ad 31)] S r := by
  refine met_v (by decide) (Nat.le_of_ble_eq_true rfl) (fun p e s m below meth c A g hr hlk hK hA => ?_)
  replace g : CallFix p m c bk_8_clear 1 s _ tb Rk_8 := g
  refine v_lv (lv' := [(0, .ref (ad 31))]) rfl ?_
  unfold m_CPairs_clear at hf
  refine v_aload_n g dk_8_clear_0 0 rfl rfl (pc' := 1) rfl ?_
  refine v_iconst (v := 0) g dk_8_clear_1 (by decide) (pc' := 2) rfl ?_
  refine pfC_Pairs_25 g hK dk_8_clear_2 (pc' := 5) rfl ?_
  exact v_vret g hr hlk hK  (Option.some.inj hf) dk_8_clear_5
abbrev rm_CPairs_numberOf : Room := { frames := 0, cells := 0, slots := 0, locals := 0 }
def L_CPairs_numberOf_2 (S : StC) (x1 : Int32) (x2 : Int32) : Nat → Int32 → Option (Unit ⊕ (Int32 × StC))
  | 0, _ => none
  | n + 1, x3 =>
    if (gI S 7) ≤ x3 then some (.inl ())
    else if inb x3 60 = true then if (gA S 21 x3.toNatClampNeg) = x1 then if (gA S 22 x3.toNatClampNeg) = x2 then some (.inr (x3, S))
    else L_CPairs_numberOf_2 S x1 x2 n (x3 + 1)
    else L_CPairs_numberOf_2 S x1 x2 n (x3 + 1) else none
set_option maxHeartbeats 4000000 in
set_option maxRecDepth 100000 in
theorem w_CPairs_numberOf_2 {p : Program} {l : Launch} {e : Env} {s : State} {m : MethodId} {args : Array Value} {below : List Frame} {meth : Method} {c : Code} {A : Nat → Prop} {D : va_G} {ad : Nat → Nat} {ca : Nat → ClassId} {Rm : Int32 × StC} {S : StC} {x1 : Int32} {x2 : Int32} (g : CallFix p m c bk_8_numberOf 4 s args tb Rk_8) (hr : meth.sig.returnType = some .int) (hlk : meth.locks = false) (hK : va_K D vwCl (tyC ca) s) (hA : ∀ q, s.heap.size ≤ q → A q) : ∀ (n : Nat) (x3 : Int32) (o : Unit ⊕ (Int32 × StC)), L_CPairs_numberOf_2 S x1 x2 n x3 = some o → (∀ y, o = .inl y → Vj p l e rm_CPairs_numberOf s m args below meth c (MQ below (qI D vwCl (tyC ca) (wdC ad ca) A Rm) args s 0 0 A) D vwCl A 4 0 0 (wdC ad ca S) 38 [(0, .ref (ad 31)), (1, .int x1), (2, .int x2)] []) → (∀ r, o = .inr r → r = Rm) → Vj p l e rm_CPairs_numberOf s m args below meth c (MQ below (qI D vwCl (tyC ca) (wdC ad ca) A Rm) args s 0 0 A) D vwCl A 4 0 0 (wdC ad ca S) 2 [(0, .ref (ad 31)), (1, .int x1), (2, .int x2), (3, .int x3)] [] := by
  intro n
  induction n with
  | zero => intro x3 o hf; exact nomatch (show none = some o from hf)
  | succ n ih =>
    intro x3 o hf hx hret
    rw [L_CPairs_numberOf_2] at hf
    refine v_iload_n g dk_8_numberOf_2 3 rfl rfl (pc' := 3) rfl ?_
    refine v_aload_n g dk_8_numberOf_3 0 rfl rfl (pc' := 4) rfl ?_
    refine gfC_Pairs_25 g hK dk_8_numberOf_4 (pc' := 7) rfl ?_
    refine v_icmp_ge (tgt := 38) (pc' := 10) g dk_8_numberOf_7 (by decide) rfl (fun hc => ?_) (fun hc => ?_)
    · replace hf := ifT hc hf
      refine v_sub [0, 1, 2] rfl ?_
      exact hx _ (Option.some.inj hf).symm
    · replace hf := ifF hc hf
      refine v_aload_n g dk_8_numberOf_10 0 rfl rfl (pc' := 11) rfl ?_
      refine gfC_Pairs_9 g hK dk_8_numberOf_11 (pc' := 14) rfl ?_
      refine v_iload_n g dk_8_numberOf_14 3 rfl rfl (pc' := 15) rfl ?_
      obtain ⟨hb1, hf⟩ := grd hf
      refine alC_32 g hK hb1 dk_8_numberOf_15 (pc' := 16) rfl ?_
      refine v_iload_n g dk_8_numberOf_16 1 rfl rfl (pc' := 17) rfl ?_
      refine v_icmp_ne (tgt := 32) (pc' := 20) g dk_8_numberOf_17 (by decide) rfl (fun hc => ?_) (fun hc => ?_)
      · replace hf := ifF hc hf
        refine v_iinc (j := 3) (v := x3 + 1) (lv' := [(3, .int (x3 + 1)), (0, .ref (ad 31)), (1, .int x1), (2, .int x2)]) g dk_8_numberOf_32 rfl rfl (by decide) rfl (pc' := 35) rfl ?_
        refine v_goto (tgt := 2) g dk_8_numberOf_35 (by decide) ?_
        refine v_sub [1, 2, 3, 0] rfl ?_
        exact ih (x3 + 1) o hf hx hret
      · replace hf := ifT hc hf
        refine v_aload_n g dk_8_numberOf_20 0 rfl rfl (pc' := 21) rfl ?_
        refine gfC_Pairs_15 g hK dk_8_numberOf_21 (pc' := 24) rfl ?_
        refine v_iload_n g dk_8_numberOf_24 3 rfl rfl (pc' := 25) rfl ?_
        refine alC_33 g hK hb1 dk_8_numberOf_25 (pc' := 26) rfl ?_
        refine v_iload_n g dk_8_numberOf_26 2 rfl rfl (pc' := 27) rfl ?_
        refine v_icmp_ne (tgt := 32) (pc' := 30) g dk_8_numberOf_27 (by decide) rfl (fun hc => ?_) (fun hc => ?_)
        · replace hf := ifF hc hf
          refine v_iinc (j := 3) (v := x3 + 1) (lv' := [(3, .int (x3 + 1)), (0, .ref (ad 31)), (1, .int x1), (2, .int x2)]) g dk_8_numberOf_32 rfl rfl (by decide) rfl (pc' := 35) rfl ?_
          refine v_goto (tgt := 2) g dk_8_numberOf_35 (by decide) ?_
          refine v_sub [1, 2, 3, 0] rfl ?_
          exact ih (x3 + 1) o hf hx hret
        · replace hf := ifT hc hf
          refine v_iload_n g dk_8_numberOf_30 3 rfl rfl (pc' := 31) rfl ?_
          exact v_iret g hr hlk hK  (hret _ (Option.some.inj hf).symm) dk_8_numberOf_31
def m_CPairs_numberOf (S : StC) (x1 : Int32) (x2 : Int32) : Option (Int32 × StC) :=
  (L_CPairs_numberOf_2 S x1 x2 100 0).bind fun o2 => exK o2 fun y3 =>
    if (gI S 7) < 60 then if inb (gI S 7) 60 = true then some (gI S 7, sI (tB (tA (tA (tA S 21 (gI S 7) x1) 22 (gI S 7) x2) 23 (gI S 7) 0) 2 (gI S 7) 0) 7 ((gI S 7) + (1 : Int32))) else none
    else some ((-1), S)
set_option maxHeartbeats 4000000 in
set_option maxRecDepth 100000 in
theorem c_CPairs_numberOf {l : Launch} {D : va_G} {ad : Nat → Nat} {ca : Nat → ClassId} {S : StC} {x1 : Int32} {x2 : Int32} {r : Int32 × StC} (hf : m_CPairs_numberOf S x1 x2 = some r) : KIC l D ad ca yk_8_numberOf (.code yk_8_numberOf bk_8_numberOf 4 (some .int) :: tb) rm_CPairs_numberOf [.ref (ad 31), .int x1, .int x2] S r := by
  refine met_i (by decide) (Nat.le_of_ble_eq_true rfl) (fun p e s m below meth c A g hr hlk hK hA => ?_)
  replace g : CallFix p m c bk_8_numberOf 4 s _ tb Rk_8 := g
  refine v_lv (lv' := [(0, .ref (ad 31)), (1, .int x1), (2, .int x2)]) rfl ?_
  unfold m_CPairs_numberOf at hf
  refine v_iconst (v := 0) g dk_8_numberOf_0 (by decide) (pc' := 1) rfl ?_
  refine v_istore_n (lv' := [(3, .int 0), (0, .ref (ad 31)), (1, .int x1), (2, .int x2)]) g dk_8_numberOf_1 rfl (by decide) rfl (pc' := 2) rfl ?_
  refine v_sub [1, 2, 3, 0] rfl ?_
  obtain ⟨o2, hL, hf⟩ := bnd hf
  refine w_CPairs_numberOf_2 g hr hlk hK hA 100 0 _ hL (fun y3 hy => ?_) (fun r9 hy => ?_)
  · subst hy
    replace hf := exKl hf
    refine v_aload_n g dk_8_numberOf_38 0 rfl rfl (pc' := 39) rfl ?_
    refine gfC_Pairs_25 g hK dk_8_numberOf_39 (pc' := 42) rfl ?_
    refine v_bipush (v := 60) g dk_8_numberOf_42 (by decide) (pc' := 44) rfl ?_
    refine v_icmp_lt (tgt := 49) (pc' := 47) g dk_8_numberOf_44 (by decide) rfl (fun hc => ?_) (fun hc => ?_)
    · replace hf := ifT hc hf
      refine v_aload_n g dk_8_numberOf_49 0 rfl rfl (pc' := 50) rfl ?_
      refine gfC_Pairs_9 g hK dk_8_numberOf_50 (pc' := 53) rfl ?_
      refine v_aload_n g dk_8_numberOf_53 0 rfl rfl (pc' := 54) rfl ?_
      refine gfC_Pairs_25 g hK dk_8_numberOf_54 (pc' := 57) rfl ?_
      refine v_iload_n g dk_8_numberOf_57 1 rfl rfl (pc' := 58) rfl ?_
      obtain ⟨hb4, hf⟩ := grd hf
      refine asC_32 g hK hb4 dk_8_numberOf_58 (pc' := 59) rfl ?_
      refine v_aload_n g dk_8_numberOf_59 0 rfl rfl (pc' := 60) rfl ?_
      refine gfC_Pairs_15 g hK dk_8_numberOf_60 (pc' := 63) rfl ?_
      refine v_aload_n g dk_8_numberOf_63 0 rfl rfl (pc' := 64) rfl ?_
      refine gfC_Pairs_25 g hK dk_8_numberOf_64 (pc' := 67) rfl ?_
      refine v_iload_n g dk_8_numberOf_67 2 rfl rfl (pc' := 68) rfl ?_
      refine asC_33 g hK hb4 dk_8_numberOf_68 (pc' := 69) rfl ?_
      refine v_aload_n g dk_8_numberOf_69 0 rfl rfl (pc' := 70) rfl ?_
      refine gfC_Pairs_18 g hK dk_8_numberOf_70 (pc' := 73) rfl ?_
      refine v_aload_n g dk_8_numberOf_73 0 rfl rfl (pc' := 74) rfl ?_
      refine gfC_Pairs_25 g hK dk_8_numberOf_74 (pc' := 77) rfl ?_
      refine v_iconst (v := 0) g dk_8_numberOf_77 (by decide) (pc' := 78) rfl ?_
      refine asC_34 g hK hb4 dk_8_numberOf_78 (pc' := 79) rfl ?_
      refine v_aload_n g dk_8_numberOf_79 0 rfl rfl (pc' := 80) rfl ?_
      refine gfC_Pairs_21 g hK dk_8_numberOf_80 (pc' := 83) rfl ?_
      refine v_aload_n g dk_8_numberOf_83 0 rfl rfl (pc' := 84) rfl ?_
      refine gfC_Pairs_25 g hK dk_8_numberOf_84 (pc' := 87) rfl ?_
      refine v_lconst (v := 0) g dk_8_numberOf_87 (by decide) (pc' := 88) rfl ?_
      refine asC_35 g hK hb4 dk_8_numberOf_88 (pc' := 89) rfl ?_
      refine v_aload_n g dk_8_numberOf_89 0 rfl rfl (pc' := 90) rfl ?_
      refine v_dup g dk_8_numberOf_90 rfl (pc' := 91) rfl ?_
      refine gfC_Pairs_25 g hK dk_8_numberOf_91 (pc' := 94) rfl ?_
      refine v_dup_x1 g dk_8_numberOf_94 rfl rfl (pc' := 95) rfl ?_
      refine v_iconst (v := 1) g dk_8_numberOf_95 (by decide) (pc' := 96) rfl ?_
      refine v_iadd g dk_8_numberOf_96 (pc' := 97) rfl ?_
      refine pfC_Pairs_25 g hK dk_8_numberOf_97 (pc' := 100) rfl ?_
      exact v_iret g hr hlk hK  (Option.some.inj hf) dk_8_numberOf_100
    · replace hf := ifF hc hf
      refine v_iconst (v := (-1)) g dk_8_numberOf_47 (by decide) (pc' := 48) rfl ?_
      exact v_iret g hr hlk hK  (Option.some.inj hf) dk_8_numberOf_48
  · subst hy
    exact Option.some.inj hf
abbrev rm_CX_pairOf : Room := { frames := 2, cells := 0, slots := 0, locals := 50 }
def m_CX_pairOf (S : StC) (x1 : Int32) (x2 : Int64) : Option (Int32 × StC) :=
  if inb x1 16 = true then (m_CX_trimmed S x2 (gA S 8 x1.toNatClampNeg)).bind fun q2 =>
    (m_CConfigurations_numberOf S q2).bind fun q3 =>
    if q3.1 = (-1) then some ((-1), q3.2)
    else (m_CPairs_numberOf q3.2 x1 q3.1).bind fun q4 =>
    some (q4.1, q4.2) else none
set_option maxHeartbeats 4000000 in
set_option maxRecDepth 100000 in
theorem c_CX_pairOf {l : Launch} {D : va_G} {ad : Nat → Nat} {ca : Nat → ClassId} {S : StC} {x1 : Int32} {x2 : Int64} {r : Int32 × StC} (hf : m_CX_pairOf S x1 x2 = some r) : KIC l D ad ca yk_0_pairOf (.code yk_0_pairOf bk_0_pairOf 5 (some .int) :: tb) rm_CX_pairOf [.ref (ad 0), .int x1, .long x2] S r := by
  refine met_i (by decide) (Nat.le_of_ble_eq_true rfl) (fun p e s m below meth c A g hr hlk hK hA => ?_)
  replace g : CallFix p m c bk_0_pairOf 5 s _ tb Rk_0 := g
  refine v_lv (lv' := [(0, .ref (ad 0)), (1, .int x1), (2, .long x2)]) rfl ?_
  unfold m_CX_pairOf at hf
  refine v_aload_n g dk_0_pairOf_0 0 rfl rfl (pc' := 1) rfl ?_
  refine gfC_X_26 g hK dk_0_pairOf_1 (pc' := 4) rfl ?_
  refine v_aload_n g dk_0_pairOf_4 0 rfl rfl (pc' := 5) rfl ?_
  refine v_lload_n g dk_0_pairOf_5 2 rfl rfl (pc' := 6) rfl ?_
  refine v_aload_n g dk_0_pairOf_6 0 rfl rfl (pc' := 7) rfl ?_
  refine gfC_X_40 g hK dk_0_pairOf_7 (pc' := 10) rfl ?_
  refine gfC_X_207 g hK dk_0_pairOf_10 (pc' := 13) rfl ?_
  refine v_iload_n g dk_0_pairOf_13 1 rfl rfl (pc' := 14) rfl ?_
  obtain ⟨hb1, hf⟩ := grd hf
  refine alC_15 g hK hb1 dk_0_pairOf_14 (pc' := 15) rfl ?_
  obtain ⟨q2, hq, hf⟩ := bnd hf
  refine v_callV_l (As := [.long x2, .int (gA S 8 x1.toNatClampNeg)]) (rest := [.ref (ad 7)]) (r := q2) (S1 := S) g hK hA (c_CX_trimmed hq) (kcC_X_153 g.2.2.2.2 rfl rfl (Nat.le_of_ble_eq_true rfl) (Nat.le_of_ble_eq_true rfl)) (ci := 0) (q0 := 0) rfl rfl rfl rfl rfl (Nat.le_of_ble_eq_true rfl) dk_0_pairOf_15 (Nat.zero_le _) (Nat.zero_le _) (pc' := 18) rfl ?_
  obtain ⟨q3, hq, hf⟩ := bnd hf
  refine v_callV_i (As := [.long q2]) (rest := []) (r := q3.1) (S1 := q3.2) g hK hA (c_CConfigurations_numberOf hq) (kcC_X_157 g.2.2.2.2 rfl rfl (Nat.le_of_ble_eq_true rfl) (Nat.le_of_ble_eq_true rfl)) (ci := 3) (q0 := 7) rfl rfl rfl rfl rfl (Nat.le_of_ble_eq_true rfl) dk_0_pairOf_18 (Nat.zero_le _) (Nat.zero_le _) (pc' := 21) rfl ?_
  refine v_istore (lv' := [(4, .int q3.1), (0, .ref (ad 0)), (1, .int x1), (2, .long x2)]) g dk_0_pairOf_21 (by decide) rfl (pc' := 23) rfl ?_
  refine v_iload g dk_0_pairOf_23 0 rfl (pc' := 25) rfl ?_
  refine v_iconst (v := (-1)) g dk_0_pairOf_25 (by decide) (pc' := 26) rfl ?_
  refine v_icmp_ne (tgt := 33) (pc' := 29) g dk_0_pairOf_26 (by decide) rfl (fun hc => ?_) (fun hc => ?_)
  · replace hf := ifF hc hf
    refine v_aload_n g dk_0_pairOf_33 1 rfl rfl (pc' := 34) rfl ?_
    refine gfC_X_61 g hK dk_0_pairOf_34 (pc' := 37) rfl ?_
    refine v_iload_n g dk_0_pairOf_37 2 rfl rfl (pc' := 38) rfl ?_
    refine v_iload g dk_0_pairOf_38 0 rfl (pc' := 40) rfl ?_
    obtain ⟨q4, hq, hf⟩ := bnd hf
    refine v_callV_i (As := [.int x1, .int q3.1]) (rest := []) (r := q4.1) (S1 := q4.2) g hK hA (c_CPairs_numberOf hq) (kcC_X_341 g.2.2.2.2 rfl rfl (Nat.le_of_ble_eq_true rfl) (Nat.le_of_ble_eq_true rfl)) (ci := 5) (q0 := 31) rfl rfl rfl rfl rfl (Nat.le_of_ble_eq_true rfl) dk_0_pairOf_40 (Nat.zero_le _) (Nat.zero_le _) (pc' := 43) rfl ?_
    exact v_iret g hr hlk hK  (Option.some.inj hf) dk_0_pairOf_43
  · replace hf := ifT hc hf
    refine v_iconst (v := (-1)) g dk_0_pairOf_29 (by decide) (pc' := 30) rfl ?_
    refine v_goto (tgt := 43) g dk_0_pairOf_30 (by decide) ?_
    exact v_iret g hr hlk hK  (Option.some.inj hf) dk_0_pairOf_43
end
section
abbrev rm_CNeeds_settingAt : Room := { frames := 0, cells := 0, slots := 0, locals := 0 }
def m_CNeeds_settingAt (S : StC) (x1 : Int32) (x2 : Int32) : Option Int32 :=
  if inb ((x1 * (2 : Int32)) + x2) 80 = true then some (gA S 19 ((x1 * (2 : Int32)) + x2).toNatClampNeg) else none
set_option maxHeartbeats 4000000 in
set_option maxRecDepth 100000 in
theorem c_CNeeds_settingAt {l : Launch} {D : va_G} {ad : Nat → Nat} {ca : Nat → ClassId} {S : StC} {x1 : Int32} {x2 : Int32} {r : Int32} (hf : m_CNeeds_settingAt S x1 x2 = some r) : KIC l D ad ca yk_7_settingAt (.code yk_7_settingAt bk_7_settingAt 3 (some .int) :: tb) rm_CNeeds_settingAt [.ref (ad 25), .int x1, .int x2] S (r, S) := by
  refine met_i (by decide) (Nat.le_of_ble_eq_true rfl) (fun p e s m below meth c A g hr hlk hK hA => ?_)
  replace g : CallFix p m c bk_7_settingAt 3 s _ tb Rk_7 := g
  refine v_lv (lv' := [(0, .ref (ad 25)), (1, .int x1), (2, .int x2)]) rfl ?_
  unfold m_CNeeds_settingAt at hf
  refine v_aload_n g dk_7_settingAt_0 0 rfl rfl (pc' := 1) rfl ?_
  refine gfC_Needs_21 g hK dk_7_settingAt_1 (pc' := 4) rfl ?_
  refine v_iload_n g dk_7_settingAt_4 1 rfl rfl (pc' := 5) rfl ?_
  refine v_iconst (v := 2) g dk_7_settingAt_5 (by decide) (pc' := 6) rfl ?_
  refine v_imul g dk_7_settingAt_6 (pc' := 7) rfl ?_
  refine v_iload_n g dk_7_settingAt_7 2 rfl rfl (pc' := 8) rfl ?_
  refine v_iadd g dk_7_settingAt_8 (pc' := 9) rfl ?_
  obtain ⟨hb1, hf⟩ := grd hf
  refine alC_29 g hK hb1 dk_7_settingAt_9 (pc' := 10) rfl ?_
  exact v_iret g hr hlk hK  (pinj hf) dk_7_settingAt_10
abbrev rm_CX_changedBase : Room := { frames := 2, cells := 0, slots := 0, locals := 44 }
def m_CX_changedBase (S : StC) (x1 : Int32) (x2 : Int32) : Option Int32 :=
  if inb x1 40 = true then if (gA S 18 x1.toNatClampNeg) ≤ x2 then some (-1)
    else (m_CNeeds_settingAt S x1 x2).bind fun q2 =>
    (m_CSettings_baseOf S q2).bind fun q3 =>
    some q3 else none
set_option maxHeartbeats 4000000 in
set_option maxRecDepth 100000 in
theorem c_CX_changedBase {l : Launch} {D : va_G} {ad : Nat → Nat} {ca : Nat → ClassId} {S : StC} {x1 : Int32} {x2 : Int32} {r : Int32} (hf : m_CX_changedBase S x1 x2 = some r) : KIC l D ad ca yk_0_changedBase (.code yk_0_changedBase bk_0_changedBase 3 (some .int) :: tb) rm_CX_changedBase [.ref (ad 0), .int x1, .int x2] S (r, S) := by
  refine met_i (by decide) (Nat.le_of_ble_eq_true rfl) (fun p e s m below meth c A g hr hlk hK hA => ?_)
  replace g : CallFix p m c bk_0_changedBase 3 s _ tb Rk_0 := g
  refine v_lv (lv' := [(0, .ref (ad 0)), (1, .int x1), (2, .int x2)]) rfl ?_
  unfold m_CX_changedBase at hf
  refine v_iload_n g dk_0_changedBase_0 2 rfl rfl (pc' := 1) rfl ?_
  refine v_aload_n g dk_0_changedBase_1 0 rfl rfl (pc' := 2) rfl ?_
  refine gfC_X_54 g hK dk_0_changedBase_2 (pc' := 5) rfl ?_
  refine gfC_X_332 g hK dk_0_changedBase_5 (pc' := 8) rfl ?_
  refine v_iload_n g dk_0_changedBase_8 1 rfl rfl (pc' := 9) rfl ?_
  obtain ⟨hb1, hf⟩ := grd hf
  refine alC_28 g hK hb1 dk_0_changedBase_9 (pc' := 10) rfl ?_
  refine v_icmp_ge (tgt := 32) (pc' := 13) g dk_0_changedBase_10 (by decide) rfl (fun hc => ?_) (fun hc => ?_)
  · replace hf := ifT hc hf
    refine v_iconst (v := (-1)) g dk_0_changedBase_32 (by decide) (pc' := 33) rfl ?_
    exact v_iret g hr hlk hK  (pinj hf) dk_0_changedBase_33
  · replace hf := ifF hc hf
    refine v_aload_n g dk_0_changedBase_13 0 rfl rfl (pc' := 14) rfl ?_
    refine gfC_X_12 g hK dk_0_changedBase_14 (pc' := 17) rfl ?_
    refine v_aload_n g dk_0_changedBase_17 0 rfl rfl (pc' := 18) rfl ?_
    refine gfC_X_54 g hK dk_0_changedBase_18 (pc' := 21) rfl ?_
    refine v_iload_n g dk_0_changedBase_21 1 rfl rfl (pc' := 22) rfl ?_
    refine v_iload_n g dk_0_changedBase_22 2 rfl rfl (pc' := 23) rfl ?_
    obtain ⟨q2, hq, hf⟩ := bnd hf
    refine v_callV_i (As := [.int x1, .int x2]) (rest := [.ref (ad 1)]) (r := q2) (S1 := S) g hK hA (c_CNeeds_settingAt hq) (kcC_X_335 g.2.2.2.2 rfl rfl (Nat.le_of_ble_eq_true rfl) (Nat.le_of_ble_eq_true rfl)) (ci := 4) (q0 := 25) rfl rfl rfl rfl rfl (Nat.le_of_ble_eq_true rfl) dk_0_changedBase_23 (Nat.zero_le _) (Nat.zero_le _) (pc' := 26) rfl ?_
    obtain ⟨q3, hq, hf⟩ := bnd hf
    refine v_callV_i (As := [.int q2]) (rest := []) (r := q3) (S1 := S) g hK hA (c_CSettings_baseOf hq) (kcC_X_83 g.2.2.2.2 rfl rfl (Nat.le_of_ble_eq_true rfl) (Nat.le_of_ble_eq_true rfl)) (ci := 8) (q0 := 1) rfl rfl rfl rfl rfl (Nat.le_of_ble_eq_true rfl) dk_0_changedBase_26 (Nat.zero_le _) (Nat.zero_le _) (pc' := 29) rfl ?_
    refine v_goto (tgt := 33) g dk_0_changedBase_29 (by decide) ?_
    exact v_iret g hr hlk hK  (pinj hf) dk_0_changedBase_33
abbrev rm_CNeeds_valuesAt : Room := { frames := 0, cells := 0, slots := 0, locals := 0 }
def m_CNeeds_valuesAt (S : StC) (x1 : Int32) (x2 : Int32) : Option Int32 :=
  if inb ((x1 * (2 : Int32)) + x2) 80 = true then some (gA S 20 ((x1 * (2 : Int32)) + x2).toNatClampNeg) else none
set_option maxHeartbeats 4000000 in
set_option maxRecDepth 100000 in
theorem c_CNeeds_valuesAt {l : Launch} {D : va_G} {ad : Nat → Nat} {ca : Nat → ClassId} {S : StC} {x1 : Int32} {x2 : Int32} {r : Int32} (hf : m_CNeeds_valuesAt S x1 x2 = some r) : KIC l D ad ca yk_7_valuesAt (.code yk_7_valuesAt bk_7_valuesAt 3 (some .int) :: tb) rm_CNeeds_valuesAt [.ref (ad 25), .int x1, .int x2] S (r, S) := by
  refine met_i (by decide) (Nat.le_of_ble_eq_true rfl) (fun p e s m below meth c A g hr hlk hK hA => ?_)
  replace g : CallFix p m c bk_7_valuesAt 3 s _ tb Rk_7 := g
  refine v_lv (lv' := [(0, .ref (ad 25)), (1, .int x1), (2, .int x2)]) rfl ?_
  unfold m_CNeeds_valuesAt at hf
  refine v_aload_n g dk_7_valuesAt_0 0 rfl rfl (pc' := 1) rfl ?_
  refine gfC_Needs_24 g hK dk_7_valuesAt_1 (pc' := 4) rfl ?_
  refine v_iload_n g dk_7_valuesAt_4 1 rfl rfl (pc' := 5) rfl ?_
  refine v_iconst (v := 2) g dk_7_valuesAt_5 (by decide) (pc' := 6) rfl ?_
  refine v_imul g dk_7_valuesAt_6 (pc' := 7) rfl ?_
  refine v_iload_n g dk_7_valuesAt_7 2 rfl rfl (pc' := 8) rfl ?_
  refine v_iadd g dk_7_valuesAt_8 (pc' := 9) rfl ?_
  obtain ⟨hb1, hf⟩ := grd hf
  refine alC_30 g hK hb1 dk_7_valuesAt_9 (pc' := 10) rfl ?_
  exact v_iret g hr hlk hK  (pinj hf) dk_7_valuesAt_10
abbrev rm_CX_turnsOf : Room := { frames := 1, cells := 0, slots := 0, locals := 22 }
def m_CX_turnsOf (S : StC) (x1 : Int32) (x2 : Int32) (x3 : Int32) : Option Int32 :=
  if x3 = (-1) then some 1
    else (m_CNeeds_valuesAt S x1 x2).bind fun q1 =>
    if inb x3 16 = true then some (q1 &&& (((1 : Int32) <<< ((gA S 0 x3.toNatClampNeg) &&& 31)) - (1 : Int32))) else none
set_option maxHeartbeats 4000000 in
set_option maxRecDepth 100000 in
theorem c_CX_turnsOf {l : Launch} {D : va_G} {ad : Nat → Nat} {ca : Nat → ClassId} {S : StC} {x1 : Int32} {x2 : Int32} {x3 : Int32} {r : Int32} (hf : m_CX_turnsOf S x1 x2 x3 = some r) : KIC l D ad ca yk_0_turnsOf (.code yk_0_turnsOf bk_0_turnsOf 4 (some .int) :: tb) rm_CX_turnsOf [.ref (ad 0), .int x1, .int x2, .int x3] S (r, S) := by
  refine met_i (by decide) (Nat.le_of_ble_eq_true rfl) (fun p e s m below meth c A g hr hlk hK hA => ?_)
  replace g : CallFix p m c bk_0_turnsOf 4 s _ tb Rk_0 := g
  refine v_lv (lv' := [(0, .ref (ad 0)), (1, .int x1), (2, .int x2), (3, .int x3)]) rfl ?_
  unfold m_CX_turnsOf at hf
  refine v_iload_n g dk_0_turnsOf_0 3 rfl rfl (pc' := 1) rfl ?_
  refine v_iconst (v := (-1)) g dk_0_turnsOf_1 (by decide) (pc' := 2) rfl ?_
  refine v_icmp_ne (tgt := 7) (pc' := 5) g dk_0_turnsOf_2 (by decide) rfl (fun hc => ?_) (fun hc => ?_)
  · replace hf := ifF hc hf
    refine v_aload_n g dk_0_turnsOf_7 0 rfl rfl (pc' := 8) rfl ?_
    refine gfC_X_54 g hK dk_0_turnsOf_8 (pc' := 11) rfl ?_
    refine v_iload_n g dk_0_turnsOf_11 1 rfl rfl (pc' := 12) rfl ?_
    refine v_iload_n g dk_0_turnsOf_12 2 rfl rfl (pc' := 13) rfl ?_
    obtain ⟨q1, hq, hf⟩ := bnd hf
    refine v_callV_i (As := [.int x1, .int x2]) (rest := []) (r := q1) (S1 := S) g hK hA (c_CNeeds_valuesAt hq) (kcC_X_338 g.2.2.2.2 rfl rfl (Nat.le_of_ble_eq_true rfl) (Nat.le_of_ble_eq_true rfl)) (ci := 4) (q0 := 25) rfl rfl rfl rfl rfl (Nat.le_of_ble_eq_true rfl) dk_0_turnsOf_13 (Nat.zero_le _) (Nat.zero_le _) (pc' := 16) rfl ?_
    refine v_iconst (v := 1) g dk_0_turnsOf_16 (by decide) (pc' := 17) rfl ?_
    refine v_aload_n g dk_0_turnsOf_17 0 rfl rfl (pc' := 18) rfl ?_
    refine gfC_X_12 g hK dk_0_turnsOf_18 (pc' := 21) rfl ?_
    refine gfC_X_162 g hK dk_0_turnsOf_21 (pc' := 24) rfl ?_
    refine v_iload_n g dk_0_turnsOf_24 3 rfl rfl (pc' := 25) rfl ?_
    obtain ⟨hb2, hf⟩ := grd hf
    refine alC_2 g hK hb2 dk_0_turnsOf_25 (pc' := 26) rfl ?_
    refine v_ishl g dk_0_turnsOf_26 (pc' := 27) rfl ?_
    refine v_iconst (v := 1) g dk_0_turnsOf_27 (by decide) (pc' := 28) rfl ?_
    refine v_isub g dk_0_turnsOf_28 (pc' := 29) rfl ?_
    refine v_iand g dk_0_turnsOf_29 (pc' := 30) rfl ?_
    exact v_iret g hr hlk hK  (pinj hf) dk_0_turnsOf_30
  · replace hf := ifT hc hf
    refine v_iconst (v := 1) g dk_0_turnsOf_5 (by decide) (pc' := 6) rfl ?_
    exact v_iret g hr hlk hK  (pinj hf) dk_0_turnsOf_6
abbrev rm_CX_afterChange : Room := { frames := 1, cells := 0, slots := 0, locals := 24 }
def m_CX_afterChange (S : StC) (x0 : Int64) (x2 : Int32) (x3 : Int32) : Option Int64 :=
  if x2 = (-1) then some x0
    else (m_CCodes_withValue S x0 x2 x3).bind fun q1 =>
    some q1
set_option maxHeartbeats 4000000 in
set_option maxRecDepth 100000 in
theorem c_CX_afterChange {l : Launch} {D : va_G} {ad : Nat → Nat} {ca : Nat → ClassId} {S : StC} {x0 : Int64} {x2 : Int32} {x3 : Int32} {r : Int64} (hf : m_CX_afterChange S x0 x2 x3 = some r) : KLC l D ad ca yk_0_afterChange (.code yk_0_afterChange bk_0_afterChange 4 (some .long) :: tb) rm_CX_afterChange [.long x0, .int x2, .int x3] S (r, S) := by
  refine met_l (by decide) (Nat.le_of_ble_eq_true rfl) (fun p e s m below meth c A g hr hlk hK hA => ?_)
  replace g : CallFix p m c bk_0_afterChange 4 s _ tb Rk_0 := g
  refine v_lv (lv' := [(0, .long x0), (2, .int x2), (3, .int x3)]) rfl ?_
  unfold m_CX_afterChange at hf
  refine v_iload_n g dk_0_afterChange_0 1 rfl rfl (pc' := 1) rfl ?_
  refine v_iconst (v := (-1)) g dk_0_afterChange_1 (by decide) (pc' := 2) rfl ?_
  refine v_icmp_ne (tgt := 9) (pc' := 5) g dk_0_afterChange_2 (by decide) rfl (fun hc => ?_) (fun hc => ?_)
  · replace hf := ifF hc hf
    refine v_lload_n g dk_0_afterChange_9 0 rfl rfl (pc' := 10) rfl ?_
    refine v_iload_n g dk_0_afterChange_10 1 rfl rfl (pc' := 11) rfl ?_
    refine v_iload_n g dk_0_afterChange_11 2 rfl rfl (pc' := 12) rfl ?_
    obtain ⟨q1, hq, hf⟩ := bnd hf
    refine v_callS_l (As := [.long x0, .int x2, .int x3]) (rest := []) (r := q1) (S1 := S) g hK hA (c_CCodes_withValue hq) (kcC_X_168 g.2.2.2.2 rfl rfl (Nat.le_of_ble_eq_true rfl) (Nat.le_of_ble_eq_true rfl)) rfl rfl (Nat.le_of_ble_eq_true rfl) dk_0_afterChange_12 (Nat.zero_le _) (Nat.zero_le _) (pc' := 15) rfl ?_
    exact v_lret g hr hlk hK  (pinj hf) dk_0_afterChange_15
  · replace hf := ifT hc hf
    refine v_lload_n g dk_0_afterChange_5 0 rfl rfl (pc' := 6) rfl ?_
    refine v_goto (tgt := 15) g dk_0_afterChange_6 (by decide) ?_
    exact v_lret g hr hlk hK  (pinj hf) dk_0_afterChange_15
abbrev rm_CX_followNeed : Room := { frames := 3, cells := 0, slots := 0, locals := 74 }
def L_CX_followNeed_90 (x1 : Int32) (x2 : Int32) (x3 : Int64) (x5 : Int32) (x6 : Int32) (x7 : Int32) (x8 : Int32) (x9 : Int32) (x10 : Int64) : Nat → StC → Int32 → Option (StC ⊕ (Int32 × StC))
  | 0, _, _ => none
  | n + 1, S, x12 =>
    if 8 ≤ x12 then some (.inl S)
    else (m_CX_hasBit S x8 x12).bind fun q9 =>
    if q9 = 0 then L_CX_followNeed_90 x1 x2 x3 x5 x6 x7 x8 x9 x10 n S (x12 + 1)
    else if inb x2 40 = true then (m_CX_afterChange S x10 x6 x12).bind fun q11 =>
    (m_CX_pairOf S (gA S 17 x2.toNatClampNeg) q11).bind fun q12 =>
    if q12.1 = (-1) then some (.inr (0, q12.2))
    else if inb x1 60 = true then L_CX_followNeed_90 x1 x2 x3 x5 x6 x7 x8 x9 x10 n (tB q12.2 2 x1 ((gB q12.2 2 x1.toNatClampNeg) ||| ((1 : Int64) <<< (q12.1.toInt64 &&& 63)))) (x12 + 1) else none else none
set_option maxHeartbeats 4000000 in
set_option maxRecDepth 100000 in
theorem w_CX_followNeed_90 {p : Program} {l : Launch} {e : Env} {s : State} {m : MethodId} {args : Array Value} {below : List Frame} {meth : Method} {c : Code} {A : Nat → Prop} {D : va_G} {ad : Nat → Nat} {ca : Nat → ClassId} {Rm : Int32 × StC} {x1 : Int32} {x2 : Int32} {x3 : Int64} {x5 : Int32} {x6 : Int32} {x7 : Int32} {x8 : Int32} {x9 : Int32} {x10 : Int64} (g : CallFix p m c bk_0_followNeed 14 s args tb Rk_0) (hr : meth.sig.returnType = some .boolean) (hlk : meth.locks = false) (hK : va_K D vwCl (tyC ca) s) (hA : ∀ q, s.heap.size ≤ q → A q) : ∀ (n : Nat) (S : StC) (x12 : Int32) (o : StC ⊕ (Int32 × StC)), L_CX_followNeed_90 x1 x2 x3 x5 x6 x7 x8 x9 x10 n S x12 = some o → (∀ y, o = .inl y → Vj p l e rm_CX_followNeed s m args below meth c (MQ below (qI D vwCl (tyC ca) (wdC ad ca) A Rm) args s 0 0 A) D vwCl A 14 0 0 (wdC ad ca y) 164 [(0, .ref (ad 0)), (1, .int x1), (2, .int x2), (3, .long x3), (5, .int x5), (6, .int x6), (7, .int x7), (8, .int x8), (9, .int x9)] []) → (∀ r, o = .inr r → r = Rm) → Vj p l e rm_CX_followNeed s m args below meth c (MQ below (qI D vwCl (tyC ca) (wdC ad ca) A Rm) args s 0 0 A) D vwCl A 14 0 0 (wdC ad ca S) 90 [(0, .ref (ad 0)), (1, .int x1), (2, .int x2), (3, .long x3), (5, .int x5), (6, .int x6), (7, .int x7), (8, .int x8), (9, .int x9), (10, .long x10), (12, .int x12)] [] := by
  intro n
  induction n with
  | zero => intro S x12 o hf; exact nomatch (show none = some o from hf)
  | succ n ih =>
    intro S x12 o hf hx hret
    rw [L_CX_followNeed_90] at hf
    refine v_iload g dk_0_followNeed_90 10 rfl (pc' := 92) rfl ?_
    refine v_bipush (v := 8) g dk_0_followNeed_92 (by decide) (pc' := 94) rfl ?_
    refine v_icmp_ge (tgt := 164) (pc' := 97) g dk_0_followNeed_94 (by decide) rfl (fun hc => ?_) (fun hc => ?_)
    · replace hf := ifT hc hf
      refine v_sub [0, 1, 2, 3, 4, 5, 6, 7, 8] rfl ?_
      exact hx _ (Option.some.inj hf).symm
    · replace hf := ifF hc hf
      refine v_iload g dk_0_followNeed_97 7 rfl (pc' := 99) rfl ?_
      refine v_iload g dk_0_followNeed_99 10 rfl (pc' := 101) rfl ?_
      obtain ⟨q9, hq, hf⟩ := bnd hf
      refine v_callS_i (As := [.int x8, .int x12]) (rest := []) (r := q9) (S1 := S) g hK hA (c_CX_hasBit hq) (kcC_X_269 g.2.2.2.2 rfl rfl (Nat.le_of_ble_eq_true rfl) (Nat.le_of_ble_eq_true rfl)) rfl rfl (Nat.le_of_ble_eq_true rfl) dk_0_followNeed_101 (Nat.zero_le _) (Nat.zero_le _) (pc' := 104) rfl ?_
      refine v_if_ne (tgt := 110) (pc' := 107) g dk_0_followNeed_104 (by decide) rfl (fun hc => ?_) (fun hc => ?_)
      · replace hf := ifF hc hf
        refine v_aload_n g dk_0_followNeed_110 0 rfl rfl (pc' := 111) rfl ?_
        refine v_aload_n g dk_0_followNeed_111 0 rfl rfl (pc' := 112) rfl ?_
        refine gfC_X_54 g hK dk_0_followNeed_112 (pc' := 115) rfl ?_
        refine gfC_X_307 g hK dk_0_followNeed_115 (pc' := 118) rfl ?_
        refine v_iload_n g dk_0_followNeed_118 2 rfl rfl (pc' := 119) rfl ?_
        obtain ⟨hb10, hf⟩ := grd hf
        refine alC_27 g hK hb10 dk_0_followNeed_119 (pc' := 120) rfl ?_
        refine v_lload g dk_0_followNeed_120 9 rfl (pc' := 122) rfl ?_
        refine v_iload g dk_0_followNeed_122 5 rfl (pc' := 124) rfl ?_
        refine v_iload g dk_0_followNeed_124 10 rfl (pc' := 126) rfl ?_
        obtain ⟨q11, hq, hf⟩ := bnd hf
        refine v_callS_l (As := [.long x10, .int x6, .int x12]) (rest := [.int (gA S 17 x2.toNatClampNeg), .ref (ad 0)]) (r := q11) (S1 := S) g hK hA (c_CX_afterChange hq) (kcC_X_326 g.2.2.2.2 rfl rfl (Nat.le_of_ble_eq_true rfl) (Nat.le_of_ble_eq_true rfl)) rfl rfl (Nat.le_of_ble_eq_true rfl) dk_0_followNeed_126 (Nat.zero_le _) (Nat.zero_le _) (pc' := 129) rfl ?_
        obtain ⟨q12, hq, hf⟩ := bnd hf
        refine v_callV_i (As := [.int (gA S 17 x2.toNatClampNeg), .long q11]) (rest := []) (r := q12.1) (S1 := q12.2) g hK hA (c_CX_pairOf hq) (kcC_X_314 g.2.2.2.2 rfl rfl (Nat.le_of_ble_eq_true rfl) (Nat.le_of_ble_eq_true rfl)) (ci := 0) (q0 := 0) rfl rfl rfl rfl rfl (Nat.le_of_ble_eq_true rfl) dk_0_followNeed_129 (Nat.zero_le _) (Nat.zero_le _) (pc' := 132) rfl ?_
        refine v_istore (lv' := [(13, .int q12.1), (0, .ref (ad 0)), (1, .int x1), (2, .int x2), (3, .long x3), (5, .int x5), (6, .int x6), (7, .int x7), (8, .int x8), (9, .int x9), (10, .long x10), (12, .int x12)]) g dk_0_followNeed_132 (by decide) rfl (pc' := 134) rfl ?_
        refine v_iload g dk_0_followNeed_134 0 rfl (pc' := 136) rfl ?_
        refine v_iconst (v := (-1)) g dk_0_followNeed_136 (by decide) (pc' := 137) rfl ?_
        refine v_icmp_ne (tgt := 142) (pc' := 140) g dk_0_followNeed_137 (by decide) rfl (fun hc => ?_) (fun hc => ?_)
        · replace hf := ifF hc hf
          refine v_aload_n g dk_0_followNeed_142 1 rfl rfl (pc' := 143) rfl ?_
          refine gfC_X_61 g hK dk_0_followNeed_143 (pc' := 146) rfl ?_
          refine gfC_X_329 g hK dk_0_followNeed_146 (pc' := 149) rfl ?_
          refine v_iload_n g dk_0_followNeed_149 2 rfl rfl (pc' := 150) rfl ?_
          refine v_dup2 g dk_0_followNeed_150 rfl rfl (pc' := 151) rfl ?_
          obtain ⟨hb13, hf⟩ := grd hf
          refine alC_35 g hK hb13 dk_0_followNeed_151 (pc' := 152) rfl ?_
          refine v_lconst (v := 1) g dk_0_followNeed_152 (by decide) (pc' := 153) rfl ?_
          refine v_iload g dk_0_followNeed_153 0 rfl (pc' := 155) rfl ?_
          refine v_lshl g dk_0_followNeed_155 (pc' := 156) rfl ?_
          refine v_lor g dk_0_followNeed_156 (pc' := 157) rfl ?_
          refine asC_35 g hK hb13 dk_0_followNeed_157 (pc' := 158) rfl ?_
          refine v_iinc (j := 11) (v := x12 + 1) (lv' := [(12, .int (x12 + 1)), (13, .int q12.1), (0, .ref (ad 0)), (1, .int x1), (2, .int x2), (3, .long x3), (5, .int x5), (6, .int x6), (7, .int x7), (8, .int x8), (9, .int x9), (10, .long x10)]) g dk_0_followNeed_158 rfl rfl (by decide) rfl (pc' := 161) rfl ?_
          refine v_goto (tgt := 90) g dk_0_followNeed_161 (by decide) ?_
          refine v_sub [2, 3, 4, 5, 6, 7, 8, 9, 10, 11, 0] rfl ?_
          exact ih (tB q12.2 2 x1 ((gB q12.2 2 x1.toNatClampNeg) ||| ((1 : Int64) <<< (q12.1.toInt64 &&& 63)))) (x12 + 1) o hf hx hret
        · replace hf := ifT hc hf
          refine v_iconst (v := 0) g dk_0_followNeed_140 (by decide) (pc' := 141) rfl ?_
          exact v_zret g hr hlk hK rfl (hret _ (Option.some.inj hf).symm) dk_0_followNeed_141
      · replace hf := ifT hc hf
        refine v_goto (tgt := 158) g dk_0_followNeed_107 (by decide) ?_
        refine v_iinc (j := 10) (v := x12 + 1) (lv' := [(12, .int (x12 + 1)), (0, .ref (ad 0)), (1, .int x1), (2, .int x2), (3, .long x3), (5, .int x5), (6, .int x6), (7, .int x7), (8, .int x8), (9, .int x9), (10, .long x10)]) g dk_0_followNeed_158 rfl rfl (by decide) rfl (pc' := 161) rfl ?_
        refine v_goto (tgt := 90) g dk_0_followNeed_161 (by decide) ?_
        refine v_sub [1, 2, 3, 4, 5, 6, 7, 8, 9, 10, 0] rfl ?_
        exact ih S (x12 + 1) o hf hx hret
def L_CX_followNeed_57 (x1 : Int32) (x2 : Int32) (x3 : Int64) (x5 : Int32) (x6 : Int32) (x7 : Int32) (x8 : Int32) : Nat → StC → Int32 → Option (StC ⊕ (Int32 × StC))
  | 0, _, _ => none
  | n + 1, S, x9 =>
    if 8 ≤ x9 then some (.inl S)
    else (m_CX_hasBit S x7 x9).bind fun q7 =>
    if q7 = 0 then L_CX_followNeed_57 x1 x2 x3 x5 x6 x7 x8 n S (x9 + 1)
    else (m_CX_afterChange S x3 x5 x9).bind fun q8 =>
    (L_CX_followNeed_90 x1 x2 x3 x5 x6 x7 x8 x9 q8 100 S 0).bind fun o14 => exL o14 fun y15 =>
    L_CX_followNeed_57 x1 x2 x3 x5 x6 x7 x8 n y15 (x9 + 1)
set_option maxHeartbeats 4000000 in
set_option maxRecDepth 100000 in
theorem w_CX_followNeed_57 {p : Program} {l : Launch} {e : Env} {s : State} {m : MethodId} {args : Array Value} {below : List Frame} {meth : Method} {c : Code} {A : Nat → Prop} {D : va_G} {ad : Nat → Nat} {ca : Nat → ClassId} {Rm : Int32 × StC} {x1 : Int32} {x2 : Int32} {x3 : Int64} {x5 : Int32} {x6 : Int32} {x7 : Int32} {x8 : Int32} (g : CallFix p m c bk_0_followNeed 14 s args tb Rk_0) (hr : meth.sig.returnType = some .boolean) (hlk : meth.locks = false) (hK : va_K D vwCl (tyC ca) s) (hA : ∀ q, s.heap.size ≤ q → A q) : ∀ (n : Nat) (S : StC) (x9 : Int32) (o : StC ⊕ (Int32 × StC)), L_CX_followNeed_57 x1 x2 x3 x5 x6 x7 x8 n S x9 = some o → (∀ y, o = .inl y → Vj p l e rm_CX_followNeed s m args below meth c (MQ below (qI D vwCl (tyC ca) (wdC ad ca) A Rm) args s 0 0 A) D vwCl A 14 0 0 (wdC ad ca y) 170 [] []) → (∀ r, o = .inr r → r = Rm) → Vj p l e rm_CX_followNeed s m args below meth c (MQ below (qI D vwCl (tyC ca) (wdC ad ca) A Rm) args s 0 0 A) D vwCl A 14 0 0 (wdC ad ca S) 57 [(0, .ref (ad 0)), (1, .int x1), (2, .int x2), (3, .long x3), (5, .int x5), (6, .int x6), (7, .int x7), (8, .int x8), (9, .int x9)] [] := by
  intro n
  induction n with
  | zero => intro S x9 o hf; exact nomatch (show none = some o from hf)
  | succ n ih =>
    intro S x9 o hf hx hret
    rw [L_CX_followNeed_57] at hf
    refine v_iload g dk_0_followNeed_57 8 rfl (pc' := 59) rfl ?_
    refine v_bipush (v := 8) g dk_0_followNeed_59 (by decide) (pc' := 61) rfl ?_
    refine v_icmp_ge (tgt := 170) (pc' := 64) g dk_0_followNeed_61 (by decide) rfl (fun hc => ?_) (fun hc => ?_)
    · replace hf := ifT hc hf
      refine v_sub [] rfl ?_
      exact hx _ (Option.some.inj hf).symm
    · replace hf := ifF hc hf
      refine v_iload g dk_0_followNeed_64 6 rfl (pc' := 66) rfl ?_
      refine v_iload g dk_0_followNeed_66 8 rfl (pc' := 68) rfl ?_
      obtain ⟨q7, hq, hf⟩ := bnd hf
      refine v_callS_i (As := [.int x7, .int x9]) (rest := []) (r := q7) (S1 := S) g hK hA (c_CX_hasBit hq) (kcC_X_269 g.2.2.2.2 rfl rfl (Nat.le_of_ble_eq_true rfl) (Nat.le_of_ble_eq_true rfl)) rfl rfl (Nat.le_of_ble_eq_true rfl) dk_0_followNeed_68 (Nat.zero_le _) (Nat.zero_le _) (pc' := 71) rfl ?_
      refine v_if_ne (tgt := 77) (pc' := 74) g dk_0_followNeed_71 (by decide) rfl (fun hc => ?_) (fun hc => ?_)
      · replace hf := ifF hc hf
        refine v_lload_n g dk_0_followNeed_77 3 rfl rfl (pc' := 78) rfl ?_
        refine v_iload g dk_0_followNeed_78 4 rfl (pc' := 80) rfl ?_
        refine v_iload g dk_0_followNeed_80 8 rfl (pc' := 82) rfl ?_
        obtain ⟨q8, hq, hf⟩ := bnd hf
        refine v_callS_l (As := [.long x3, .int x5, .int x9]) (rest := []) (r := q8) (S1 := S) g hK hA (c_CX_afterChange hq) (kcC_X_326 g.2.2.2.2 rfl rfl (Nat.le_of_ble_eq_true rfl) (Nat.le_of_ble_eq_true rfl)) rfl rfl (Nat.le_of_ble_eq_true rfl) dk_0_followNeed_82 (Nat.zero_le _) (Nat.zero_le _) (pc' := 85) rfl ?_
        refine v_lstore (lv' := [(10, .long q8), (0, .ref (ad 0)), (1, .int x1), (2, .int x2), (3, .long x3), (5, .int x5), (6, .int x6), (7, .int x7), (8, .int x8), (9, .int x9)]) g dk_0_followNeed_85 (by decide) rfl (pc' := 87) rfl ?_
        refine v_iconst (v := 0) g dk_0_followNeed_87 (by decide) (pc' := 88) rfl ?_
        refine v_istore (lv' := [(12, .int 0), (10, .long q8), (0, .ref (ad 0)), (1, .int x1), (2, .int x2), (3, .long x3), (5, .int x5), (6, .int x6), (7, .int x7), (8, .int x8), (9, .int x9)]) g dk_0_followNeed_88 (by decide) rfl (pc' := 90) rfl ?_
        refine v_sub [2, 3, 4, 5, 6, 7, 8, 9, 10, 1, 0] rfl ?_
        obtain ⟨o14, hL, hf⟩ := bnd hf
        refine w_CX_followNeed_90 g hr hlk hK hA 100 S 0 _ hL (fun y15 hy => ?_) (fun r9 hy => ?_)
        · subst hy
          replace hf := exLl hf
          refine v_iinc (j := 8) (v := x9 + 1) (lv' := [(9, .int (x9 + 1)), (0, .ref (ad 0)), (1, .int x1), (2, .int x2), (3, .long x3), (5, .int x5), (6, .int x6), (7, .int x7), (8, .int x8)]) g dk_0_followNeed_164 rfl rfl (by decide) rfl (pc' := 167) rfl ?_
          refine v_goto (tgt := 57) g dk_0_followNeed_167 (by decide) ?_
          refine v_sub [1, 2, 3, 4, 5, 6, 7, 8, 0] rfl ?_
          exact ih y15 (x9 + 1) o hf hx hret
        · subst hy
          exact hret _ (Option.some.inj hf).symm
      · replace hf := ifT hc hf
        refine v_goto (tgt := 164) g dk_0_followNeed_74 (by decide) ?_
        refine v_iinc (j := 8) (v := x9 + 1) (lv' := [(9, .int (x9 + 1)), (0, .ref (ad 0)), (1, .int x1), (2, .int x2), (3, .long x3), (5, .int x5), (6, .int x6), (7, .int x7), (8, .int x8)]) g dk_0_followNeed_164 rfl rfl (by decide) rfl (pc' := 167) rfl ?_
        refine v_goto (tgt := 57) g dk_0_followNeed_167 (by decide) ?_
        refine v_sub [1, 2, 3, 4, 5, 6, 7, 8, 0] rfl ?_
        exact ih S (x9 + 1) o hf hx hret
def m_CX_followNeed (S : StC) (x1 : Int32) (x2 : Int32) : Option (Int32 × StC) :=
  if inb x1 60 = true then if inb (gA S 22 x1.toNatClampNeg) 60 = true then (m_CX_changedBase S x2 0).bind fun q3 =>
    (m_CX_changedBase S x2 1).bind fun q4 =>
    (m_CX_turnsOf S x2 0 q3).bind fun q5 =>
    (m_CX_turnsOf S x2 1 q4).bind fun q6 =>
    (L_CX_followNeed_57 x1 x2 (gB S 0 (gA S 22 x1.toNatClampNeg).toNatClampNeg) q3 q4 q5 q6 100 S 0).bind fun o16 => exK o16 fun y17 =>
    some (1, y17) else none else none
set_option maxHeartbeats 4000000 in
set_option maxRecDepth 100000 in
theorem c_CX_followNeed {l : Launch} {D : va_G} {ad : Nat → Nat} {ca : Nat → ClassId} {S : StC} {x1 : Int32} {x2 : Int32} {r : Int32 × StC} (hf : m_CX_followNeed S x1 x2 = some r) : KIC l D ad ca yk_0_followNeed (.code yk_0_followNeed bk_0_followNeed 14 (some .boolean) :: tb) rm_CX_followNeed [.ref (ad 0), .int x1, .int x2] S r := by
  refine met_z (by decide) (Nat.le_of_ble_eq_true rfl) (fun p e s m below meth c A g hr hlk hK hA => ?_)
  replace g : CallFix p m c bk_0_followNeed 14 s _ tb Rk_0 := g
  refine v_lv (lv' := [(0, .ref (ad 0)), (1, .int x1), (2, .int x2)]) rfl ?_
  unfold m_CX_followNeed at hf
  refine v_aload_n g dk_0_followNeed_0 0 rfl rfl (pc' := 1) rfl ?_
  refine gfC_X_26 g hK dk_0_followNeed_1 (pc' := 4) rfl ?_
  refine gfC_X_165 g hK dk_0_followNeed_4 (pc' := 7) rfl ?_
  refine v_aload_n g dk_0_followNeed_7 0 rfl rfl (pc' := 8) rfl ?_
  refine gfC_X_61 g hK dk_0_followNeed_8 (pc' := 11) rfl ?_
  refine gfC_X_230 g hK dk_0_followNeed_11 (pc' := 14) rfl ?_
  refine v_iload_n g dk_0_followNeed_14 1 rfl rfl (pc' := 15) rfl ?_
  obtain ⟨hb1, hf⟩ := grd hf
  refine alC_33 g hK hb1 dk_0_followNeed_15 (pc' := 16) rfl ?_
  obtain ⟨hb2, hf⟩ := grd hf
  refine alC_8 g hK hb2 dk_0_followNeed_16 (pc' := 17) rfl ?_
  refine v_lstore_n (lv' := [(3, .long (gB S 0 (gA S 22 x1.toNatClampNeg).toNatClampNeg)), (0, .ref (ad 0)), (1, .int x1), (2, .int x2)]) g dk_0_followNeed_17 rfl (by decide) rfl (pc' := 18) rfl ?_
  refine v_aload_n g dk_0_followNeed_18 1 rfl rfl (pc' := 19) rfl ?_
  refine v_iload_n g dk_0_followNeed_19 3 rfl rfl (pc' := 20) rfl ?_
  refine v_iconst (v := 0) g dk_0_followNeed_20 (by decide) (pc' := 21) rfl ?_
  obtain ⟨q3, hq, hf⟩ := bnd hf
  refine v_callV_i (As := [.int x2, .int 0]) (rest := []) (r := q3) (S1 := S) g hK hA (c_CX_changedBase hq) (kcC_X_320 g.2.2.2.2 rfl rfl (Nat.le_of_ble_eq_true rfl) (Nat.le_of_ble_eq_true rfl)) (ci := 0) (q0 := 0) rfl rfl rfl rfl rfl (Nat.le_of_ble_eq_true rfl) dk_0_followNeed_21 (Nat.zero_le _) (Nat.zero_le _) (pc' := 24) rfl ?_
  refine v_istore (lv' := [(5, .int q3), (3, .long (gB S 0 (gA S 22 x1.toNatClampNeg).toNatClampNeg)), (0, .ref (ad 0)), (1, .int x1), (2, .int x2)]) g dk_0_followNeed_24 (by decide) rfl (pc' := 26) rfl ?_
  refine v_aload_n g dk_0_followNeed_26 2 rfl rfl (pc' := 27) rfl ?_
  refine v_iload_n g dk_0_followNeed_27 4 rfl rfl (pc' := 28) rfl ?_
  refine v_iconst (v := 1) g dk_0_followNeed_28 (by decide) (pc' := 29) rfl ?_
  obtain ⟨q4, hq, hf⟩ := bnd hf
  refine v_callV_i (As := [.int x2, .int 1]) (rest := []) (r := q4) (S1 := S) g hK hA (c_CX_changedBase hq) (kcC_X_320 g.2.2.2.2 rfl rfl (Nat.le_of_ble_eq_true rfl) (Nat.le_of_ble_eq_true rfl)) (ci := 0) (q0 := 0) rfl rfl rfl rfl rfl (Nat.le_of_ble_eq_true rfl) dk_0_followNeed_29 (Nat.zero_le _) (Nat.zero_le _) (pc' := 32) rfl ?_
  refine v_istore (lv' := [(6, .int q4), (5, .int q3), (3, .long (gB S 0 (gA S 22 x1.toNatClampNeg).toNatClampNeg)), (0, .ref (ad 0)), (1, .int x1), (2, .int x2)]) g dk_0_followNeed_32 (by decide) rfl (pc' := 34) rfl ?_
  refine v_aload_n g dk_0_followNeed_34 3 rfl rfl (pc' := 35) rfl ?_
  refine v_iload_n g dk_0_followNeed_35 5 rfl rfl (pc' := 36) rfl ?_
  refine v_iconst (v := 0) g dk_0_followNeed_36 (by decide) (pc' := 37) rfl ?_
  refine v_iload g dk_0_followNeed_37 1 rfl (pc' := 39) rfl ?_
  obtain ⟨q5, hq, hf⟩ := bnd hf
  refine v_callV_i (As := [.int x2, .int 0, .int q3]) (rest := []) (r := q5) (S1 := S) g hK hA (c_CX_turnsOf hq) (kcC_X_323 g.2.2.2.2 rfl rfl (Nat.le_of_ble_eq_true rfl) (Nat.le_of_ble_eq_true rfl)) (ci := 0) (q0 := 0) rfl rfl rfl rfl rfl (Nat.le_of_ble_eq_true rfl) dk_0_followNeed_39 (Nat.zero_le _) (Nat.zero_le _) (pc' := 42) rfl ?_
  refine v_istore (lv' := [(7, .int q5), (6, .int q4), (5, .int q3), (3, .long (gB S 0 (gA S 22 x1.toNatClampNeg).toNatClampNeg)), (0, .ref (ad 0)), (1, .int x1), (2, .int x2)]) g dk_0_followNeed_42 (by decide) rfl (pc' := 44) rfl ?_
  refine v_aload_n g dk_0_followNeed_44 4 rfl rfl (pc' := 45) rfl ?_
  refine v_iload_n g dk_0_followNeed_45 6 rfl rfl (pc' := 46) rfl ?_
  refine v_iconst (v := 1) g dk_0_followNeed_46 (by decide) (pc' := 47) rfl ?_
  refine v_iload g dk_0_followNeed_47 1 rfl (pc' := 49) rfl ?_
  obtain ⟨q6, hq, hf⟩ := bnd hf
  refine v_callV_i (As := [.int x2, .int 1, .int q4]) (rest := []) (r := q6) (S1 := S) g hK hA (c_CX_turnsOf hq) (kcC_X_323 g.2.2.2.2 rfl rfl (Nat.le_of_ble_eq_true rfl) (Nat.le_of_ble_eq_true rfl)) (ci := 0) (q0 := 0) rfl rfl rfl rfl rfl (Nat.le_of_ble_eq_true rfl) dk_0_followNeed_49 (Nat.zero_le _) (Nat.zero_le _) (pc' := 52) rfl ?_
  refine v_istore (lv' := [(8, .int q6), (7, .int q5), (6, .int q4), (5, .int q3), (3, .long (gB S 0 (gA S 22 x1.toNatClampNeg).toNatClampNeg)), (0, .ref (ad 0)), (1, .int x1), (2, .int x2)]) g dk_0_followNeed_52 (by decide) rfl (pc' := 54) rfl ?_
  refine v_iconst (v := 0) g dk_0_followNeed_54 (by decide) (pc' := 55) rfl ?_
  refine v_istore (lv' := [(9, .int 0), (8, .int q6), (7, .int q5), (6, .int q4), (5, .int q3), (3, .long (gB S 0 (gA S 22 x1.toNatClampNeg).toNatClampNeg)), (0, .ref (ad 0)), (1, .int x1), (2, .int x2)]) g dk_0_followNeed_55 (by decide) rfl (pc' := 57) rfl ?_
  refine v_sub [6, 7, 8, 5, 4, 3, 2, 1, 0] rfl ?_
  obtain ⟨o16, hL, hf⟩ := bnd hf
  refine w_CX_followNeed_57 g hr hlk hK hA 100 S 0 _ hL (fun y17 hy => ?_) (fun r9 hy => ?_)
  · subst hy
    replace hf := exKl hf
    refine v_iconst (v := 1) g dk_0_followNeed_170 (by decide) (pc' := 171) rfl ?_
    exact v_zret g hr hlk hK rfl (Option.some.inj hf) dk_0_followNeed_171
  · subst hy
    exact Option.some.inj hf
abbrev rm_CX_findPairs : Room := { frames := 4, cells := 0, slots := 0, locals := 107 }
def L_CX_findPairs_37 (x4 : Int32) : Nat → StC → Int32 → Option (StC ⊕ (Int32 × StC))
  | 0, _, _ => none
  | n + 1, S, x5 =>
    if (gI S 6) ≤ x5 then some (.inl S)
    else if inb x5 40 = true then if inb x4 60 = true then if (gA S 16 x5.toNatClampNeg) = (gA S 21 x4.toNatClampNeg) then (m_CX_followNeed S x4 x5).bind fun q4 =>
    if q4.1 = 0 then some (.inr (0, q4.2))
    else L_CX_findPairs_37 x4 n q4.2 (x5 + 1)
    else L_CX_findPairs_37 x4 n S (x5 + 1) else none else none
set_option maxHeartbeats 4000000 in
set_option maxRecDepth 100000 in
theorem w_CX_findPairs_37 {p : Program} {l : Launch} {e : Env} {s : State} {m : MethodId} {args : Array Value} {below : List Frame} {meth : Method} {c : Code} {A : Nat → Prop} {D : va_G} {ad : Nat → Nat} {ca : Nat → ClassId} {Rm : Int32 × StC} {x4 : Int32} (g : CallFix p m c bk_0_findPairs 6 s args tb Rk_0) (hr : meth.sig.returnType = some .boolean) (hlk : meth.locks = false) (hK : va_K D vwCl (tyC ca) s) (hA : ∀ q, s.heap.size ≤ q → A q) : ∀ (n : Nat) (S : StC) (x5 : Int32) (o : StC ⊕ (Int32 × StC)), L_CX_findPairs_37 x4 n S x5 = some o → (∀ y, o = .inl y → Vj p l e rm_CX_findPairs s m args below meth c (MQ below (qI D vwCl (tyC ca) (wdC ad ca) A Rm) args s 0 0 A) D vwCl A 6 0 0 (wdC ad ca y) 91 [(0, .ref (ad 0)), (4, .int x4)] []) → (∀ r, o = .inr r → r = Rm) → Vj p l e rm_CX_findPairs s m args below meth c (MQ below (qI D vwCl (tyC ca) (wdC ad ca) A Rm) args s 0 0 A) D vwCl A 6 0 0 (wdC ad ca S) 37 [(0, .ref (ad 0)), (4, .int x4), (5, .int x5)] [] := by
  intro n
  induction n with
  | zero => intro S x5 o hf; exact nomatch (show none = some o from hf)
  | succ n ih =>
    intro S x5 o hf hx hret
    rw [L_CX_findPairs_37] at hf
    refine v_iload g dk_0_findPairs_37 2 rfl (pc' := 39) rfl ?_
    refine v_aload_n g dk_0_findPairs_39 0 rfl rfl (pc' := 40) rfl ?_
    refine gfC_X_54 g hK dk_0_findPairs_40 (pc' := 43) rfl ?_
    refine gfC_X_305 g hK dk_0_findPairs_43 (pc' := 46) rfl ?_
    refine v_icmp_ge (tgt := 91) (pc' := 49) g dk_0_findPairs_46 (by decide) rfl (fun hc => ?_) (fun hc => ?_)
    · replace hf := ifT hc hf
      refine v_sub [0, 1] rfl ?_
      exact hx _ (Option.some.inj hf).symm
    · replace hf := ifF hc hf
      refine v_aload_n g dk_0_findPairs_49 0 rfl rfl (pc' := 50) rfl ?_
      refine gfC_X_54 g hK dk_0_findPairs_50 (pc' := 53) rfl ?_
      refine gfC_X_306 g hK dk_0_findPairs_53 (pc' := 56) rfl ?_
      refine v_iload g dk_0_findPairs_56 2 rfl (pc' := 58) rfl ?_
      obtain ⟨hb2, hf⟩ := grd hf
      refine alC_26 g hK hb2 dk_0_findPairs_58 (pc' := 59) rfl ?_
      refine v_aload_n g dk_0_findPairs_59 0 rfl rfl (pc' := 60) rfl ?_
      refine gfC_X_61 g hK dk_0_findPairs_60 (pc' := 63) rfl ?_
      refine gfC_X_227 g hK dk_0_findPairs_63 (pc' := 66) rfl ?_
      refine v_iload g dk_0_findPairs_66 1 rfl (pc' := 68) rfl ?_
      obtain ⟨hb3, hf⟩ := grd hf
      refine alC_32 g hK hb3 dk_0_findPairs_68 (pc' := 69) rfl ?_
      refine v_icmp_ne (tgt := 85) (pc' := 72) g dk_0_findPairs_69 (by decide) rfl (fun hc => ?_) (fun hc => ?_)
      · replace hf := ifF hc hf
        refine v_iinc (j := 2) (v := x5 + 1) (lv' := [(5, .int (x5 + 1)), (0, .ref (ad 0)), (4, .int x4)]) g dk_0_findPairs_85 rfl rfl (by decide) rfl (pc' := 88) rfl ?_
        refine v_goto (tgt := 37) g dk_0_findPairs_88 (by decide) ?_
        refine v_sub [1, 2, 0] rfl ?_
        exact ih S (x5 + 1) o hf hx hret
      · replace hf := ifT hc hf
        refine v_aload_n g dk_0_findPairs_72 0 rfl rfl (pc' := 73) rfl ?_
        refine v_iload g dk_0_findPairs_73 1 rfl (pc' := 75) rfl ?_
        refine v_iload g dk_0_findPairs_75 2 rfl (pc' := 77) rfl ?_
        obtain ⟨q4, hq, hf⟩ := bnd hf
        refine v_callV_i (As := [.int x4, .int x5]) (rest := []) (r := q4.1) (S1 := q4.2) g hK hA (c_CX_followNeed hq) (kcC_X_317 g.2.2.2.2 rfl rfl (Nat.le_of_ble_eq_true rfl) (Nat.le_of_ble_eq_true rfl)) (ci := 0) (q0 := 0) rfl rfl rfl rfl rfl (Nat.le_of_ble_eq_true rfl) dk_0_findPairs_77 (Nat.zero_le _) (Nat.zero_le _) (pc' := 80) rfl ?_
        refine v_if_ne (tgt := 85) (pc' := 83) g dk_0_findPairs_80 (by decide) rfl (fun hc => ?_) (fun hc => ?_)
        · replace hf := ifF hc hf
          refine v_iinc (j := 2) (v := x5 + 1) (lv' := [(5, .int (x5 + 1)), (0, .ref (ad 0)), (4, .int x4)]) g dk_0_findPairs_85 rfl rfl (by decide) rfl (pc' := 88) rfl ?_
          refine v_goto (tgt := 37) g dk_0_findPairs_88 (by decide) ?_
          refine v_sub [1, 2, 0] rfl ?_
          exact ih q4.2 (x5 + 1) o hf hx hret
        · replace hf := ifT hc hf
          refine v_iconst (v := 0) g dk_0_findPairs_83 (by decide) (pc' := 84) rfl ?_
          exact v_zret g hr hlk hK rfl (hret _ (Option.some.inj hf).symm) dk_0_findPairs_84
def L_CX_findPairs_15 : Nat → StC → Int32 → Option (StC ⊕ (Int32 × StC))
  | 0, _, _ => none
  | n + 1, S, x4 =>
    if 60 ≤ x4 then some (.inl S)
    else if (gI S 7) ≤ x4 then some (.inl S)
    else (L_CX_findPairs_37 x4 100 S 0).bind fun o5 => exL o5 fun y6 =>
    L_CX_findPairs_15 n y6 (x4 + 1)
set_option maxHeartbeats 4000000 in
set_option maxRecDepth 100000 in
theorem w_CX_findPairs_15 {p : Program} {l : Launch} {e : Env} {s : State} {m : MethodId} {args : Array Value} {below : List Frame} {meth : Method} {c : Code} {A : Nat → Prop} {D : va_G} {ad : Nat → Nat} {ca : Nat → ClassId} {Rm : Int32 × StC} (g : CallFix p m c bk_0_findPairs 6 s args tb Rk_0) (hr : meth.sig.returnType = some .boolean) (hlk : meth.locks = false) (hK : va_K D vwCl (tyC ca) s) (hA : ∀ q, s.heap.size ≤ q → A q) : ∀ (n : Nat) (S : StC) (x4 : Int32) (o : StC ⊕ (Int32 × StC)), L_CX_findPairs_15 n S x4 = some o → (∀ y, o = .inl y → Vj p l e rm_CX_findPairs s m args below meth c (MQ below (qI D vwCl (tyC ca) (wdC ad ca) A Rm) args s 0 0 A) D vwCl A 6 0 0 (wdC ad ca y) 97 [] []) → (∀ r, o = .inr r → r = Rm) → Vj p l e rm_CX_findPairs s m args below meth c (MQ below (qI D vwCl (tyC ca) (wdC ad ca) A Rm) args s 0 0 A) D vwCl A 6 0 0 (wdC ad ca S) 15 [(0, .ref (ad 0)), (4, .int x4)] [] := by
  intro n
  induction n with
  | zero => intro S x4 o hf; exact nomatch (show none = some o from hf)
  | succ n ih =>
    intro S x4 o hf hx hret
    rw [L_CX_findPairs_15] at hf
    refine v_iload g dk_0_findPairs_15 1 rfl (pc' := 17) rfl ?_
    refine v_bipush (v := 60) g dk_0_findPairs_17 (by decide) (pc' := 19) rfl ?_
    refine v_icmp_ge (tgt := 97) (pc' := 22) g dk_0_findPairs_19 (by decide) rfl (fun hc => ?_) (fun hc => ?_)
    · replace hf := ifT hc hf
      refine v_sub [] rfl ?_
      exact hx _ (Option.some.inj hf).symm
    · replace hf := ifF hc hf
      refine v_iload g dk_0_findPairs_22 1 rfl (pc' := 24) rfl ?_
      refine v_aload_n g dk_0_findPairs_24 0 rfl rfl (pc' := 25) rfl ?_
      refine gfC_X_61 g hK dk_0_findPairs_25 (pc' := 28) rfl ?_
      refine gfC_X_222 g hK dk_0_findPairs_28 (pc' := 31) rfl ?_
      refine v_icmp_ge (tgt := 97) (pc' := 34) g dk_0_findPairs_31 (by decide) rfl (fun hc => ?_) (fun hc => ?_)
      · replace hf := ifT hc hf
        refine v_sub [] rfl ?_
        exact hx _ (Option.some.inj hf).symm
      · replace hf := ifF hc hf
        refine v_iconst (v := 0) g dk_0_findPairs_34 (by decide) (pc' := 35) rfl ?_
        refine v_istore (lv' := [(5, .int 0), (0, .ref (ad 0)), (4, .int x4)]) g dk_0_findPairs_35 (by decide) rfl (pc' := 37) rfl ?_
        refine v_sub [1, 2, 0] rfl ?_
        obtain ⟨o5, hL, hf⟩ := bnd hf
        refine w_CX_findPairs_37 g hr hlk hK hA 100 S 0 _ hL (fun y6 hy => ?_) (fun r9 hy => ?_)
        · subst hy
          replace hf := exLl hf
          refine v_iinc (j := 1) (v := x4 + 1) (lv' := [(4, .int (x4 + 1)), (0, .ref (ad 0))]) g dk_0_findPairs_91 rfl rfl (by decide) rfl (pc' := 94) rfl ?_
          refine v_goto (tgt := 15) g dk_0_findPairs_94 (by decide) ?_
          refine v_sub [1, 0] rfl ?_
          exact ih y6 (x4 + 1) o hf hx hret
        · subst hy
          exact hret _ (Option.some.inj hf).symm
def m_CX_findPairs (S : StC) (x1 : Int32) (x2 : Int64) : Option (Int32 × StC) :=
  (m_CX_pairOf S x1 x2).bind fun q1 =>
    if q1.1 = (-1) then some (0, q1.2)
    else (L_CX_findPairs_15 100 q1.2 0).bind fun o7 => exK o7 fun y8 =>
    some (1, y8)
set_option maxHeartbeats 4000000 in
set_option maxRecDepth 100000 in
theorem c_CX_findPairs {l : Launch} {D : va_G} {ad : Nat → Nat} {ca : Nat → ClassId} {S : StC} {x1 : Int32} {x2 : Int64} {r : Int32 × StC} (hf : m_CX_findPairs S x1 x2 = some r) : KIC l D ad ca yk_0_findPairs (.code yk_0_findPairs bk_0_findPairs 6 (some .boolean) :: tb) rm_CX_findPairs [.ref (ad 0), .int x1, .long x2] S r := by
  refine met_z (by decide) (Nat.le_of_ble_eq_true rfl) (fun p e s m below meth c A g hr hlk hK hA => ?_)
  replace g : CallFix p m c bk_0_findPairs 6 s _ tb Rk_0 := g
  refine v_lv (lv' := [(0, .ref (ad 0)), (1, .int x1), (2, .long x2)]) rfl ?_
  unfold m_CX_findPairs at hf
  refine v_aload_n g dk_0_findPairs_0 0 rfl rfl (pc' := 1) rfl ?_
  refine v_iload_n g dk_0_findPairs_1 1 rfl rfl (pc' := 2) rfl ?_
  refine v_lload_n g dk_0_findPairs_2 2 rfl rfl (pc' := 3) rfl ?_
  obtain ⟨q1, hq, hf⟩ := bnd hf
  refine v_callV_i (As := [.int x1, .long x2]) (rest := []) (r := q1.1) (S1 := q1.2) g hK hA (c_CX_pairOf hq) (kcC_X_314 g.2.2.2.2 rfl rfl (Nat.le_of_ble_eq_true rfl) (Nat.le_of_ble_eq_true rfl)) (ci := 0) (q0 := 0) rfl rfl rfl rfl rfl (Nat.le_of_ble_eq_true rfl) dk_0_findPairs_3 (Nat.zero_le _) (Nat.zero_le _) (pc' := 6) rfl ?_
  refine v_iconst (v := (-1)) g dk_0_findPairs_6 (by decide) (pc' := 7) rfl ?_
  refine v_icmp_ne (tgt := 12) (pc' := 10) g dk_0_findPairs_7 (by decide) rfl (fun hc => ?_) (fun hc => ?_)
  · replace hf := ifF hc hf
    refine v_iconst (v := 0) g dk_0_findPairs_12 (by decide) (pc' := 13) rfl ?_
    refine v_istore (lv' := [(4, .int 0), (0, .ref (ad 0)), (1, .int x1), (2, .long x2)]) g dk_0_findPairs_13 (by decide) rfl (pc' := 15) rfl ?_
    refine v_sub [1, 0] rfl ?_
    obtain ⟨o7, hL, hf⟩ := bnd hf
    refine w_CX_findPairs_15 g hr hlk hK hA 100 q1.2 0 _ hL (fun y8 hy => ?_) (fun r9 hy => ?_)
    · subst hy
      replace hf := exKl hf
      refine v_iconst (v := 1) g dk_0_findPairs_97 (by decide) (pc' := 98) rfl ?_
      exact v_zret g hr hlk hK rfl (Option.some.inj hf) dk_0_findPairs_98
    · subst hy
      exact Option.some.inj hf
  · replace hf := ifT hc hf
    refine v_iconst (v := 0) g dk_0_findPairs_10 (by decide) (pc' := 11) rfl ?_
    exact v_zret g hr hlk hK rfl (Option.some.inj hf) dk_0_findPairs_11
end
section
abbrev rm_CX_leaveOutByWants : Room := { frames := 4, cells := 0, slots := 0, locals := 94 }
def L_CX_leaveOutByWants_2 : Nat → StC → Int32 → Option (StC)
  | 0, _, _ => none
  | n + 1, S, x1 =>
    if (gI S 7) ≤ x1 then some S
    else if inb x1 60 = true then if inb (gA S 21 x1.toNatClampNeg) 16 = true then if inb (gA S 22 x1.toNatClampNeg) 60 = true then if (gA S 7 (gA S 21 x1.toNatClampNeg).toNatClampNeg) = (-1) then L_CX_leaveOutByWants_2 n S (x1 + 1)
    else (m_CX_isMet S (gA S 7 (gA S 21 x1.toNatClampNeg).toNatClampNeg) (gB S 0 (gA S 22 x1.toNatClampNeg).toNatClampNeg)).bind fun q4 =>
    if q4 = 0 then L_CX_leaveOutByWants_2 n (tA S 23 x1 1) (x1 + 1)
    else L_CX_leaveOutByWants_2 n S (x1 + 1) else none else none else none
set_option maxHeartbeats 4000000 in
set_option maxRecDepth 100000 in
theorem w_CX_leaveOutByWants_2 {p : Program} {l : Launch} {e : Env} {s : State} {m : MethodId} {args : Array Value} {below : List Frame} {meth : Method} {c : Code} {A : Nat → Prop} {D : va_G} {ad : Nat → Nat} {ca : Nat → ClassId} {Rm : StC} (g : CallFix p m c bk_0_leaveOutByWants 5 s args tb Rk_0) (hr : meth.sig.returnType = none) (hlk : meth.locks = false) (hK : va_K D vwCl (tyC ca) s) (hA : ∀ q, s.heap.size ≤ q → A q) : ∀ (n : Nat) (S : StC) (x1 : Int32) (o : StC), L_CX_leaveOutByWants_2 n S x1 = some o → (Vj p l e rm_CX_leaveOutByWants s m args below meth c (MQ below (qV D vwCl (tyC ca) (wdC ad ca) A Rm) args s 0 0 A) D vwCl A 5 0 0 (wdC ad ca o) 79 [] []) → Vj p l e rm_CX_leaveOutByWants s m args below meth c (MQ below (qV D vwCl (tyC ca) (wdC ad ca) A Rm) args s 0 0 A) D vwCl A 5 0 0 (wdC ad ca S) 2 [(0, .ref (ad 0)), (1, .int x1)] [] := by
  intro n
  induction n with
  | zero => intro S x1 o hf; exact nomatch (show none = some o from hf)
  | succ n ih =>
    intro S x1 o hf hx
    rw [L_CX_leaveOutByWants_2] at hf
    refine v_iload_n g dk_0_leaveOutByWants_2 1 rfl rfl (pc' := 3) rfl ?_
    refine v_aload_n g dk_0_leaveOutByWants_3 0 rfl rfl (pc' := 4) rfl ?_
    refine gfC_X_61 g hK dk_0_leaveOutByWants_4 (pc' := 7) rfl ?_
    refine gfC_X_222 g hK dk_0_leaveOutByWants_7 (pc' := 10) rfl ?_
    refine v_icmp_ge (tgt := 79) (pc' := 13) g dk_0_leaveOutByWants_10 (by decide) rfl (fun hc => ?_) (fun hc => ?_)
    · replace hf := ifT hc hf
      refine v_sub [] rfl ?_
      have e9 := Option.some.inj hf
      subst e9
      exact hx
    · replace hf := ifF hc hf
      refine v_aload_n g dk_0_leaveOutByWants_13 0 rfl rfl (pc' := 14) rfl ?_
      refine gfC_X_40 g hK dk_0_leaveOutByWants_14 (pc' := 17) rfl ?_
      refine gfC_X_122 g hK dk_0_leaveOutByWants_17 (pc' := 20) rfl ?_
      refine v_aload_n g dk_0_leaveOutByWants_20 0 rfl rfl (pc' := 21) rfl ?_
      refine gfC_X_61 g hK dk_0_leaveOutByWants_21 (pc' := 24) rfl ?_
      refine gfC_X_227 g hK dk_0_leaveOutByWants_24 (pc' := 27) rfl ?_
      refine v_iload_n g dk_0_leaveOutByWants_27 1 rfl rfl (pc' := 28) rfl ?_
      obtain ⟨hb1, hf⟩ := grd hf
      refine alC_32 g hK hb1 dk_0_leaveOutByWants_28 (pc' := 29) rfl ?_
      obtain ⟨hb2, hf⟩ := grd hf
      refine alC_14 g hK hb2 dk_0_leaveOutByWants_29 (pc' := 30) rfl ?_
      refine v_istore_n (lv' := [(2, .int (gA S 7 (gA S 21 x1.toNatClampNeg).toNatClampNeg)), (0, .ref (ad 0)), (1, .int x1)]) g dk_0_leaveOutByWants_30 rfl (by decide) rfl (pc' := 31) rfl ?_
      refine v_aload_n g dk_0_leaveOutByWants_31 1 rfl rfl (pc' := 32) rfl ?_
      refine gfC_X_26 g hK dk_0_leaveOutByWants_32 (pc' := 35) rfl ?_
      refine gfC_X_165 g hK dk_0_leaveOutByWants_35 (pc' := 38) rfl ?_
      refine v_aload_n g dk_0_leaveOutByWants_38 1 rfl rfl (pc' := 39) rfl ?_
      refine gfC_X_61 g hK dk_0_leaveOutByWants_39 (pc' := 42) rfl ?_
      refine gfC_X_230 g hK dk_0_leaveOutByWants_42 (pc' := 45) rfl ?_
      refine v_iload_n g dk_0_leaveOutByWants_45 2 rfl rfl (pc' := 46) rfl ?_
      refine alC_33 g hK hb1 dk_0_leaveOutByWants_46 (pc' := 47) rfl ?_
      obtain ⟨hb3, hf⟩ := grd hf
      refine alC_8 g hK hb3 dk_0_leaveOutByWants_47 (pc' := 48) rfl ?_
      refine v_lstore_n (lv' := [(3, .long (gB S 0 (gA S 22 x1.toNatClampNeg).toNatClampNeg)), (2, .int (gA S 7 (gA S 21 x1.toNatClampNeg).toNatClampNeg)), (0, .ref (ad 0)), (1, .int x1)]) g dk_0_leaveOutByWants_48 rfl (by decide) rfl (pc' := 49) rfl ?_
      refine v_iload_n g dk_0_leaveOutByWants_49 1 rfl rfl (pc' := 50) rfl ?_
      refine v_iconst (v := (-1)) g dk_0_leaveOutByWants_50 (by decide) (pc' := 51) rfl ?_
      refine v_icmp_eq (tgt := 73) (pc' := 54) g dk_0_leaveOutByWants_51 (by decide) rfl (fun hc => ?_) (fun hc => ?_)
      · replace hf := ifT hc hf
        refine v_iinc (j := 3) (v := x1 + 1) (lv' := [(1, .int (x1 + 1)), (3, .long (gB S 0 (gA S 22 x1.toNatClampNeg).toNatClampNeg)), (2, .int (gA S 7 (gA S 21 x1.toNatClampNeg).toNatClampNeg)), (0, .ref (ad 0))]) g dk_0_leaveOutByWants_73 rfl rfl (by decide) rfl (pc' := 76) rfl ?_
        refine v_goto (tgt := 2) g dk_0_leaveOutByWants_76 (by decide) ?_
        refine v_sub [3, 0] rfl ?_
        exact ih S (x1 + 1) o hf hx
      · replace hf := ifF hc hf
        refine v_aload_n g dk_0_leaveOutByWants_54 2 rfl rfl (pc' := 55) rfl ?_
        refine v_iload_n g dk_0_leaveOutByWants_55 1 rfl rfl (pc' := 56) rfl ?_
        refine v_lload_n g dk_0_leaveOutByWants_56 0 rfl rfl (pc' := 57) rfl ?_
        obtain ⟨q4, hq, hf⟩ := bnd hf
        refine v_callV_i (As := [.int (gA S 7 (gA S 21 x1.toNatClampNeg).toNatClampNeg), .long (gB S 0 (gA S 22 x1.toNatClampNeg).toNatClampNeg)]) (rest := []) (r := q4) (S1 := S) g hK hA (c_CX_isMet hq) (kcC_X_176 g.2.2.2.2 rfl rfl (Nat.le_of_ble_eq_true rfl) (Nat.le_of_ble_eq_true rfl)) (ci := 0) (q0 := 0) rfl rfl rfl rfl rfl (Nat.le_of_ble_eq_true rfl) dk_0_leaveOutByWants_57 (Nat.zero_le _) (Nat.zero_le _) (pc' := 60) rfl ?_
        refine v_if_ne (tgt := 73) (pc' := 63) g dk_0_leaveOutByWants_60 (by decide) rfl (fun hc => ?_) (fun hc => ?_)
        · replace hf := ifF hc hf
          refine v_iinc (j := 3) (v := x1 + 1) (lv' := [(1, .int (x1 + 1)), (3, .long (gB S 0 (gA S 22 x1.toNatClampNeg).toNatClampNeg)), (2, .int (gA S 7 (gA S 21 x1.toNatClampNeg).toNatClampNeg)), (0, .ref (ad 0))]) g dk_0_leaveOutByWants_73 rfl rfl (by decide) rfl (pc' := 76) rfl ?_
          refine v_goto (tgt := 2) g dk_0_leaveOutByWants_76 (by decide) ?_
          refine v_sub [3, 0] rfl ?_
          exact ih S (x1 + 1) o hf hx
        · replace hf := ifT hc hf
          refine v_aload_n g dk_0_leaveOutByWants_63 2 rfl rfl (pc' := 64) rfl ?_
          refine gfC_X_61 g hK dk_0_leaveOutByWants_64 (pc' := 67) rfl ?_
          refine gfC_X_233 g hK dk_0_leaveOutByWants_67 (pc' := 70) rfl ?_
          refine v_iload_n g dk_0_leaveOutByWants_70 3 rfl rfl (pc' := 71) rfl ?_
          refine v_iconst (v := 1) g dk_0_leaveOutByWants_71 (by decide) (pc' := 72) rfl ?_
          refine asC_34 g hK hb1 dk_0_leaveOutByWants_72 (pc' := 73) rfl ?_
          refine v_iinc (j := 3) (v := x1 + 1) (lv' := [(1, .int (x1 + 1)), (3, .long (gB S 0 (gA S 22 x1.toNatClampNeg).toNatClampNeg)), (2, .int (gA S 7 (gA S 21 x1.toNatClampNeg).toNatClampNeg)), (0, .ref (ad 0))]) g dk_0_leaveOutByWants_73 rfl rfl (by decide) rfl (pc' := 76) rfl ?_
          refine v_goto (tgt := 2) g dk_0_leaveOutByWants_76 (by decide) ?_
          refine v_sub [3, 0] rfl ?_
          exact ih (tA S 23 x1 1) (x1 + 1) o hf hx
def m_CX_leaveOutByWants (S : StC) : Option StC :=
  (L_CX_leaveOutByWants_2 100 S 0).bind fun y6 =>
    some y6
set_option maxHeartbeats 4000000 in
set_option maxRecDepth 100000 in
theorem c_CX_leaveOutByWants {l : Launch} {D : va_G} {ad : Nat → Nat} {ca : Nat → ClassId} {S : StC} {r : StC} (hf : m_CX_leaveOutByWants S = some r) : KVC l D ad ca yk_0_leaveOutByWants (.code yk_0_leaveOutByWants bk_0_leaveOutByWants 5 none :: tb) rm_CX_leaveOutByWants [.ref (ad 0)] S r := by
  refine met_v (by decide) (Nat.le_of_ble_eq_true rfl) (fun p e s m below meth c A g hr hlk hK hA => ?_)
  replace g : CallFix p m c bk_0_leaveOutByWants 5 s _ tb Rk_0 := g
  refine v_lv (lv' := [(0, .ref (ad 0))]) rfl ?_
  unfold m_CX_leaveOutByWants at hf
  refine v_iconst (v := 0) g dk_0_leaveOutByWants_0 (by decide) (pc' := 1) rfl ?_
  refine v_istore_n (lv' := [(1, .int 0), (0, .ref (ad 0))]) g dk_0_leaveOutByWants_1 rfl (by decide) rfl (pc' := 2) rfl ?_
  refine v_sub [1, 0] rfl ?_
  obtain ⟨y6, hL, hf⟩ := bnd hf
  refine w_CX_leaveOutByWants_2 g hr hlk hK hA 100 S 0 _ hL ?_
  exact v_vret g hr hlk hK  (Option.some.inj hf) dk_0_leaveOutByWants_79
abbrev rm_CPairs_allLeftOut : Room := { frames := 0, cells := 0, slots := 0, locals := 0 }
def L_CPairs_allLeftOut_4 (S : StC) : Nat → Int64 → Int32 → Option (Int64)
  | 0, _, _ => none
  | n + 1, x1, x3 =>
    if (gI S 7) ≤ x3 then some x1
    else if inb x3 60 = true then if (gA S 23 x3.toNatClampNeg) = 0 then L_CPairs_allLeftOut_4 S n x1 (x3 + 1)
    else L_CPairs_allLeftOut_4 S n (x1 ||| ((1 : Int64) <<< (x3.toInt64 &&& 63))) (x3 + 1) else none
set_option maxHeartbeats 4000000 in
set_option maxRecDepth 100000 in
theorem w_CPairs_allLeftOut_4 {p : Program} {l : Launch} {e : Env} {s : State} {m : MethodId} {args : Array Value} {below : List Frame} {meth : Method} {c : Code} {A : Nat → Prop} {D : va_G} {ad : Nat → Nat} {ca : Nat → ClassId} {Rm : Int64 × StC} {S : StC} (g : CallFix p m c bk_8_allLeftOut 4 s args tb Rk_8) (hr : meth.sig.returnType = some .long) (hlk : meth.locks = false) (hK : va_K D vwCl (tyC ca) s) (hA : ∀ q, s.heap.size ≤ q → A q) : ∀ (n : Nat) (x1 : Int64) (x3 : Int32) (o : Int64), L_CPairs_allLeftOut_4 S n x1 x3 = some o → (Vj p l e rm_CPairs_allLeftOut s m args below meth c (MQ below (qL D vwCl (tyC ca) (wdC ad ca) A Rm) args s 0 0 A) D vwCl A 4 0 0 (wdC ad ca S) 33 [(1, .long o)] []) → Vj p l e rm_CPairs_allLeftOut s m args below meth c (MQ below (qL D vwCl (tyC ca) (wdC ad ca) A Rm) args s 0 0 A) D vwCl A 4 0 0 (wdC ad ca S) 4 [(0, .ref (ad 31)), (1, .long x1), (3, .int x3)] [] := by
  intro n
  induction n with
  | zero => intro x1 x3 o hf; exact nomatch (show none = some o from hf)
  | succ n ih =>
    intro x1 x3 o hf hx
    rw [L_CPairs_allLeftOut_4] at hf
    refine v_iload_n g dk_8_allLeftOut_4 2 rfl rfl (pc' := 5) rfl ?_
    refine v_aload_n g dk_8_allLeftOut_5 0 rfl rfl (pc' := 6) rfl ?_
    refine gfC_Pairs_25 g hK dk_8_allLeftOut_6 (pc' := 9) rfl ?_
    refine v_icmp_ge (tgt := 33) (pc' := 12) g dk_8_allLeftOut_9 (by decide) rfl (fun hc => ?_) (fun hc => ?_)
    · replace hf := ifT hc hf
      refine v_sub [1] rfl ?_
      have e9 := Option.some.inj hf
      subst e9
      exact hx
    · replace hf := ifF hc hf
      refine v_aload_n g dk_8_allLeftOut_12 0 rfl rfl (pc' := 13) rfl ?_
      refine gfC_Pairs_18 g hK dk_8_allLeftOut_13 (pc' := 16) rfl ?_
      refine v_iload_n g dk_8_allLeftOut_16 2 rfl rfl (pc' := 17) rfl ?_
      obtain ⟨hb1, hf⟩ := grd hf
      refine alC_34 g hK hb1 dk_8_allLeftOut_17 (pc' := 18) rfl ?_
      refine v_if_eq (tgt := 27) (pc' := 21) g dk_8_allLeftOut_18 (by decide) rfl (fun hc => ?_) (fun hc => ?_)
      · replace hf := ifT hc hf
        refine v_iinc (j := 2) (v := x3 + 1) (lv' := [(3, .int (x3 + 1)), (0, .ref (ad 31)), (1, .long x1)]) g dk_8_allLeftOut_27 rfl rfl (by decide) rfl (pc' := 30) rfl ?_
        refine v_goto (tgt := 4) g dk_8_allLeftOut_30 (by decide) ?_
        refine v_sub [1, 2, 0] rfl ?_
        exact ih x1 (x3 + 1) o hf hx
      · replace hf := ifF hc hf
        refine v_lload_n g dk_8_allLeftOut_21 1 rfl rfl (pc' := 22) rfl ?_
        refine v_lconst (v := 1) g dk_8_allLeftOut_22 (by decide) (pc' := 23) rfl ?_
        refine v_iload_n g dk_8_allLeftOut_23 2 rfl rfl (pc' := 24) rfl ?_
        refine v_lshl g dk_8_allLeftOut_24 (pc' := 25) rfl ?_
        refine v_lor g dk_8_allLeftOut_25 (pc' := 26) rfl ?_
        refine v_lstore_n (lv' := [(1, .long (x1 ||| ((1 : Int64) <<< (x3.toInt64 &&& 63)))), (0, .ref (ad 31)), (3, .int x3)]) g dk_8_allLeftOut_26 rfl (by decide) rfl (pc' := 27) rfl ?_
        refine v_iinc (j := 2) (v := x3 + 1) (lv' := [(3, .int (x3 + 1)), (1, .long (x1 ||| ((1 : Int64) <<< (x3.toInt64 &&& 63)))), (0, .ref (ad 31))]) g dk_8_allLeftOut_27 rfl rfl (by decide) rfl (pc' := 30) rfl ?_
        refine v_goto (tgt := 4) g dk_8_allLeftOut_30 (by decide) ?_
        refine v_sub [2, 1, 0] rfl ?_
        exact ih (x1 ||| ((1 : Int64) <<< (x3.toInt64 &&& 63))) (x3 + 1) o hf hx
def m_CPairs_allLeftOut (S : StC) : Option Int64 :=
  (L_CPairs_allLeftOut_4 S 100 0 0).bind fun y3 =>
    some y3
set_option maxHeartbeats 4000000 in
set_option maxRecDepth 100000 in
theorem c_CPairs_allLeftOut {l : Launch} {D : va_G} {ad : Nat → Nat} {ca : Nat → ClassId} {S : StC} {r : Int64} (hf : m_CPairs_allLeftOut S = some r) : KLC l D ad ca yk_8_allLeftOut (.code yk_8_allLeftOut bk_8_allLeftOut 4 (some .long) :: tb) rm_CPairs_allLeftOut [.ref (ad 31)] S (r, S) := by
  refine met_l (by decide) (Nat.le_of_ble_eq_true rfl) (fun p e s m below meth c A g hr hlk hK hA => ?_)
  replace g : CallFix p m c bk_8_allLeftOut 4 s _ tb Rk_8 := g
  refine v_lv (lv' := [(0, .ref (ad 31))]) rfl ?_
  unfold m_CPairs_allLeftOut at hf
  refine v_lconst (v := 0) g dk_8_allLeftOut_0 (by decide) (pc' := 1) rfl ?_
  refine v_lstore_n (lv' := [(1, .long 0), (0, .ref (ad 31))]) g dk_8_allLeftOut_1 rfl (by decide) rfl (pc' := 2) rfl ?_
  refine v_iconst (v := 0) g dk_8_allLeftOut_2 (by decide) (pc' := 3) rfl ?_
  refine v_istore_n (lv' := [(3, .int 0), (1, .long 0), (0, .ref (ad 31))]) g dk_8_allLeftOut_3 rfl (by decide) rfl (pc' := 4) rfl ?_
  refine v_sub [2, 1, 0] rfl ?_
  obtain ⟨y3, hL, hf⟩ := bnd hf
  refine w_CPairs_allLeftOut_4 g hr hlk hK hA 100 0 0 _ hL ?_
  refine v_lload_n g dk_8_allLeftOut_33 0 rfl rfl (pc' := 34) rfl ?_
  exact v_lret g hr hlk hK  (pinj hf) dk_8_allLeftOut_34
abbrev rm_CPairs_leaveOutByNeeds : Room := { frames := 1, cells := 0, slots := 0, locals := 23 }
def L_CPairs_leaveOutByNeeds_16 (x1 : Int32) (x2 : Int64) : Nat → StC → Int32 → Option (StC)
  | 0, _, _ => none
  | n + 1, S, x4 =>
    if (gI S 7) ≤ x4 then some S
    else if inb x4 60 = true then if (gA S 23 x4.toNatClampNeg) = 0 then if (lg_cmp ((gB S 2 x4.toNatClampNeg) &&& x2) (0 : Int64)) = 0 then L_CPairs_leaveOutByNeeds_16 x1 x2 n S (x4 + 1)
    else L_CPairs_leaveOutByNeeds_16 x1 x2 n (tA S 23 x4 2) (x4 + 1)
    else L_CPairs_leaveOutByNeeds_16 x1 x2 n S (x4 + 1) else none
set_option maxHeartbeats 4000000 in
set_option maxRecDepth 100000 in
theorem w_CPairs_leaveOutByNeeds_16 {p : Program} {l : Launch} {e : Env} {s : State} {m : MethodId} {args : Array Value} {below : List Frame} {meth : Method} {c : Code} {A : Nat → Prop} {D : va_G} {ad : Nat → Nat} {ca : Nat → ClassId} {Rm : StC} {x1 : Int32} {x2 : Int64} (g : CallFix p m c bk_8_leaveOutByNeeds 5 s args tb Rk_8) (hr : meth.sig.returnType = none) (hlk : meth.locks = false) (hK : va_K D vwCl (tyC ca) s) (hA : ∀ q, s.heap.size ≤ q → A q) : ∀ (n : Nat) (S : StC) (x4 : Int32) (o : StC), L_CPairs_leaveOutByNeeds_16 x1 x2 n S x4 = some o → (Vj p l e rm_CPairs_leaveOutByNeeds s m args below meth c (MQ below (qV D vwCl (tyC ca) (wdC ad ca) A Rm) args s 0 0 A) D vwCl A 5 0 0 (wdC ad ca o) 63 [(0, .ref (ad 31)), (1, .int x1), (2, .long x2)] []) → Vj p l e rm_CPairs_leaveOutByNeeds s m args below meth c (MQ below (qV D vwCl (tyC ca) (wdC ad ca) A Rm) args s 0 0 A) D vwCl A 5 0 0 (wdC ad ca S) 16 [(0, .ref (ad 31)), (1, .int x1), (2, .long x2), (4, .int x4)] [] := by
  intro n
  induction n with
  | zero => intro S x4 o hf; exact nomatch (show none = some o from hf)
  | succ n ih =>
    intro S x4 o hf hx
    rw [L_CPairs_leaveOutByNeeds_16] at hf
    refine v_iload g dk_8_leaveOutByNeeds_16 3 rfl (pc' := 18) rfl ?_
    refine v_aload_n g dk_8_leaveOutByNeeds_18 0 rfl rfl (pc' := 19) rfl ?_
    refine gfC_Pairs_25 g hK dk_8_leaveOutByNeeds_19 (pc' := 22) rfl ?_
    refine v_icmp_ge (tgt := 63) (pc' := 25) g dk_8_leaveOutByNeeds_22 (by decide) rfl (fun hc => ?_) (fun hc => ?_)
    · replace hf := ifT hc hf
      refine v_sub [0, 1, 2] rfl ?_
      have e9 := Option.some.inj hf
      subst e9
      exact hx
    · replace hf := ifF hc hf
      refine v_aload_n g dk_8_leaveOutByNeeds_25 0 rfl rfl (pc' := 26) rfl ?_
      refine gfC_Pairs_18 g hK dk_8_leaveOutByNeeds_26 (pc' := 29) rfl ?_
      refine v_iload g dk_8_leaveOutByNeeds_29 3 rfl (pc' := 31) rfl ?_
      obtain ⟨hb2, hf⟩ := grd hf
      refine alC_34 g hK hb2 dk_8_leaveOutByNeeds_31 (pc' := 32) rfl ?_
      refine v_if_ne (tgt := 57) (pc' := 35) g dk_8_leaveOutByNeeds_32 (by decide) rfl (fun hc => ?_) (fun hc => ?_)
      · replace hf := ifF hc hf
        refine v_iinc (j := 3) (v := x4 + 1) (lv' := [(4, .int (x4 + 1)), (0, .ref (ad 31)), (1, .int x1), (2, .long x2)]) g dk_8_leaveOutByNeeds_57 rfl rfl (by decide) rfl (pc' := 60) rfl ?_
        refine v_goto (tgt := 16) g dk_8_leaveOutByNeeds_60 (by decide) ?_
        refine v_sub [1, 2, 3, 0] rfl ?_
        exact ih S (x4 + 1) o hf hx
      · replace hf := ifT hc hf
        refine v_aload_n g dk_8_leaveOutByNeeds_35 0 rfl rfl (pc' := 36) rfl ?_
        refine gfC_Pairs_21 g hK dk_8_leaveOutByNeeds_36 (pc' := 39) rfl ?_
        refine v_iload g dk_8_leaveOutByNeeds_39 3 rfl (pc' := 41) rfl ?_
        refine alC_35 g hK hb2 dk_8_leaveOutByNeeds_41 (pc' := 42) rfl ?_
        refine v_lload_n g dk_8_leaveOutByNeeds_42 2 rfl rfl (pc' := 43) rfl ?_
        refine v_land g dk_8_leaveOutByNeeds_43 (pc' := 44) rfl ?_
        refine v_lconst (v := 0) g dk_8_leaveOutByNeeds_44 (by decide) (pc' := 45) rfl ?_
        refine v_lcmp g dk_8_leaveOutByNeeds_45 (pc' := 46) rfl ?_
        refine v_if_eq (tgt := 57) (pc' := 49) g dk_8_leaveOutByNeeds_46 (by decide) rfl (fun hc => ?_) (fun hc => ?_)
        · replace hf := ifT hc hf
          refine v_iinc (j := 3) (v := x4 + 1) (lv' := [(4, .int (x4 + 1)), (0, .ref (ad 31)), (1, .int x1), (2, .long x2)]) g dk_8_leaveOutByNeeds_57 rfl rfl (by decide) rfl (pc' := 60) rfl ?_
          refine v_goto (tgt := 16) g dk_8_leaveOutByNeeds_60 (by decide) ?_
          refine v_sub [1, 2, 3, 0] rfl ?_
          exact ih S (x4 + 1) o hf hx
        · replace hf := ifF hc hf
          refine v_aload_n g dk_8_leaveOutByNeeds_49 0 rfl rfl (pc' := 50) rfl ?_
          refine gfC_Pairs_18 g hK dk_8_leaveOutByNeeds_50 (pc' := 53) rfl ?_
          refine v_iload g dk_8_leaveOutByNeeds_53 3 rfl (pc' := 55) rfl ?_
          refine v_iconst (v := 2) g dk_8_leaveOutByNeeds_55 (by decide) (pc' := 56) rfl ?_
          refine asC_34 g hK hb2 dk_8_leaveOutByNeeds_56 (pc' := 57) rfl ?_
          refine v_iinc (j := 3) (v := x4 + 1) (lv' := [(4, .int (x4 + 1)), (0, .ref (ad 31)), (1, .int x1), (2, .long x2)]) g dk_8_leaveOutByNeeds_57 rfl rfl (by decide) rfl (pc' := 60) rfl ?_
          refine v_goto (tgt := 16) g dk_8_leaveOutByNeeds_60 (by decide) ?_
          refine v_sub [1, 2, 3, 0] rfl ?_
          exact ih (tA S 23 x4 2) (x4 + 1) o hf hx
def L_CPairs_leaveOutByNeeds_2 : Nat → StC → Int32 → Option (StC ⊕ StC)
  | 0, _, _ => none
  | n + 1, S, x1 =>
    if 60 ≤ x1 then some (.inl S)
    else (m_CPairs_allLeftOut S).bind fun q1 =>
    (L_CPairs_leaveOutByNeeds_16 x1 q1 100 S 0).bind fun y4 =>
    (m_CPairs_allLeftOut y4).bind fun q5 =>
    if (lg_cmp q5 q1) = 0 then some (.inr y4)
    else L_CPairs_leaveOutByNeeds_2 n y4 (x1 + 1)
set_option maxHeartbeats 4000000 in
set_option maxRecDepth 100000 in
theorem w_CPairs_leaveOutByNeeds_2 {p : Program} {l : Launch} {e : Env} {s : State} {m : MethodId} {args : Array Value} {below : List Frame} {meth : Method} {c : Code} {A : Nat → Prop} {D : va_G} {ad : Nat → Nat} {ca : Nat → ClassId} {Rm : StC} (g : CallFix p m c bk_8_leaveOutByNeeds 5 s args tb Rk_8) (hr : meth.sig.returnType = none) (hlk : meth.locks = false) (hK : va_K D vwCl (tyC ca) s) (hA : ∀ q, s.heap.size ≤ q → A q) : ∀ (n : Nat) (S : StC) (x1 : Int32) (o : StC ⊕ StC), L_CPairs_leaveOutByNeeds_2 n S x1 = some o → (∀ y, o = .inl y → Vj p l e rm_CPairs_leaveOutByNeeds s m args below meth c (MQ below (qV D vwCl (tyC ca) (wdC ad ca) A Rm) args s 0 0 A) D vwCl A 5 0 0 (wdC ad ca y) 79 [] []) → (∀ r, o = .inr r → r = Rm) → Vj p l e rm_CPairs_leaveOutByNeeds s m args below meth c (MQ below (qV D vwCl (tyC ca) (wdC ad ca) A Rm) args s 0 0 A) D vwCl A 5 0 0 (wdC ad ca S) 2 [(0, .ref (ad 31)), (1, .int x1)] [] := by
  intro n
  induction n with
  | zero => intro S x1 o hf; exact nomatch (show none = some o from hf)
  | succ n ih =>
    intro S x1 o hf hx hret
    rw [L_CPairs_leaveOutByNeeds_2] at hf
    refine v_iload_n g dk_8_leaveOutByNeeds_2 1 rfl rfl (pc' := 3) rfl ?_
    refine v_bipush (v := 60) g dk_8_leaveOutByNeeds_3 (by decide) (pc' := 5) rfl ?_
    refine v_icmp_ge (tgt := 79) (pc' := 8) g dk_8_leaveOutByNeeds_5 (by decide) rfl (fun hc => ?_) (fun hc => ?_)
    · replace hf := ifT hc hf
      refine v_sub [] rfl ?_
      exact hx _ (Option.some.inj hf).symm
    · replace hf := ifF hc hf
      refine v_aload_n g dk_8_leaveOutByNeeds_8 0 rfl rfl (pc' := 9) rfl ?_
      obtain ⟨q1, hq, hf⟩ := bnd hf
      refine v_callV_l (As := []) (rest := []) (r := q1) (S1 := S) g hK hA (c_CPairs_allLeftOut hq) (kcC_Pairs_29 g.2.2.2.2 rfl rfl (Nat.le_of_ble_eq_true rfl) (Nat.le_of_ble_eq_true rfl)) (ci := 5) (q0 := 31) rfl rfl rfl rfl rfl (Nat.le_of_ble_eq_true rfl) dk_8_leaveOutByNeeds_9 (Nat.zero_le _) (Nat.zero_le _) (pc' := 12) rfl ?_
      refine v_lstore_n (lv' := [(2, .long q1), (0, .ref (ad 31)), (1, .int x1)]) g dk_8_leaveOutByNeeds_12 rfl (by decide) rfl (pc' := 13) rfl ?_
      refine v_iconst (v := 0) g dk_8_leaveOutByNeeds_13 (by decide) (pc' := 14) rfl ?_
      refine v_istore (lv' := [(4, .int 0), (2, .long q1), (0, .ref (ad 31)), (1, .int x1)]) g dk_8_leaveOutByNeeds_14 (by decide) rfl (pc' := 16) rfl ?_
      refine v_sub [2, 3, 1, 0] rfl ?_
      obtain ⟨y4, hL, hf⟩ := bnd hf
      refine w_CPairs_leaveOutByNeeds_16 g hr hlk hK hA 100 S 0 _ hL ?_
      refine v_aload_n g dk_8_leaveOutByNeeds_63 0 rfl rfl (pc' := 64) rfl ?_
      obtain ⟨q5, hq, hf⟩ := bnd hf
      refine v_callV_l (As := []) (rest := []) (r := q5) (S1 := y4) g hK hA (c_CPairs_allLeftOut hq) (kcC_Pairs_29 g.2.2.2.2 rfl rfl (Nat.le_of_ble_eq_true rfl) (Nat.le_of_ble_eq_true rfl)) (ci := 5) (q0 := 31) rfl rfl rfl rfl rfl (Nat.le_of_ble_eq_true rfl) dk_8_leaveOutByNeeds_64 (Nat.zero_le _) (Nat.zero_le _) (pc' := 67) rfl ?_
      refine v_lload_n g dk_8_leaveOutByNeeds_67 2 rfl rfl (pc' := 68) rfl ?_
      refine v_lcmp g dk_8_leaveOutByNeeds_68 (pc' := 69) rfl ?_
      refine v_if_ne (tgt := 73) (pc' := 72) g dk_8_leaveOutByNeeds_69 (by decide) rfl (fun hc => ?_) (fun hc => ?_)
      · replace hf := ifF hc hf
        refine v_iinc (j := 1) (v := x1 + 1) (lv' := [(1, .int (x1 + 1)), (0, .ref (ad 31)), (2, .long q1)]) g dk_8_leaveOutByNeeds_73 rfl rfl (by decide) rfl (pc' := 76) rfl ?_
        refine v_goto (tgt := 2) g dk_8_leaveOutByNeeds_76 (by decide) ?_
        refine v_sub [1, 0] rfl ?_
        exact ih y4 (x1 + 1) o hf hx hret
      · replace hf := ifT hc hf
        exact v_vret g hr hlk hK  (hret _ (Option.some.inj hf).symm) dk_8_leaveOutByNeeds_72
def m_CPairs_leaveOutByNeeds (S : StC) : Option StC :=
  (L_CPairs_leaveOutByNeeds_2 100 S 0).bind fun o6 => exK o6 fun y7 =>
    some y7
set_option maxHeartbeats 4000000 in
set_option maxRecDepth 100000 in
theorem c_CPairs_leaveOutByNeeds {l : Launch} {D : va_G} {ad : Nat → Nat} {ca : Nat → ClassId} {S : StC} {r : StC} (hf : m_CPairs_leaveOutByNeeds S = some r) : KVC l D ad ca yk_8_leaveOutByNeeds (.code yk_8_leaveOutByNeeds bk_8_leaveOutByNeeds 5 none :: tb) rm_CPairs_leaveOutByNeeds [.ref (ad 31)] S r := by
  refine met_v (by decide) (Nat.le_of_ble_eq_true rfl) (fun p e s m below meth c A g hr hlk hK hA => ?_)
  replace g : CallFix p m c bk_8_leaveOutByNeeds 5 s _ tb Rk_8 := g
  refine v_lv (lv' := [(0, .ref (ad 31))]) rfl ?_
  unfold m_CPairs_leaveOutByNeeds at hf
  refine v_iconst (v := 0) g dk_8_leaveOutByNeeds_0 (by decide) (pc' := 1) rfl ?_
  refine v_istore_n (lv' := [(1, .int 0), (0, .ref (ad 31))]) g dk_8_leaveOutByNeeds_1 rfl (by decide) rfl (pc' := 2) rfl ?_
  refine v_sub [1, 0] rfl ?_
  obtain ⟨o6, hL, hf⟩ := bnd hf
  refine w_CPairs_leaveOutByNeeds_2 g hr hlk hK hA 100 S 0 _ hL (fun y7 hy => ?_) (fun r9 hy => ?_)
  · subst hy
    replace hf := exKl hf
    exact v_vret g hr hlk hK  (Option.some.inj hf) dk_8_leaveOutByNeeds_79
  · subst hy
    exact Option.some.inj hf
abbrev rm_CX_expand : Room := { frames := 5, cells := 0, slots := 0, locals := 132 }
def m_CX_expand (S : StC) (x1 : Int32) (x2 : Int32) : Option (Int32 × StC) :=
  (m_CTargets_isThere S x1).bind fun q1 =>
    if q1 = 0 then some ((-1), S)
    else (m_CConfigurations_isThere S x2).bind fun q2 =>
    if q2 = 0 then some ((-1), S)
    else (m_CX_findWhatTargetsRead S).bind fun q3 =>
    (m_CPairs_clear q3).bind fun q4 =>
    if inb x2 60 = true then (m_CX_findPairs q4 x1 (gB q4 0 x2.toNatClampNeg)).bind fun q6 =>
    if q6.1 = 0 then (m_CPairs_clear q6.2).bind fun q9 =>
    some ((-2), q9)
    else (m_CX_leaveOutByWants q6.2).bind fun q7 =>
    (m_CPairs_leaveOutByNeeds q7).bind fun q8 =>
    some (gI q8 7, q8) else none
set_option maxHeartbeats 4000000 in
set_option maxRecDepth 100000 in
theorem c_CX_expand {l : Launch} {D : va_G} {ad : Nat → Nat} {ca : Nat → ClassId} {S : StC} {x1 : Int32} {x2 : Int32} {r : Int32 × StC} (hf : m_CX_expand S x1 x2 = some r) : KIC l D ad ca yk_0_expand (.code yk_0_expand bk_0_expand 3 (some .int) :: tb) rm_CX_expand [.ref (ad 0), .int x1, .int x2] S r := by
  refine met_i (by decide) (Nat.le_of_ble_eq_true rfl) (fun p e s m below meth c A g hr hlk hK hA => ?_)
  replace g : CallFix p m c bk_0_expand 3 s _ tb Rk_0 := g
  refine v_lv (lv' := [(0, .ref (ad 0)), (1, .int x1), (2, .int x2)]) rfl ?_
  unfold m_CX_expand at hf
  refine v_aload_n g dk_0_expand_0 0 rfl rfl (pc' := 1) rfl ?_
  refine gfC_X_40 g hK dk_0_expand_1 (pc' := 4) rfl ?_
  refine v_iload_n g dk_0_expand_4 1 rfl rfl (pc' := 5) rfl ?_
  obtain ⟨q1, hq, hf⟩ := bnd hf
  refine v_callV_i (As := [.int x1]) (rest := []) (r := q1) (S1 := S) g hK hA (c_CTargets_isThere hq) (kcC_X_121 g.2.2.2.2 rfl rfl (Nat.le_of_ble_eq_true rfl) (Nat.le_of_ble_eq_true rfl)) (ci := 9) (q0 := 13) rfl rfl rfl rfl rfl (Nat.le_of_ble_eq_true rfl) dk_0_expand_5 (Nat.zero_le _) (Nat.zero_le _) (pc' := 8) rfl ?_
  refine v_if_eq (tgt := 22) (pc' := 11) g dk_0_expand_8 (by decide) rfl (fun hc => ?_) (fun hc => ?_)
  · replace hf := ifT hc hf
    refine v_iconst (v := (-1)) g dk_0_expand_22 (by decide) (pc' := 23) rfl ?_
    exact v_iret g hr hlk hK  (Option.some.inj hf) dk_0_expand_23
  · replace hf := ifF hc hf
    refine v_aload_n g dk_0_expand_11 0 rfl rfl (pc' := 12) rfl ?_
    refine gfC_X_26 g hK dk_0_expand_12 (pc' := 15) rfl ?_
    refine v_iload_n g dk_0_expand_15 2 rfl rfl (pc' := 16) rfl ?_
    obtain ⟨q2, hq, hf⟩ := bnd hf
    refine v_callV_i (As := [.int x2]) (rest := []) (r := q2) (S1 := S) g hK hA (c_CConfigurations_isThere hq) (kcC_X_161 g.2.2.2.2 rfl rfl (Nat.le_of_ble_eq_true rfl) (Nat.le_of_ble_eq_true rfl)) (ci := 3) (q0 := 7) rfl rfl rfl rfl rfl (Nat.le_of_ble_eq_true rfl) dk_0_expand_16 (Nat.zero_le _) (Nat.zero_le _) (pc' := 19) rfl ?_
    refine v_if_ne (tgt := 24) (pc' := 22) g dk_0_expand_19 (by decide) rfl (fun hc => ?_) (fun hc => ?_)
    · replace hf := ifF hc hf
      refine v_aload_n g dk_0_expand_24 0 rfl rfl (pc' := 25) rfl ?_
      obtain ⟨q3, hq, hf⟩ := bnd hf
      refine v_callV_v (As := []) (rest := []) (S1 := q3) g hK hA (c_CX_findWhatTargetsRead hq) (kcC_X_204 g.2.2.2.2 rfl rfl (Nat.le_of_ble_eq_true rfl) (Nat.le_of_ble_eq_true rfl)) (ci := 0) (q0 := 0) rfl rfl rfl rfl rfl (Nat.le_of_ble_eq_true rfl) dk_0_expand_25 (Nat.zero_le _) (Nat.zero_le _) (pc' := 28) rfl ?_
      refine v_aload_n g dk_0_expand_28 0 rfl rfl (pc' := 29) rfl ?_
      refine gfC_X_61 g hK dk_0_expand_29 (pc' := 32) rfl ?_
      obtain ⟨q4, hq, hf⟩ := bnd hf
      refine v_callV_v (As := []) (rest := []) (S1 := q4) g hK hA (c_CPairs_clear hq) (kcC_X_210 g.2.2.2.2 rfl rfl (Nat.le_of_ble_eq_true rfl) (Nat.le_of_ble_eq_true rfl)) (ci := 5) (q0 := 31) rfl rfl rfl rfl rfl (Nat.le_of_ble_eq_true rfl) dk_0_expand_32 (Nat.zero_le _) (Nat.zero_le _) (pc' := 35) rfl ?_
      refine v_aload_n g dk_0_expand_35 0 rfl rfl (pc' := 36) rfl ?_
      refine v_iload_n g dk_0_expand_36 1 rfl rfl (pc' := 37) rfl ?_
      refine v_aload_n g dk_0_expand_37 0 rfl rfl (pc' := 38) rfl ?_
      refine gfC_X_26 g hK dk_0_expand_38 (pc' := 41) rfl ?_
      refine gfC_X_165 g hK dk_0_expand_41 (pc' := 44) rfl ?_
      refine v_iload_n g dk_0_expand_44 2 rfl rfl (pc' := 45) rfl ?_
      obtain ⟨hb5, hf⟩ := grd hf
      refine alC_8 g hK hb5 dk_0_expand_45 (pc' := 46) rfl ?_
      obtain ⟨q6, hq, hf⟩ := bnd hf
      refine v_callV_i (As := [.int x1, .long (gB q4 0 x2.toNatClampNeg)]) (rest := []) (r := q6.1) (S1 := q6.2) g hK hA (c_CX_findPairs hq) (kcC_X_213 g.2.2.2.2 rfl rfl (Nat.le_of_ble_eq_true rfl) (Nat.le_of_ble_eq_true rfl)) (ci := 0) (q0 := 0) rfl rfl rfl rfl rfl (Nat.le_of_ble_eq_true rfl) dk_0_expand_46 (Nat.zero_le _) (Nat.zero_le _) (pc' := 49) rfl ?_
      refine v_if_ne (tgt := 62) (pc' := 52) g dk_0_expand_49 (by decide) rfl (fun hc => ?_) (fun hc => ?_)
      · replace hf := ifF hc hf
        refine v_aload_n g dk_0_expand_62 0 rfl rfl (pc' := 63) rfl ?_
        obtain ⟨q7, hq, hf⟩ := bnd hf
        refine v_callV_v (As := []) (rest := []) (S1 := q7) g hK hA (c_CX_leaveOutByWants hq) (kcC_X_216 g.2.2.2.2 rfl rfl (Nat.le_of_ble_eq_true rfl) (Nat.le_of_ble_eq_true rfl)) (ci := 0) (q0 := 0) rfl rfl rfl rfl rfl (Nat.le_of_ble_eq_true rfl) dk_0_expand_63 (Nat.zero_le _) (Nat.zero_le _) (pc' := 66) rfl ?_
        refine v_aload_n g dk_0_expand_66 0 rfl rfl (pc' := 67) rfl ?_
        refine gfC_X_61 g hK dk_0_expand_67 (pc' := 70) rfl ?_
        obtain ⟨q8, hq, hf⟩ := bnd hf
        refine v_callV_v (As := []) (rest := []) (S1 := q8) g hK hA (c_CPairs_leaveOutByNeeds hq) (kcC_X_219 g.2.2.2.2 rfl rfl (Nat.le_of_ble_eq_true rfl) (Nat.le_of_ble_eq_true rfl)) (ci := 5) (q0 := 31) rfl rfl rfl rfl rfl (Nat.le_of_ble_eq_true rfl) dk_0_expand_70 (Nat.zero_le _) (Nat.zero_le _) (pc' := 73) rfl ?_
        refine v_aload_n g dk_0_expand_73 0 rfl rfl (pc' := 74) rfl ?_
        refine gfC_X_61 g hK dk_0_expand_74 (pc' := 77) rfl ?_
        refine gfC_X_222 g hK dk_0_expand_77 (pc' := 80) rfl ?_
        exact v_iret g hr hlk hK  (Option.some.inj hf) dk_0_expand_80
      · replace hf := ifT hc hf
        refine v_aload_n g dk_0_expand_52 0 rfl rfl (pc' := 53) rfl ?_
        refine gfC_X_61 g hK dk_0_expand_53 (pc' := 56) rfl ?_
        obtain ⟨q9, hq, hf⟩ := bnd hf
        refine v_callV_v (As := []) (rest := []) (S1 := q9) g hK hA (c_CPairs_clear hq) (kcC_X_210 g.2.2.2.2 rfl rfl (Nat.le_of_ble_eq_true rfl) (Nat.le_of_ble_eq_true rfl)) (ci := 5) (q0 := 31) rfl rfl rfl rfl rfl (Nat.le_of_ble_eq_true rfl) dk_0_expand_56 (Nat.zero_le _) (Nat.zero_le _) (pc' := 59) rfl ?_
        refine v_bipush (v := (-2)) g dk_0_expand_59 (by decide) (pc' := 61) rfl ?_
        exact v_iret g hr hlk hK  (Option.some.inj hf) dk_0_expand_61
    · replace hf := ifT hc hf
      refine v_iconst (v := (-1)) g dk_0_expand_22 (by decide) (pc' := 23) rfl ?_
      exact v_iret g hr hlk hK  (Option.some.inj hf) dk_0_expand_23
abbrev rm_CPairs_isThere : Room := { frames := 0, cells := 0, slots := 0, locals := 0 }
def m_CPairs_isThere (S : StC) (x1 : Int32) : Option Int32 :=
  if x1 < 0 then some 0
    else if (gI S 7) ≤ x1 then some 0
    else some 1
set_option maxHeartbeats 4000000 in
set_option maxRecDepth 100000 in
theorem c_CPairs_isThere {l : Launch} {D : va_G} {ad : Nat → Nat} {ca : Nat → ClassId} {S : StC} {x1 : Int32} {r : Int32} (hf : m_CPairs_isThere S x1 = some r) : KIC l D ad ca yk_8_isThere (.code yk_8_isThere bk_8_isThere 2 (some .boolean) :: tb) rm_CPairs_isThere [.ref (ad 31), .int x1] S (r, S) := by
  refine met_z (by decide) (Nat.le_of_ble_eq_true rfl) (fun p e s m below meth c A g hr hlk hK hA => ?_)
  replace g : CallFix p m c bk_8_isThere 2 s _ tb Rk_8 := g
  refine v_lv (lv' := [(0, .ref (ad 31)), (1, .int x1)]) rfl ?_
  unfold m_CPairs_isThere at hf
  refine v_iload_n g dk_8_isThere_0 1 rfl rfl (pc' := 1) rfl ?_
  refine v_if_lt (tgt := 16) (pc' := 4) g dk_8_isThere_1 (by decide) rfl (fun hc => ?_) (fun hc => ?_)
  · replace hf := ifT hc hf
    refine v_iconst (v := 0) g dk_8_isThere_16 (by decide) (pc' := 17) rfl ?_
    exact v_zret g hr hlk hK rfl (pinj hf) dk_8_isThere_17
  · replace hf := ifF hc hf
    refine v_iload_n g dk_8_isThere_4 1 rfl rfl (pc' := 5) rfl ?_
    refine v_aload_n g dk_8_isThere_5 0 rfl rfl (pc' := 6) rfl ?_
    refine gfC_Pairs_25 g hK dk_8_isThere_6 (pc' := 9) rfl ?_
    refine v_icmp_ge (tgt := 16) (pc' := 12) g dk_8_isThere_9 (by decide) rfl (fun hc => ?_) (fun hc => ?_)
    · replace hf := ifT hc hf
      refine v_iconst (v := 0) g dk_8_isThere_16 (by decide) (pc' := 17) rfl ?_
      exact v_zret g hr hlk hK rfl (pinj hf) dk_8_isThere_17
    · replace hf := ifF hc hf
      refine v_iconst (v := 1) g dk_8_isThere_12 (by decide) (pc' := 13) rfl ?_
      refine v_goto (tgt := 17) g dk_8_isThere_13 (by decide) ?_
      exact v_zret g hr hlk hK rfl (pinj hf) dk_8_isThere_17
abbrev rm_CX_pair : Room := { frames := 1, cells := 0, slots := 0, locals := 21 }
def m_CX_pair (S : StC) (x1 : Int32) (x2 : Int32) : Option Int32 :=
  (m_CPairs_isThere S x1).bind fun q1 =>
    if q1 = 0 then some (-1)
    else if x2 = 0 then if inb x1 60 = true then some (gA S 21 x1.toNatClampNeg) else none
    else if x2 = 1 then if inb x1 60 = true then some (gA S 22 x1.toNatClampNeg) else none
    else if x2 = 2 then if inb x1 60 = true then some (gA S 23 x1.toNatClampNeg) else none
    else some (-1)
set_option maxHeartbeats 4000000 in
set_option maxRecDepth 100000 in
theorem c_CX_pair {l : Launch} {D : va_G} {ad : Nat → Nat} {ca : Nat → ClassId} {S : StC} {x1 : Int32} {x2 : Int32} {r : Int32} (hf : m_CX_pair S x1 x2 = some r) : KIC l D ad ca yk_0_pair (.code yk_0_pair bk_0_pair 3 (some .int) :: tb) rm_CX_pair [.ref (ad 0), .int x1, .int x2] S (r, S) := by
  refine met_i (by decide) (Nat.le_of_ble_eq_true rfl) (fun p e s m below meth c A g hr hlk hK hA => ?_)
  replace g : CallFix p m c bk_0_pair 3 s _ tb Rk_0 := g
  refine v_lv (lv' := [(0, .ref (ad 0)), (1, .int x1), (2, .int x2)]) rfl ?_
  unfold m_CX_pair at hf
  refine v_aload_n g dk_0_pair_0 0 rfl rfl (pc' := 1) rfl ?_
  refine gfC_X_61 g hK dk_0_pair_1 (pc' := 4) rfl ?_
  refine v_iload_n g dk_0_pair_4 1 rfl rfl (pc' := 5) rfl ?_
  obtain ⟨q1, hq, hf⟩ := bnd hf
  refine v_callV_i (As := [.int x1]) (rest := []) (r := q1) (S1 := S) g hK hA (c_CPairs_isThere hq) (kcC_X_226 g.2.2.2.2 rfl rfl (Nat.le_of_ble_eq_true rfl) (Nat.le_of_ble_eq_true rfl)) (ci := 5) (q0 := 31) rfl rfl rfl rfl rfl (Nat.le_of_ble_eq_true rfl) dk_0_pair_5 (Nat.zero_le _) (Nat.zero_le _) (pc' := 8) rfl ?_
  refine v_if_ne (tgt := 13) (pc' := 11) g dk_0_pair_8 (by decide) rfl (fun hc => ?_) (fun hc => ?_)
  · replace hf := ifF hc hf
    refine v_iload_n g dk_0_pair_13 2 rfl rfl (pc' := 14) rfl ?_
    by_cases hc0 : x2 = 0
    · replace hf := ifT hc0 hf
      refine v_tableIn (off := 26) (tgt := 40) g dk_0_pair_14 (by rw [hc0]; decide) (by rw [hc0]; decide) (by rw [hc0]; rfl) (by decide) ?_
      refine v_aload_n g dk_0_pair_40 0 rfl rfl (pc' := 41) rfl ?_
      refine gfC_X_61 g hK dk_0_pair_41 (pc' := 44) rfl ?_
      refine gfC_X_227 g hK dk_0_pair_44 (pc' := 47) rfl ?_
      refine v_iload_n g dk_0_pair_47 1 rfl rfl (pc' := 48) rfl ?_
      obtain ⟨hb2, hf⟩ := grd hf
      refine alC_32 g hK hb2 dk_0_pair_48 (pc' := 49) rfl ?_
      exact v_iret g hr hlk hK  (pinj hf) dk_0_pair_49
    replace hf := ifF hc0 hf
    by_cases hc1 : x2 = 1
    · replace hf := ifT hc1 hf
      refine v_tableIn (off := 36) (tgt := 50) g dk_0_pair_14 (by rw [hc1]; decide) (by rw [hc1]; decide) (by rw [hc1]; rfl) (by decide) ?_
      refine v_aload_n g dk_0_pair_50 0 rfl rfl (pc' := 51) rfl ?_
      refine gfC_X_61 g hK dk_0_pair_51 (pc' := 54) rfl ?_
      refine gfC_X_230 g hK dk_0_pair_54 (pc' := 57) rfl ?_
      refine v_iload_n g dk_0_pair_57 1 rfl rfl (pc' := 58) rfl ?_
      obtain ⟨hb3, hf⟩ := grd hf
      refine alC_33 g hK hb3 dk_0_pair_58 (pc' := 59) rfl ?_
      exact v_iret g hr hlk hK  (pinj hf) dk_0_pair_59
    replace hf := ifF hc1 hf
    by_cases hc2 : x2 = 2
    · replace hf := ifT hc2 hf
      refine v_tableIn (off := 46) (tgt := 60) g dk_0_pair_14 (by rw [hc2]; decide) (by rw [hc2]; decide) (by rw [hc2]; rfl) (by decide) ?_
      refine v_aload_n g dk_0_pair_60 0 rfl rfl (pc' := 61) rfl ?_
      refine gfC_X_61 g hK dk_0_pair_61 (pc' := 64) rfl ?_
      refine gfC_X_233 g hK dk_0_pair_64 (pc' := 67) rfl ?_
      refine v_iload_n g dk_0_pair_67 1 rfl rfl (pc' := 68) rfl ?_
      obtain ⟨hb4, hf⟩ := grd hf
      refine alC_34 g hK hb4 dk_0_pair_68 (pc' := 69) rfl ?_
      exact v_iret g hr hlk hK  (pinj hf) dk_0_pair_69
    replace hf := ifF hc2 hf
    refine v_tableOut (tgt := 70) g dk_0_pair_14 (tsOut3 hc0 hc1 hc2) (by decide) ?_
    refine v_iconst (v := (-1)) g dk_0_pair_70 (by decide) (pc' := 71) rfl ?_
    exact v_iret g hr hlk hK  (pinj hf) dk_0_pair_71
  · replace hf := ifT hc hf
    refine v_iconst (v := (-1)) g dk_0_pair_11 (by decide) (pc' := 12) rfl ?_
    exact v_iret g hr hlk hK  (pinj hf) dk_0_pair_12
end
section
abbrev Ux : Type := (Nat → Nat) × (Nat → ClassId)
def wx_CSettings_init (h0 : Nat) (u : Ux) : va_W := [(h0, .inr (8, [.int 0, .ref (u.1 0), .ref (u.1 1), .ref (u.1 2)])), (u.1 0, .inl (u.2 0, 16, .inl (fun _ => 0))), (u.1 1, .inl (u.2 1, 16, .inl (fun _ => 0))), (u.1 2, .inl (u.2 2, 16, .inl (fun _ => 0)))]
def tx_CSettings_init (u : Ux) : List (ClassId × FieldType) := [(u.2 0, .int), (u.2 1, .int), (u.2 2, .int)]
abbrev rm_CSettings_init : Room := { frames := 1, cells := 3, slots := 48, locals := 12 }
set_option maxHeartbeats 4000000 in
set_option maxRecDepth 100000 in
theorem c_CSettings_init {l : Launch} {D : va_G} {h0 : Nat} (sz : Nat) : Met l yk_11_init (.code yk_11_init bk_11_init 1 none :: tb) rm_CSettings_init (va_Pc [.ref h0] (fun U => U.heap.size = sz ∧ va_P D vwCl [(h0, (.inr (8, [.int 0, .null, .null, .null])))] U.heap ∧ va_K D vwCl [] U ∧ va_D (fun _ => True) [(h0, (.inr (8, [.int 0, .null, .null, .null])))] ∧ True)) (qN D vwCl (wx_CSettings_init h0) tx_CSettings_init (va_A [(h0, (.inr (8, [.int 0, .null, .null, .null])))] sz)) 3 48 (va_A [(h0, (.inr (8, [.int 0, .null, .null, .null])))] sz) := by
  refine met_n (Pn := fun _ => True) (by decide) (by decide) (fun p e s m below meth c A g hr hlk hin2 hK hA _ => ?_) rfl sz
  replace g : CallFix p m c bk_11_init 1 s _ tb Rk_11 := g
  refine v_aload_n g dk_11_init_0 0 rfl rfl (pc' := 1) rfl ?_
  refine v_objInit g (tb_1 27 rfl rfl) (tb_1 20 rfl rfl) (tb_1 21 rfl rfl) dk_11_init_1 (Nat.le_of_ble_eq_true rfl) (Nat.le_of_ble_eq_true rfl) (pc' := 4) rfl ?_
  refine v_aload_n g dk_11_init_4 0 rfl rfl (pc' := 5) rfl ?_
  refine v_bipush (v := 16) g dk_11_init_5 (by decide) (pc' := 7) rfl ?_
  refine v_newa (atype := .int) (ty := .int) (a0 := (16, .inl (fun _ => 0))) g (tb_1 44 rfl rfl) rfl hK hA (fun _ => rfl) (by decide) (N' := 16) (by decide +kernel) (B := 4) rfl (by omega) (Nat.le_of_ble_eq_true rfl) (Nat.le_of_ble_eq_true rfl) dk_11_init_7 (pc' := 9) rfl (fun q0 c0 hK => ?_)
  refine v_putF (ci := 8) (fs := [.int 0, .null, .null, .null]) (ty := (.array .int)) (ws' := [(h0, .inr (8, [.int 0, .ref q0, .null, .null])), (q0, .inl (c0, 16, .inl (fun _ => 0)))]) g hin2 hK ik_11 tk_11 tk_11_ok nk_11 0 rfl rfl 1 (by decide) (tb_1 30 rfl rfl) rfl rfl (by decide +kernel) rfl rfl (Nat.le_of_ble_eq_true rfl) rfl dk_11_init_9 (pc' := 12) rfl ?_
  refine v_aload_n g dk_11_init_12 0 rfl rfl (pc' := 13) rfl ?_
  refine v_bipush (v := 16) g dk_11_init_13 (by decide) (pc' := 15) rfl ?_
  refine v_newa (atype := .int) (ty := .int) (a0 := (16, .inl (fun _ => 0))) g (tb_1 44 rfl rfl) rfl hK hA (fun _ => rfl) (by decide) (N' := 16) (by decide +kernel) (B := 4) rfl (by omega) (Nat.le_of_ble_eq_true rfl) (Nat.le_of_ble_eq_true rfl) dk_11_init_15 (pc' := 17) rfl (fun q1 c1 hK => ?_)
  refine v_putF (ci := 8) (fs := [.int 0, .ref q0, .null, .null]) (ty := (.array .int)) (ws' := [(h0, .inr (8, [.int 0, .ref q0, .ref q1, .null])), (q0, .inl (c0, 16, .inl (fun _ => 0))), (q1, .inl (c1, 16, .inl (fun _ => 0)))]) g hin2 hK ik_11 tk_11 tk_11_ok nk_11 0 rfl rfl 2 (by decide) (tb_1 32 rfl rfl) rfl rfl (by decide +kernel) rfl rfl (Nat.le_of_ble_eq_true rfl) rfl dk_11_init_17 (pc' := 20) rfl ?_
  refine v_aload_n g dk_11_init_20 0 rfl rfl (pc' := 21) rfl ?_
  refine v_bipush (v := 16) g dk_11_init_21 (by decide) (pc' := 23) rfl ?_
  refine v_newa (atype := .int) (ty := .int) (a0 := (16, .inl (fun _ => 0))) g (tb_1 44 rfl rfl) rfl hK hA (fun _ => rfl) (by decide) (N' := 16) (by decide +kernel) (B := 4) rfl (by omega) (Nat.le_of_ble_eq_true rfl) (Nat.le_of_ble_eq_true rfl) dk_11_init_23 (pc' := 25) rfl (fun q2 c2 hK => ?_)
  refine v_putF (ci := 8) (fs := [.int 0, .ref q0, .ref q1, .null]) (ty := (.array .int)) (ws' := [(h0, .inr (8, [.int 0, .ref q0, .ref q1, .ref q2])), (q0, .inl (c0, 16, .inl (fun _ => 0))), (q1, .inl (c1, 16, .inl (fun _ => 0))), (q2, .inl (c2, 16, .inl (fun _ => 0)))]) g hin2 hK ik_11 tk_11 tk_11_ok nk_11 0 rfl rfl 3 (by decide) (tb_1 34 rfl rfl) rfl rfl (by decide +kernel) rfl rfl (Nat.le_of_ble_eq_true rfl) rfl dk_11_init_25 (pc' := 28) rfl ?_
  refine v_ws (ws' := wx_CSettings_init h0 (fun k => [q0, q1, q2].getD k 0, fun k => [c0, c1, c2].getD k 0)) rfl ?_
  refine v_widen (k' := 3) (n' := 48) (Nat.le_of_ble_eq_true rfl) (Nat.le_of_ble_eq_true rfl) ?_
  exact v_nret (u := (fun k => [q0, q1, q2].getD k 0, fun k => [c0, c1, c2].getD k 0)) (wx := wx_CSettings_init h0) (tx := tx_CSettings_init) g hr hlk hK dk_11_init_28
def wx_CPlatforms_init (h0 : Nat) (u : Ux) : va_W := [(h0, .inr (6, [.int 0, .ref (u.1 0)])), (u.1 0, .inl (u.2 0, 64, .inl (fun _ => 0)))]
def tx_CPlatforms_init (u : Ux) : List (ClassId × FieldType) := [(u.2 0, .int)]
abbrev rm_CPlatforms_init : Room := { frames := 1, cells := 1, slots := 64, locals := 12 }
set_option maxHeartbeats 4000000 in
set_option maxRecDepth 100000 in
theorem c_CPlatforms_init {l : Launch} {D : va_G} {h0 : Nat} (sz : Nat) : Met l yk_9_init (.code yk_9_init bk_9_init 1 none :: tb) rm_CPlatforms_init (va_Pc [.ref h0] (fun U => U.heap.size = sz ∧ va_P D vwCl [(h0, (.inr (6, [.int 0, .null])))] U.heap ∧ va_K D vwCl [] U ∧ va_D (fun _ => True) [(h0, (.inr (6, [.int 0, .null])))] ∧ True)) (qN D vwCl (wx_CPlatforms_init h0) tx_CPlatforms_init (va_A [(h0, (.inr (6, [.int 0, .null])))] sz)) 1 64 (va_A [(h0, (.inr (6, [.int 0, .null])))] sz) := by
  refine met_n (Pn := fun _ => True) (by decide) (by decide) (fun p e s m below meth c A g hr hlk hin2 hK hA _ => ?_) rfl sz
  replace g : CallFix p m c bk_9_init 1 s _ tb Rk_9 := g
  refine v_aload_n g dk_9_init_0 0 rfl rfl (pc' := 1) rfl ?_
  refine v_objInit g (tb_1 50 rfl rfl) (tb_1 20 rfl rfl) (tb_1 21 rfl rfl) dk_9_init_1 (Nat.le_of_ble_eq_true rfl) (Nat.le_of_ble_eq_true rfl) (pc' := 4) rfl ?_
  refine v_aload_n g dk_9_init_4 0 rfl rfl (pc' := 5) rfl ?_
  refine v_bipush (v := 64) g dk_9_init_5 (by decide) (pc' := 7) rfl ?_
  refine v_newa (atype := .int) (ty := .int) (a0 := (64, .inl (fun _ => 0))) g (tb_1 44 rfl rfl) rfl hK hA (fun _ => rfl) (by decide) (N' := 64) (by decide +kernel) (B := 4) rfl (by omega) (Nat.le_of_ble_eq_true rfl) (Nat.le_of_ble_eq_true rfl) dk_9_init_7 (pc' := 9) rfl (fun q0 c0 hK => ?_)
  refine v_putF (ci := 6) (fs := [.int 0, .null]) (ty := (.array .int)) (ws' := [(h0, .inr (6, [.int 0, .ref q0])), (q0, .inl (c0, 64, .inl (fun _ => 0)))]) g hin2 hK ik_9 tk_9 tk_9_ok nk_9 0 rfl rfl 1 (by decide) (tb_1 52 rfl rfl) rfl rfl (by decide +kernel) rfl rfl (Nat.le_of_ble_eq_true rfl) rfl dk_9_init_9 (pc' := 12) rfl ?_
  refine v_ws (ws' := wx_CPlatforms_init h0 (fun k => [q0].getD k 0, fun k => [c0].getD k 0)) rfl ?_
  refine v_widen (k' := 1) (n' := 64) (Nat.le_of_ble_eq_true rfl) (Nat.le_of_ble_eq_true rfl) ?_
  exact v_nret (u := (fun k => [q0].getD k 0, fun k => [c0].getD k 0)) (wx := wx_CPlatforms_init h0) (tx := tx_CPlatforms_init) g hr hlk hK dk_9_init_12
def wx_CConfigurations_init (h0 : Nat) (u : Ux) : va_W := [(h0, .inr (3, [.int 0, .ref (u.1 0)])), (u.1 0, .inl (u.2 0, 60, .inr (.inl (fun _ => 0))))]
def tx_CConfigurations_init (u : Ux) : List (ClassId × FieldType) := [(u.2 0, .long)]
abbrev rm_CConfigurations_init : Room := { frames := 1, cells := 1, slots := 60, locals := 12 }
set_option maxHeartbeats 4000000 in
set_option maxRecDepth 100000 in
theorem c_CConfigurations_init {l : Launch} {D : va_G} {h0 : Nat} (sz : Nat) : Met l yk_6_init (.code yk_6_init bk_6_init 1 none :: tb) rm_CConfigurations_init (va_Pc [.ref h0] (fun U => U.heap.size = sz ∧ va_P D vwCl [(h0, (.inr (3, [.int 0, .null])))] U.heap ∧ va_K D vwCl [] U ∧ va_D (fun _ => True) [(h0, (.inr (3, [.int 0, .null])))] ∧ True)) (qN D vwCl (wx_CConfigurations_init h0) tx_CConfigurations_init (va_A [(h0, (.inr (3, [.int 0, .null])))] sz)) 1 60 (va_A [(h0, (.inr (3, [.int 0, .null])))] sz) := by
  refine met_n (Pn := fun _ => True) (by decide) (by decide) (fun p e s m below meth c A g hr hlk hin2 hK hA _ => ?_) rfl sz
  replace g : CallFix p m c bk_6_init 1 s _ tb Rk_6 := g
  refine v_aload_n g dk_6_init_0 0 rfl rfl (pc' := 1) rfl ?_
  refine v_objInit g (tb_1 63 rfl rfl) (tb_1 20 rfl rfl) (tb_1 21 rfl rfl) dk_6_init_1 (Nat.le_of_ble_eq_true rfl) (Nat.le_of_ble_eq_true rfl) (pc' := 4) rfl ?_
  refine v_aload_n g dk_6_init_4 0 rfl rfl (pc' := 5) rfl ?_
  refine v_bipush (v := 60) g dk_6_init_5 (by decide) (pc' := 7) rfl ?_
  refine v_newa (atype := .long) (ty := .long) (a0 := (60, .inr (.inl (fun _ => 0)))) g (tb_1 72 rfl rfl) rfl hK hA (fun _ => rfl) (by decide) (N' := 60) (by decide +kernel) (B := 8) rfl (by omega) (Nat.le_of_ble_eq_true rfl) (Nat.le_of_ble_eq_true rfl) dk_6_init_7 (pc' := 9) rfl (fun q0 c0 hK => ?_)
  refine v_putF (ci := 3) (fs := [.int 0, .null]) (ty := (.array .long)) (ws' := [(h0, .inr (3, [.int 0, .ref q0])), (q0, .inl (c0, 60, .inr (.inl (fun _ => 0))))]) g hin2 hK ik_6 tk_6 tk_6_ok nk_6 0 rfl rfl 1 (by decide) (tb_1 65 rfl rfl) rfl rfl (by decide +kernel) rfl rfl (Nat.le_of_ble_eq_true rfl) rfl dk_6_init_9 (pc' := 12) rfl ?_
  refine v_ws (ws' := wx_CConfigurations_init h0 (fun k => [q0].getD k 0, fun k => [c0].getD k 0)) rfl ?_
  refine v_widen (k' := 1) (n' := 60) (Nat.le_of_ble_eq_true rfl) (Nat.le_of_ble_eq_true rfl) ?_
  exact v_nret (u := (fun k => [q0].getD k 0, fun k => [c0].getD k 0)) (wx := wx_CConfigurations_init h0) (tx := tx_CConfigurations_init) g hr hlk hK dk_6_init_12
def wx_CConditions_init (h0 : Nat) (u : Ux) : va_W := [(h0, .inr (2, [.int 0, .ref (u.1 0), .ref (u.1 1), .ref (u.1 2)])), (u.1 0, .inl (u.2 0, 40, .inl (fun _ => 0))), (u.1 1, .inl (u.2 1, 240, .inl (fun _ => 0))), (u.1 2, .inl (u.2 2, 40, .inl (fun _ => 0)))]
def tx_CConditions_init (u : Ux) : List (ClassId × FieldType) := [(u.2 0, .int), (u.2 1, .int), (u.2 2, .boolean)]
abbrev rm_CConditions_init : Room := { frames := 1, cells := 3, slots := 320, locals := 12 }
set_option maxHeartbeats 4000000 in
set_option maxRecDepth 100000 in
theorem c_CConditions_init {l : Launch} {D : va_G} {h0 : Nat} (sz : Nat) : Met l yk_5_init (.code yk_5_init bk_5_init 1 none :: tb) rm_CConditions_init (va_Pc [.ref h0] (fun U => U.heap.size = sz ∧ va_P D vwCl [(h0, (.inr (2, [.int 0, .null, .null, .null])))] U.heap ∧ va_K D vwCl [] U ∧ va_D (fun _ => True) [(h0, (.inr (2, [.int 0, .null, .null, .null])))] ∧ True)) (qN D vwCl (wx_CConditions_init h0) tx_CConditions_init (va_A [(h0, (.inr (2, [.int 0, .null, .null, .null])))] sz)) 3 320 (va_A [(h0, (.inr (2, [.int 0, .null, .null, .null])))] sz) := by
  refine met_n (Pn := fun _ => True) (by decide) (by decide) (fun p e s m below meth c A g hr hlk hin2 hK hA _ => ?_) rfl sz
  replace g : CallFix p m c bk_5_init 1 s _ tb Rk_5 := g
  refine v_aload_n g dk_5_init_0 0 rfl rfl (pc' := 1) rfl ?_
  refine v_objInit g (tb_1 78 rfl rfl) (tb_1 20 rfl rfl) (tb_1 21 rfl rfl) dk_5_init_1 (Nat.le_of_ble_eq_true rfl) (Nat.le_of_ble_eq_true rfl) (pc' := 4) rfl ?_
  refine v_aload_n g dk_5_init_4 0 rfl rfl (pc' := 5) rfl ?_
  refine v_bipush (v := 40) g dk_5_init_5 (by decide) (pc' := 7) rfl ?_
  refine v_newa (atype := .int) (ty := .int) (a0 := (40, .inl (fun _ => 0))) g (tb_1 44 rfl rfl) rfl hK hA (fun _ => rfl) (by decide) (N' := 40) (by decide +kernel) (B := 4) rfl (by omega) (Nat.le_of_ble_eq_true rfl) (Nat.le_of_ble_eq_true rfl) dk_5_init_7 (pc' := 9) rfl (fun q0 c0 hK => ?_)
  refine v_putF (ci := 2) (fs := [.int 0, .null, .null, .null]) (ty := (.array .int)) (ws' := [(h0, .inr (2, [.int 0, .ref q0, .null, .null])), (q0, .inl (c0, 40, .inl (fun _ => 0)))]) g hin2 hK ik_5 tk_5 tk_5_ok nk_5 0 rfl rfl 1 (by decide) (tb_1 80 rfl rfl) rfl rfl (by decide +kernel) rfl rfl (Nat.le_of_ble_eq_true rfl) rfl dk_5_init_9 (pc' := 12) rfl ?_
  refine v_aload_n g dk_5_init_12 0 rfl rfl (pc' := 13) rfl ?_
  refine v_sipush (v := 240) g dk_5_init_13 (by decide) (pc' := 16) rfl ?_
  refine v_newa (atype := .int) (ty := .int) (a0 := (240, .inl (fun _ => 0))) g (tb_1 44 rfl rfl) rfl hK hA (fun _ => rfl) (by decide) (N' := 240) (by decide +kernel) (B := 4) rfl (by omega) (Nat.le_of_ble_eq_true rfl) (Nat.le_of_ble_eq_true rfl) dk_5_init_16 (pc' := 18) rfl (fun q1 c1 hK => ?_)
  refine v_putF (ci := 2) (fs := [.int 0, .ref q0, .null, .null]) (ty := (.array .int)) (ws' := [(h0, .inr (2, [.int 0, .ref q0, .ref q1, .null])), (q0, .inl (c0, 40, .inl (fun _ => 0))), (q1, .inl (c1, 240, .inl (fun _ => 0)))]) g hin2 hK ik_5 tk_5 tk_5_ok nk_5 0 rfl rfl 2 (by decide) (tb_1 82 rfl rfl) rfl rfl (by decide +kernel) rfl rfl (Nat.le_of_ble_eq_true rfl) rfl dk_5_init_18 (pc' := 21) rfl ?_
  refine v_aload_n g dk_5_init_21 0 rfl rfl (pc' := 22) rfl ?_
  refine v_bipush (v := 40) g dk_5_init_22 (by decide) (pc' := 24) rfl ?_
  refine v_newa (atype := .boolean) (ty := .boolean) (a0 := (40, .inl (fun _ => 0))) g (tb_1 94 rfl rfl) rfl hK hA (fun _ => rfl) (by decide) (N' := 40) (by decide +kernel) (B := 1) rfl (by omega) (Nat.le_of_ble_eq_true rfl) (Nat.le_of_ble_eq_true rfl) dk_5_init_24 (pc' := 26) rfl (fun q2 c2 hK => ?_)
  refine v_putF (ci := 2) (fs := [.int 0, .ref q0, .ref q1, .null]) (ty := (.array .boolean)) (ws' := [(h0, .inr (2, [.int 0, .ref q0, .ref q1, .ref q2])), (q0, .inl (c0, 40, .inl (fun _ => 0))), (q1, .inl (c1, 240, .inl (fun _ => 0))), (q2, .inl (c2, 40, .inl (fun _ => 0)))]) g hin2 hK ik_5 tk_5 tk_5_ok nk_5 0 rfl rfl 3 (by decide) (tb_1 83 rfl rfl) rfl rfl (by decide +kernel) rfl rfl (Nat.le_of_ble_eq_true rfl) rfl dk_5_init_26 (pc' := 29) rfl ?_
  refine v_ws (ws' := wx_CConditions_init h0 (fun k => [q0, q1, q2].getD k 0, fun k => [c0, c1, c2].getD k 0)) rfl ?_
  refine v_widen (k' := 3) (n' := 320) (Nat.le_of_ble_eq_true rfl) (Nat.le_of_ble_eq_true rfl) ?_
  exact v_nret (u := (fun k => [q0, q1, q2].getD k 0, fun k => [c0, c1, c2].getD k 0)) (wx := wx_CConditions_init h0) (tx := tx_CConditions_init) g hr hlk hK dk_5_init_29
def wx_CTargets_init (h0 : Nat) (u : Ux) : va_W := [(h0, .inr (9, [.int 0, .ref (u.1 0), .ref (u.1 1)])), (u.1 0, .inl (u.2 0, 16, .inl (fun _ => 0))), (u.1 1, .inl (u.2 1, 16, .inl (fun _ => 0)))]
def tx_CTargets_init (u : Ux) : List (ClassId × FieldType) := [(u.2 0, .int), (u.2 1, .int)]
abbrev rm_CTargets_init : Room := { frames := 1, cells := 2, slots := 32, locals := 12 }
set_option maxHeartbeats 4000000 in
set_option maxRecDepth 100000 in
theorem c_CTargets_init {l : Launch} {D : va_G} {h0 : Nat} (sz : Nat) : Met l yk_12_init (.code yk_12_init bk_12_init 1 none :: tb) rm_CTargets_init (va_Pc [.ref h0] (fun U => U.heap.size = sz ∧ va_P D vwCl [(h0, (.inr (9, [.int 0, .null, .null])))] U.heap ∧ va_K D vwCl [] U ∧ va_D (fun _ => True) [(h0, (.inr (9, [.int 0, .null, .null])))] ∧ True)) (qN D vwCl (wx_CTargets_init h0) tx_CTargets_init (va_A [(h0, (.inr (9, [.int 0, .null, .null])))] sz)) 2 32 (va_A [(h0, (.inr (9, [.int 0, .null, .null])))] sz) := by
  refine met_n (Pn := fun _ => True) (by decide) (by decide) (fun p e s m below meth c A g hr hlk hin2 hK hA _ => ?_) rfl sz
  replace g : CallFix p m c bk_12_init 1 s _ tb Rk_12 := g
  refine v_aload_n g dk_12_init_0 0 rfl rfl (pc' := 1) rfl ?_
  refine v_objInit g (tb_1 100 rfl rfl) (tb_1 20 rfl rfl) (tb_1 21 rfl rfl) dk_12_init_1 (Nat.le_of_ble_eq_true rfl) (Nat.le_of_ble_eq_true rfl) (pc' := 4) rfl ?_
  refine v_aload_n g dk_12_init_4 0 rfl rfl (pc' := 5) rfl ?_
  refine v_bipush (v := 16) g dk_12_init_5 (by decide) (pc' := 7) rfl ?_
  refine v_newa (atype := .int) (ty := .int) (a0 := (16, .inl (fun _ => 0))) g (tb_1 44 rfl rfl) rfl hK hA (fun _ => rfl) (by decide) (N' := 16) (by decide +kernel) (B := 4) rfl (by omega) (Nat.le_of_ble_eq_true rfl) (Nat.le_of_ble_eq_true rfl) dk_12_init_7 (pc' := 9) rfl (fun q0 c0 hK => ?_)
  refine v_putF (ci := 9) (fs := [.int 0, .null, .null]) (ty := (.array .int)) (ws' := [(h0, .inr (9, [.int 0, .ref q0, .null])), (q0, .inl (c0, 16, .inl (fun _ => 0)))]) g hin2 hK ik_12 tk_12 tk_12_ok nk_12 0 rfl rfl 1 (by decide) (tb_1 103 rfl rfl) rfl rfl (by decide +kernel) rfl rfl (Nat.le_of_ble_eq_true rfl) rfl dk_12_init_9 (pc' := 12) rfl ?_
  refine v_aload_n g dk_12_init_12 0 rfl rfl (pc' := 13) rfl ?_
  refine v_bipush (v := 16) g dk_12_init_13 (by decide) (pc' := 15) rfl ?_
  refine v_newa (atype := .int) (ty := .int) (a0 := (16, .inl (fun _ => 0))) g (tb_1 44 rfl rfl) rfl hK hA (fun _ => rfl) (by decide) (N' := 16) (by decide +kernel) (B := 4) rfl (by omega) (Nat.le_of_ble_eq_true rfl) (Nat.le_of_ble_eq_true rfl) dk_12_init_15 (pc' := 17) rfl (fun q1 c1 hK => ?_)
  refine v_putF (ci := 9) (fs := [.int 0, .ref q0, .null]) (ty := (.array .int)) (ws' := [(h0, .inr (9, [.int 0, .ref q0, .ref q1])), (q0, .inl (c0, 16, .inl (fun _ => 0))), (q1, .inl (c1, 16, .inl (fun _ => 0)))]) g hin2 hK ik_12 tk_12 tk_12_ok nk_12 0 rfl rfl 2 (by decide) (tb_1 105 rfl rfl) rfl rfl (by decide +kernel) rfl rfl (Nat.le_of_ble_eq_true rfl) rfl dk_12_init_17 (pc' := 20) rfl ?_
  refine v_ws (ws' := wx_CTargets_init h0 (fun k => [q0, q1].getD k 0, fun k => [c0, c1].getD k 0)) rfl ?_
  refine v_widen (k' := 2) (n' := 32) (Nat.le_of_ble_eq_true rfl) (Nat.le_of_ble_eq_true rfl) ?_
  exact v_nret (u := (fun k => [q0, q1].getD k 0, fun k => [c0, c1].getD k 0)) (wx := wx_CTargets_init h0) (tx := tx_CTargets_init) g hr hlk hK dk_12_init_20
def wx_CSelects_init (h0 : Nat) (u : Ux) : va_W := [(h0, .inr (7, [.int 0, .ref (u.1 0), .ref (u.1 1), .ref (u.1 2), .ref (u.1 3), .ref (u.1 4), .ref (u.1 5), .ref (u.1 6), .ref (u.1 7)])), (u.1 0, .inl (u.2 0, 24, .inl (fun _ => 0))), (u.1 1, .inl (u.2 1, 24, .inr (.inl (fun _ => 0)))), (u.1 2, .inl (u.2 2, 24, .inl (fun _ => 0))), (u.1 3, .inl (u.2 3, 24, .inl (fun _ => 0))), (u.1 4, .inl (u.2 4, 24, .inl (fun _ => 0))), (u.1 5, .inl (u.2 5, 192, .inl (fun _ => 0))), (u.1 6, .inl (u.2 6, 192, .inl (fun _ => 0))), (u.1 7, .inl (u.2 7, 192, .inl (fun _ => 0)))]
def tx_CSelects_init (u : Ux) : List (ClassId × FieldType) := [(u.2 0, .int), (u.2 1, .long), (u.2 2, .boolean), (u.2 3, .boolean), (u.2 4, .int), (u.2 5, .int), (u.2 6, .boolean), (u.2 7, .int)]
abbrev rm_CSelects_init : Room := { frames := 1, cells := 8, slots := 696, locals := 12 }
set_option maxHeartbeats 4000000 in
set_option maxRecDepth 100000 in
theorem c_CSelects_init {l : Launch} {D : va_G} {h0 : Nat} (sz : Nat) : Met l yk_10_init (.code yk_10_init bk_10_init 1 none :: tb) rm_CSelects_init (va_Pc [.ref h0] (fun U => U.heap.size = sz ∧ va_P D vwCl [(h0, (.inr (7, [.int 0, .null, .null, .null, .null, .null, .null, .null, .null])))] U.heap ∧ va_K D vwCl [] U ∧ va_D (fun _ => True) [(h0, (.inr (7, [.int 0, .null, .null, .null, .null, .null, .null, .null, .null])))] ∧ True)) (qN D vwCl (wx_CSelects_init h0) tx_CSelects_init (va_A [(h0, (.inr (7, [.int 0, .null, .null, .null, .null, .null, .null, .null, .null])))] sz)) 8 696 (va_A [(h0, (.inr (7, [.int 0, .null, .null, .null, .null, .null, .null, .null, .null])))] sz) := by
  refine met_n (Pn := fun _ => True) (by decide) (by decide) (fun p e s m below meth c A g hr hlk hin2 hK hA _ => ?_) rfl sz
  replace g : CallFix p m c bk_10_init 1 s _ tb Rk_10 := g
  refine v_aload_n g dk_10_init_0 0 rfl rfl (pc' := 1) rfl ?_
  refine v_objInit g (tb_1 119 rfl rfl) (tb_1 20 rfl rfl) (tb_1 21 rfl rfl) dk_10_init_1 (Nat.le_of_ble_eq_true rfl) (Nat.le_of_ble_eq_true rfl) (pc' := 4) rfl ?_
  refine v_aload_n g dk_10_init_4 0 rfl rfl (pc' := 5) rfl ?_
  refine v_bipush (v := 24) g dk_10_init_5 (by decide) (pc' := 7) rfl ?_
  refine v_newa (atype := .int) (ty := .int) (a0 := (24, .inl (fun _ => 0))) g (tb_1 44 rfl rfl) rfl hK hA (fun _ => rfl) (by decide) (N' := 24) (by decide +kernel) (B := 4) rfl (by omega) (Nat.le_of_ble_eq_true rfl) (Nat.le_of_ble_eq_true rfl) dk_10_init_7 (pc' := 9) rfl (fun q0 c0 hK => ?_)
  refine v_putF (ci := 7) (fs := [.int 0, .null, .null, .null, .null, .null, .null, .null, .null]) (ty := (.array .int)) (ws' := [(h0, .inr (7, [.int 0, .ref q0, .null, .null, .null, .null, .null, .null, .null])), (q0, .inl (c0, 24, .inl (fun _ => 0)))]) g hin2 hK ik_10 tk_10 tk_10_ok nk_10 0 rfl rfl 1 (by decide) (tb_1 122 rfl rfl) rfl rfl (by decide +kernel) rfl rfl (Nat.le_of_ble_eq_true rfl) rfl dk_10_init_9 (pc' := 12) rfl ?_
  refine v_aload_n g dk_10_init_12 0 rfl rfl (pc' := 13) rfl ?_
  refine v_bipush (v := 24) g dk_10_init_13 (by decide) (pc' := 15) rfl ?_
  refine v_newa (atype := .long) (ty := .long) (a0 := (24, .inr (.inl (fun _ => 0)))) g (tb_1 72 rfl rfl) rfl hK hA (fun _ => rfl) (by decide) (N' := 24) (by decide +kernel) (B := 8) rfl (by omega) (Nat.le_of_ble_eq_true rfl) (Nat.le_of_ble_eq_true rfl) dk_10_init_15 (pc' := 17) rfl (fun q1 c1 hK => ?_)
  refine v_putF (ci := 7) (fs := [.int 0, .ref q0, .null, .null, .null, .null, .null, .null, .null]) (ty := (.array .long)) (ws' := [(h0, .inr (7, [.int 0, .ref q0, .ref q1, .null, .null, .null, .null, .null, .null])), (q0, .inl (c0, 24, .inl (fun _ => 0))), (q1, .inl (c1, 24, .inr (.inl (fun _ => 0))))]) g hin2 hK ik_10 tk_10 tk_10_ok nk_10 0 rfl rfl 2 (by decide) (tb_1 124 rfl rfl) rfl rfl (by decide +kernel) rfl rfl (Nat.le_of_ble_eq_true rfl) rfl dk_10_init_17 (pc' := 20) rfl ?_
  refine v_aload_n g dk_10_init_20 0 rfl rfl (pc' := 21) rfl ?_
  refine v_bipush (v := 24) g dk_10_init_21 (by decide) (pc' := 23) rfl ?_
  refine v_newa (atype := .boolean) (ty := .boolean) (a0 := (24, .inl (fun _ => 0))) g (tb_1 94 rfl rfl) rfl hK hA (fun _ => rfl) (by decide) (N' := 24) (by decide +kernel) (B := 1) rfl (by omega) (Nat.le_of_ble_eq_true rfl) (Nat.le_of_ble_eq_true rfl) dk_10_init_23 (pc' := 25) rfl (fun q2 c2 hK => ?_)
  refine v_putF (ci := 7) (fs := [.int 0, .ref q0, .ref q1, .null, .null, .null, .null, .null, .null]) (ty := (.array .boolean)) (ws' := [(h0, .inr (7, [.int 0, .ref q0, .ref q1, .ref q2, .null, .null, .null, .null, .null])), (q0, .inl (c0, 24, .inl (fun _ => 0))), (q1, .inl (c1, 24, .inr (.inl (fun _ => 0)))), (q2, .inl (c2, 24, .inl (fun _ => 0)))]) g hin2 hK ik_10 tk_10 tk_10_ok nk_10 0 rfl rfl 3 (by decide) (tb_1 126 rfl rfl) rfl rfl (by decide +kernel) rfl rfl (Nat.le_of_ble_eq_true rfl) rfl dk_10_init_25 (pc' := 28) rfl ?_
  refine v_aload_n g dk_10_init_28 0 rfl rfl (pc' := 29) rfl ?_
  refine v_bipush (v := 24) g dk_10_init_29 (by decide) (pc' := 31) rfl ?_
  refine v_newa (atype := .boolean) (ty := .boolean) (a0 := (24, .inl (fun _ => 0))) g (tb_1 94 rfl rfl) rfl hK hA (fun _ => rfl) (by decide) (N' := 24) (by decide +kernel) (B := 1) rfl (by omega) (Nat.le_of_ble_eq_true rfl) (Nat.le_of_ble_eq_true rfl) dk_10_init_31 (pc' := 33) rfl (fun q3 c3 hK => ?_)
  refine v_putF (ci := 7) (fs := [.int 0, .ref q0, .ref q1, .ref q2, .null, .null, .null, .null, .null]) (ty := (.array .boolean)) (ws' := [(h0, .inr (7, [.int 0, .ref q0, .ref q1, .ref q2, .ref q3, .null, .null, .null, .null])), (q0, .inl (c0, 24, .inl (fun _ => 0))), (q1, .inl (c1, 24, .inr (.inl (fun _ => 0)))), (q2, .inl (c2, 24, .inl (fun _ => 0))), (q3, .inl (c3, 24, .inl (fun _ => 0)))]) g hin2 hK ik_10 tk_10 tk_10_ok nk_10 0 rfl rfl 4 (by decide) (tb_1 127 rfl rfl) rfl rfl (by decide +kernel) rfl rfl (Nat.le_of_ble_eq_true rfl) rfl dk_10_init_33 (pc' := 36) rfl ?_
  refine v_aload_n g dk_10_init_36 0 rfl rfl (pc' := 37) rfl ?_
  refine v_bipush (v := 24) g dk_10_init_37 (by decide) (pc' := 39) rfl ?_
  refine v_newa (atype := .int) (ty := .int) (a0 := (24, .inl (fun _ => 0))) g (tb_1 44 rfl rfl) rfl hK hA (fun _ => rfl) (by decide) (N' := 24) (by decide +kernel) (B := 4) rfl (by omega) (Nat.le_of_ble_eq_true rfl) (Nat.le_of_ble_eq_true rfl) dk_10_init_39 (pc' := 41) rfl (fun q4 c4 hK => ?_)
  refine v_putF (ci := 7) (fs := [.int 0, .ref q0, .ref q1, .ref q2, .ref q3, .null, .null, .null, .null]) (ty := (.array .int)) (ws' := [(h0, .inr (7, [.int 0, .ref q0, .ref q1, .ref q2, .ref q3, .ref q4, .null, .null, .null])), (q0, .inl (c0, 24, .inl (fun _ => 0))), (q1, .inl (c1, 24, .inr (.inl (fun _ => 0)))), (q2, .inl (c2, 24, .inl (fun _ => 0))), (q3, .inl (c3, 24, .inl (fun _ => 0))), (q4, .inl (c4, 24, .inl (fun _ => 0)))]) g hin2 hK ik_10 tk_10 tk_10_ok nk_10 0 rfl rfl 5 (by decide) (tb_1 128 rfl rfl) rfl rfl (by decide +kernel) rfl rfl (Nat.le_of_ble_eq_true rfl) rfl dk_10_init_41 (pc' := 44) rfl ?_
  refine v_aload_n g dk_10_init_44 0 rfl rfl (pc' := 45) rfl ?_
  refine v_sipush (v := 192) g dk_10_init_45 (by decide) (pc' := 48) rfl ?_
  refine v_newa (atype := .int) (ty := .int) (a0 := (192, .inl (fun _ => 0))) g (tb_1 44 rfl rfl) rfl hK hA (fun _ => rfl) (by decide) (N' := 192) (by decide +kernel) (B := 4) rfl (by omega) (Nat.le_of_ble_eq_true rfl) (Nat.le_of_ble_eq_true rfl) dk_10_init_48 (pc' := 50) rfl (fun q5 c5 hK => ?_)
  refine v_putF (ci := 7) (fs := [.int 0, .ref q0, .ref q1, .ref q2, .ref q3, .ref q4, .null, .null, .null]) (ty := (.array .int)) (ws' := [(h0, .inr (7, [.int 0, .ref q0, .ref q1, .ref q2, .ref q3, .ref q4, .ref q5, .null, .null])), (q0, .inl (c0, 24, .inl (fun _ => 0))), (q1, .inl (c1, 24, .inr (.inl (fun _ => 0)))), (q2, .inl (c2, 24, .inl (fun _ => 0))), (q3, .inl (c3, 24, .inl (fun _ => 0))), (q4, .inl (c4, 24, .inl (fun _ => 0))), (q5, .inl (c5, 192, .inl (fun _ => 0)))]) g hin2 hK ik_10 tk_10 tk_10_ok nk_10 0 rfl rfl 6 (by decide) (tb_1 130 rfl rfl) rfl rfl (by decide +kernel) rfl rfl (Nat.le_of_ble_eq_true rfl) rfl dk_10_init_50 (pc' := 53) rfl ?_
  refine v_aload_n g dk_10_init_53 0 rfl rfl (pc' := 54) rfl ?_
  refine v_sipush (v := 192) g dk_10_init_54 (by decide) (pc' := 57) rfl ?_
  refine v_newa (atype := .boolean) (ty := .boolean) (a0 := (192, .inl (fun _ => 0))) g (tb_1 94 rfl rfl) rfl hK hA (fun _ => rfl) (by decide) (N' := 192) (by decide +kernel) (B := 1) rfl (by omega) (Nat.le_of_ble_eq_true rfl) (Nat.le_of_ble_eq_true rfl) dk_10_init_57 (pc' := 59) rfl (fun q6 c6 hK => ?_)
  refine v_putF (ci := 7) (fs := [.int 0, .ref q0, .ref q1, .ref q2, .ref q3, .ref q4, .ref q5, .null, .null]) (ty := (.array .boolean)) (ws' := [(h0, .inr (7, [.int 0, .ref q0, .ref q1, .ref q2, .ref q3, .ref q4, .ref q5, .ref q6, .null])), (q0, .inl (c0, 24, .inl (fun _ => 0))), (q1, .inl (c1, 24, .inr (.inl (fun _ => 0)))), (q2, .inl (c2, 24, .inl (fun _ => 0))), (q3, .inl (c3, 24, .inl (fun _ => 0))), (q4, .inl (c4, 24, .inl (fun _ => 0))), (q5, .inl (c5, 192, .inl (fun _ => 0))), (q6, .inl (c6, 192, .inl (fun _ => 0)))]) g hin2 hK ik_10 tk_10 tk_10_ok nk_10 0 rfl rfl 7 (by decide) (tb_1 131 rfl rfl) rfl rfl (by decide +kernel) rfl rfl (Nat.le_of_ble_eq_true rfl) rfl dk_10_init_59 (pc' := 62) rfl ?_
  refine v_aload_n g dk_10_init_62 0 rfl rfl (pc' := 63) rfl ?_
  refine v_sipush (v := 192) g dk_10_init_63 (by decide) (pc' := 66) rfl ?_
  refine v_newa (atype := .int) (ty := .int) (a0 := (192, .inl (fun _ => 0))) g (tb_1 44 rfl rfl) rfl hK hA (fun _ => rfl) (by decide) (N' := 192) (by decide +kernel) (B := 4) rfl (by omega) (Nat.le_of_ble_eq_true rfl) (Nat.le_of_ble_eq_true rfl) dk_10_init_66 (pc' := 68) rfl (fun q7 c7 hK => ?_)
  refine v_putF (ci := 7) (fs := [.int 0, .ref q0, .ref q1, .ref q2, .ref q3, .ref q4, .ref q5, .ref q6, .null]) (ty := (.array .int)) (ws' := [(h0, .inr (7, [.int 0, .ref q0, .ref q1, .ref q2, .ref q3, .ref q4, .ref q5, .ref q6, .ref q7])), (q0, .inl (c0, 24, .inl (fun _ => 0))), (q1, .inl (c1, 24, .inr (.inl (fun _ => 0)))), (q2, .inl (c2, 24, .inl (fun _ => 0))), (q3, .inl (c3, 24, .inl (fun _ => 0))), (q4, .inl (c4, 24, .inl (fun _ => 0))), (q5, .inl (c5, 192, .inl (fun _ => 0))), (q6, .inl (c6, 192, .inl (fun _ => 0))), (q7, .inl (c7, 192, .inl (fun _ => 0)))]) g hin2 hK ik_10 tk_10 tk_10_ok nk_10 0 rfl rfl 8 (by decide) (tb_1 133 rfl rfl) rfl rfl (by decide +kernel) rfl rfl (Nat.le_of_ble_eq_true rfl) rfl dk_10_init_68 (pc' := 71) rfl ?_
  refine v_ws (ws' := wx_CSelects_init h0 (fun k => [q0, q1, q2, q3, q4, q5, q6, q7].getD k 0, fun k => [c0, c1, c2, c3, c4, c5, c6, c7].getD k 0)) rfl ?_
  refine v_widen (k' := 8) (n' := 696) (Nat.le_of_ble_eq_true rfl) (Nat.le_of_ble_eq_true rfl) ?_
  exact v_nret (u := (fun k => [q0, q1, q2, q3, q4, q5, q6, q7].getD k 0, fun k => [c0, c1, c2, c3, c4, c5, c6, c7].getD k 0)) (wx := wx_CSelects_init h0) (tx := tx_CSelects_init) g hr hlk hK dk_10_init_71
def wx_CNeeds_init (h0 : Nat) (u : Ux) : va_W := [(h0, .inr (4, [.int 0, .ref (u.1 0), .ref (u.1 1), .ref (u.1 2), .ref (u.1 3), .ref (u.1 4)])), (u.1 0, .inl (u.2 0, 40, .inl (fun _ => 0))), (u.1 1, .inl (u.2 1, 40, .inl (fun _ => 0))), (u.1 2, .inl (u.2 2, 40, .inl (fun _ => 0))), (u.1 3, .inl (u.2 3, 80, .inl (fun _ => 0))), (u.1 4, .inl (u.2 4, 80, .inl (fun _ => 0)))]
def tx_CNeeds_init (u : Ux) : List (ClassId × FieldType) := [(u.2 0, .int), (u.2 1, .int), (u.2 2, .int), (u.2 3, .int), (u.2 4, .int)]
abbrev rm_CNeeds_init : Room := { frames := 1, cells := 5, slots := 280, locals := 12 }
set_option maxHeartbeats 4000000 in
set_option maxRecDepth 100000 in
theorem c_CNeeds_init {l : Launch} {D : va_G} {h0 : Nat} (sz : Nat) : Met l yk_7_init (.code yk_7_init bk_7_init 1 none :: tb) rm_CNeeds_init (va_Pc [.ref h0] (fun U => U.heap.size = sz ∧ va_P D vwCl [(h0, (.inr (4, [.int 0, .null, .null, .null, .null, .null])))] U.heap ∧ va_K D vwCl [] U ∧ va_D (fun _ => True) [(h0, (.inr (4, [.int 0, .null, .null, .null, .null, .null])))] ∧ True)) (qN D vwCl (wx_CNeeds_init h0) tx_CNeeds_init (va_A [(h0, (.inr (4, [.int 0, .null, .null, .null, .null, .null])))] sz)) 5 280 (va_A [(h0, (.inr (4, [.int 0, .null, .null, .null, .null, .null])))] sz) := by
  refine met_n (Pn := fun _ => True) (by decide) (by decide) (fun p e s m below meth c A g hr hlk hin2 hK hA _ => ?_) rfl sz
  replace g : CallFix p m c bk_7_init 1 s _ tb Rk_7 := g
  refine v_aload_n g dk_7_init_0 0 rfl rfl (pc' := 1) rfl ?_
  refine v_objInit g (tb_1 159 rfl rfl) (tb_1 20 rfl rfl) (tb_1 21 rfl rfl) dk_7_init_1 (Nat.le_of_ble_eq_true rfl) (Nat.le_of_ble_eq_true rfl) (pc' := 4) rfl ?_
  refine v_aload_n g dk_7_init_4 0 rfl rfl (pc' := 5) rfl ?_
  refine v_bipush (v := 40) g dk_7_init_5 (by decide) (pc' := 7) rfl ?_
  refine v_newa (atype := .int) (ty := .int) (a0 := (40, .inl (fun _ => 0))) g (tb_1 44 rfl rfl) rfl hK hA (fun _ => rfl) (by decide) (N' := 40) (by decide +kernel) (B := 4) rfl (by omega) (Nat.le_of_ble_eq_true rfl) (Nat.le_of_ble_eq_true rfl) dk_7_init_7 (pc' := 9) rfl (fun q0 c0 hK => ?_)
  refine v_putF (ci := 4) (fs := [.int 0, .null, .null, .null, .null, .null]) (ty := (.array .int)) (ws' := [(h0, .inr (4, [.int 0, .ref q0, .null, .null, .null, .null])), (q0, .inl (c0, 40, .inl (fun _ => 0)))]) g hin2 hK ik_7 tk_7 tk_7_ok nk_7 0 rfl rfl 1 (by decide) (tb_1 162 rfl rfl) rfl rfl (by decide +kernel) rfl rfl (Nat.le_of_ble_eq_true rfl) rfl dk_7_init_9 (pc' := 12) rfl ?_
  refine v_aload_n g dk_7_init_12 0 rfl rfl (pc' := 13) rfl ?_
  refine v_bipush (v := 40) g dk_7_init_13 (by decide) (pc' := 15) rfl ?_
  refine v_newa (atype := .int) (ty := .int) (a0 := (40, .inl (fun _ => 0))) g (tb_1 44 rfl rfl) rfl hK hA (fun _ => rfl) (by decide) (N' := 40) (by decide +kernel) (B := 4) rfl (by omega) (Nat.le_of_ble_eq_true rfl) (Nat.le_of_ble_eq_true rfl) dk_7_init_15 (pc' := 17) rfl (fun q1 c1 hK => ?_)
  refine v_putF (ci := 4) (fs := [.int 0, .ref q0, .null, .null, .null, .null]) (ty := (.array .int)) (ws' := [(h0, .inr (4, [.int 0, .ref q0, .ref q1, .null, .null, .null])), (q0, .inl (c0, 40, .inl (fun _ => 0))), (q1, .inl (c1, 40, .inl (fun _ => 0)))]) g hin2 hK ik_7 tk_7 tk_7_ok nk_7 0 rfl rfl 2 (by decide) (tb_1 164 rfl rfl) rfl rfl (by decide +kernel) rfl rfl (Nat.le_of_ble_eq_true rfl) rfl dk_7_init_17 (pc' := 20) rfl ?_
  refine v_aload_n g dk_7_init_20 0 rfl rfl (pc' := 21) rfl ?_
  refine v_bipush (v := 40) g dk_7_init_21 (by decide) (pc' := 23) rfl ?_
  refine v_newa (atype := .int) (ty := .int) (a0 := (40, .inl (fun _ => 0))) g (tb_1 44 rfl rfl) rfl hK hA (fun _ => rfl) (by decide) (N' := 40) (by decide +kernel) (B := 4) rfl (by omega) (Nat.le_of_ble_eq_true rfl) (Nat.le_of_ble_eq_true rfl) dk_7_init_23 (pc' := 25) rfl (fun q2 c2 hK => ?_)
  refine v_putF (ci := 4) (fs := [.int 0, .ref q0, .ref q1, .null, .null, .null]) (ty := (.array .int)) (ws' := [(h0, .inr (4, [.int 0, .ref q0, .ref q1, .ref q2, .null, .null])), (q0, .inl (c0, 40, .inl (fun _ => 0))), (q1, .inl (c1, 40, .inl (fun _ => 0))), (q2, .inl (c2, 40, .inl (fun _ => 0)))]) g hin2 hK ik_7 tk_7 tk_7_ok nk_7 0 rfl rfl 3 (by decide) (tb_1 166 rfl rfl) rfl rfl (by decide +kernel) rfl rfl (Nat.le_of_ble_eq_true rfl) rfl dk_7_init_25 (pc' := 28) rfl ?_
  refine v_aload_n g dk_7_init_28 0 rfl rfl (pc' := 29) rfl ?_
  refine v_bipush (v := 80) g dk_7_init_29 (by decide) (pc' := 31) rfl ?_
  refine v_newa (atype := .int) (ty := .int) (a0 := (80, .inl (fun _ => 0))) g (tb_1 44 rfl rfl) rfl hK hA (fun _ => rfl) (by decide) (N' := 80) (by decide +kernel) (B := 4) rfl (by omega) (Nat.le_of_ble_eq_true rfl) (Nat.le_of_ble_eq_true rfl) dk_7_init_31 (pc' := 33) rfl (fun q3 c3 hK => ?_)
  refine v_putF (ci := 4) (fs := [.int 0, .ref q0, .ref q1, .ref q2, .null, .null]) (ty := (.array .int)) (ws' := [(h0, .inr (4, [.int 0, .ref q0, .ref q1, .ref q2, .ref q3, .null])), (q0, .inl (c0, 40, .inl (fun _ => 0))), (q1, .inl (c1, 40, .inl (fun _ => 0))), (q2, .inl (c2, 40, .inl (fun _ => 0))), (q3, .inl (c3, 80, .inl (fun _ => 0)))]) g hin2 hK ik_7 tk_7 tk_7_ok nk_7 0 rfl rfl 4 (by decide) (tb_1 168 rfl rfl) rfl rfl (by decide +kernel) rfl rfl (Nat.le_of_ble_eq_true rfl) rfl dk_7_init_33 (pc' := 36) rfl ?_
  refine v_aload_n g dk_7_init_36 0 rfl rfl (pc' := 37) rfl ?_
  refine v_bipush (v := 80) g dk_7_init_37 (by decide) (pc' := 39) rfl ?_
  refine v_newa (atype := .int) (ty := .int) (a0 := (80, .inl (fun _ => 0))) g (tb_1 44 rfl rfl) rfl hK hA (fun _ => rfl) (by decide) (N' := 80) (by decide +kernel) (B := 4) rfl (by omega) (Nat.le_of_ble_eq_true rfl) (Nat.le_of_ble_eq_true rfl) dk_7_init_39 (pc' := 41) rfl (fun q4 c4 hK => ?_)
  refine v_putF (ci := 4) (fs := [.int 0, .ref q0, .ref q1, .ref q2, .ref q3, .null]) (ty := (.array .int)) (ws' := [(h0, .inr (4, [.int 0, .ref q0, .ref q1, .ref q2, .ref q3, .ref q4])), (q0, .inl (c0, 40, .inl (fun _ => 0))), (q1, .inl (c1, 40, .inl (fun _ => 0))), (q2, .inl (c2, 40, .inl (fun _ => 0))), (q3, .inl (c3, 80, .inl (fun _ => 0))), (q4, .inl (c4, 80, .inl (fun _ => 0)))]) g hin2 hK ik_7 tk_7 tk_7_ok nk_7 0 rfl rfl 5 (by decide) (tb_1 169 rfl rfl) rfl rfl (by decide +kernel) rfl rfl (Nat.le_of_ble_eq_true rfl) rfl dk_7_init_41 (pc' := 44) rfl ?_
  refine v_ws (ws' := wx_CNeeds_init h0 (fun k => [q0, q1, q2, q3, q4].getD k 0, fun k => [c0, c1, c2, c3, c4].getD k 0)) rfl ?_
  refine v_widen (k' := 5) (n' := 280) (Nat.le_of_ble_eq_true rfl) (Nat.le_of_ble_eq_true rfl) ?_
  exact v_nret (u := (fun k => [q0, q1, q2, q3, q4].getD k 0, fun k => [c0, c1, c2, c3, c4].getD k 0)) (wx := wx_CNeeds_init h0) (tx := tx_CNeeds_init) g hr hlk hK dk_7_init_44
def wx_CPairs_init (h0 : Nat) (u : Ux) : va_W := [(h0, .inr (5, [.int 0, .ref (u.1 0), .ref (u.1 1), .ref (u.1 2), .ref (u.1 3)])), (u.1 0, .inl (u.2 0, 60, .inl (fun _ => 0))), (u.1 1, .inl (u.2 1, 60, .inl (fun _ => 0))), (u.1 2, .inl (u.2 2, 60, .inl (fun _ => 0))), (u.1 3, .inl (u.2 3, 60, .inr (.inl (fun _ => 0))))]
def tx_CPairs_init (u : Ux) : List (ClassId × FieldType) := [(u.2 0, .int), (u.2 1, .int), (u.2 2, .int), (u.2 3, .long)]
abbrev rm_CPairs_init : Room := { frames := 1, cells := 4, slots := 240, locals := 12 }
set_option maxHeartbeats 4000000 in
set_option maxRecDepth 100000 in
theorem c_CPairs_init {l : Launch} {D : va_G} {h0 : Nat} (sz : Nat) : Met l yk_8_init (.code yk_8_init bk_8_init 1 none :: tb) rm_CPairs_init (va_Pc [.ref h0] (fun U => U.heap.size = sz ∧ va_P D vwCl [(h0, (.inr (5, [.int 0, .null, .null, .null, .null])))] U.heap ∧ va_K D vwCl [] U ∧ va_D (fun _ => True) [(h0, (.inr (5, [.int 0, .null, .null, .null, .null])))] ∧ True)) (qN D vwCl (wx_CPairs_init h0) tx_CPairs_init (va_A [(h0, (.inr (5, [.int 0, .null, .null, .null, .null])))] sz)) 4 240 (va_A [(h0, (.inr (5, [.int 0, .null, .null, .null, .null])))] sz) := by
  refine met_n (Pn := fun _ => True) (by decide) (by decide) (fun p e s m below meth c A g hr hlk hin2 hK hA _ => ?_) rfl sz
  replace g : CallFix p m c bk_8_init 1 s _ tb Rk_8 := g
  refine v_aload_n g dk_8_init_0 0 rfl rfl (pc' := 1) rfl ?_
  refine v_objInit g (tb_1 188 rfl rfl) (tb_1 20 rfl rfl) (tb_1 21 rfl rfl) dk_8_init_1 (Nat.le_of_ble_eq_true rfl) (Nat.le_of_ble_eq_true rfl) (pc' := 4) rfl ?_
  refine v_aload_n g dk_8_init_4 0 rfl rfl (pc' := 5) rfl ?_
  refine v_bipush (v := 60) g dk_8_init_5 (by decide) (pc' := 7) rfl ?_
  refine v_newa (atype := .int) (ty := .int) (a0 := (60, .inl (fun _ => 0))) g (tb_1 44 rfl rfl) rfl hK hA (fun _ => rfl) (by decide) (N' := 60) (by decide +kernel) (B := 4) rfl (by omega) (Nat.le_of_ble_eq_true rfl) (Nat.le_of_ble_eq_true rfl) dk_8_init_7 (pc' := 9) rfl (fun q0 c0 hK => ?_)
  refine v_putF (ci := 5) (fs := [.int 0, .null, .null, .null, .null]) (ty := (.array .int)) (ws' := [(h0, .inr (5, [.int 0, .ref q0, .null, .null, .null])), (q0, .inl (c0, 60, .inl (fun _ => 0)))]) g hin2 hK ik_8 tk_8 tk_8_ok nk_8 0 rfl rfl 1 (by decide) (tb_1 191 rfl rfl) rfl rfl (by decide +kernel) rfl rfl (Nat.le_of_ble_eq_true rfl) rfl dk_8_init_9 (pc' := 12) rfl ?_
  refine v_aload_n g dk_8_init_12 0 rfl rfl (pc' := 13) rfl ?_
  refine v_bipush (v := 60) g dk_8_init_13 (by decide) (pc' := 15) rfl ?_
  refine v_newa (atype := .int) (ty := .int) (a0 := (60, .inl (fun _ => 0))) g (tb_1 44 rfl rfl) rfl hK hA (fun _ => rfl) (by decide) (N' := 60) (by decide +kernel) (B := 4) rfl (by omega) (Nat.le_of_ble_eq_true rfl) (Nat.le_of_ble_eq_true rfl) dk_8_init_15 (pc' := 17) rfl (fun q1 c1 hK => ?_)
  refine v_putF (ci := 5) (fs := [.int 0, .ref q0, .null, .null, .null]) (ty := (.array .int)) (ws' := [(h0, .inr (5, [.int 0, .ref q0, .ref q1, .null, .null])), (q0, .inl (c0, 60, .inl (fun _ => 0))), (q1, .inl (c1, 60, .inl (fun _ => 0)))]) g hin2 hK ik_8 tk_8 tk_8_ok nk_8 0 rfl rfl 2 (by decide) (tb_1 193 rfl rfl) rfl rfl (by decide +kernel) rfl rfl (Nat.le_of_ble_eq_true rfl) rfl dk_8_init_17 (pc' := 20) rfl ?_
  refine v_aload_n g dk_8_init_20 0 rfl rfl (pc' := 21) rfl ?_
  refine v_bipush (v := 60) g dk_8_init_21 (by decide) (pc' := 23) rfl ?_
  refine v_newa (atype := .int) (ty := .int) (a0 := (60, .inl (fun _ => 0))) g (tb_1 44 rfl rfl) rfl hK hA (fun _ => rfl) (by decide) (N' := 60) (by decide +kernel) (B := 4) rfl (by omega) (Nat.le_of_ble_eq_true rfl) (Nat.le_of_ble_eq_true rfl) dk_8_init_23 (pc' := 25) rfl (fun q2 c2 hK => ?_)
  refine v_putF (ci := 5) (fs := [.int 0, .ref q0, .ref q1, .null, .null]) (ty := (.array .int)) (ws' := [(h0, .inr (5, [.int 0, .ref q0, .ref q1, .ref q2, .null])), (q0, .inl (c0, 60, .inl (fun _ => 0))), (q1, .inl (c1, 60, .inl (fun _ => 0))), (q2, .inl (c2, 60, .inl (fun _ => 0)))]) g hin2 hK ik_8 tk_8 tk_8_ok nk_8 0 rfl rfl 3 (by decide) (tb_1 195 rfl rfl) rfl rfl (by decide +kernel) rfl rfl (Nat.le_of_ble_eq_true rfl) rfl dk_8_init_25 (pc' := 28) rfl ?_
  refine v_aload_n g dk_8_init_28 0 rfl rfl (pc' := 29) rfl ?_
  refine v_bipush (v := 60) g dk_8_init_29 (by decide) (pc' := 31) rfl ?_
  refine v_newa (atype := .long) (ty := .long) (a0 := (60, .inr (.inl (fun _ => 0)))) g (tb_1 72 rfl rfl) rfl hK hA (fun _ => rfl) (by decide) (N' := 60) (by decide +kernel) (B := 8) rfl (by omega) (Nat.le_of_ble_eq_true rfl) (Nat.le_of_ble_eq_true rfl) dk_8_init_31 (pc' := 33) rfl (fun q3 c3 hK => ?_)
  refine v_putF (ci := 5) (fs := [.int 0, .ref q0, .ref q1, .ref q2, .null]) (ty := (.array .long)) (ws' := [(h0, .inr (5, [.int 0, .ref q0, .ref q1, .ref q2, .ref q3])), (q0, .inl (c0, 60, .inl (fun _ => 0))), (q1, .inl (c1, 60, .inl (fun _ => 0))), (q2, .inl (c2, 60, .inl (fun _ => 0))), (q3, .inl (c3, 60, .inr (.inl (fun _ => 0))))]) g hin2 hK ik_8 tk_8 tk_8_ok nk_8 0 rfl rfl 4 (by decide) (tb_1 197 rfl rfl) rfl rfl (by decide +kernel) rfl rfl (Nat.le_of_ble_eq_true rfl) rfl dk_8_init_33 (pc' := 36) rfl ?_
  refine v_ws (ws' := wx_CPairs_init h0 (fun k => [q0, q1, q2, q3].getD k 0, fun k => [c0, c1, c2, c3].getD k 0)) rfl ?_
  refine v_widen (k' := 4) (n' := 240) (Nat.le_of_ble_eq_true rfl) (Nat.le_of_ble_eq_true rfl) ?_
  exact v_nret (u := (fun k => [q0, q1, q2, q3].getD k 0, fun k => [c0, c1, c2, c3].getD k 0)) (wx := wx_CPairs_init h0) (tx := tx_CPairs_init) g hr hlk hK dk_8_init_36
def wx_CX_init (h0 : Nat) (u : Ux) : va_W := wdC (va_up u.1 0 h0) u.2 (sL St0 0 0)
def tx_CX_init (u : Ux) : List (ClassId × FieldType) := tyC u.2
theorem ad_eta {ad : Nat → Nat} {h0 : Nat} (h : ad 0 = h0) : va_up ad 0 h0 = ad := by
  funext k
  unfold va_up
  by_cases hk : k = 0
  · rw [if_pos hk, hk, h]
  · rw [if_neg hk]
def nest_C (U : State) : Prop := va_Nw (.methodLinkNest Rk_0 11 yk_11_init Rk_0) U ∧ va_Nw (.methodLinkNest Rk_0 18 yk_9_init Rk_0) U ∧ va_Nw (.methodLinkNest Rk_0 25 yk_6_init Rk_0) U ∧ va_Nw (.methodLinkNest Rk_0 32 yk_5_init Rk_0) U ∧ va_Nw (.methodLinkNest Rk_0 39 yk_12_init Rk_0) U ∧ va_Nw (.methodLinkNest Rk_0 46 yk_10_init Rk_0) U ∧ va_Nw (.methodLinkNest Rk_0 53 yk_7_init Rk_0) U ∧ va_Nw (.methodLinkNest Rk_0 60 yk_8_init Rk_0) U ∧ True
theorem gtb {y : MethodName} {bytes : ByteArray} {maxL : Nat} {ret : Option FieldType} (h3 : Cond.code y bytes maxL ret ∈ tb) : GoodIn tb (.code y bytes maxL ret :: tb) := fun w hw => by
  rcases List.mem_cons.mp hw with rfl | hw
  · exact ⟨h3, tb_good h3⟩
  · exact ⟨hw, tb_good hw⟩
abbrev rm_CX_init : Room := { frames := 2, cells := 35, slots := 1775, locals := 32 }
set_option maxHeartbeats 8000000 in
set_option maxRecDepth 100000 in
theorem c_CX_init {l : Launch} {D : va_G} {h0 : Nat} (sz : Nat) : Met l yk_0_init (.code yk_0_init bk_0_init 1 none :: tb) rm_CX_init (va_Pc [.ref h0] (fun U => U.heap.size = sz ∧ va_P D vwCl [(h0, (.inr (0, [.null, .null, .null, .null, .null, .null, .null, .null, .long 0])))] U.heap ∧ va_K D vwCl [] U ∧ va_D (fun _ => True) [(h0, (.inr (0, [.null, .null, .null, .null, .null, .null, .null, .null, .long 0])))] ∧ nest_C U)) (qN D vwCl (wx_CX_init h0) tx_CX_init (va_A [(h0, (.inr (0, [.null, .null, .null, .null, .null, .null, .null, .null, .long 0])))] sz)) 35 1775 (va_A [(h0, (.inr (0, [.null, .null, .null, .null, .null, .null, .null, .null, .long 0])))] sz) := by
  refine met_n (Pn := nest_C) (by decide) (by decide) (fun p e s m below meth c A g hr hlk hin2 hK hA hN => ?_) rfl sz
  replace g : CallFix p m c bk_0_init 1 s _ tb Rk_0 := g
  unfold nest_C at hN
  refine v_aload_n g dk_0_init_0 0 rfl rfl (pc' := 1) rfl ?_
  refine v_objInit g (tb_1 19 rfl rfl) (tb_1 20 rfl rfl) (tb_1 21 rfl rfl) dk_0_init_1 (Nat.le_of_ble_eq_true rfl) (Nat.le_of_ble_eq_true rfl) (pc' := 4) rfl ?_
  refine v_aload_n g dk_0_init_4 0 rfl rfl (pc' := 5) rfl ?_
  refine v_new (ci := 8) (fs := [.int 0, .null, .null, .null]) g ik_11 tk_11 tk_11_ok (tb_1 22 rfl rfl) (tb_1 23 rfl rfl) (tb_1 2 rfl rfl) hK hA rfl (by decide) (Nat.le_of_ble_eq_true rfl) (Nat.le_of_ble_eq_true rfl) dk_0_init_5 (pc' := 8) rfl (fun q0 => ?_)
  refine v_dup g dk_0_init_8 rfl (pc' := 9) rfl ?_
  refine v_ctorN (Pn := fun _ => True) (wr := [(h0, .inr (0, [.null, .null, .null, .null, .null, .null, .null, .null, .long 0]))]) (rest := [.ref q0, .ref h0]) g hK hA (fun sz => c_CSettings_init sz) ⟨va_cnB 0 g.2.2.2.2 (gtb (tb_1 26 rfl rfl)) rfl rfl rfl (hN.1) (g.2.2.2.2 _ (tb_1 2 rfl rfl)) (by decide +kernel) ⟨(Nat.le_of_ble_eq_true rfl), (Nat.le_of_ble_eq_true rfl)⟩, rfl, g.2.2.2.2 _ (tb_1 25 rfl rfl)⟩ (fun _ _ _ _ h => h) (fun _ _ => trivial) 1 [0] rfl rfl rfl (by decide) (Nat.le_of_ble_eq_true rfl) dk_0_init_9 (Nat.le_of_ble_eq_true rfl) (Nat.le_of_ble_eq_true rfl) (pc' := 12) rfl (fun u0 hK => ?_)
  refine v_putF (ci := 0) (fs := [.null, .null, .null, .null, .null, .null, .null, .null, .long 0]) (ty := .object "SelectConfig$Settings") (ws' := [(h0, .inr (0, [.ref q0, .null, .null, .null, .null, .null, .null, .null, .long 0])), (q0, .inr (8, [.int 0, .ref (u0.1 0), .ref (u0.1 1), .ref (u0.1 2)])), (u0.1 0, .inl (u0.2 0, 16, .inl (fun _ => 0))), (u0.1 1, .inl (u0.2 1, 16, .inl (fun _ => 0))), (u0.1 2, .inl (u0.2 2, 16, .inl (fun _ => 0)))]) g hin2 hK ik_0 tk_0 tk_0_ok nk_0 0 rfl rfl 0 (by decide) (tb_1 213 rfl rfl) rfl rfl (by decide +kernel) rfl rfl (Nat.le_of_ble_eq_true rfl) rfl dk_0_init_12 (pc' := 15) rfl ?_
  refine v_aload_n g dk_0_init_15 0 rfl rfl (pc' := 16) rfl ?_
  refine v_new (ci := 6) (fs := [.int 0, .null]) g ik_9 tk_9 tk_9_ok (tb_1 45 rfl rfl) (tb_1 46 rfl rfl) (tb_1 3 rfl rfl) hK hA rfl (by decide) (Nat.le_of_ble_eq_true rfl) (Nat.le_of_ble_eq_true rfl) dk_0_init_16 (pc' := 19) rfl (fun q1 => ?_)
  refine v_dup g dk_0_init_19 rfl (pc' := 20) rfl ?_
  refine v_ctorN (Pn := fun _ => True) (wr := [(h0, .inr (0, [.ref q0, .null, .null, .null, .null, .null, .null, .null, .long 0])), (q0, .inr (8, [.int 0, .ref (u0.1 0), .ref (u0.1 1), .ref (u0.1 2)])), (u0.1 0, .inl (u0.2 0, 16, .inl (fun _ => 0))), (u0.1 1, .inl (u0.2 1, 16, .inl (fun _ => 0))), (u0.1 2, .inl (u0.2 2, 16, .inl (fun _ => 0)))]) (rest := [.ref q1, .ref h0]) g hK hA (fun sz => c_CPlatforms_init sz) ⟨va_cnB 0 g.2.2.2.2 (gtb (tb_1 49 rfl rfl)) rfl rfl rfl (hN.2.1) (g.2.2.2.2 _ (tb_1 3 rfl rfl)) (by decide +kernel) ⟨(Nat.le_of_ble_eq_true rfl), (Nat.le_of_ble_eq_true rfl)⟩, rfl, g.2.2.2.2 _ (tb_1 48 rfl rfl)⟩ (fun _ _ _ _ h => h) (fun _ _ => trivial) 5 [0, 1, 2, 3, 4] rfl rfl rfl (by decide) (Nat.le_of_ble_eq_true rfl) dk_0_init_20 (Nat.le_of_ble_eq_true rfl) (Nat.le_of_ble_eq_true rfl) (pc' := 23) rfl (fun u1 hK => ?_)
  refine v_putF (ci := 0) (fs := [.ref q0, .null, .null, .null, .null, .null, .null, .null, .long 0]) (ty := .object "SelectConfig$Platforms") (ws' := [(h0, .inr (0, [.ref q0, .ref q1, .null, .null, .null, .null, .null, .null, .long 0])), (q0, .inr (8, [.int 0, .ref (u0.1 0), .ref (u0.1 1), .ref (u0.1 2)])), (u0.1 0, .inl (u0.2 0, 16, .inl (fun _ => 0))), (u0.1 1, .inl (u0.2 1, 16, .inl (fun _ => 0))), (u0.1 2, .inl (u0.2 2, 16, .inl (fun _ => 0))), (q1, .inr (6, [.int 0, .ref (u1.1 0)])), (u1.1 0, .inl (u1.2 0, 64, .inl (fun _ => 0)))]) g hin2 hK ik_0 tk_0 tk_0_ok nk_0 0 rfl rfl 1 (by decide) (tb_1 214 rfl rfl) rfl rfl (by decide +kernel) rfl rfl (Nat.le_of_ble_eq_true rfl) rfl dk_0_init_23 (pc' := 26) rfl ?_
  refine v_aload_n g dk_0_init_26 0 rfl rfl (pc' := 27) rfl ?_
  refine v_new (ci := 3) (fs := [.int 0, .null]) g ik_6 tk_6 tk_6_ok (tb_1 58 rfl rfl) (tb_1 59 rfl rfl) (tb_1 4 rfl rfl) hK hA rfl (by decide) (Nat.le_of_ble_eq_true rfl) (Nat.le_of_ble_eq_true rfl) dk_0_init_27 (pc' := 30) rfl (fun q2 => ?_)
  refine v_dup g dk_0_init_30 rfl (pc' := 31) rfl ?_
  refine v_ctorN (Pn := fun _ => True) (wr := [(h0, .inr (0, [.ref q0, .ref q1, .null, .null, .null, .null, .null, .null, .long 0])), (q0, .inr (8, [.int 0, .ref (u0.1 0), .ref (u0.1 1), .ref (u0.1 2)])), (u0.1 0, .inl (u0.2 0, 16, .inl (fun _ => 0))), (u0.1 1, .inl (u0.2 1, 16, .inl (fun _ => 0))), (u0.1 2, .inl (u0.2 2, 16, .inl (fun _ => 0))), (q1, .inr (6, [.int 0, .ref (u1.1 0)])), (u1.1 0, .inl (u1.2 0, 64, .inl (fun _ => 0)))]) (rest := [.ref q2, .ref h0]) g hK hA (fun sz => c_CConfigurations_init sz) ⟨va_cnB 0 g.2.2.2.2 (gtb (tb_1 62 rfl rfl)) rfl rfl rfl (hN.2.2.1) (g.2.2.2.2 _ (tb_1 4 rfl rfl)) (by decide +kernel) ⟨(Nat.le_of_ble_eq_true rfl), (Nat.le_of_ble_eq_true rfl)⟩, rfl, g.2.2.2.2 _ (tb_1 61 rfl rfl)⟩ (fun _ _ _ _ h => h) (fun _ _ => trivial) 7 [0, 1, 2, 3, 4, 5, 6] rfl rfl rfl (by decide) (Nat.le_of_ble_eq_true rfl) dk_0_init_31 (Nat.le_of_ble_eq_true rfl) (Nat.le_of_ble_eq_true rfl) (pc' := 34) rfl (fun u2 hK => ?_)
  refine v_putF (ci := 0) (fs := [.ref q0, .ref q1, .null, .null, .null, .null, .null, .null, .long 0]) (ty := .object "SelectConfig$Configurations") (ws' := [(h0, .inr (0, [.ref q0, .ref q1, .ref q2, .null, .null, .null, .null, .null, .long 0])), (q0, .inr (8, [.int 0, .ref (u0.1 0), .ref (u0.1 1), .ref (u0.1 2)])), (u0.1 0, .inl (u0.2 0, 16, .inl (fun _ => 0))), (u0.1 1, .inl (u0.2 1, 16, .inl (fun _ => 0))), (u0.1 2, .inl (u0.2 2, 16, .inl (fun _ => 0))), (q1, .inr (6, [.int 0, .ref (u1.1 0)])), (u1.1 0, .inl (u1.2 0, 64, .inl (fun _ => 0))), (q2, .inr (3, [.int 0, .ref (u2.1 0)])), (u2.1 0, .inl (u2.2 0, 60, .inr (.inl (fun _ => 0))))]) g hin2 hK ik_0 tk_0 tk_0_ok nk_0 0 rfl rfl 2 (by decide) (tb_1 215 rfl rfl) rfl rfl (by decide +kernel) rfl rfl (Nat.le_of_ble_eq_true rfl) rfl dk_0_init_34 (pc' := 37) rfl ?_
  refine v_aload_n g dk_0_init_37 0 rfl rfl (pc' := 38) rfl ?_
  refine v_new (ci := 2) (fs := [.int 0, .null, .null, .null]) g ik_5 tk_5 tk_5_ok (tb_1 73 rfl rfl) (tb_1 74 rfl rfl) (tb_1 5 rfl rfl) hK hA rfl (by decide) (Nat.le_of_ble_eq_true rfl) (Nat.le_of_ble_eq_true rfl) dk_0_init_38 (pc' := 41) rfl (fun q3 => ?_)
  refine v_dup g dk_0_init_41 rfl (pc' := 42) rfl ?_
  refine v_ctorN (Pn := fun _ => True) (wr := [(h0, .inr (0, [.ref q0, .ref q1, .ref q2, .null, .null, .null, .null, .null, .long 0])), (q0, .inr (8, [.int 0, .ref (u0.1 0), .ref (u0.1 1), .ref (u0.1 2)])), (u0.1 0, .inl (u0.2 0, 16, .inl (fun _ => 0))), (u0.1 1, .inl (u0.2 1, 16, .inl (fun _ => 0))), (u0.1 2, .inl (u0.2 2, 16, .inl (fun _ => 0))), (q1, .inr (6, [.int 0, .ref (u1.1 0)])), (u1.1 0, .inl (u1.2 0, 64, .inl (fun _ => 0))), (q2, .inr (3, [.int 0, .ref (u2.1 0)])), (u2.1 0, .inl (u2.2 0, 60, .inr (.inl (fun _ => 0))))]) (rest := [.ref q3, .ref h0]) g hK hA (fun sz => c_CConditions_init sz) ⟨va_cnB 0 g.2.2.2.2 (gtb (tb_1 77 rfl rfl)) rfl rfl rfl (hN.2.2.2.1) (g.2.2.2.2 _ (tb_1 5 rfl rfl)) (by decide +kernel) ⟨(Nat.le_of_ble_eq_true rfl), (Nat.le_of_ble_eq_true rfl)⟩, rfl, g.2.2.2.2 _ (tb_1 76 rfl rfl)⟩ (fun _ _ _ _ h => h) (fun _ _ => trivial) 9 [0, 1, 2, 3, 4, 5, 6, 7, 8] rfl rfl rfl (by decide) (Nat.le_of_ble_eq_true rfl) dk_0_init_42 (Nat.le_of_ble_eq_true rfl) (Nat.le_of_ble_eq_true rfl) (pc' := 45) rfl (fun u3 hK => ?_)
  refine v_putF (ci := 0) (fs := [.ref q0, .ref q1, .ref q2, .null, .null, .null, .null, .null, .long 0]) (ty := .object "SelectConfig$Conditions") (ws' := [(h0, .inr (0, [.ref q0, .ref q1, .ref q2, .ref q3, .null, .null, .null, .null, .long 0])), (q0, .inr (8, [.int 0, .ref (u0.1 0), .ref (u0.1 1), .ref (u0.1 2)])), (u0.1 0, .inl (u0.2 0, 16, .inl (fun _ => 0))), (u0.1 1, .inl (u0.2 1, 16, .inl (fun _ => 0))), (u0.1 2, .inl (u0.2 2, 16, .inl (fun _ => 0))), (q1, .inr (6, [.int 0, .ref (u1.1 0)])), (u1.1 0, .inl (u1.2 0, 64, .inl (fun _ => 0))), (q2, .inr (3, [.int 0, .ref (u2.1 0)])), (u2.1 0, .inl (u2.2 0, 60, .inr (.inl (fun _ => 0)))), (q3, .inr (2, [.int 0, .ref (u3.1 0), .ref (u3.1 1), .ref (u3.1 2)])), (u3.1 0, .inl (u3.2 0, 40, .inl (fun _ => 0))), (u3.1 1, .inl (u3.2 1, 240, .inl (fun _ => 0))), (u3.1 2, .inl (u3.2 2, 40, .inl (fun _ => 0)))]) g hin2 hK ik_0 tk_0 tk_0_ok nk_0 0 rfl rfl 3 (by decide) (tb_1 216 rfl rfl) rfl rfl (by decide +kernel) rfl rfl (Nat.le_of_ble_eq_true rfl) rfl dk_0_init_45 (pc' := 48) rfl ?_
  refine v_aload_n g dk_0_init_48 0 rfl rfl (pc' := 49) rfl ?_
  refine v_new (ci := 9) (fs := [.int 0, .null, .null]) g ik_12 tk_12 tk_12_ok (tb_1 95 rfl rfl) (tb_1 96 rfl rfl) (tb_1 6 rfl rfl) hK hA rfl (by decide) (Nat.le_of_ble_eq_true rfl) (Nat.le_of_ble_eq_true rfl) dk_0_init_49 (pc' := 52) rfl (fun q4 => ?_)
  refine v_dup g dk_0_init_52 rfl (pc' := 53) rfl ?_
  refine v_ctorN (Pn := fun _ => True) (wr := [(h0, .inr (0, [.ref q0, .ref q1, .ref q2, .ref q3, .null, .null, .null, .null, .long 0])), (q0, .inr (8, [.int 0, .ref (u0.1 0), .ref (u0.1 1), .ref (u0.1 2)])), (u0.1 0, .inl (u0.2 0, 16, .inl (fun _ => 0))), (u0.1 1, .inl (u0.2 1, 16, .inl (fun _ => 0))), (u0.1 2, .inl (u0.2 2, 16, .inl (fun _ => 0))), (q1, .inr (6, [.int 0, .ref (u1.1 0)])), (u1.1 0, .inl (u1.2 0, 64, .inl (fun _ => 0))), (q2, .inr (3, [.int 0, .ref (u2.1 0)])), (u2.1 0, .inl (u2.2 0, 60, .inr (.inl (fun _ => 0)))), (q3, .inr (2, [.int 0, .ref (u3.1 0), .ref (u3.1 1), .ref (u3.1 2)])), (u3.1 0, .inl (u3.2 0, 40, .inl (fun _ => 0))), (u3.1 1, .inl (u3.2 1, 240, .inl (fun _ => 0))), (u3.1 2, .inl (u3.2 2, 40, .inl (fun _ => 0)))]) (rest := [.ref q4, .ref h0]) g hK hA (fun sz => c_CTargets_init sz) ⟨va_cnB 0 g.2.2.2.2 (gtb (tb_1 99 rfl rfl)) rfl rfl rfl (hN.2.2.2.2.1) (g.2.2.2.2 _ (tb_1 6 rfl rfl)) (by decide +kernel) ⟨(Nat.le_of_ble_eq_true rfl), (Nat.le_of_ble_eq_true rfl)⟩, rfl, g.2.2.2.2 _ (tb_1 98 rfl rfl)⟩ (fun _ _ _ _ h => h) (fun _ _ => trivial) 13 [0, 1, 2, 3, 4, 5, 6, 7, 8, 9, 10, 11, 12] rfl rfl rfl (by decide) (Nat.le_of_ble_eq_true rfl) dk_0_init_53 (Nat.le_of_ble_eq_true rfl) (Nat.le_of_ble_eq_true rfl) (pc' := 56) rfl (fun u4 hK => ?_)
  refine v_putF (ci := 0) (fs := [.ref q0, .ref q1, .ref q2, .ref q3, .null, .null, .null, .null, .long 0]) (ty := .object "SelectConfig$Targets") (ws' := [(h0, .inr (0, [.ref q0, .ref q1, .ref q2, .ref q3, .ref q4, .null, .null, .null, .long 0])), (q0, .inr (8, [.int 0, .ref (u0.1 0), .ref (u0.1 1), .ref (u0.1 2)])), (u0.1 0, .inl (u0.2 0, 16, .inl (fun _ => 0))), (u0.1 1, .inl (u0.2 1, 16, .inl (fun _ => 0))), (u0.1 2, .inl (u0.2 2, 16, .inl (fun _ => 0))), (q1, .inr (6, [.int 0, .ref (u1.1 0)])), (u1.1 0, .inl (u1.2 0, 64, .inl (fun _ => 0))), (q2, .inr (3, [.int 0, .ref (u2.1 0)])), (u2.1 0, .inl (u2.2 0, 60, .inr (.inl (fun _ => 0)))), (q3, .inr (2, [.int 0, .ref (u3.1 0), .ref (u3.1 1), .ref (u3.1 2)])), (u3.1 0, .inl (u3.2 0, 40, .inl (fun _ => 0))), (u3.1 1, .inl (u3.2 1, 240, .inl (fun _ => 0))), (u3.1 2, .inl (u3.2 2, 40, .inl (fun _ => 0))), (q4, .inr (9, [.int 0, .ref (u4.1 0), .ref (u4.1 1)])), (u4.1 0, .inl (u4.2 0, 16, .inl (fun _ => 0))), (u4.1 1, .inl (u4.2 1, 16, .inl (fun _ => 0)))]) g hin2 hK ik_0 tk_0 tk_0_ok nk_0 0 rfl rfl 4 (by decide) (tb_1 217 rfl rfl) rfl rfl (by decide +kernel) rfl rfl (Nat.le_of_ble_eq_true rfl) rfl dk_0_init_56 (pc' := 59) rfl ?_
  refine v_aload_n g dk_0_init_59 0 rfl rfl (pc' := 60) rfl ?_
  refine v_new (ci := 7) (fs := [.int 0, .null, .null, .null, .null, .null, .null, .null, .null]) g ik_10 tk_10 tk_10_ok (tb_1 114 rfl rfl) (tb_1 115 rfl rfl) (tb_1 7 rfl rfl) hK hA rfl (by decide) (Nat.le_of_ble_eq_true rfl) (Nat.le_of_ble_eq_true rfl) dk_0_init_60 (pc' := 63) rfl (fun q5 => ?_)
  refine v_dup g dk_0_init_63 rfl (pc' := 64) rfl ?_
  refine v_ctorN (Pn := fun _ => True) (wr := [(h0, .inr (0, [.ref q0, .ref q1, .ref q2, .ref q3, .ref q4, .null, .null, .null, .long 0])), (q0, .inr (8, [.int 0, .ref (u0.1 0), .ref (u0.1 1), .ref (u0.1 2)])), (u0.1 0, .inl (u0.2 0, 16, .inl (fun _ => 0))), (u0.1 1, .inl (u0.2 1, 16, .inl (fun _ => 0))), (u0.1 2, .inl (u0.2 2, 16, .inl (fun _ => 0))), (q1, .inr (6, [.int 0, .ref (u1.1 0)])), (u1.1 0, .inl (u1.2 0, 64, .inl (fun _ => 0))), (q2, .inr (3, [.int 0, .ref (u2.1 0)])), (u2.1 0, .inl (u2.2 0, 60, .inr (.inl (fun _ => 0)))), (q3, .inr (2, [.int 0, .ref (u3.1 0), .ref (u3.1 1), .ref (u3.1 2)])), (u3.1 0, .inl (u3.2 0, 40, .inl (fun _ => 0))), (u3.1 1, .inl (u3.2 1, 240, .inl (fun _ => 0))), (u3.1 2, .inl (u3.2 2, 40, .inl (fun _ => 0))), (q4, .inr (9, [.int 0, .ref (u4.1 0), .ref (u4.1 1)])), (u4.1 0, .inl (u4.2 0, 16, .inl (fun _ => 0))), (u4.1 1, .inl (u4.2 1, 16, .inl (fun _ => 0)))]) (rest := [.ref q5, .ref h0]) g hK hA (fun sz => c_CSelects_init sz) ⟨va_cnB 0 g.2.2.2.2 (gtb (tb_1 118 rfl rfl)) rfl rfl rfl (hN.2.2.2.2.2.1) (g.2.2.2.2 _ (tb_1 7 rfl rfl)) (by decide +kernel) ⟨(Nat.le_of_ble_eq_true rfl), (Nat.le_of_ble_eq_true rfl)⟩, rfl, g.2.2.2.2 _ (tb_1 117 rfl rfl)⟩ (fun _ _ _ _ h => h) (fun _ _ => trivial) 16 [0, 1, 2, 3, 4, 5, 6, 7, 8, 9, 10, 11, 12, 13, 14, 15] rfl rfl rfl (by decide) (Nat.le_of_ble_eq_true rfl) dk_0_init_64 (Nat.le_of_ble_eq_true rfl) (Nat.le_of_ble_eq_true rfl) (pc' := 67) rfl (fun u5 hK => ?_)
  refine v_putF (ci := 0) (fs := [.ref q0, .ref q1, .ref q2, .ref q3, .ref q4, .null, .null, .null, .long 0]) (ty := .object "SelectConfig$Selects") (ws' := [(h0, .inr (0, [.ref q0, .ref q1, .ref q2, .ref q3, .ref q4, .ref q5, .null, .null, .long 0])), (q0, .inr (8, [.int 0, .ref (u0.1 0), .ref (u0.1 1), .ref (u0.1 2)])), (u0.1 0, .inl (u0.2 0, 16, .inl (fun _ => 0))), (u0.1 1, .inl (u0.2 1, 16, .inl (fun _ => 0))), (u0.1 2, .inl (u0.2 2, 16, .inl (fun _ => 0))), (q1, .inr (6, [.int 0, .ref (u1.1 0)])), (u1.1 0, .inl (u1.2 0, 64, .inl (fun _ => 0))), (q2, .inr (3, [.int 0, .ref (u2.1 0)])), (u2.1 0, .inl (u2.2 0, 60, .inr (.inl (fun _ => 0)))), (q3, .inr (2, [.int 0, .ref (u3.1 0), .ref (u3.1 1), .ref (u3.1 2)])), (u3.1 0, .inl (u3.2 0, 40, .inl (fun _ => 0))), (u3.1 1, .inl (u3.2 1, 240, .inl (fun _ => 0))), (u3.1 2, .inl (u3.2 2, 40, .inl (fun _ => 0))), (q4, .inr (9, [.int 0, .ref (u4.1 0), .ref (u4.1 1)])), (u4.1 0, .inl (u4.2 0, 16, .inl (fun _ => 0))), (u4.1 1, .inl (u4.2 1, 16, .inl (fun _ => 0))), (q5, .inr (7, [.int 0, .ref (u5.1 0), .ref (u5.1 1), .ref (u5.1 2), .ref (u5.1 3), .ref (u5.1 4), .ref (u5.1 5), .ref (u5.1 6), .ref (u5.1 7)])), (u5.1 0, .inl (u5.2 0, 24, .inl (fun _ => 0))), (u5.1 1, .inl (u5.2 1, 24, .inr (.inl (fun _ => 0)))), (u5.1 2, .inl (u5.2 2, 24, .inl (fun _ => 0))), (u5.1 3, .inl (u5.2 3, 24, .inl (fun _ => 0))), (u5.1 4, .inl (u5.2 4, 24, .inl (fun _ => 0))), (u5.1 5, .inl (u5.2 5, 192, .inl (fun _ => 0))), (u5.1 6, .inl (u5.2 6, 192, .inl (fun _ => 0))), (u5.1 7, .inl (u5.2 7, 192, .inl (fun _ => 0)))]) g hin2 hK ik_0 tk_0 tk_0_ok nk_0 0 rfl rfl 5 (by decide) (tb_1 218 rfl rfl) rfl rfl (by decide +kernel) rfl rfl (Nat.le_of_ble_eq_true rfl) rfl dk_0_init_67 (pc' := 70) rfl ?_
  refine v_aload_n g dk_0_init_70 0 rfl rfl (pc' := 71) rfl ?_
  refine v_new (ci := 4) (fs := [.int 0, .null, .null, .null, .null, .null]) g ik_7 tk_7 tk_7_ok (tb_1 154 rfl rfl) (tb_1 155 rfl rfl) (tb_1 8 rfl rfl) hK hA rfl (by decide) (Nat.le_of_ble_eq_true rfl) (Nat.le_of_ble_eq_true rfl) dk_0_init_71 (pc' := 74) rfl (fun q6 => ?_)
  refine v_dup g dk_0_init_74 rfl (pc' := 75) rfl ?_
  refine v_ctorN (Pn := fun _ => True) (wr := [(h0, .inr (0, [.ref q0, .ref q1, .ref q2, .ref q3, .ref q4, .ref q5, .null, .null, .long 0])), (q0, .inr (8, [.int 0, .ref (u0.1 0), .ref (u0.1 1), .ref (u0.1 2)])), (u0.1 0, .inl (u0.2 0, 16, .inl (fun _ => 0))), (u0.1 1, .inl (u0.2 1, 16, .inl (fun _ => 0))), (u0.1 2, .inl (u0.2 2, 16, .inl (fun _ => 0))), (q1, .inr (6, [.int 0, .ref (u1.1 0)])), (u1.1 0, .inl (u1.2 0, 64, .inl (fun _ => 0))), (q2, .inr (3, [.int 0, .ref (u2.1 0)])), (u2.1 0, .inl (u2.2 0, 60, .inr (.inl (fun _ => 0)))), (q3, .inr (2, [.int 0, .ref (u3.1 0), .ref (u3.1 1), .ref (u3.1 2)])), (u3.1 0, .inl (u3.2 0, 40, .inl (fun _ => 0))), (u3.1 1, .inl (u3.2 1, 240, .inl (fun _ => 0))), (u3.1 2, .inl (u3.2 2, 40, .inl (fun _ => 0))), (q4, .inr (9, [.int 0, .ref (u4.1 0), .ref (u4.1 1)])), (u4.1 0, .inl (u4.2 0, 16, .inl (fun _ => 0))), (u4.1 1, .inl (u4.2 1, 16, .inl (fun _ => 0))), (q5, .inr (7, [.int 0, .ref (u5.1 0), .ref (u5.1 1), .ref (u5.1 2), .ref (u5.1 3), .ref (u5.1 4), .ref (u5.1 5), .ref (u5.1 6), .ref (u5.1 7)])), (u5.1 0, .inl (u5.2 0, 24, .inl (fun _ => 0))), (u5.1 1, .inl (u5.2 1, 24, .inr (.inl (fun _ => 0)))), (u5.1 2, .inl (u5.2 2, 24, .inl (fun _ => 0))), (u5.1 3, .inl (u5.2 3, 24, .inl (fun _ => 0))), (u5.1 4, .inl (u5.2 4, 24, .inl (fun _ => 0))), (u5.1 5, .inl (u5.2 5, 192, .inl (fun _ => 0))), (u5.1 6, .inl (u5.2 6, 192, .inl (fun _ => 0))), (u5.1 7, .inl (u5.2 7, 192, .inl (fun _ => 0)))]) (rest := [.ref q6, .ref h0]) g hK hA (fun sz => c_CNeeds_init sz) ⟨va_cnB 0 g.2.2.2.2 (gtb (tb_1 158 rfl rfl)) rfl rfl rfl (hN.2.2.2.2.2.2.1) (g.2.2.2.2 _ (tb_1 8 rfl rfl)) (by decide +kernel) ⟨(Nat.le_of_ble_eq_true rfl), (Nat.le_of_ble_eq_true rfl)⟩, rfl, g.2.2.2.2 _ (tb_1 157 rfl rfl)⟩ (fun _ _ _ _ h => h) (fun _ _ => trivial) 25 [0, 1, 2, 3, 4, 5, 6, 7, 8, 9, 10, 11, 12, 13, 14, 15, 16, 17, 18, 19, 20, 21, 22, 23, 24] rfl rfl rfl (by decide) (Nat.le_of_ble_eq_true rfl) dk_0_init_75 (Nat.le_of_ble_eq_true rfl) (Nat.le_of_ble_eq_true rfl) (pc' := 78) rfl (fun u6 hK => ?_)
  refine v_putF (ci := 0) (fs := [.ref q0, .ref q1, .ref q2, .ref q3, .ref q4, .ref q5, .null, .null, .long 0]) (ty := .object "SelectConfig$Needs") (ws' := [(h0, .inr (0, [.ref q0, .ref q1, .ref q2, .ref q3, .ref q4, .ref q5, .ref q6, .null, .long 0])), (q0, .inr (8, [.int 0, .ref (u0.1 0), .ref (u0.1 1), .ref (u0.1 2)])), (u0.1 0, .inl (u0.2 0, 16, .inl (fun _ => 0))), (u0.1 1, .inl (u0.2 1, 16, .inl (fun _ => 0))), (u0.1 2, .inl (u0.2 2, 16, .inl (fun _ => 0))), (q1, .inr (6, [.int 0, .ref (u1.1 0)])), (u1.1 0, .inl (u1.2 0, 64, .inl (fun _ => 0))), (q2, .inr (3, [.int 0, .ref (u2.1 0)])), (u2.1 0, .inl (u2.2 0, 60, .inr (.inl (fun _ => 0)))), (q3, .inr (2, [.int 0, .ref (u3.1 0), .ref (u3.1 1), .ref (u3.1 2)])), (u3.1 0, .inl (u3.2 0, 40, .inl (fun _ => 0))), (u3.1 1, .inl (u3.2 1, 240, .inl (fun _ => 0))), (u3.1 2, .inl (u3.2 2, 40, .inl (fun _ => 0))), (q4, .inr (9, [.int 0, .ref (u4.1 0), .ref (u4.1 1)])), (u4.1 0, .inl (u4.2 0, 16, .inl (fun _ => 0))), (u4.1 1, .inl (u4.2 1, 16, .inl (fun _ => 0))), (q5, .inr (7, [.int 0, .ref (u5.1 0), .ref (u5.1 1), .ref (u5.1 2), .ref (u5.1 3), .ref (u5.1 4), .ref (u5.1 5), .ref (u5.1 6), .ref (u5.1 7)])), (u5.1 0, .inl (u5.2 0, 24, .inl (fun _ => 0))), (u5.1 1, .inl (u5.2 1, 24, .inr (.inl (fun _ => 0)))), (u5.1 2, .inl (u5.2 2, 24, .inl (fun _ => 0))), (u5.1 3, .inl (u5.2 3, 24, .inl (fun _ => 0))), (u5.1 4, .inl (u5.2 4, 24, .inl (fun _ => 0))), (u5.1 5, .inl (u5.2 5, 192, .inl (fun _ => 0))), (u5.1 6, .inl (u5.2 6, 192, .inl (fun _ => 0))), (u5.1 7, .inl (u5.2 7, 192, .inl (fun _ => 0))), (q6, .inr (4, [.int 0, .ref (u6.1 0), .ref (u6.1 1), .ref (u6.1 2), .ref (u6.1 3), .ref (u6.1 4)])), (u6.1 0, .inl (u6.2 0, 40, .inl (fun _ => 0))), (u6.1 1, .inl (u6.2 1, 40, .inl (fun _ => 0))), (u6.1 2, .inl (u6.2 2, 40, .inl (fun _ => 0))), (u6.1 3, .inl (u6.2 3, 80, .inl (fun _ => 0))), (u6.1 4, .inl (u6.2 4, 80, .inl (fun _ => 0)))]) g hin2 hK ik_0 tk_0 tk_0_ok nk_0 0 rfl rfl 6 (by decide) (tb_1 219 rfl rfl) rfl rfl (by decide +kernel) rfl rfl (Nat.le_of_ble_eq_true rfl) rfl dk_0_init_78 (pc' := 81) rfl ?_
  refine v_aload_n g dk_0_init_81 0 rfl rfl (pc' := 82) rfl ?_
  refine v_new (ci := 5) (fs := [.int 0, .null, .null, .null, .null]) g ik_8 tk_8 tk_8_ok (tb_1 183 rfl rfl) (tb_1 184 rfl rfl) (tb_1 9 rfl rfl) hK hA rfl (by decide) (Nat.le_of_ble_eq_true rfl) (Nat.le_of_ble_eq_true rfl) dk_0_init_82 (pc' := 85) rfl (fun q7 => ?_)
  refine v_dup g dk_0_init_85 rfl (pc' := 86) rfl ?_
  refine v_ctorN (Pn := fun _ => True) (wr := [(h0, .inr (0, [.ref q0, .ref q1, .ref q2, .ref q3, .ref q4, .ref q5, .ref q6, .null, .long 0])), (q0, .inr (8, [.int 0, .ref (u0.1 0), .ref (u0.1 1), .ref (u0.1 2)])), (u0.1 0, .inl (u0.2 0, 16, .inl (fun _ => 0))), (u0.1 1, .inl (u0.2 1, 16, .inl (fun _ => 0))), (u0.1 2, .inl (u0.2 2, 16, .inl (fun _ => 0))), (q1, .inr (6, [.int 0, .ref (u1.1 0)])), (u1.1 0, .inl (u1.2 0, 64, .inl (fun _ => 0))), (q2, .inr (3, [.int 0, .ref (u2.1 0)])), (u2.1 0, .inl (u2.2 0, 60, .inr (.inl (fun _ => 0)))), (q3, .inr (2, [.int 0, .ref (u3.1 0), .ref (u3.1 1), .ref (u3.1 2)])), (u3.1 0, .inl (u3.2 0, 40, .inl (fun _ => 0))), (u3.1 1, .inl (u3.2 1, 240, .inl (fun _ => 0))), (u3.1 2, .inl (u3.2 2, 40, .inl (fun _ => 0))), (q4, .inr (9, [.int 0, .ref (u4.1 0), .ref (u4.1 1)])), (u4.1 0, .inl (u4.2 0, 16, .inl (fun _ => 0))), (u4.1 1, .inl (u4.2 1, 16, .inl (fun _ => 0))), (q5, .inr (7, [.int 0, .ref (u5.1 0), .ref (u5.1 1), .ref (u5.1 2), .ref (u5.1 3), .ref (u5.1 4), .ref (u5.1 5), .ref (u5.1 6), .ref (u5.1 7)])), (u5.1 0, .inl (u5.2 0, 24, .inl (fun _ => 0))), (u5.1 1, .inl (u5.2 1, 24, .inr (.inl (fun _ => 0)))), (u5.1 2, .inl (u5.2 2, 24, .inl (fun _ => 0))), (u5.1 3, .inl (u5.2 3, 24, .inl (fun _ => 0))), (u5.1 4, .inl (u5.2 4, 24, .inl (fun _ => 0))), (u5.1 5, .inl (u5.2 5, 192, .inl (fun _ => 0))), (u5.1 6, .inl (u5.2 6, 192, .inl (fun _ => 0))), (u5.1 7, .inl (u5.2 7, 192, .inl (fun _ => 0))), (q6, .inr (4, [.int 0, .ref (u6.1 0), .ref (u6.1 1), .ref (u6.1 2), .ref (u6.1 3), .ref (u6.1 4)])), (u6.1 0, .inl (u6.2 0, 40, .inl (fun _ => 0))), (u6.1 1, .inl (u6.2 1, 40, .inl (fun _ => 0))), (u6.1 2, .inl (u6.2 2, 40, .inl (fun _ => 0))), (u6.1 3, .inl (u6.2 3, 80, .inl (fun _ => 0))), (u6.1 4, .inl (u6.2 4, 80, .inl (fun _ => 0)))]) (rest := [.ref q7, .ref h0]) g hK hA (fun sz => c_CPairs_init sz) ⟨va_cnB 0 g.2.2.2.2 (gtb (tb_1 187 rfl rfl)) rfl rfl rfl (hN.2.2.2.2.2.2.2.1) (g.2.2.2.2 _ (tb_1 9 rfl rfl)) (by decide +kernel) ⟨(Nat.le_of_ble_eq_true rfl), (Nat.le_of_ble_eq_true rfl)⟩, rfl, g.2.2.2.2 _ (tb_1 186 rfl rfl)⟩ (fun _ _ _ _ h => h) (fun _ _ => trivial) 31 [0, 1, 2, 3, 4, 5, 6, 7, 8, 9, 10, 11, 12, 13, 14, 15, 16, 17, 18, 19, 20, 21, 22, 23, 24, 25, 26, 27, 28, 29, 30] rfl rfl rfl (by decide) (Nat.le_of_ble_eq_true rfl) dk_0_init_86 (Nat.le_of_ble_eq_true rfl) (Nat.le_of_ble_eq_true rfl) (pc' := 89) rfl (fun u7 hK => ?_)
  refine v_putF (ci := 0) (fs := [.ref q0, .ref q1, .ref q2, .ref q3, .ref q4, .ref q5, .ref q6, .null, .long 0]) (ty := .object "SelectConfig$Pairs") (ws' := [(h0, .inr (0, [.ref q0, .ref q1, .ref q2, .ref q3, .ref q4, .ref q5, .ref q6, .ref q7, .long 0])), (q0, .inr (8, [.int 0, .ref (u0.1 0), .ref (u0.1 1), .ref (u0.1 2)])), (u0.1 0, .inl (u0.2 0, 16, .inl (fun _ => 0))), (u0.1 1, .inl (u0.2 1, 16, .inl (fun _ => 0))), (u0.1 2, .inl (u0.2 2, 16, .inl (fun _ => 0))), (q1, .inr (6, [.int 0, .ref (u1.1 0)])), (u1.1 0, .inl (u1.2 0, 64, .inl (fun _ => 0))), (q2, .inr (3, [.int 0, .ref (u2.1 0)])), (u2.1 0, .inl (u2.2 0, 60, .inr (.inl (fun _ => 0)))), (q3, .inr (2, [.int 0, .ref (u3.1 0), .ref (u3.1 1), .ref (u3.1 2)])), (u3.1 0, .inl (u3.2 0, 40, .inl (fun _ => 0))), (u3.1 1, .inl (u3.2 1, 240, .inl (fun _ => 0))), (u3.1 2, .inl (u3.2 2, 40, .inl (fun _ => 0))), (q4, .inr (9, [.int 0, .ref (u4.1 0), .ref (u4.1 1)])), (u4.1 0, .inl (u4.2 0, 16, .inl (fun _ => 0))), (u4.1 1, .inl (u4.2 1, 16, .inl (fun _ => 0))), (q5, .inr (7, [.int 0, .ref (u5.1 0), .ref (u5.1 1), .ref (u5.1 2), .ref (u5.1 3), .ref (u5.1 4), .ref (u5.1 5), .ref (u5.1 6), .ref (u5.1 7)])), (u5.1 0, .inl (u5.2 0, 24, .inl (fun _ => 0))), (u5.1 1, .inl (u5.2 1, 24, .inr (.inl (fun _ => 0)))), (u5.1 2, .inl (u5.2 2, 24, .inl (fun _ => 0))), (u5.1 3, .inl (u5.2 3, 24, .inl (fun _ => 0))), (u5.1 4, .inl (u5.2 4, 24, .inl (fun _ => 0))), (u5.1 5, .inl (u5.2 5, 192, .inl (fun _ => 0))), (u5.1 6, .inl (u5.2 6, 192, .inl (fun _ => 0))), (u5.1 7, .inl (u5.2 7, 192, .inl (fun _ => 0))), (q6, .inr (4, [.int 0, .ref (u6.1 0), .ref (u6.1 1), .ref (u6.1 2), .ref (u6.1 3), .ref (u6.1 4)])), (u6.1 0, .inl (u6.2 0, 40, .inl (fun _ => 0))), (u6.1 1, .inl (u6.2 1, 40, .inl (fun _ => 0))), (u6.1 2, .inl (u6.2 2, 40, .inl (fun _ => 0))), (u6.1 3, .inl (u6.2 3, 80, .inl (fun _ => 0))), (u6.1 4, .inl (u6.2 4, 80, .inl (fun _ => 0))), (q7, .inr (5, [.int 0, .ref (u7.1 0), .ref (u7.1 1), .ref (u7.1 2), .ref (u7.1 3)])), (u7.1 0, .inl (u7.2 0, 60, .inl (fun _ => 0))), (u7.1 1, .inl (u7.2 1, 60, .inl (fun _ => 0))), (u7.1 2, .inl (u7.2 2, 60, .inl (fun _ => 0))), (u7.1 3, .inl (u7.2 3, 60, .inr (.inl (fun _ => 0))))]) g hin2 hK ik_0 tk_0 tk_0_ok nk_0 0 rfl rfl 7 (by decide) (tb_1 220 rfl rfl) rfl rfl (by decide +kernel) rfl rfl (Nat.le_of_ble_eq_true rfl) rfl dk_0_init_89 (pc' := 92) rfl ?_
  refine v_aload_n g dk_0_init_92 0 rfl rfl (pc' := 93) rfl ?_
  refine v_ws (ws' := wdC (fun k => [h0, q0, u0.1 0, u0.1 1, u0.1 2, q1, u1.1 0, q2, u2.1 0, q3, u3.1 0, u3.1 1, u3.1 2, q4, u4.1 0, u4.1 1, q5, u5.1 0, u5.1 1, u5.1 2, u5.1 3, u5.1 4, u5.1 5, u5.1 6, u5.1 7, q6, u6.1 0, u6.1 1, u6.1 2, u6.1 3, u6.1 4, q7, u7.1 0, u7.1 1, u7.1 2, u7.1 3].getD k 0) (fun k => [0, 0, u0.2 0, u0.2 1, u0.2 2, 0, u1.2 0, 0, u2.2 0, 0, u3.2 0, u3.2 1, u3.2 2, 0, u4.2 0, u4.2 1, 0, u5.2 0, u5.2 1, u5.2 2, u5.2 3, u5.2 4, u5.2 5, u5.2 6, u5.2 7, 0, u6.2 0, u6.2 1, u6.2 2, u6.2 3, u6.2 4, 0, u7.2 0, u7.2 1, u7.2 2, u7.2 3].getD k 0) St0) rfl ?_
  replace hK : va_K D vwCl (tyC (fun k => [0, 0, u0.2 0, u0.2 1, u0.2 2, 0, u1.2 0, 0, u2.2 0, 0, u3.2 0, u3.2 1, u3.2 2, 0, u4.2 0, u4.2 1, 0, u5.2 0, u5.2 1, u5.2 2, u5.2 3, u5.2 4, u5.2 5, u5.2 6, u5.2 7, 0, u6.2 0, u6.2 1, u6.2 2, u6.2 3, u6.2 4, 0, u7.2 0, u7.2 1, u7.2 2, u7.2 3].getD k 0)) s := hK
  generalize had : (fun k => [h0, q0, u0.1 0, u0.1 1, u0.1 2, q1, u1.1 0, q2, u2.1 0, q3, u3.1 0, u3.1 1, u3.1 2, q4, u4.1 0, u4.1 1, q5, u5.1 0, u5.1 1, u5.1 2, u5.1 3, u5.1 4, u5.1 5, u5.1 6, u5.1 7, q6, u6.1 0, u6.1 1, u6.1 2, u6.1 3, u6.1 4, q7, u7.1 0, u7.1 1, u7.1 2, u7.1 3].getD k 0) = ad
  generalize hca : (fun k => [0, 0, u0.2 0, u0.2 1, u0.2 2, 0, u1.2 0, 0, u2.2 0, 0, u3.2 0, u3.2 1, u3.2 2, 0, u4.2 0, u4.2 1, 0, u5.2 0, u5.2 1, u5.2 2, u5.2 3, u5.2 4, u5.2 5, u5.2 6, u5.2 7, 0, u6.2 0, u6.2 1, u6.2 2, u6.2 3, u6.2 4, 0, u7.2 0, u7.2 1, u7.2 2, u7.2 3].getD k 0) = ca at hK ⊢
  have h00 : ad 0 = h0 := by rw [← had]; rfl
  clear had hca
  subst h00
  refine v_callS_l (As := []) (rest := [.ref (ad 0)]) (r := 0) (S1 := St0) g hK hA (c_CChoices_nothing rfl) (kcC_X_65 g.2.2.2.2 rfl rfl (Nat.le_of_ble_eq_true rfl) (Nat.le_of_ble_eq_true rfl)) rfl rfl (Nat.le_of_ble_eq_true rfl) dk_0_init_93 (Nat.le_of_ble_eq_true rfl) (Nat.le_of_ble_eq_true rfl) (pc' := 96) rfl ?_
  refine pfC_X_71 g hK dk_0_init_96 (pc' := 99) rfl ?_
  refine v_ws (ws' := wx_CX_init (ad 0) (ad, ca)) (by unfold wx_CX_init; rw [ad_eta rfl]) ?_
  refine v_widen (k' := 35) (n' := 1775) (Nat.le_of_ble_eq_true rfl) (Nat.le_of_ble_eq_true rfl) ?_
  exact v_nret (u := (ad, ca)) (wx := wx_CX_init (ad 0)) (tx := tx_CX_init) g hr hlk hK dk_0_init_99
end
