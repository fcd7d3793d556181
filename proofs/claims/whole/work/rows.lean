section
-- ===== PART A: goes FIRST, ahead of the names: the tables' words, and 'selects' of the private methods out of them =====
/-- a private method of a class that the tables say can be made, by its rows of tables_1 -/
def lw_okq (q : MethodName × Nat) : Prop := (q.1.cls ≠ "java/lang/invoke/MethodHandle" ∧ q.1.cls ≠ "java/lang/invoke/VarHandle") ∧ Cond.instantiable q.1.cls q.2 ∈ tables_1 ∧ Cond.privateMethod q.1 ∈ tables_1 ∧ Cond.instanceMethod q.1 ∈ tables_1
theorem lw_p0 : lw_okq (⟨"SelectConfig", "trimmed", "(JI)J"⟩, 9) := ⟨⟨by decide +kernel, by decide +kernel⟩, List.mem_of_getElem? (i := 15) (by decide +kernel), List.mem_of_getElem? (i := 397) (by decide +kernel), List.mem_of_getElem? (i := 398) (by decide +kernel)⟩
theorem lw_p1 : lw_okq (⟨"SelectConfig", "isMet", "(IJ)Z"⟩, 9) := ⟨⟨by decide +kernel, by decide +kernel⟩, List.mem_of_getElem? (i := 15) (by decide +kernel), List.mem_of_getElem? (i := 428) (by decide +kernel), List.mem_of_getElem? (i := 429) (by decide +kernel)⟩
theorem lw_p2 : lw_okq (⟨"SelectConfig", "isAskingMet", "(IJ)Z"⟩, 9) := ⟨⟨by decide +kernel, by decide +kernel⟩, List.mem_of_getElem? (i := 15) (by decide +kernel), List.mem_of_getElem? (i := 433) (by decide +kernel), List.mem_of_getElem? (i := 434) (by decide +kernel)⟩
theorem lw_p3 : lw_okq (⟨"SelectConfig", "choosing", "(IJI)J"⟩, 9) := ⟨⟨by decide +kernel, by decide +kernel⟩, List.mem_of_getElem? (i := 15) (by decide +kernel), List.mem_of_getElem? (i := 456) (by decide +kernel), List.mem_of_getElem? (i := 457) (by decide +kernel)⟩
theorem lw_p4 : lw_okq (⟨"SelectConfig", "holdingBranches", "(IJ)I"⟩, 9) := ⟨⟨by decide +kernel, by decide +kernel⟩, List.mem_of_getElem? (i := 15) (by decide +kernel), List.mem_of_getElem? (i := 460) (by decide +kernel), List.mem_of_getElem? (i := 461) (by decide +kernel)⟩
theorem lw_p5 : lw_okq (⟨"SelectConfig", "mostSpecialBranches", "(II)I"⟩, 9) := ⟨⟨by decide +kernel, by decide +kernel⟩, List.mem_of_getElem? (i := 15) (by decide +kernel), List.mem_of_getElem? (i := 468) (by decide +kernel), List.mem_of_getElem? (i := 469) (by decide +kernel)⟩
theorem lw_p6 : lw_okq (⟨"SelectConfig", "isOutdone", "(III)Z"⟩, 9) := ⟨⟨by decide +kernel, by decide +kernel⟩, List.mem_of_getElem? (i := 15) (by decide +kernel), List.mem_of_getElem? (i := 472) (by decide +kernel), List.mem_of_getElem? (i := 473) (by decide +kernel)⟩
theorem lw_p7 : lw_okq (⟨"SelectConfig", "askedBy", "(I)I"⟩, 9) := ⟨⟨by decide +kernel, by decide +kernel⟩, List.mem_of_getElem? (i := 15) (by decide +kernel), List.mem_of_getElem? (i := 476) (by decide +kernel), List.mem_of_getElem? (i := 477) (by decide +kernel)⟩
theorem lw_p8 : lw_okq (⟨"SelectConfig", "givenBy", "(IJI)J"⟩, 9) := ⟨⟨by decide +kernel, by decide +kernel⟩, List.mem_of_getElem? (i := 15) (by decide +kernel), List.mem_of_getElem? (i := 481) (by decide +kernel), List.mem_of_getElem? (i := 482) (by decide +kernel)⟩
theorem lw_p9 : lw_okq (⟨"SelectConfig", "findWhatTargetsRead", "()V"⟩, 9) := ⟨⟨by decide +kernel, by decide +kernel⟩, List.mem_of_getElem? (i := 15) (by decide +kernel), List.mem_of_getElem? (i := 533) (by decide +kernel), List.mem_of_getElem? (i := 534) (by decide +kernel)⟩
theorem lw_p10 : lw_okq (⟨"SelectConfig", "findPairs", "(IJ)Z"⟩, 9) := ⟨⟨by decide +kernel, by decide +kernel⟩, List.mem_of_getElem? (i := 15) (by decide +kernel), List.mem_of_getElem? (i := 550) (by decide +kernel), List.mem_of_getElem? (i := 551) (by decide +kernel)⟩
theorem lw_p11 : lw_okq (⟨"SelectConfig", "pairOf", "(IJ)I"⟩, 9) := ⟨⟨by decide +kernel, by decide +kernel⟩, List.mem_of_getElem? (i := 15) (by decide +kernel), List.mem_of_getElem? (i := 554) (by decide +kernel), List.mem_of_getElem? (i := 555) (by decide +kernel)⟩
theorem lw_p12 : lw_okq (⟨"SelectConfig", "followNeed", "(II)Z"⟩, 9) := ⟨⟨by decide +kernel, by decide +kernel⟩, List.mem_of_getElem? (i := 15) (by decide +kernel), List.mem_of_getElem? (i := 562) (by decide +kernel), List.mem_of_getElem? (i := 563) (by decide +kernel)⟩
theorem lw_p13 : lw_okq (⟨"SelectConfig", "changedBase", "(II)I"⟩, 9) := ⟨⟨by decide +kernel, by decide +kernel⟩, List.mem_of_getElem? (i := 15) (by decide +kernel), List.mem_of_getElem? (i := 566) (by decide +kernel), List.mem_of_getElem? (i := 567) (by decide +kernel)⟩
theorem lw_p14 : lw_okq (⟨"SelectConfig", "turnsOf", "(III)I"⟩, 9) := ⟨⟨by decide +kernel, by decide +kernel⟩, List.mem_of_getElem? (i := 15) (by decide +kernel), List.mem_of_getElem? (i := 574) (by decide +kernel), List.mem_of_getElem? (i := 575) (by decide +kernel)⟩
theorem lw_p15 : lw_okq (⟨"SelectConfig", "leaveOutByWants", "()V"⟩, 9) := ⟨⟨by decide +kernel, by decide +kernel⟩, List.mem_of_getElem? (i := 15) (by decide +kernel), List.mem_of_getElem? (i := 585) (by decide +kernel), List.mem_of_getElem? (i := 586) (by decide +kernel)⟩
def lw_privs_1 : List (MethodName × Nat) := [(⟨"SelectConfig", "trimmed", "(JI)J"⟩, 9), (⟨"SelectConfig", "isMet", "(IJ)Z"⟩, 9), (⟨"SelectConfig", "isAskingMet", "(IJ)Z"⟩, 9), (⟨"SelectConfig", "choosing", "(IJI)J"⟩, 9), (⟨"SelectConfig", "holdingBranches", "(IJ)I"⟩, 9), (⟨"SelectConfig", "mostSpecialBranches", "(II)I"⟩, 9), (⟨"SelectConfig", "isOutdone", "(III)Z"⟩, 9), (⟨"SelectConfig", "askedBy", "(I)I"⟩, 9), (⟨"SelectConfig", "givenBy", "(IJI)J"⟩, 9), (⟨"SelectConfig", "findWhatTargetsRead", "()V"⟩, 9), (⟨"SelectConfig", "findPairs", "(IJ)Z"⟩, 9), (⟨"SelectConfig", "pairOf", "(IJ)I"⟩, 9), (⟨"SelectConfig", "followNeed", "(II)Z"⟩, 9), (⟨"SelectConfig", "changedBase", "(II)I"⟩, 9), (⟨"SelectConfig", "turnsOf", "(III)I"⟩, 9), (⟨"SelectConfig", "leaveOutByWants", "()V"⟩, 9)]
theorem lw_r1 : ∀ q ∈ lw_privs_1, lw_okq q := List.forall_mem_cons.mpr ⟨lw_p0, List.forall_mem_cons.mpr ⟨lw_p1, List.forall_mem_cons.mpr ⟨lw_p2, List.forall_mem_cons.mpr ⟨lw_p3, List.forall_mem_cons.mpr ⟨lw_p4, List.forall_mem_cons.mpr ⟨lw_p5, List.forall_mem_cons.mpr ⟨lw_p6, List.forall_mem_cons.mpr ⟨lw_p7, List.forall_mem_cons.mpr ⟨lw_p8, List.forall_mem_cons.mpr ⟨lw_p9, List.forall_mem_cons.mpr ⟨lw_p10, List.forall_mem_cons.mpr ⟨lw_p11, List.forall_mem_cons.mpr ⟨lw_p12, List.forall_mem_cons.mpr ⟨lw_p13, List.forall_mem_cons.mpr ⟨lw_p14, List.forall_mem_cons.mpr ⟨lw_p15, fun _ h => absurd h List.not_mem_nil⟩⟩⟩⟩⟩⟩⟩⟩⟩⟩⟩⟩⟩⟩⟩⟩
theorem lw_p16 : lw_okq (⟨"SelectConfig$Pairs", "allLeftOut", "()J"⟩, 5) := ⟨⟨by decide +kernel, by decide +kernel⟩, List.mem_of_getElem? (i := 184) (by decide +kernel), List.mem_of_getElem? (i := 593) (by decide +kernel), List.mem_of_getElem? (i := 594) (by decide +kernel)⟩
theorem lw_p17 : lw_okq (⟨"SelectConfigModel", "baseOf", "(I)I"⟩, 44) := ⟨⟨by decide +kernel, by decide +kernel⟩, List.mem_of_getElem? (i := 605) (by decide +kernel), List.mem_of_getElem? (i := 759) (by decide +kernel), List.mem_of_getElem? (i := 760) (by decide +kernel)⟩
theorem lw_p18 : lw_okq (⟨"SelectConfigModel", "isUsed", "(I)Z"⟩, 44) := ⟨⟨by decide +kernel, by decide +kernel⟩, List.mem_of_getElem? (i := 605) (by decide +kernel), List.mem_of_getElem? (i := 779) (by decide +kernel), List.mem_of_getElem? (i := 780) (by decide +kernel)⟩
theorem lw_p19 : lw_okq (⟨"SelectConfigModel", "isHolding", "(II)Z"⟩, 44) := ⟨⟨by decide +kernel, by decide +kernel⟩, List.mem_of_getElem? (i := 605) (by decide +kernel), List.mem_of_getElem? (i := 787) (by decide +kernel), List.mem_of_getElem? (i := 788) (by decide +kernel)⟩
theorem lw_p20 : lw_okq (⟨"SelectConfigModel", "isSo", "(II)Z"⟩, 44) := ⟨⟨by decide +kernel, by decide +kernel⟩, List.mem_of_getElem? (i := 605) (by decide +kernel), List.mem_of_getElem? (i := 791) (by decide +kernel), List.mem_of_getElem? (i := 792) (by decide +kernel)⟩
theorem lw_p21 : lw_okq (⟨"SelectConfigModel", "hasNested", "(I)Z"⟩, 44) := ⟨⟨by decide +kernel, by decide +kernel⟩, List.mem_of_getElem? (i := 605) (by decide +kernel), List.mem_of_getElem? (i := 811) (by decide +kernel), List.mem_of_getElem? (i := 812) (by decide +kernel)⟩
theorem lw_p22 : lw_okq (⟨"SelectConfigModel", "isWithin", "(I)Z"⟩, 44) := ⟨⟨by decide +kernel, by decide +kernel⟩, List.mem_of_getElem? (i := 605) (by decide +kernel), List.mem_of_getElem? (i := 815) (by decide +kernel), List.mem_of_getElem? (i := 816) (by decide +kernel)⟩
theorem lw_p23 : lw_okq (⟨"SelectConfigModel", "give", "(II)V"⟩, 44) := ⟨⟨by decide +kernel, by decide +kernel⟩, List.mem_of_getElem? (i := 605) (by decide +kernel), List.mem_of_getElem? (i := 827) (by decide +kernel), List.mem_of_getElem? (i := 828) (by decide +kernel)⟩
theorem lw_p24 : lw_okq (⟨"SelectConfigModel", "numbered", "()I"⟩, 44) := ⟨⟨by decide +kernel, by decide +kernel⟩, List.mem_of_getElem? (i := 605) (by decide +kernel), List.mem_of_getElem? (i := 831) (by decide +kernel), List.mem_of_getElem? (i := 832) (by decide +kernel)⟩
theorem lw_p25 : lw_okq (⟨"SelectConfigModel", "isAlike", "(II)Z"⟩, 44) := ⟨⟨by decide +kernel, by decide +kernel⟩, List.mem_of_getElem? (i := 605) (by decide +kernel), List.mem_of_getElem? (i := 835) (by decide +kernel), List.mem_of_getElem? (i := 836) (by decide +kernel)⟩
theorem lw_p26 : lw_okq (⟨"SelectConfigModel", "copy", "(II)V"⟩, 44) := ⟨⟨by decide +kernel, by decide +kernel⟩, List.mem_of_getElem? (i := 605) (by decide +kernel), List.mem_of_getElem? (i := 839) (by decide +kernel), List.mem_of_getElem? (i := 840) (by decide +kernel)⟩
theorem lw_p27 : lw_okq (⟨"SelectConfigModel", "chooseAll", "(II)V"⟩, 44) := ⟨⟨by decide +kernel, by decide +kernel⟩, List.mem_of_getElem? (i := 605) (by decide +kernel), List.mem_of_getElem? (i := 855) (by decide +kernel), List.mem_of_getElem? (i := 856) (by decide +kernel)⟩
theorem lw_p28 : lw_okq (⟨"SelectConfigModel", "mostSpecial", "(II)I"⟩, 44) := ⟨⟨by decide +kernel, by decide +kernel⟩, List.mem_of_getElem? (i := 605) (by decide +kernel), List.mem_of_getElem? (i := 859) (by decide +kernel), List.mem_of_getElem? (i := 860) (by decide +kernel)⟩
theorem lw_p29 : lw_okq (⟨"SelectConfigModel", "isSpecial", "(II)Z"⟩, 44) := ⟨⟨by decide +kernel, by decide +kernel⟩, List.mem_of_getElem? (i := 605) (by decide +kernel), List.mem_of_getElem? (i := 863) (by decide +kernel), List.mem_of_getElem? (i := 864) (by decide +kernel)⟩
theorem lw_p30 : lw_okq (⟨"SelectConfigModel", "hasAll", "(II)Z"⟩, 44) := ⟨⟨by decide +kernel, by decide +kernel⟩, List.mem_of_getElem? (i := 605) (by decide +kernel), List.mem_of_getElem? (i := 867) (by decide +kernel), List.mem_of_getElem? (i := 868) (by decide +kernel)⟩
theorem lw_p31 : lw_okq (⟨"SelectConfigModel", "about", "(I)I"⟩, 44) := ⟨⟨by decide +kernel, by decide +kernel⟩, List.mem_of_getElem? (i := 605) (by decide +kernel), List.mem_of_getElem? (i := 871) (by decide +kernel), List.mem_of_getElem? (i := 872) (by decide +kernel)⟩
def lw_privs_2 : List (MethodName × Nat) := [(⟨"SelectConfig$Pairs", "allLeftOut", "()J"⟩, 5), (⟨"SelectConfigModel", "baseOf", "(I)I"⟩, 44), (⟨"SelectConfigModel", "isUsed", "(I)Z"⟩, 44), (⟨"SelectConfigModel", "isHolding", "(II)Z"⟩, 44), (⟨"SelectConfigModel", "isSo", "(II)Z"⟩, 44), (⟨"SelectConfigModel", "hasNested", "(I)Z"⟩, 44), (⟨"SelectConfigModel", "isWithin", "(I)Z"⟩, 44), (⟨"SelectConfigModel", "give", "(II)V"⟩, 44), (⟨"SelectConfigModel", "numbered", "()I"⟩, 44), (⟨"SelectConfigModel", "isAlike", "(II)Z"⟩, 44), (⟨"SelectConfigModel", "copy", "(II)V"⟩, 44), (⟨"SelectConfigModel", "chooseAll", "(II)V"⟩, 44), (⟨"SelectConfigModel", "mostSpecial", "(II)I"⟩, 44), (⟨"SelectConfigModel", "isSpecial", "(II)Z"⟩, 44), (⟨"SelectConfigModel", "hasAll", "(II)Z"⟩, 44), (⟨"SelectConfigModel", "about", "(I)I"⟩, 44)]
theorem lw_r2 : ∀ q ∈ lw_privs_2, lw_okq q := List.forall_mem_cons.mpr ⟨lw_p16, List.forall_mem_cons.mpr ⟨lw_p17, List.forall_mem_cons.mpr ⟨lw_p18, List.forall_mem_cons.mpr ⟨lw_p19, List.forall_mem_cons.mpr ⟨lw_p20, List.forall_mem_cons.mpr ⟨lw_p21, List.forall_mem_cons.mpr ⟨lw_p22, List.forall_mem_cons.mpr ⟨lw_p23, List.forall_mem_cons.mpr ⟨lw_p24, List.forall_mem_cons.mpr ⟨lw_p25, List.forall_mem_cons.mpr ⟨lw_p26, List.forall_mem_cons.mpr ⟨lw_p27, List.forall_mem_cons.mpr ⟨lw_p28, List.forall_mem_cons.mpr ⟨lw_p29, List.forall_mem_cons.mpr ⟨lw_p30, List.forall_mem_cons.mpr ⟨lw_p31, fun _ h => absurd h List.not_mem_nil⟩⟩⟩⟩⟩⟩⟩⟩⟩⟩⟩⟩⟩⟩⟩⟩
theorem lw_p32 : lw_okq (⟨"SelectConfigModel", "chooseInner", "(II)V"⟩, 44) := ⟨⟨by decide +kernel, by decide +kernel⟩, List.mem_of_getElem? (i := 605) (by decide +kernel), List.mem_of_getElem? (i := 875) (by decide +kernel), List.mem_of_getElem? (i := 876) (by decide +kernel)⟩
theorem lw_p33 : lw_okq (⟨"SelectConfigModel", "readAll", "(I)I"⟩, 44) := ⟨⟨by decide +kernel, by decide +kernel⟩, List.mem_of_getElem? (i := 605) (by decide +kernel), List.mem_of_getElem? (i := 895) (by decide +kernel), List.mem_of_getElem? (i := 896) (by decide +kernel)⟩
theorem lw_p34 : lw_okq (⟨"SelectConfigModel", "led", "(I)I"⟩, 44) := ⟨⟨by decide +kernel, by decide +kernel⟩, List.mem_of_getElem? (i := 605) (by decide +kernel), List.mem_of_getElem? (i := 899) (by decide +kernel), List.mem_of_getElem? (i := 900) (by decide +kernel)⟩
theorem lw_p35 : lw_okq (⟨"SelectConfigModel", "readAlone", "(I)I"⟩, 44) := ⟨⟨by decide +kernel, by decide +kernel⟩, List.mem_of_getElem? (i := 605) (by decide +kernel), List.mem_of_getElem? (i := 903) (by decide +kernel), List.mem_of_getElem? (i := 904) (by decide +kernel)⟩
theorem lw_p36 : lw_okq (⟨"SelectConfigModel", "readBy", "(I)I"⟩, 44) := ⟨⟨by decide +kernel, by decide +kernel⟩, List.mem_of_getElem? (i := 605) (by decide +kernel), List.mem_of_getElem? (i := 907) (by decide +kernel), List.mem_of_getElem? (i := 908) (by decide +kernel)⟩
theorem lw_p37 : lw_okq (⟨"SelectConfigModel", "trimmed", "(I)I"⟩, 44) := ⟨⟨by decide +kernel, by decide +kernel⟩, List.mem_of_getElem? (i := 605) (by decide +kernel), List.mem_of_getElem? (i := 915) (by decide +kernel), List.mem_of_getElem? (i := 916) (by decide +kernel)⟩
theorem lw_p38 : lw_okq (⟨"SelectConfigModel", "pairOf", "(I)I"⟩, 44) := ⟨⟨by decide +kernel, by decide +kernel⟩, List.mem_of_getElem? (i := 605) (by decide +kernel), List.mem_of_getElem? (i := 923) (by decide +kernel), List.mem_of_getElem? (i := 924) (by decide +kernel)⟩
theorem lw_p39 : lw_okq (⟨"SelectConfigModel", "follow", "(II)Z"⟩, 44) := ⟨⟨by decide +kernel, by decide +kernel⟩, List.mem_of_getElem? (i := 605) (by decide +kernel), List.mem_of_getElem? (i := 927) (by decide +kernel), List.mem_of_getElem? (i := 928) (by decide +kernel)⟩
theorem lw_p40 : lw_okq (⟨"SelectConfigModel", "isTurn", "(III)Z"⟩, 44) := ⟨⟨by decide +kernel, by decide +kernel⟩, List.mem_of_getElem? (i := 605) (by decide +kernel), List.mem_of_getElem? (i := 931) (by decide +kernel), List.mem_of_getElem? (i := 932) (by decide +kernel)⟩
theorem lw_p41 : lw_okq (⟨"SelectConfigModel", "turn", "(III)V"⟩, 44) := ⟨⟨by decide +kernel, by decide +kernel⟩, List.mem_of_getElem? (i := 605) (by decide +kernel), List.mem_of_getElem? (i := 935) (by decide +kernel), List.mem_of_getElem? (i := 936) (by decide +kernel)⟩
theorem lw_p42 : lw_okq (⟨"SelectConfigModel", "leaveOut", "()V"⟩, 44) := ⟨⟨by decide +kernel, by decide +kernel⟩, List.mem_of_getElem? (i := 605) (by decide +kernel), List.mem_of_getElem? (i := 939) (by decide +kernel), List.mem_of_getElem? (i := 940) (by decide +kernel)⟩
def lw_privs_3 : List (MethodName × Nat) := [(⟨"SelectConfigModel", "chooseInner", "(II)V"⟩, 44), (⟨"SelectConfigModel", "readAll", "(I)I"⟩, 44), (⟨"SelectConfigModel", "led", "(I)I"⟩, 44), (⟨"SelectConfigModel", "readAlone", "(I)I"⟩, 44), (⟨"SelectConfigModel", "readBy", "(I)I"⟩, 44), (⟨"SelectConfigModel", "trimmed", "(I)I"⟩, 44), (⟨"SelectConfigModel", "pairOf", "(I)I"⟩, 44), (⟨"SelectConfigModel", "follow", "(II)Z"⟩, 44), (⟨"SelectConfigModel", "isTurn", "(III)Z"⟩, 44), (⟨"SelectConfigModel", "turn", "(III)V"⟩, 44), (⟨"SelectConfigModel", "leaveOut", "()V"⟩, 44)]
theorem lw_r3 : ∀ q ∈ lw_privs_3, lw_okq q := List.forall_mem_cons.mpr ⟨lw_p32, List.forall_mem_cons.mpr ⟨lw_p33, List.forall_mem_cons.mpr ⟨lw_p34, List.forall_mem_cons.mpr ⟨lw_p35, List.forall_mem_cons.mpr ⟨lw_p36, List.forall_mem_cons.mpr ⟨lw_p37, List.forall_mem_cons.mpr ⟨lw_p38, List.forall_mem_cons.mpr ⟨lw_p39, List.forall_mem_cons.mpr ⟨lw_p40, List.forall_mem_cons.mpr ⟨lw_p41, List.forall_mem_cons.mpr ⟨lw_p42, fun _ h => absurd h List.not_mem_nil⟩⟩⟩⟩⟩⟩⟩⟩⟩⟩⟩
def lw_privs : List (MethodName × Nat) := lw_privs_1 ++ (lw_privs_2 ++ (lw_privs_3))
def lw_tbl : List Cond := k2_sels lw_privs ++ tables_1
theorem lw_privs_ok : ∀ q ∈ lw_privs, lw_okq q := by
  show ∀ q ∈ lw_privs_1 ++ (lw_privs_2 ++ (lw_privs_3)), lw_okq q
  exact List.forall_mem_append.mpr ⟨lw_r1, List.forall_mem_append.mpr ⟨lw_r2, lw_r3⟩⟩
end
section
def tb : List Cond := lw_tbl.filter goodWord
theorem tb_in {w : Cond} (k : Nat) (h : lw_tbl[k]? = some w) (hg : goodWord w = true) : w ∈ tb := List.mem_filter.mpr ⟨List.mem_of_getElem? h, hg⟩
theorem tb_good {w : Cond} (h : w ∈ tb) : (w.onTables && w.keeps) = true ∨ ∃ ty, w = .arrayClass ty := good_of_word (List.mem_filter.mp h).2
theorem cB {R : Room} {s : State} {args : Array Value} {own : String} {index maxL mc ms : Nat} {y : MethodName} {bytes : ByteArray} {ret : Option FieldType} {rm : Room} (n : Nat) (hT : ∀ w ∈ tb, w.before args s = true) (h1 : Cond.methodLink own index y ∈ tb) (h2 : Cond.initialized y.cls ∈ tb) (h3 : Cond.code y bytes maxL ret ∈ tb) (hc : rm.cells = mc) (hs : rm.slots = ms)
    (hd : y.cls ≠ "java/lang/invoke/MethodHandle" ∧ y.cls ≠ "java/lang/invoke/VarHandle" ∧ (parseMethodDescriptor y.desc).map (fun d => d.parameters.length) = some n) (h4 : rm.frames + 1 ≤ R.frames) (h5 : 8 + (maxL + 11) + rm.locals ≤ R.locals) :
    CallB R s args own index y bytes maxL ret (.code y bytes maxL ret :: tb) rm mc ms n :=
  callB_of n hT (fun w hw => by
    rcases List.mem_cons.mp hw with rfl | hw
    · exact ⟨h3, tb_good h3⟩
    · exact ⟨hw, tb_good hw⟩) rfl hc hs (hT _ h2) (hT _ h1) hd ⟨h4, h5⟩
theorem tb_1 {w : Cond} (k : Nat) (h : tables_1_1[k]? = some w) (hg : goodWord w = true) : w ∈ tb := List.mem_filter.mpr ⟨List.mem_append_right _ (List.mem_append_left _ (List.mem_of_getElem? h)), hg⟩
theorem tb_2 {w : Cond} (k : Nat) (h : tables_1_2[k]? = some w) (hg : goodWord w = true) : w ∈ tb := List.mem_filter.mpr ⟨List.mem_append_right _ (List.mem_append_right _ (List.mem_append_left _ (List.mem_of_getElem? h))), hg⟩
theorem tb_3 {w : Cond} (k : Nat) (h : tables_1_3[k]? = some w) (hg : goodWord w = true) : w ∈ tb := List.mem_filter.mpr ⟨List.mem_append_right _ (List.mem_append_right _ (List.mem_append_right _ (List.mem_append_left _ (List.mem_of_getElem? h)))), hg⟩
theorem tb_4 {w : Cond} (k : Nat) (h : tables_1_4[k]? = some w) (hg : goodWord w = true) : w ∈ tb := List.mem_filter.mpr ⟨List.mem_append_right _ (List.mem_append_right _ (List.mem_append_right _ (List.mem_append_right _ (List.mem_of_getElem? h)))), hg⟩
theorem tb_p1 {q : MethodName × Nat} (k : Nat) (h : lw_privs_1[k]? = some q) : Cond.selects q.1.cls q.1 q.1 ∈ tb := List.mem_filter.mpr ⟨List.mem_append_left _ (List.mem_map.mpr ⟨q, List.mem_append_left _ (List.mem_of_getElem? h), rfl⟩), rfl⟩
theorem tb_p2 {q : MethodName × Nat} (k : Nat) (h : lw_privs_2[k]? = some q) : Cond.selects q.1.cls q.1 q.1 ∈ tb := List.mem_filter.mpr ⟨List.mem_append_left _ (List.mem_map.mpr ⟨q, List.mem_append_right _ (List.mem_append_left _ (List.mem_of_getElem? h)), rfl⟩), rfl⟩
theorem tb_p3 {q : MethodName × Nat} (k : Nat) (h : lw_privs_3[k]? = some q) : Cond.selects q.1.cls q.1 q.1 ∈ tb := List.mem_filter.mpr ⟨List.mem_append_left _ (List.mem_map.mpr ⟨q, List.mem_append_right _ (List.mem_append_right _ (List.mem_of_getElem? h)), rfl⟩), rfl⟩
theorem fa_n {p : Cond → Prop} : ∀ w ∈ ([] : List Cond), p w := fun _ h => absurd h List.not_mem_nil
theorem fa_c {p : Cond → Prop} {a : Cond} {l : List Cond} (h : p a) (hl : ∀ w ∈ l, p w) : ∀ w ∈ a :: l, p w := List.forall_mem_cons.mpr ⟨h, hl⟩
def Rk_0 : String := "SelectConfig"
def Fk_0 : u_T := fun k => match k with
  | 0 => ("SelectConfig", "settings", "LSelectConfig$Settings;", true)
  | 1 => ("SelectConfig", "platforms", "LSelectConfig$Platforms;", true)
  | 2 => ("SelectConfig", "configurations", "LSelectConfig$Configurations;", true)
  | 3 => ("SelectConfig", "conditions", "LSelectConfig$Conditions;", true)
  | 4 => ("SelectConfig", "targets", "LSelectConfig$Targets;", true)
  | 5 => ("SelectConfig", "selects", "LSelectConfig$Selects;", true)
  | 6 => ("SelectConfig", "needs", "LSelectConfig$Needs;", true)
  | 7 => ("SelectConfig", "pairs", "LSelectConfig$Pairs;", true)
  | _ => ("SelectConfig", "latestChoice", "J", false)
def tk_0 : Nat → FieldType := fun k => match k with
  | 0 => .object "SelectConfig$Settings"
  | 1 => .object "SelectConfig$Platforms"
  | 2 => .object "SelectConfig$Configurations"
  | 3 => .object "SelectConfig$Conditions"
  | 4 => .object "SelectConfig$Targets"
  | 5 => .object "SelectConfig$Selects"
  | 6 => .object "SelectConfig$Needs"
  | 7 => .object "SelectConfig$Pairs"
  | _ => .long
theorem nk_0 : ∀ a, a < 9 → ∀ b, b < 9 → a ≠ b → (Fk_0 a).2.1 ≠ (Fk_0 b).2.1 := by decide +kernel
theorem tk_0_ok : ∀ k, k < 9 → parseFieldDescriptor (Fk_0 k).2.2.1 = some (tk_0 k) := by decide +kernel
theorem ik_0 : ∀ w ∈ u_ws Rk_0 Fk_0 9, w ∈ tb := fa_c (tb_1 222 rfl rfl) (fa_c (tb_1 224 rfl rfl) (fa_c (tb_1 226 rfl rfl) (fa_c (tb_1 228 rfl rfl) (fa_c (tb_1 230 rfl rfl) (fa_c (tb_1 232 rfl rfl) (fa_c (tb_1 234 rfl rfl) (fa_c (tb_1 236 rfl rfl) (fa_c (tb_1 238 rfl rfl) (fa_n)))))))))
def Rk_1 : String := "SelectConfigModel"
def Fk_1 : u_T := fun k => match k with
  | 0 => ("SelectConfigModel", "settings", "I", false)
  | 1 => ("SelectConfigModel", "platforms", "I", false)
  | 2 => ("SelectConfigModel", "configurations", "I", false)
  | 3 => ("SelectConfigModel", "conditions", "I", false)
  | 4 => ("SelectConfigModel", "selects", "I", false)
  | 5 => ("SelectConfigModel", "targets", "I", false)
  | 6 => ("SelectConfigModel", "needs", "I", false)
  | 7 => ("SelectConfigModel", "aliasOf", "[I", true)
  | 8 => ("SelectConfigModel", "many", "[I", true)
  | 9 => ("SelectConfigModel", "fallback", "[I", true)
  | 10 => ("SelectConfigModel", "axes", "[I", true)
  | 11 => ("SelectConfigModel", "platformOf", "[I", true)
  | 12 => ("SelectConfigModel", "values", "[I", true)
  | 13 => ("SelectConfigModel", "askings", "[I", true)
  | 14 => ("SelectConfigModel", "askWhich", "[I", true)
  | 15 => ("SelectConfigModel", "askValue", "[I", true)
  | 16 => ("SelectConfigModel", "askAxis", "[Z", true)
  | 17 => ("SelectConfigModel", "selectTarget", "[I", true)
  | 18 => ("SelectConfigModel", "branches", "[I", true)
  | 19 => ("SelectConfigModel", "branchCondition", "[I", true)
  | 20 => ("SelectConfigModel", "branchValue", "[I", true)
  | 21 => ("SelectConfigModel", "other", "[I", true)
  | 22 => ("SelectConfigModel", "branchNested", "[Z", true)
  | 23 => ("SelectConfigModel", "hasOther", "[Z", true)
  | 24 => ("SelectConfigModel", "wanted", "[I", true)
  | 25 => ("SelectConfigModel", "wasWanted", "[Z", true)
  | 26 => ("SelectConfigModel", "needFrom", "[I", true)
  | 27 => ("SelectConfigModel", "needTo", "[I", true)
  | 28 => ("SelectConfigModel", "changes", "[I", true)
  | 29 => ("SelectConfigModel", "changeOf", "[I", true)
  | 30 => ("SelectConfigModel", "changeBits", "[I", true)
  | 31 => ("SelectConfigModel", "kind", "I", false)
  | 32 => ("SelectConfigModel", "value", "I", false)
  | 33 => ("SelectConfigModel", "first", "I", false)
  | 34 => ("SelectConfigModel", "second", "I", false)
  | 35 => ("SelectConfigModel", "innerKind", "I", false)
  | 36 => ("SelectConfigModel", "innerValue", "I", false)
  | 37 => ("SelectConfigModel", "innerFirst", "I", false)
  | 38 => ("SelectConfigModel", "innerSecond", "I", false)
  | 39 => ("SelectConfigModel", "pairs", "I", false)
  | 40 => ("SelectConfigModel", "pairTarget", "[I", true)
  | 41 => ("SelectConfigModel", "pairConfiguration", "[I", true)
  | 42 => ("SelectConfigModel", "pairOut", "[I", true)
  | _ => ("SelectConfigModel", "leads", "[Z", true)
def tk_1 : Nat → FieldType := fun k => match k with
  | 0 => .int
  | 1 => .int
  | 2 => .int
  | 3 => .int
  | 4 => .int
  | 5 => .int
  | 6 => .int
  | 7 => .array .int
  | 8 => .array .int
  | 9 => .array .int
  | 10 => .array .int
  | 11 => .array .int
  | 12 => .array .int
  | 13 => .array .int
  | 14 => .array .int
  | 15 => .array .int
  | 16 => .array .boolean
  | 17 => .array .int
  | 18 => .array .int
  | 19 => .array .int
  | 20 => .array .int
  | 21 => .array .int
  | 22 => .array .boolean
  | 23 => .array .boolean
  | 24 => .array .int
  | 25 => .array .boolean
  | 26 => .array .int
  | 27 => .array .int
  | 28 => .array .int
  | 29 => .array .int
  | 30 => .array .int
  | 31 => .int
  | 32 => .int
  | 33 => .int
  | 34 => .int
  | 35 => .int
  | 36 => .int
  | 37 => .int
  | 38 => .int
  | 39 => .int
  | 40 => .array .int
  | 41 => .array .int
  | 42 => .array .int
  | _ => .array .boolean
theorem nk_1 : ∀ a, a < 44 → ∀ b, b < 44 → a ≠ b → (Fk_1 a).2.1 ≠ (Fk_1 b).2.1 := by decide +kernel
theorem tk_1_ok : ∀ k, k < 44 → parseFieldDescriptor (Fk_1 k).2.2.1 = some (tk_1 k) := by decide +kernel
theorem ik_1 : ∀ w ∈ u_ws Rk_1 Fk_1 44, w ∈ tb := fa_c (tb_3 174 rfl rfl) (fa_c (tb_3 176 rfl rfl) (fa_c (tb_3 178 rfl rfl) (fa_c (tb_3 180 rfl rfl) (fa_c (tb_3 182 rfl rfl) (fa_c (tb_3 184 rfl rfl) (fa_c (tb_3 186 rfl rfl) (fa_c (tb_3 188 rfl rfl) (fa_c (tb_3 190 rfl rfl) (fa_c (tb_3 192 rfl rfl) (fa_c (tb_3 194 rfl rfl) (fa_c (tb_3 196 rfl rfl) (fa_c (tb_3 198 rfl rfl) (fa_c (tb_3 200 rfl rfl) (fa_c (tb_3 202 rfl rfl) (fa_c (tb_3 204 rfl rfl) (fa_c (tb_3 206 rfl rfl) (fa_c (tb_3 208 rfl rfl) (fa_c (tb_3 210 rfl rfl) (fa_c (tb_3 212 rfl rfl) (fa_c (tb_3 214 rfl rfl) (fa_c (tb_3 216 rfl rfl) (fa_c (tb_3 218 rfl rfl) (fa_c (tb_3 220 rfl rfl) (fa_c (tb_3 222 rfl rfl) (fa_c (tb_3 224 rfl rfl) (fa_c (tb_3 226 rfl rfl) (fa_c (tb_3 228 rfl rfl) (fa_c (tb_3 230 rfl rfl) (fa_c (tb_3 232 rfl rfl) (fa_c (tb_3 234 rfl rfl) (fa_c (tb_3 236 rfl rfl) (fa_c (tb_3 238 rfl rfl) (fa_c (tb_4 0 rfl rfl) (fa_c (tb_4 2 rfl rfl) (fa_c (tb_4 4 rfl rfl) (fa_c (tb_4 6 rfl rfl) (fa_c (tb_4 8 rfl rfl) (fa_c (tb_4 10 rfl rfl) (fa_c (tb_4 12 rfl rfl) (fa_c (tb_4 14 rfl rfl) (fa_c (tb_4 16 rfl rfl) (fa_c (tb_4 18 rfl rfl) (fa_c (tb_4 20 rfl rfl) (fa_n))))))))))))))))))))))))))))))))))))))))))))
def Rk_2 : String := "SelectConfig$Askings"
def Rk_3 : String := "SelectConfig$Choices"
def Rk_4 : String := "SelectConfig$Codes"
def Rk_5 : String := "SelectConfig$Conditions"
def Fk_5 : u_T := fun k => match k with
  | 0 => ("SelectConfig$Conditions", "count", "I", false)
  | 1 => ("SelectConfig$Conditions", "askingCount", "[I", true)
  | 2 => ("SelectConfig$Conditions", "askings", "[I", true)
  | _ => ("SelectConfig$Conditions", "used", "[Z", true)
def tk_5 : Nat → FieldType := fun k => match k with
  | 0 => .int
  | 1 => .array .int
  | 2 => .array .int
  | _ => .array .boolean
theorem nk_5 : ∀ a, a < 4 → ∀ b, b < 4 → a ≠ b → (Fk_5 a).2.1 ≠ (Fk_5 b).2.1 := by decide +kernel
theorem tk_5_ok : ∀ k, k < 4 → parseFieldDescriptor (Fk_5 k).2.2.1 = some (tk_5 k) := by decide +kernel
theorem ik_5 : ∀ w ∈ u_ws Rk_5 Fk_5 4, w ∈ tb := fa_c (tb_1 85 rfl rfl) (fa_c (tb_1 87 rfl rfl) (fa_c (tb_1 89 rfl rfl) (fa_c (tb_1 91 rfl rfl) (fa_n))))
def Rk_6 : String := "SelectConfig$Configurations"
def Fk_6 : u_T := fun k => match k with
  | 0 => ("SelectConfig$Configurations", "count", "I", false)
  | _ => ("SelectConfig$Configurations", "codes", "[J", true)
def tk_6 : Nat → FieldType := fun k => match k with
  | 0 => .int
  | _ => .array .long
theorem nk_6 : ∀ a, a < 2 → ∀ b, b < 2 → a ≠ b → (Fk_6 a).2.1 ≠ (Fk_6 b).2.1 := by decide +kernel
theorem tk_6_ok : ∀ k, k < 2 → parseFieldDescriptor (Fk_6 k).2.2.1 = some (tk_6 k) := by decide +kernel
theorem ik_6 : ∀ w ∈ u_ws Rk_6 Fk_6 2, w ∈ tb := fa_c (tb_1 67 rfl rfl) (fa_c (tb_1 69 rfl rfl) (fa_n))
def Rk_7 : String := "SelectConfig$Needs"
def Fk_7 : u_T := fun k => match k with
  | 0 => ("SelectConfig$Needs", "count", "I", false)
  | 1 => ("SelectConfig$Needs", "target", "[I", true)
  | 2 => ("SelectConfig$Needs", "other", "[I", true)
  | 3 => ("SelectConfig$Needs", "changeCount", "[I", true)
  | 4 => ("SelectConfig$Needs", "changeSetting", "[I", true)
  | _ => ("SelectConfig$Needs", "changeValues", "[I", true)
def tk_7 : Nat → FieldType := fun k => match k with
  | 0 => .int
  | 1 => .array .int
  | 2 => .array .int
  | 3 => .array .int
  | 4 => .array .int
  | _ => .array .int
theorem nk_7 : ∀ a, a < 6 → ∀ b, b < 6 → a ≠ b → (Fk_7 a).2.1 ≠ (Fk_7 b).2.1 := by decide +kernel
theorem tk_7_ok : ∀ k, k < 6 → parseFieldDescriptor (Fk_7 k).2.2.1 = some (tk_7 k) := by decide +kernel
theorem ik_7 : ∀ w ∈ u_ws Rk_7 Fk_7 6, w ∈ tb := fa_c (tb_1 170 rfl rfl) (fa_c (tb_1 172 rfl rfl) (fa_c (tb_1 174 rfl rfl) (fa_c (tb_1 176 rfl rfl) (fa_c (tb_1 178 rfl rfl) (fa_c (tb_1 180 rfl rfl) (fa_n))))))
def Rk_8 : String := "SelectConfig$Pairs"
def Fk_8 : u_T := fun k => match k with
  | 0 => ("SelectConfig$Pairs", "count", "I", false)
  | 1 => ("SelectConfig$Pairs", "target", "[I", true)
  | 2 => ("SelectConfig$Pairs", "configuration", "[I", true)
  | 3 => ("SelectConfig$Pairs", "leftOut", "[I", true)
  | _ => ("SelectConfig$Pairs", "leadsTo", "[J", true)
def tk_8 : Nat → FieldType := fun k => match k with
  | 0 => .int
  | 1 => .array .int
  | 2 => .array .int
  | 3 => .array .int
  | _ => .array .long
theorem nk_8 : ∀ a, a < 5 → ∀ b, b < 5 → a ≠ b → (Fk_8 a).2.1 ≠ (Fk_8 b).2.1 := by decide +kernel
theorem tk_8_ok : ∀ k, k < 5 → parseFieldDescriptor (Fk_8 k).2.2.1 = some (tk_8 k) := by decide +kernel
theorem ik_8 : ∀ w ∈ u_ws Rk_8 Fk_8 5, w ∈ tb := fa_c (tb_1 199 rfl rfl) (fa_c (tb_1 201 rfl rfl) (fa_c (tb_1 203 rfl rfl) (fa_c (tb_1 205 rfl rfl) (fa_c (tb_1 207 rfl rfl) (fa_n)))))
def Rk_9 : String := "SelectConfig$Platforms"
def Fk_9 : u_T := fun k => match k with
  | 0 => ("SelectConfig$Platforms", "count", "I", false)
  | _ => ("SelectConfig$Platforms", "axisValue", "[I", true)
def tk_9 : Nat → FieldType := fun k => match k with
  | 0 => .int
  | _ => .array .int
theorem nk_9 : ∀ a, a < 2 → ∀ b, b < 2 → a ≠ b → (Fk_9 a).2.1 ≠ (Fk_9 b).2.1 := by decide +kernel
theorem tk_9_ok : ∀ k, k < 2 → parseFieldDescriptor (Fk_9 k).2.2.1 = some (tk_9 k) := by decide +kernel
theorem ik_9 : ∀ w ∈ u_ws Rk_9 Fk_9 2, w ∈ tb := fa_c (tb_1 53 rfl rfl) (fa_c (tb_1 55 rfl rfl) (fa_n))
def Rk_10 : String := "SelectConfig$Selects"
def Fk_10 : u_T := fun k => match k with
  | 0 => ("SelectConfig$Selects", "count", "I", false)
  | 1 => ("SelectConfig$Selects", "target", "[I", true)
  | 2 => ("SelectConfig$Selects", "otherwise", "[J", true)
  | 3 => ("SelectConfig$Selects", "isWithin", "[Z", true)
  | 4 => ("SelectConfig$Selects", "hasWithin", "[Z", true)
  | 5 => ("SelectConfig$Selects", "branchCount", "[I", true)
  | 6 => ("SelectConfig$Selects", "branchCondition", "[I", true)
  | 7 => ("SelectConfig$Selects", "branchNested", "[Z", true)
  | _ => ("SelectConfig$Selects", "branchValue", "[I", true)
def tk_10 : Nat → FieldType := fun k => match k with
  | 0 => .int
  | 1 => .array .int
  | 2 => .array .long
  | 3 => .array .boolean
  | 4 => .array .boolean
  | 5 => .array .int
  | 6 => .array .int
  | 7 => .array .boolean
  | _ => .array .int
theorem nk_10 : ∀ a, a < 9 → ∀ b, b < 9 → a ≠ b → (Fk_10 a).2.1 ≠ (Fk_10 b).2.1 := by decide +kernel
theorem tk_10_ok : ∀ k, k < 9 → parseFieldDescriptor (Fk_10 k).2.2.1 = some (tk_10 k) := by decide +kernel
theorem ik_10 : ∀ w ∈ u_ws Rk_10 Fk_10 9, w ∈ tb := fa_c (tb_1 135 rfl rfl) (fa_c (tb_1 137 rfl rfl) (fa_c (tb_1 139 rfl rfl) (fa_c (tb_1 141 rfl rfl) (fa_c (tb_1 143 rfl rfl) (fa_c (tb_1 145 rfl rfl) (fa_c (tb_1 147 rfl rfl) (fa_c (tb_1 149 rfl rfl) (fa_c (tb_1 151 rfl rfl) (fa_n)))))))))
def Rk_11 : String := "SelectConfig$Settings"
def Fk_11 : u_T := fun k => match k with
  | 0 => ("SelectConfig$Settings", "count", "I", false)
  | 1 => ("SelectConfig$Settings", "values", "[I", true)
  | 2 => ("SelectConfig$Settings", "fallback", "[I", true)
  | _ => ("SelectConfig$Settings", "other", "[I", true)
def tk_11 : Nat → FieldType := fun k => match k with
  | 0 => .int
  | 1 => .array .int
  | 2 => .array .int
  | _ => .array .int
theorem nk_11 : ∀ a, a < 4 → ∀ b, b < 4 → a ≠ b → (Fk_11 a).2.1 ≠ (Fk_11 b).2.1 := by decide +kernel
theorem tk_11_ok : ∀ k, k < 4 → parseFieldDescriptor (Fk_11 k).2.2.1 = some (tk_11 k) := by decide +kernel
theorem ik_11 : ∀ w ∈ u_ws Rk_11 Fk_11 4, w ∈ tb := fa_c (tb_1 35 rfl rfl) (fa_c (tb_1 37 rfl rfl) (fa_c (tb_1 39 rfl rfl) (fa_c (tb_1 41 rfl rfl) (fa_n))))
def Rk_12 : String := "SelectConfig$Targets"
def Fk_12 : u_T := fun k => match k with
  | 0 => ("SelectConfig$Targets", "count", "I", false)
  | 1 => ("SelectConfig$Targets", "wanted", "[I", true)
  | _ => ("SelectConfig$Targets", "read", "[I", true)
def tk_12 : Nat → FieldType := fun k => match k with
  | 0 => .int
  | 1 => .array .int
  | _ => .array .int
theorem nk_12 : ∀ a, a < 3 → ∀ b, b < 3 → a ≠ b → (Fk_12 a).2.1 ≠ (Fk_12 b).2.1 := by decide +kernel
theorem tk_12_ok : ∀ k, k < 3 → parseFieldDescriptor (Fk_12 k).2.2.1 = some (tk_12 k) := by decide +kernel
theorem ik_12 : ∀ w ∈ u_ws Rk_12 Fk_12 3, w ∈ tb := fa_c (tb_1 107 rfl rfl) (fa_c (tb_1 109 rfl rfl) (fa_c (tb_1 111 rfl rfl) (fa_n)))
abbrev vwCl : List vw_C := [(Rk_0, Fk_0, 9), (Rk_1, Fk_1, 44), (Rk_5, Fk_5, 4), (Rk_6, Fk_6, 2), (Rk_7, Fk_7, 6), (Rk_8, Fk_8, 5), (Rk_9, Fk_9, 2), (Rk_10, Fk_10, 9), (Rk_11, Fk_11, 4), (Rk_12, Fk_12, 3)]
def RL : String := "SelectConfigLaw"
abbrev bk_0_init : ByteArray := prog_1_method_1_code
def yk_0_init : MethodName := ⟨Rk_0, "<init>", "()V"⟩
abbrev bk_0_setting : ByteArray := prog_1_method_2_code
def yk_0_setting : MethodName := ⟨Rk_0, "setting", "(II)I"⟩
abbrev bk_0_alias : ByteArray := prog_1_method_3_code
def yk_0_alias : MethodName := ⟨Rk_0, "alias", "(I)I"⟩
abbrev bk_0_base : ByteArray := prog_1_method_4_code
def yk_0_base : MethodName := ⟨Rk_0, "base", "(I)I"⟩
abbrev bk_0_platform : ByteArray := prog_1_method_5_code
def yk_0_platform : MethodName := ⟨Rk_0, "platform", "()I"⟩
abbrev bk_0_has : ByteArray := prog_1_method_6_code
def yk_0_has : MethodName := ⟨Rk_0, "has", "(III)Z"⟩
abbrev bk_0_condition : ByteArray := prog_1_method_7_code
def yk_0_condition : MethodName := ⟨Rk_0, "condition", "()I"⟩
abbrev bk_0_asks : ByteArray := prog_1_method_8_code
def yk_0_asks : MethodName := ⟨Rk_0, "asks", "(IZII)Z"⟩
abbrev bk_0_target : ByteArray := prog_1_method_9_code
def yk_0_target : MethodName := ⟨Rk_0, "target", "()I"⟩
abbrev bk_0_wants : ByteArray := prog_1_method_10_code
def yk_0_wants : MethodName := ⟨Rk_0, "wants", "(II)Z"⟩
abbrev bk_0_select : ByteArray := prog_1_method_11_code
def yk_0_select : MethodName := ⟨Rk_0, "select", "(I)I"⟩
abbrev bk_0_branch : ByteArray := prog_1_method_12_code
def yk_0_branch : MethodName := ⟨Rk_0, "branch", "(IIZI)Z"⟩
abbrev bk_0_otherwise : ByteArray := prog_1_method_13_code
def yk_0_otherwise : MethodName := ⟨Rk_0, "otherwise", "(II)Z"⟩
abbrev bk_0_configuration : ByteArray := prog_1_method_14_code
def yk_0_configuration : MethodName := ⟨Rk_0, "configuration", "(I)I"⟩
abbrev bk_0_set : ByteArray := prog_1_method_15_code
def yk_0_set : MethodName := ⟨Rk_0, "set", "(III)I"⟩
abbrev bk_0_value : ByteArray := prog_1_method_16_code
def yk_0_value : MethodName := ⟨Rk_0, "value", "(II)I"⟩
abbrev bk_0_holds : ByteArray := prog_1_method_17_code
def yk_0_holds : MethodName := ⟨Rk_0, "holds", "(II)Z"⟩
abbrev bk_0_choose : ByteArray := prog_1_method_18_code
def yk_0_choose : MethodName := ⟨Rk_0, "choose", "(II)I"⟩
abbrev bk_0_chosen : ByteArray := prog_1_method_19_code
def yk_0_chosen : MethodName := ⟨Rk_0, "chosen", "(I)I"⟩
abbrev bk_0_need : ByteArray := prog_1_method_20_code
def yk_0_need : MethodName := ⟨Rk_0, "need", "(II)I"⟩
abbrev bk_0_change : ByteArray := prog_1_method_21_code
def yk_0_change : MethodName := ⟨Rk_0, "change", "(III)Z"⟩
abbrev bk_0_reads : ByteArray := prog_1_method_22_code
def yk_0_reads : MethodName := ⟨Rk_0, "reads", "(I)I"⟩
abbrev bk_0_trim : ByteArray := prog_1_method_23_code
def yk_0_trim : MethodName := ⟨Rk_0, "trim", "(II)I"⟩
abbrev bk_0_expand : ByteArray := prog_1_method_24_code
def yk_0_expand : MethodName := ⟨Rk_0, "expand", "(II)I"⟩
abbrev bk_0_pair : ByteArray := prog_1_method_25_code
def yk_0_pair : MethodName := ⟨Rk_0, "pair", "(II)I"⟩
abbrev bk_0_isAxis : ByteArray := prog_1_method_26_code
def yk_0_isAxis : MethodName := ⟨Rk_0, "isAxis", "(I)Z"⟩
abbrev bk_0_isValue : ByteArray := prog_1_method_27_code
def yk_0_isValue : MethodName := ⟨Rk_0, "isValue", "(I)Z"⟩
abbrev bk_0_hasBit : ByteArray := prog_1_method_28_code
def yk_0_hasBit : MethodName := ⟨Rk_0, "hasBit", "(II)Z"⟩
abbrev bk_0_isMet : ByteArray := prog_1_method_29_code
def yk_0_isMet : MethodName := ⟨Rk_0, "isMet", "(IJ)Z"⟩
abbrev bk_0_isAskingMet : ByteArray := prog_1_method_30_code
def yk_0_isAskingMet : MethodName := ⟨Rk_0, "isAskingMet", "(IJ)Z"⟩
abbrev bk_0_askedBy : ByteArray := prog_1_method_31_code
def yk_0_askedBy : MethodName := ⟨Rk_0, "askedBy", "(I)I"⟩
abbrev bk_0_choosing : ByteArray := prog_1_method_32_code
def yk_0_choosing : MethodName := ⟨Rk_0, "choosing", "(IJI)J"⟩
abbrev bk_0_givenBy : ByteArray := prog_1_method_33_code
def yk_0_givenBy : MethodName := ⟨Rk_0, "givenBy", "(IJI)J"⟩
abbrev bk_0_holdingBranches : ByteArray := prog_1_method_34_code
def yk_0_holdingBranches : MethodName := ⟨Rk_0, "holdingBranches", "(IJ)I"⟩
abbrev bk_0_mostSpecialBranches : ByteArray := prog_1_method_35_code
def yk_0_mostSpecialBranches : MethodName := ⟨Rk_0, "mostSpecialBranches", "(II)I"⟩
abbrev bk_0_isOutdone : ByteArray := prog_1_method_36_code
def yk_0_isOutdone : MethodName := ⟨Rk_0, "isOutdone", "(III)Z"⟩
abbrev bk_0_findWhatTargetsRead : ByteArray := prog_1_method_37_code
def yk_0_findWhatTargetsRead : MethodName := ⟨Rk_0, "findWhatTargetsRead", "()V"⟩
abbrev bk_0_trimmed : ByteArray := prog_1_method_38_code
def yk_0_trimmed : MethodName := ⟨Rk_0, "trimmed", "(JI)J"⟩
abbrev bk_0_findPairs : ByteArray := prog_1_method_39_code
def yk_0_findPairs : MethodName := ⟨Rk_0, "findPairs", "(IJ)Z"⟩
abbrev bk_0_followNeed : ByteArray := prog_1_method_40_code
def yk_0_followNeed : MethodName := ⟨Rk_0, "followNeed", "(II)Z"⟩
abbrev bk_0_changedBase : ByteArray := prog_1_method_41_code
def yk_0_changedBase : MethodName := ⟨Rk_0, "changedBase", "(II)I"⟩
abbrev bk_0_turnsOf : ByteArray := prog_1_method_42_code
def yk_0_turnsOf : MethodName := ⟨Rk_0, "turnsOf", "(III)I"⟩
abbrev bk_0_afterChange : ByteArray := prog_1_method_43_code
def yk_0_afterChange : MethodName := ⟨Rk_0, "afterChange", "(JII)J"⟩
abbrev bk_0_pairOf : ByteArray := prog_1_method_44_code
def yk_0_pairOf : MethodName := ⟨Rk_0, "pairOf", "(IJ)I"⟩
abbrev bk_0_leaveOutByWants : ByteArray := prog_1_method_45_code
def yk_0_leaveOutByWants : MethodName := ⟨Rk_0, "leaveOutByWants", "()V"⟩
abbrev bk_1_init : ByteArray := prog_14_method_1_code
def yk_1_init : MethodName := ⟨Rk_1, "<init>", "()V"⟩
abbrev bk_1_in : ByteArray := prog_14_method_2_code
def yk_1_in : MethodName := ⟨Rk_1, "in", "(II)Z"⟩
abbrev bk_1_setting : ByteArray := prog_14_method_3_code
def yk_1_setting : MethodName := ⟨Rk_1, "setting", "(II)I"⟩
abbrev bk_1_alias : ByteArray := prog_14_method_4_code
def yk_1_alias : MethodName := ⟨Rk_1, "alias", "(I)I"⟩
abbrev bk_1_baseOf : ByteArray := prog_14_method_5_code
def yk_1_baseOf : MethodName := ⟨Rk_1, "baseOf", "(I)I"⟩
abbrev bk_1_base : ByteArray := prog_14_method_6_code
def yk_1_base : MethodName := ⟨Rk_1, "base", "(I)I"⟩
abbrev bk_1_platform : ByteArray := prog_14_method_7_code
def yk_1_platform : MethodName := ⟨Rk_1, "platform", "()I"⟩
abbrev bk_1_has : ByteArray := prog_14_method_8_code
def yk_1_has : MethodName := ⟨Rk_1, "has", "(III)Z"⟩
abbrev bk_1_condition : ByteArray := prog_14_method_9_code
def yk_1_condition : MethodName := ⟨Rk_1, "condition", "()I"⟩
abbrev bk_1_isUsed : ByteArray := prog_14_method_10_code
def yk_1_isUsed : MethodName := ⟨Rk_1, "isUsed", "(I)Z"⟩
abbrev bk_1_asks : ByteArray := prog_14_method_11_code
def yk_1_asks : MethodName := ⟨Rk_1, "asks", "(IZII)Z"⟩
abbrev bk_1_isSo : ByteArray := prog_14_method_12_code
def yk_1_isSo : MethodName := ⟨Rk_1, "isSo", "(II)Z"⟩
abbrev bk_1_isHolding : ByteArray := prog_14_method_13_code
def yk_1_isHolding : MethodName := ⟨Rk_1, "isHolding", "(II)Z"⟩
abbrev bk_1_holds : ByteArray := prog_14_method_14_code
def yk_1_holds : MethodName := ⟨Rk_1, "holds", "(II)Z"⟩
abbrev bk_1_about : ByteArray := prog_14_method_15_code
def yk_1_about : MethodName := ⟨Rk_1, "about", "(I)I"⟩
abbrev bk_1_hasAll : ByteArray := prog_14_method_16_code
def yk_1_hasAll : MethodName := ⟨Rk_1, "hasAll", "(II)Z"⟩
abbrev bk_1_isSpecial : ByteArray := prog_14_method_17_code
def yk_1_isSpecial : MethodName := ⟨Rk_1, "isSpecial", "(II)Z"⟩
abbrev bk_1_target : ByteArray := prog_14_method_18_code
def yk_1_target : MethodName := ⟨Rk_1, "target", "()I"⟩
abbrev bk_1_wants : ByteArray := prog_14_method_19_code
def yk_1_wants : MethodName := ⟨Rk_1, "wants", "(II)Z"⟩
abbrev bk_1_select : ByteArray := prog_14_method_20_code
def yk_1_select : MethodName := ⟨Rk_1, "select", "(I)I"⟩
abbrev bk_1_hasNested : ByteArray := prog_14_method_21_code
def yk_1_hasNested : MethodName := ⟨Rk_1, "hasNested", "(I)Z"⟩
abbrev bk_1_isWithin : ByteArray := prog_14_method_22_code
def yk_1_isWithin : MethodName := ⟨Rk_1, "isWithin", "(I)Z"⟩
abbrev bk_1_branch : ByteArray := prog_14_method_23_code
def yk_1_branch : MethodName := ⟨Rk_1, "branch", "(IIZI)Z"⟩
abbrev bk_1_otherwise : ByteArray := prog_14_method_24_code
def yk_1_otherwise : MethodName := ⟨Rk_1, "otherwise", "(II)Z"⟩
abbrev bk_1_isAlike : ByteArray := prog_14_method_25_code
def yk_1_isAlike : MethodName := ⟨Rk_1, "isAlike", "(II)Z"⟩
abbrev bk_1_numbered : ByteArray := prog_14_method_26_code
def yk_1_numbered : MethodName := ⟨Rk_1, "numbered", "()I"⟩
abbrev bk_1_copy : ByteArray := prog_14_method_27_code
def yk_1_copy : MethodName := ⟨Rk_1, "copy", "(II)V"⟩
abbrev bk_1_give : ByteArray := prog_14_method_28_code
def yk_1_give : MethodName := ⟨Rk_1, "give", "(II)V"⟩
abbrev bk_1_configuration : ByteArray := prog_14_method_29_code
def yk_1_configuration : MethodName := ⟨Rk_1, "configuration", "(I)I"⟩
abbrev bk_1_set : ByteArray := prog_14_method_30_code
def yk_1_set : MethodName := ⟨Rk_1, "set", "(III)I"⟩
abbrev bk_1_value : ByteArray := prog_14_method_31_code
def yk_1_value : MethodName := ⟨Rk_1, "value", "(II)I"⟩
abbrev bk_1_mostSpecial : ByteArray := prog_14_method_32_code
def yk_1_mostSpecial : MethodName := ⟨Rk_1, "mostSpecial", "(II)I"⟩
abbrev bk_1_chooseInner : ByteArray := prog_14_method_33_code
def yk_1_chooseInner : MethodName := ⟨Rk_1, "chooseInner", "(II)V"⟩
abbrev bk_1_chooseAll : ByteArray := prog_14_method_34_code
def yk_1_chooseAll : MethodName := ⟨Rk_1, "chooseAll", "(II)V"⟩
abbrev bk_1_choose : ByteArray := prog_14_method_35_code
def yk_1_choose : MethodName := ⟨Rk_1, "choose", "(II)I"⟩
abbrev bk_1_chosen : ByteArray := prog_14_method_36_code
def yk_1_chosen : MethodName := ⟨Rk_1, "chosen", "(I)I"⟩
abbrev bk_1_need : ByteArray := prog_14_method_37_code
def yk_1_need : MethodName := ⟨Rk_1, "need", "(II)I"⟩
abbrev bk_1_change : ByteArray := prog_14_method_38_code
def yk_1_change : MethodName := ⟨Rk_1, "change", "(III)Z"⟩
abbrev bk_1_readBy : ByteArray := prog_14_method_39_code
def yk_1_readBy : MethodName := ⟨Rk_1, "readBy", "(I)I"⟩
abbrev bk_1_readAlone : ByteArray := prog_14_method_40_code
def yk_1_readAlone : MethodName := ⟨Rk_1, "readAlone", "(I)I"⟩
abbrev bk_1_led : ByteArray := prog_14_method_41_code
def yk_1_led : MethodName := ⟨Rk_1, "led", "(I)I"⟩
abbrev bk_1_readAll : ByteArray := prog_14_method_42_code
def yk_1_readAll : MethodName := ⟨Rk_1, "readAll", "(I)I"⟩
abbrev bk_1_reads : ByteArray := prog_14_method_43_code
def yk_1_reads : MethodName := ⟨Rk_1, "reads", "(I)I"⟩
abbrev bk_1_trimmed : ByteArray := prog_14_method_44_code
def yk_1_trimmed : MethodName := ⟨Rk_1, "trimmed", "(I)I"⟩
abbrev bk_1_trim : ByteArray := prog_14_method_45_code
def yk_1_trim : MethodName := ⟨Rk_1, "trim", "(II)I"⟩
abbrev bk_1_pairOf : ByteArray := prog_14_method_46_code
def yk_1_pairOf : MethodName := ⟨Rk_1, "pairOf", "(I)I"⟩
abbrev bk_1_isTurn : ByteArray := prog_14_method_47_code
def yk_1_isTurn : MethodName := ⟨Rk_1, "isTurn", "(III)Z"⟩
abbrev bk_1_turn : ByteArray := prog_14_method_48_code
def yk_1_turn : MethodName := ⟨Rk_1, "turn", "(III)V"⟩
abbrev bk_1_follow : ByteArray := prog_14_method_49_code
def yk_1_follow : MethodName := ⟨Rk_1, "follow", "(II)Z"⟩
abbrev bk_1_leaveOut : ByteArray := prog_14_method_50_code
def yk_1_leaveOut : MethodName := ⟨Rk_1, "leaveOut", "()V"⟩
abbrev bk_1_expand : ByteArray := prog_14_method_51_code
def yk_1_expand : MethodName := ⟨Rk_1, "expand", "(II)I"⟩
abbrev bk_1_pair : ByteArray := prog_14_method_52_code
def yk_1_pair : MethodName := ⟨Rk_1, "pair", "(II)I"⟩
abbrev bk_2_codeOf : ByteArray := prog_2_method_2_code
def yk_2_codeOf : MethodName := ⟨Rk_2, "codeOf", "(ZII)I"⟩
abbrev bk_2_isAboutAxis : ByteArray := prog_2_method_3_code
def yk_2_isAboutAxis : MethodName := ⟨Rk_2, "isAboutAxis", "(I)Z"⟩
abbrev bk_2_whichOf : ByteArray := prog_2_method_4_code
def yk_2_whichOf : MethodName := ⟨Rk_2, "whichOf", "(I)I"⟩
abbrev bk_2_valueOf : ByteArray := prog_2_method_5_code
def yk_2_valueOf : MethodName := ⟨Rk_2, "valueOf", "(I)I"⟩
abbrev bk_3_nothing : ByteArray := prog_3_method_2_code
def yk_3_nothing : MethodName := ⟨Rk_3, "nothing", "()J"⟩
abbrev bk_3_ofValue : ByteArray := prog_3_method_3_code
def yk_3_ofValue : MethodName := ⟨Rk_3, "ofValue", "(I)J"⟩
abbrev bk_3_ofClash : ByteArray := prog_3_method_4_code
def yk_3_ofClash : MethodName := ⟨Rk_3, "ofClash", "(II)J"⟩
abbrev bk_3_kindOf : ByteArray := prog_3_method_5_code
def yk_3_kindOf : MethodName := ⟨Rk_3, "kindOf", "(J)I"⟩
abbrev bk_3_valueOf : ByteArray := prog_3_method_6_code
def yk_3_valueOf : MethodName := ⟨Rk_3, "valueOf", "(J)I"⟩
abbrev bk_3_firstOf : ByteArray := prog_3_method_7_code
def yk_3_firstOf : MethodName := ⟨Rk_3, "firstOf", "(J)I"⟩
abbrev bk_3_secondOf : ByteArray := prog_3_method_8_code
def yk_3_secondOf : MethodName := ⟨Rk_3, "secondOf", "(J)I"⟩
abbrev bk_3_areAlike : ByteArray := prog_3_method_9_code
def yk_3_areAlike : MethodName := ⟨Rk_3, "areAlike", "(JJ)Z"⟩
abbrev bk_4_onPlatform : ByteArray := prog_4_method_2_code
def yk_4_onPlatform : MethodName := ⟨Rk_4, "onPlatform", "(I)J"⟩
abbrev bk_4_platformIn : ByteArray := prog_4_method_3_code
def yk_4_platformIn : MethodName := ⟨Rk_4, "platformIn", "(J)I"⟩
abbrev bk_4_valueIn : ByteArray := prog_4_method_4_code
def yk_4_valueIn : MethodName := ⟨Rk_4, "valueIn", "(JI)I"⟩
abbrev bk_4_withValue : ByteArray := prog_4_method_5_code
def yk_4_withValue : MethodName := ⟨Rk_4, "withValue", "(JII)J"⟩
abbrev bk_5_init : ByteArray := prog_5_method_1_code
def yk_5_init : MethodName := ⟨Rk_5, "<init>", "()V"⟩
abbrev bk_5_isThere : ByteArray := prog_5_method_2_code
def yk_5_isThere : MethodName := ⟨Rk_5, "isThere", "(I)Z"⟩
abbrev bk_5_add : ByteArray := prog_5_method_3_code
def yk_5_add : MethodName := ⟨Rk_5, "add", "()I"⟩
abbrev bk_5_askingAt : ByteArray := prog_5_method_4_code
def yk_5_askingAt : MethodName := ⟨Rk_5, "askingAt", "(II)I"⟩
abbrev bk_5_addAsking : ByteArray := prog_5_method_5_code
def yk_5_addAsking : MethodName := ⟨Rk_5, "addAsking", "(II)Z"⟩
abbrev bk_6_init : ByteArray := prog_6_method_1_code
def yk_6_init : MethodName := ⟨Rk_6, "<init>", "()V"⟩
abbrev bk_6_isThere : ByteArray := prog_6_method_2_code
def yk_6_isThere : MethodName := ⟨Rk_6, "isThere", "(I)Z"⟩
abbrev bk_6_numberOf : ByteArray := prog_6_method_3_code
def yk_6_numberOf : MethodName := ⟨Rk_6, "numberOf", "(J)I"⟩
abbrev bk_6_anyOn : ByteArray := prog_6_method_4_code
def yk_6_anyOn : MethodName := ⟨Rk_6, "anyOn", "(I)Z"⟩
abbrev bk_6_giveAll : ByteArray := prog_6_method_5_code
def yk_6_giveAll : MethodName := ⟨Rk_6, "giveAll", "(II)V"⟩
abbrev bk_7_init : ByteArray := prog_7_method_1_code
def yk_7_init : MethodName := ⟨Rk_7, "<init>", "()V"⟩
abbrev bk_7_isThere : ByteArray := prog_7_method_2_code
def yk_7_isThere : MethodName := ⟨Rk_7, "isThere", "(I)Z"⟩
abbrev bk_7_add : ByteArray := prog_7_method_3_code
def yk_7_add : MethodName := ⟨Rk_7, "add", "(II)I"⟩
abbrev bk_7_addChange : ByteArray := prog_7_method_4_code
def yk_7_addChange : MethodName := ⟨Rk_7, "addChange", "(III)Z"⟩
abbrev bk_7_settingAt : ByteArray := prog_7_method_5_code
def yk_7_settingAt : MethodName := ⟨Rk_7, "settingAt", "(II)I"⟩
abbrev bk_7_valuesAt : ByteArray := prog_7_method_6_code
def yk_7_valuesAt : MethodName := ⟨Rk_7, "valuesAt", "(II)I"⟩
abbrev bk_8_init : ByteArray := prog_8_method_1_code
def yk_8_init : MethodName := ⟨Rk_8, "<init>", "()V"⟩
abbrev bk_8_clear : ByteArray := prog_8_method_2_code
def yk_8_clear : MethodName := ⟨Rk_8, "clear", "()V"⟩
abbrev bk_8_isThere : ByteArray := prog_8_method_3_code
def yk_8_isThere : MethodName := ⟨Rk_8, "isThere", "(I)Z"⟩
abbrev bk_8_numberOf : ByteArray := prog_8_method_4_code
def yk_8_numberOf : MethodName := ⟨Rk_8, "numberOf", "(II)I"⟩
abbrev bk_8_leaveOutByNeeds : ByteArray := prog_8_method_5_code
def yk_8_leaveOutByNeeds : MethodName := ⟨Rk_8, "leaveOutByNeeds", "()V"⟩
abbrev bk_8_allLeftOut : ByteArray := prog_8_method_6_code
def yk_8_allLeftOut : MethodName := ⟨Rk_8, "allLeftOut", "()J"⟩
abbrev bk_9_init : ByteArray := prog_9_method_1_code
def yk_9_init : MethodName := ⟨Rk_9, "<init>", "()V"⟩
abbrev bk_9_isThere : ByteArray := prog_9_method_2_code
def yk_9_isThere : MethodName := ⟨Rk_9, "isThere", "(I)Z"⟩
abbrev bk_9_add : ByteArray := prog_9_method_3_code
def yk_9_add : MethodName := ⟨Rk_9, "add", "()I"⟩
abbrev bk_9_put : ByteArray := prog_9_method_4_code
def yk_9_put : MethodName := ⟨Rk_9, "put", "(III)V"⟩
abbrev bk_9_valueAt : ByteArray := prog_9_method_5_code
def yk_9_valueAt : MethodName := ⟨Rk_9, "valueAt", "(II)I"⟩
abbrev bk_10_init : ByteArray := prog_10_method_1_code
def yk_10_init : MethodName := ⟨Rk_10, "<init>", "()V"⟩
abbrev bk_10_place : ByteArray := prog_10_method_2_code
def yk_10_place : MethodName := ⟨Rk_10, "place", "(II)I"⟩
abbrev bk_10_isThere : ByteArray := prog_10_method_3_code
def yk_10_isThere : MethodName := ⟨Rk_10, "isThere", "(I)Z"⟩
abbrev bk_10_add : ByteArray := prog_10_method_4_code
def yk_10_add : MethodName := ⟨Rk_10, "add", "(I)I"⟩
abbrev bk_10_conditionAt : ByteArray := prog_10_method_5_code
def yk_10_conditionAt : MethodName := ⟨Rk_10, "conditionAt", "(II)I"⟩
abbrev bk_10_mayNest : ByteArray := prog_10_method_6_code
def yk_10_mayNest : MethodName := ⟨Rk_10, "mayNest", "(II)Z"⟩
abbrev bk_10_addBranch : ByteArray := prog_10_method_7_code
def yk_10_addBranch : MethodName := ⟨Rk_10, "addBranch", "(IIZI)Z"⟩
abbrev bk_11_init : ByteArray := prog_11_method_1_code
def yk_11_init : MethodName := ⟨Rk_11, "<init>", "()V"⟩
abbrev bk_11_isThere : ByteArray := prog_11_method_2_code
def yk_11_isThere : MethodName := ⟨Rk_11, "isThere", "(I)Z"⟩
abbrev bk_11_add : ByteArray := prog_11_method_3_code
def yk_11_add : MethodName := ⟨Rk_11, "add", "(III)I"⟩
abbrev bk_11_baseOf : ByteArray := prog_11_method_4_code
def yk_11_baseOf : MethodName := ⟨Rk_11, "baseOf", "(I)I"⟩
abbrev bk_12_init : ByteArray := prog_12_method_1_code
def yk_12_init : MethodName := ⟨Rk_12, "<init>", "()V"⟩
abbrev bk_12_isThere : ByteArray := prog_12_method_2_code
def yk_12_isThere : MethodName := ⟨Rk_12, "isThere", "(I)Z"⟩
abbrev bk_12_add : ByteArray := prog_12_method_3_code
def yk_12_add : MethodName := ⟨Rk_12, "add", "()I"⟩
end
section
section VJ
variable {p : Program} {l : Launch} {e : Env} {R : Room} {s : State} {m : MethodId} {args : Array Value} {below : List Frame} {meth : Method} {c : Code} {Q : State → Prop} {D : va_G} {cl : List vw_C} {tys : List (ClassId × FieldType)} {A : Nat → Prop} {nL kc ks : Nat} {ws : va_W} {pc pc' : Nat} {lv lv' : List (Nat × Value)} {st : List Value} {cc : ByteArray} {Ts : List Cond} {own : String}
/-- the machine at pc, with the locals lv, the operand stack st and the world ws, comes to a state with Q -/
def Vj (p : Program) (l : Launch) (e : Env) (R : Room) (s : State) (m : MethodId) (args : Array Value) (below : List Frame) (meth : Method) (c : Code) (Q : State → Prop) (D : va_G) (cl : List vw_C) (A : Nat → Prop) (nL kc ks : Nat) (ws : va_W) (pc : Nat) (lv : List (Nat × Value)) (st : List Value) : Prop :=
  ∀ (H : Heap) (locs : List Loc) (ls : Array Slot), va_P D cl ws H → va_D A ws → va_S A s.heap H locs → lv_has ls nL lv → W p l e R s m args below meth c H locs kc ks Q (F0 m pc ls st)
theorem v_iconst (g : CallFix p m c cc nL s args Ts own) {n : Int} {v : Int32} (hdg : decode cc pc = .ok (.iconst n, 1)) (hv : Int32.ofInt n = v) (hp : pc + 1 = pc') (k : Vj p l e R s m args below meth c Q D cl A nL kc ks ws pc' lv (.int v :: st)) : Vj p l e R s m args below meth c Q D cl A nL kc ks ws pc lv (st) := by
  subst hp; exact fun H locs ls hP hD hS hh => lv_iconst g.1 g.2.1 hdg hv (k H locs ls hP hD hS hh)
theorem v_bipush (g : CallFix p m c cc nL s args Ts own) {n : Int} {v : Int32} (hdg : decode cc pc = .ok (.bipush n, 2)) (hv : (Int8.ofInt n).toInt32 = v) (hp : pc + 2 = pc') (k : Vj p l e R s m args below meth c Q D cl A nL kc ks ws pc' lv (.int v :: st)) : Vj p l e R s m args below meth c Q D cl A nL kc ks ws pc lv (st) := by
  subst hp; exact fun H locs ls hP hD hS hh => lv_bipush g.1 g.2.1 hdg hv (k H locs ls hP hD hS hh)
theorem v_sipush (g : CallFix p m c cc nL s args Ts own) {n : Int} {v : Int32} (hdg : decode cc pc = .ok (.sipush n, 3)) (hv : (Int16.ofInt n).toInt32 = v) (hp : pc + 3 = pc') (k : Vj p l e R s m args below meth c Q D cl A nL kc ks ws pc' lv (.int v :: st)) : Vj p l e R s m args below meth c Q D cl A nL kc ks ws pc lv (st) := by
  subst hp; exact fun H locs ls hP hD hS hh => lv_sipush g.1 g.2.1 hdg hv (k H locs ls hP hD hS hh)
theorem v_lconst (g : CallFix p m c cc nL s args Ts own) {n : Fin 2} {v : Int64} (hdg : decode cc pc = .ok (.lconst n, 1)) (hv : Int64.ofNat (n : Nat) = v) (hp : pc + 1 = pc') (k : Vj p l e R s m args below meth c Q D cl A nL kc ks ws pc' lv (.long v :: st)) : Vj p l e R s m args below meth c Q D cl A nL kc ks ws pc lv (st) := by
  subst hp; exact fun H locs ls hP hD hS hh => lv_lconst g.1 g.2.1 hdg hv (k H locs ls hP hD hS hh)
theorem v_iload_n (g : CallFix p m c cc nL s args Ts own) {k9 : Fin 4} {i : Nat} {x : Int32} (hdg : decode cc pc = .ok (.iload_n k9, 1)) (j : Nat) (hi : (k9 : Nat) = i) (hl : lv[j]? = some (i, .int x)) (hp : pc + 1 = pc') (k : Vj p l e R s m args below meth c Q D cl A nL kc ks ws pc' lv (.int x :: st)) : Vj p l e R s m args below meth c Q D cl A nL kc ks ws pc lv (st) := by
  subst hp; exact fun H locs ls hP hD hS hh => lv_iload_n g.1 g.2.1 hdg hi (lv_at hh j hl) (k H locs ls hP hD hS hh)
theorem v_iload (g : CallFix p m c cc nL s args Ts own) {i : Nat} {x : Int32} (hdg : decode cc pc = .ok (.iload i, 2)) (j : Nat) (hl : lv[j]? = some (i, .int x)) (hp : pc + 2 = pc') (k : Vj p l e R s m args below meth c Q D cl A nL kc ks ws pc' lv (.int x :: st)) : Vj p l e R s m args below meth c Q D cl A nL kc ks ws pc lv (st) := by
  subst hp; exact fun H locs ls hP hD hS hh => lv_iload g.1 g.2.1 hdg (lv_at hh j hl) (k H locs ls hP hD hS hh)
theorem v_lload_n (g : CallFix p m c cc nL s args Ts own) {k9 : Fin 4} {i : Nat} {x : Int64} (hdg : decode cc pc = .ok (.lload_n k9, 1)) (j : Nat) (hi : (k9 : Nat) = i) (hl : lv[j]? = some (i, .long x)) (hp : pc + 1 = pc') (k : Vj p l e R s m args below meth c Q D cl A nL kc ks ws pc' lv (.long x :: st)) : Vj p l e R s m args below meth c Q D cl A nL kc ks ws pc lv (st) := by
  subst hp; exact fun H locs ls hP hD hS hh => lv_lload_n g.1 g.2.1 hdg hi (lv_at hh j hl) (k H locs ls hP hD hS hh)
theorem v_lload (g : CallFix p m c cc nL s args Ts own) {i : Nat} {x : Int64} (hdg : decode cc pc = .ok (.lload i, 2)) (j : Nat) (hl : lv[j]? = some (i, .long x)) (hp : pc + 2 = pc') (k : Vj p l e R s m args below meth c Q D cl A nL kc ks ws pc' lv (.long x :: st)) : Vj p l e R s m args below meth c Q D cl A nL kc ks ws pc lv (st) := by
  subst hp; exact fun H locs ls hP hD hS hh => lv_lload g.1 g.2.1 hdg (lv_at hh j hl) (k H locs ls hP hD hS hh)
theorem v_aload_n (g : CallFix p m c cc nL s args Ts own) {k9 : Fin 4} {i : Nat} {x : Nat} (hdg : decode cc pc = .ok (.aload_n k9, 1)) (j : Nat) (hi : (k9 : Nat) = i) (hl : lv[j]? = some (i, .ref x)) (hp : pc + 1 = pc') (k : Vj p l e R s m args below meth c Q D cl A nL kc ks ws pc' lv (.ref x :: st)) : Vj p l e R s m args below meth c Q D cl A nL kc ks ws pc lv (st) := by
  subst hp; exact fun H locs ls hP hD hS hh => lv_aload_n g.1 g.2.1 hdg hi (lv_at hh j hl) (k H locs ls hP hD hS hh)
theorem v_aload (g : CallFix p m c cc nL s args Ts own) {i : Nat} {x : Nat} (hdg : decode cc pc = .ok (.aload i, 2)) (j : Nat) (hl : lv[j]? = some (i, .ref x)) (hp : pc + 2 = pc') (k : Vj p l e R s m args below meth c Q D cl A nL kc ks ws pc' lv (.ref x :: st)) : Vj p l e R s m args below meth c Q D cl A nL kc ks ws pc lv (st) := by
  subst hp; exact fun H locs ls hP hD hS hh => lv_aload g.1 g.2.1 hdg (lv_at hh j hl) (k H locs ls hP hD hS hh)
theorem v_istore_n (g : CallFix p m c cc nL s args Ts own) {k9 : Fin 4} {i : Nat} {x : Int32} (hdg : decode cc pc = .ok (.istore_n k9, 1)) (hi : (k9 : Nat) = i) (hn : i < nL) (hl : (i, Value.int x) :: lv.filter (fun q => !(q.1 == i) && !(q.1 + 1 == i && q.2.category == 2)) = lv') (hp : pc + 1 = pc') (k : Vj p l e R s m args below meth c Q D cl A nL kc ks ws pc' lv' st) : Vj p l e R s m args below meth c Q D cl A nL kc ks ws pc lv (.int x :: st) := by
  subst hp; exact fun H locs ls hP hD hS hh => lv_istore_n g.1 g.2.1 hdg hi hh hn hl (fun ls' hh' => k H locs ls' hP hD hS hh')
theorem v_istore (g : CallFix p m c cc nL s args Ts own) {i : Nat} {x : Int32} (hdg : decode cc pc = .ok (.istore i, 2)) (hn : i < nL) (hl : (i, Value.int x) :: lv.filter (fun q => !(q.1 == i) && !(q.1 + 1 == i && q.2.category == 2)) = lv') (hp : pc + 2 = pc') (k : Vj p l e R s m args below meth c Q D cl A nL kc ks ws pc' lv' st) : Vj p l e R s m args below meth c Q D cl A nL kc ks ws pc lv (.int x :: st) := by
  subst hp; exact fun H locs ls hP hD hS hh => lv_istore g.1 g.2.1 hdg hh hn hl (fun ls' hh' => k H locs ls' hP hD hS hh')
theorem v_lstore_n (g : CallFix p m c cc nL s args Ts own) {k9 : Fin 4} {i : Nat} {x : Int64} (hdg : decode cc pc = .ok (.lstore_n k9, 1)) (hi : (k9 : Nat) = i) (hn : i + 1 < nL) (hl : (i, Value.long x) :: lv.filter (fun q => !(q.1 == i) && (!(q.1 == i + 1) && !(q.1 + 1 == i && q.2.category == 2))) = lv') (hp : pc + 1 = pc') (k : Vj p l e R s m args below meth c Q D cl A nL kc ks ws pc' lv' st) : Vj p l e R s m args below meth c Q D cl A nL kc ks ws pc lv (.long x :: st) := by
  subst hp; exact fun H locs ls hP hD hS hh => lv_lstore_n g.1 g.2.1 hdg hi hh hn hl (fun ls' hh' => k H locs ls' hP hD hS hh')
theorem v_lstore (g : CallFix p m c cc nL s args Ts own) {i : Nat} {x : Int64} (hdg : decode cc pc = .ok (.lstore i, 2)) (hn : i + 1 < nL) (hl : (i, Value.long x) :: lv.filter (fun q => !(q.1 == i) && (!(q.1 == i + 1) && !(q.1 + 1 == i && q.2.category == 2))) = lv') (hp : pc + 2 = pc') (k : Vj p l e R s m args below meth c Q D cl A nL kc ks ws pc' lv' st) : Vj p l e R s m args below meth c Q D cl A nL kc ks ws pc lv (.long x :: st) := by
  subst hp; exact fun H locs ls hP hD hS hh => lv_lstore g.1 g.2.1 hdg hh hn hl (fun ls' hh' => k H locs ls' hP hD hS hh')
theorem v_astore_n (g : CallFix p m c cc nL s args Ts own) {k9 : Fin 4} {i : Nat} {x : Nat} (hdg : decode cc pc = .ok (.astore_n k9, 1)) (hi : (k9 : Nat) = i) (hn : i < nL) (hl : (i, Value.ref x) :: lv.filter (fun q => !(q.1 == i) && !(q.1 + 1 == i && q.2.category == 2)) = lv') (hp : pc + 1 = pc') (k : Vj p l e R s m args below meth c Q D cl A nL kc ks ws pc' lv' st) : Vj p l e R s m args below meth c Q D cl A nL kc ks ws pc lv (.ref x :: st) := by
  subst hp; exact fun H locs ls hP hD hS hh => lv_astore_n g.1 g.2.1 hdg hi hh hn hl (fun ls' hh' => k H locs ls' hP hD hS hh')
theorem v_astore (g : CallFix p m c cc nL s args Ts own) {i : Nat} {x : Nat} (hdg : decode cc pc = .ok (.astore i, 2)) (hn : i < nL) (hl : (i, Value.ref x) :: lv.filter (fun q => !(q.1 == i) && !(q.1 + 1 == i && q.2.category == 2)) = lv') (hp : pc + 2 = pc') (k : Vj p l e R s m args below meth c Q D cl A nL kc ks ws pc' lv' st) : Vj p l e R s m args below meth c Q D cl A nL kc ks ws pc lv (.ref x :: st) := by
  subst hp; exact fun H locs ls hP hD hS hh => lv_astore g.1 g.2.1 hdg hh hn hl (fun ls' hh' => k H locs ls' hP hD hS hh')
theorem v_iinc (g : CallFix p m c cc nL s args Ts own) {i j : Nat} {n : Int} {x v : Int32} (hdg : decode cc pc = .ok (.iinc i n, 3)) (hk : lv[j]? = some (i, .int x)) (hv : x + Int32.ofInt n = v) (hn : i < nL) (hl : (i, Value.int v) :: lv.filter (fun q => !(q.1 == i) && !(q.1 + 1 == i && q.2.category == 2)) = lv') (hp : pc + 3 = pc') (k : Vj p l e R s m args below meth c Q D cl A nL kc ks ws pc' lv' st) : Vj p l e R s m args below meth c Q D cl A nL kc ks ws pc lv st := by
  subst hp; exact fun H locs ls hP hD hS hh => lv_iinc g.1 g.2.1 hdg hh hk hv hn hl (fun ls' hh' => k H locs ls' hP hD hS hh')
theorem v_iadd (g : CallFix p m c cc nL s args Ts own) {x y : Int32} (hdg : decode cc pc = .ok (.iadd, 1))  (hp : pc + 1 = pc') (k : Vj p l e R s m args below meth c Q D cl A nL kc ks ws pc' lv (.int (x + y) :: st)) : Vj p l e R s m args below meth c Q D cl A nL kc ks ws pc lv (.int y :: .int x :: st) := by
  subst hp; exact fun H locs ls hP hD hS hh => lv_iadd g.1 g.2.1 hdg (k H locs ls hP hD hS hh)
theorem v_isub (g : CallFix p m c cc nL s args Ts own) {x y : Int32} (hdg : decode cc pc = .ok (.isub, 1))  (hp : pc + 1 = pc') (k : Vj p l e R s m args below meth c Q D cl A nL kc ks ws pc' lv (.int (x - y) :: st)) : Vj p l e R s m args below meth c Q D cl A nL kc ks ws pc lv (.int y :: .int x :: st) := by
  subst hp; exact fun H locs ls hP hD hS hh => lv_isub g.1 g.2.1 hdg (k H locs ls hP hD hS hh)
theorem v_imul (g : CallFix p m c cc nL s args Ts own) {x y : Int32} (hdg : decode cc pc = .ok (.imul, 1))  (hp : pc + 1 = pc') (k : Vj p l e R s m args below meth c Q D cl A nL kc ks ws pc' lv (.int (x * y) :: st)) : Vj p l e R s m args below meth c Q D cl A nL kc ks ws pc lv (.int y :: .int x :: st) := by
  subst hp; exact fun H locs ls hP hD hS hh => lv_imul g.1 g.2.1 hdg (k H locs ls hP hD hS hh)
theorem v_iand (g : CallFix p m c cc nL s args Ts own) {x y : Int32} (hdg : decode cc pc = .ok (.iand, 1))  (hp : pc + 1 = pc') (k : Vj p l e R s m args below meth c Q D cl A nL kc ks ws pc' lv (.int (x &&& y) :: st)) : Vj p l e R s m args below meth c Q D cl A nL kc ks ws pc lv (.int y :: .int x :: st) := by
  subst hp; exact fun H locs ls hP hD hS hh => lv_iand g.1 g.2.1 hdg (k H locs ls hP hD hS hh)
theorem v_ior (g : CallFix p m c cc nL s args Ts own) {x y : Int32} (hdg : decode cc pc = .ok (.ior, 1))  (hp : pc + 1 = pc') (k : Vj p l e R s m args below meth c Q D cl A nL kc ks ws pc' lv (.int (x ||| y) :: st)) : Vj p l e R s m args below meth c Q D cl A nL kc ks ws pc lv (.int y :: .int x :: st) := by
  subst hp; exact fun H locs ls hP hD hS hh => lv_ior g.1 g.2.1 hdg (k H locs ls hP hD hS hh)
theorem v_ixor (g : CallFix p m c cc nL s args Ts own) {x y : Int32} (hdg : decode cc pc = .ok (.ixor, 1))  (hp : pc + 1 = pc') (k : Vj p l e R s m args below meth c Q D cl A nL kc ks ws pc' lv (.int (x ^^^ y) :: st)) : Vj p l e R s m args below meth c Q D cl A nL kc ks ws pc lv (.int y :: .int x :: st) := by
  subst hp; exact fun H locs ls hP hD hS hh => lv_ixor g.1 g.2.1 hdg (k H locs ls hP hD hS hh)
theorem v_ishl (g : CallFix p m c cc nL s args Ts own) {x y : Int32} (hdg : decode cc pc = .ok (.ishl, 1))  (hp : pc + 1 = pc') (k : Vj p l e R s m args below meth c Q D cl A nL kc ks ws pc' lv (.int (x <<< (y &&& 31)) :: st)) : Vj p l e R s m args below meth c Q D cl A nL kc ks ws pc lv (.int y :: .int x :: st) := by
  subst hp; exact fun H locs ls hP hD hS hh => lv_ishl g.1 g.2.1 hdg (k H locs ls hP hD hS hh)
theorem v_ishr (g : CallFix p m c cc nL s args Ts own) {x y : Int32} (hdg : decode cc pc = .ok (.ishr, 1))  (hp : pc + 1 = pc') (k : Vj p l e R s m args below meth c Q D cl A nL kc ks ws pc' lv (.int (x >>> (y &&& 31)) :: st)) : Vj p l e R s m args below meth c Q D cl A nL kc ks ws pc lv (.int y :: .int x :: st) := by
  subst hp; exact fun H locs ls hP hD hS hh => lv_ishr g.1 g.2.1 hdg (k H locs ls hP hD hS hh)
theorem v_idiv (g : CallFix p m c cc nL s args Ts own) {x y : Int32} (hdg : decode cc pc = .ok (.idiv, 1)) (hne : ¬ y = 0) (hp : pc + 1 = pc') (k : Vj p l e R s m args below meth c Q D cl A nL kc ks ws pc' lv (.int (x / y) :: st)) : Vj p l e R s m args below meth c Q D cl A nL kc ks ws pc lv (.int y :: .int x :: st) := by
  subst hp; exact fun H locs ls hP hD hS hh => lv_idiv g.1 g.2.1 hdg hne (k H locs ls hP hD hS hh)
theorem v_irem (g : CallFix p m c cc nL s args Ts own) {x y : Int32} (hdg : decode cc pc = .ok (.irem, 1)) (hne : ¬ y = 0) (hp : pc + 1 = pc') (k : Vj p l e R s m args below meth c Q D cl A nL kc ks ws pc' lv (.int (x - x / y * y) :: st)) : Vj p l e R s m args below meth c Q D cl A nL kc ks ws pc lv (.int y :: .int x :: st) := by
  subst hp; exact fun H locs ls hP hD hS hh => lv_irem g.1 g.2.1 hdg hne (k H locs ls hP hD hS hh)
theorem v_ineg (g : CallFix p m c cc nL s args Ts own) {x : Int32} (hdg : decode cc pc = .ok (.ineg, 1))  (hp : pc + 1 = pc') (k : Vj p l e R s m args below meth c Q D cl A nL kc ks ws pc' lv (.int (-x) :: st)) : Vj p l e R s m args below meth c Q D cl A nL kc ks ws pc lv (.int x :: st) := by
  subst hp; exact fun H locs ls hP hD hS hh => lv_ineg g.1 g.2.1 hdg (k H locs ls hP hD hS hh)
theorem v_iushr (g : CallFix p m c cc nL s args Ts own) {x y : Int32} (hdg : decode cc pc = .ok (.iushr, 1))  (hp : pc + 1 = pc') (k : Vj p l e R s m args below meth c Q D cl A nL kc ks ws pc' lv (.int (x.toUInt32 >>> (y.toUInt32 &&& Int32.toUInt32 31)).toInt32 :: st)) : Vj p l e R s m args below meth c Q D cl A nL kc ks ws pc lv (.int y :: .int x :: st) := by
  subst hp; exact fun H locs ls hP hD hS hh => lv_iushr g.1 g.2.1 hdg rfl (k H locs ls hP hD hS hh)
theorem v_ladd (g : CallFix p m c cc nL s args Ts own) {x y : Int64} (hdg : decode cc pc = .ok (.ladd, 1))  (hp : pc + 1 = pc') (k : Vj p l e R s m args below meth c Q D cl A nL kc ks ws pc' lv (.long (x + y) :: st)) : Vj p l e R s m args below meth c Q D cl A nL kc ks ws pc lv (.long y :: .long x :: st) := by
  subst hp; exact fun H locs ls hP hD hS hh => lv_ladd g.1 g.2.1 hdg (k H locs ls hP hD hS hh)
theorem v_lsub (g : CallFix p m c cc nL s args Ts own) {x y : Int64} (hdg : decode cc pc = .ok (.lsub, 1))  (hp : pc + 1 = pc') (k : Vj p l e R s m args below meth c Q D cl A nL kc ks ws pc' lv (.long (x - y) :: st)) : Vj p l e R s m args below meth c Q D cl A nL kc ks ws pc lv (.long y :: .long x :: st) := by
  subst hp; exact fun H locs ls hP hD hS hh => lv_lsub g.1 g.2.1 hdg (k H locs ls hP hD hS hh)
theorem v_lmul (g : CallFix p m c cc nL s args Ts own) {x y : Int64} (hdg : decode cc pc = .ok (.lmul, 1))  (hp : pc + 1 = pc') (k : Vj p l e R s m args below meth c Q D cl A nL kc ks ws pc' lv (.long (x * y) :: st)) : Vj p l e R s m args below meth c Q D cl A nL kc ks ws pc lv (.long y :: .long x :: st) := by
  subst hp; exact fun H locs ls hP hD hS hh => lv_lmul g.1 g.2.1 hdg (k H locs ls hP hD hS hh)
theorem v_land (g : CallFix p m c cc nL s args Ts own) {x y : Int64} (hdg : decode cc pc = .ok (.land, 1))  (hp : pc + 1 = pc') (k : Vj p l e R s m args below meth c Q D cl A nL kc ks ws pc' lv (.long (x &&& y) :: st)) : Vj p l e R s m args below meth c Q D cl A nL kc ks ws pc lv (.long y :: .long x :: st) := by
  subst hp; exact fun H locs ls hP hD hS hh => lv_land g.1 g.2.1 hdg (k H locs ls hP hD hS hh)
theorem v_lor (g : CallFix p m c cc nL s args Ts own) {x y : Int64} (hdg : decode cc pc = .ok (.lor, 1))  (hp : pc + 1 = pc') (k : Vj p l e R s m args below meth c Q D cl A nL kc ks ws pc' lv (.long (x ||| y) :: st)) : Vj p l e R s m args below meth c Q D cl A nL kc ks ws pc lv (.long y :: .long x :: st) := by
  subst hp; exact fun H locs ls hP hD hS hh => lv_lor g.1 g.2.1 hdg (k H locs ls hP hD hS hh)
theorem v_lxor (g : CallFix p m c cc nL s args Ts own) {x y : Int64} (hdg : decode cc pc = .ok (.lxor, 1))  (hp : pc + 1 = pc') (k : Vj p l e R s m args below meth c Q D cl A nL kc ks ws pc' lv (.long (x ^^^ y) :: st)) : Vj p l e R s m args below meth c Q D cl A nL kc ks ws pc lv (.long y :: .long x :: st) := by
  subst hp; exact fun H locs ls hP hD hS hh => lv_lxor g.1 g.2.1 hdg (k H locs ls hP hD hS hh)
theorem v_i2l (g : CallFix p m c cc nL s args Ts own) {x : Int32} (hdg : decode cc pc = .ok (.i2l, 1))  (hp : pc + 1 = pc') (k : Vj p l e R s m args below meth c Q D cl A nL kc ks ws pc' lv (.long x.toInt64 :: st)) : Vj p l e R s m args below meth c Q D cl A nL kc ks ws pc lv (.int x :: st) := by
  subst hp; exact fun H locs ls hP hD hS hh => lv_i2l g.1 g.2.1 hdg rfl (k H locs ls hP hD hS hh)
theorem v_l2i (g : CallFix p m c cc nL s args Ts own) {x : Int64} (hdg : decode cc pc = .ok (.l2i, 1))  (hp : pc + 1 = pc') (k : Vj p l e R s m args below meth c Q D cl A nL kc ks ws pc' lv (.int x.toInt32 :: st)) : Vj p l e R s m args below meth c Q D cl A nL kc ks ws pc lv (.long x :: st) := by
  subst hp; exact fun H locs ls hP hD hS hh => lv_l2i g.1 g.2.1 hdg rfl (k H locs ls hP hD hS hh)
theorem v_lushr (g : CallFix p m c cc nL s args Ts own) {x : Int64} {y : Int32} (hdg : decode cc pc = .ok (.lushr, 1))  (hp : pc + 1 = pc') (k : Vj p l e R s m args below meth c Q D cl A nL kc ks ws pc' lv (.long (x.toUInt64 >>> (y.toInt64.toUInt64 &&& Int64.toUInt64 63)).toInt64 :: st)) : Vj p l e R s m args below meth c Q D cl A nL kc ks ws pc lv (.int y :: .long x :: st) := by
  subst hp; exact fun H locs ls hP hD hS hh => lv_lushr g.1 g.2.1 hdg rfl (k H locs ls hP hD hS hh)
theorem v_lshl (g : CallFix p m c cc nL s args Ts own) {x : Int64} {y : Int32} (hdg : decode cc pc = .ok (.lshl, 1))  (hp : pc + 1 = pc') (k : Vj p l e R s m args below meth c Q D cl A nL kc ks ws pc' lv (.long (x <<< (y.toInt64 &&& 63)) :: st)) : Vj p l e R s m args below meth c Q D cl A nL kc ks ws pc lv (.int y :: .long x :: st) := by
  subst hp; exact fun H locs ls hP hD hS hh => lv_lshl g.1 g.2.1 hdg rfl (k H locs ls hP hD hS hh)
theorem v_lshr (g : CallFix p m c cc nL s args Ts own) {x : Int64} {y : Int32} (hdg : decode cc pc = .ok (.lshr, 1))  (hp : pc + 1 = pc') (k : Vj p l e R s m args below meth c Q D cl A nL kc ks ws pc' lv (.long (x >>> (y.toInt64 &&& 63)) :: st)) : Vj p l e R s m args below meth c Q D cl A nL kc ks ws pc lv (.int y :: .long x :: st) := by
  subst hp; exact fun H locs ls hP hD hS hh => lv_lshr g.1 g.2.1 hdg rfl (k H locs ls hP hD hS hh)
theorem v_lcmp (g : CallFix p m c cc nL s args Ts own) {x y : Int64} (hdg : decode cc pc = .ok (.lcmp, 1))  (hp : pc + 1 = pc') (k : Vj p l e R s m args below meth c Q D cl A nL kc ks ws pc' lv (.int (lg_cmp x y) :: st)) : Vj p l e R s m args below meth c Q D cl A nL kc ks ws pc lv (.long y :: .long x :: st) := by
  subst hp; exact fun H locs ls hP hD hS hh => W.lcmp g.1 g.2.1 hdg (k H locs ls hP hD hS hh)
theorem v_dup (g : CallFix p m c cc nL s args Ts own) {va : Value} (hdg : decode cc pc = .ok (.dup, 1)) (h1 : va.category = 1) (hp : pc + 1 = pc') (k : Vj p l e R s m args below meth c Q D cl A nL kc ks ws pc' lv (va :: va :: st)) : Vj p l e R s m args below meth c Q D cl A nL kc ks ws pc lv (va :: st) := by
  subst hp; exact fun H locs ls hP hD hS hh => lv_dup g.1 g.2.1 hdg h1 (k H locs ls hP hD hS hh)
theorem v_pop (g : CallFix p m c cc nL s args Ts own) {va : Value} (hdg : decode cc pc = .ok (.pop, 1)) (h1 : va.category = 1) (hp : pc + 1 = pc') (k : Vj p l e R s m args below meth c Q D cl A nL kc ks ws pc' lv (st)) : Vj p l e R s m args below meth c Q D cl A nL kc ks ws pc lv (va :: st) := by
  subst hp; exact fun H locs ls hP hD hS hh => lv_pop g.1 g.2.1 hdg h1 (k H locs ls hP hD hS hh)
theorem v_dup_x1 (g : CallFix p m c cc nL s args Ts own) {va vb : Value} (hdg : decode cc pc = .ok (.dup_x1, 1)) (h1 : va.category = 1) (h2 : vb.category = 1) (hp : pc + 1 = pc') (k : Vj p l e R s m args below meth c Q D cl A nL kc ks ws pc' lv (va :: vb :: va :: st)) : Vj p l e R s m args below meth c Q D cl A nL kc ks ws pc lv (va :: vb :: st) := by
  subst hp; exact fun H locs ls hP hD hS hh => lv_dup_x1 g.1 g.2.1 hdg h1 h2 (k H locs ls hP hD hS hh)
theorem v_dup2 (g : CallFix p m c cc nL s args Ts own) {va vb : Value} (hdg : decode cc pc = .ok (.dup2, 1)) (h1 : va.category = 1) (h2 : vb.category = 1) (hp : pc + 1 = pc') (k : Vj p l e R s m args below meth c Q D cl A nL kc ks ws pc' lv (va :: vb :: va :: vb :: st)) : Vj p l e R s m args below meth c Q D cl A nL kc ks ws pc lv (va :: vb :: st) := by
  subst hp; exact fun H locs ls hP hD hS hh => lv_dup2_11 g.1 g.2.1 hdg h1 h2 (k H locs ls hP hD hS hh)
theorem v_goto (g : CallFix p m c cc nL s args Ts own) {off : Int} {tgt : Nat} (hdg : decode cc pc = .ok (.goto off, 3)) (ht : (pc : Int) + off = (tgt : Int)) (k : Vj p l e R s m args below meth c Q D cl A nL kc ks ws tgt lv st) : Vj p l e R s m args below meth c Q D cl A nL kc ks ws pc lv st := fun H locs ls hP hD hS hh => lv_goto g.1 g.2.1 hdg ht (k H locs ls hP hD hS hh)
theorem v_icmp_eq (g : CallFix p m c cc nL s args Ts own) {x y : Int32} {off : Int} {tgt : Nat} (hdg : decode cc pc = .ok (.if_icmp .eq off, 3)) (ht : (pc : Int) + off = (tgt : Int)) (hp : pc + 3 = pc') (kt : x = y → Vj p l e R s m args below meth c Q D cl A nL kc ks ws tgt lv st) (kf : ¬ x = y → Vj p l e R s m args below meth c Q D cl A nL kc ks ws pc' lv st) : Vj p l e R s m args below meth c Q D cl A nL kc ks ws pc lv (.int y :: .int x :: st) := by
  subst hp; exact fun H locs ls hP hD hS hh => lv_icmp_eq g.1 g.2.1 hdg ht (fun h => kt h H locs ls hP hD hS hh) (fun h => kf h H locs ls hP hD hS hh)
theorem v_if_eq (g : CallFix p m c cc nL s args Ts own) {x : Int32} {off : Int} {tgt : Nat} (hdg : decode cc pc = .ok (.ifCond .eq off, 3)) (ht : (pc : Int) + off = (tgt : Int)) (hp : pc + 3 = pc') (kt : x = 0 → Vj p l e R s m args below meth c Q D cl A nL kc ks ws tgt lv st) (kf : ¬ x = 0 → Vj p l e R s m args below meth c Q D cl A nL kc ks ws pc' lv st) : Vj p l e R s m args below meth c Q D cl A nL kc ks ws pc lv (.int x :: st) := by
  subst hp; exact fun H locs ls hP hD hS hh => lv_if_eq g.1 g.2.1 hdg ht (fun h => kt h H locs ls hP hD hS hh) (fun h => kf h H locs ls hP hD hS hh)
theorem v_icmp_ne (g : CallFix p m c cc nL s args Ts own) {x y : Int32} {off : Int} {tgt : Nat} (hdg : decode cc pc = .ok (.if_icmp .ne off, 3)) (ht : (pc : Int) + off = (tgt : Int)) (hp : pc + 3 = pc') (kt : ¬ x = y → Vj p l e R s m args below meth c Q D cl A nL kc ks ws tgt lv st) (kf : x = y → Vj p l e R s m args below meth c Q D cl A nL kc ks ws pc' lv st) : Vj p l e R s m args below meth c Q D cl A nL kc ks ws pc lv (.int y :: .int x :: st) := by
  subst hp; exact fun H locs ls hP hD hS hh => lv_icmp_ne g.1 g.2.1 hdg ht (fun h => kt h H locs ls hP hD hS hh) (fun h => kf h H locs ls hP hD hS hh)
theorem v_if_ne (g : CallFix p m c cc nL s args Ts own) {x : Int32} {off : Int} {tgt : Nat} (hdg : decode cc pc = .ok (.ifCond .ne off, 3)) (ht : (pc : Int) + off = (tgt : Int)) (hp : pc + 3 = pc') (kt : ¬ x = 0 → Vj p l e R s m args below meth c Q D cl A nL kc ks ws tgt lv st) (kf : x = 0 → Vj p l e R s m args below meth c Q D cl A nL kc ks ws pc' lv st) : Vj p l e R s m args below meth c Q D cl A nL kc ks ws pc lv (.int x :: st) := by
  subst hp; exact fun H locs ls hP hD hS hh => lv_if_ne g.1 g.2.1 hdg ht (fun h => kt h H locs ls hP hD hS hh) (fun h => kf h H locs ls hP hD hS hh)
theorem v_icmp_lt (g : CallFix p m c cc nL s args Ts own) {x y : Int32} {off : Int} {tgt : Nat} (hdg : decode cc pc = .ok (.if_icmp .lt off, 3)) (ht : (pc : Int) + off = (tgt : Int)) (hp : pc + 3 = pc') (kt : x < y → Vj p l e R s m args below meth c Q D cl A nL kc ks ws tgt lv st) (kf : ¬ x < y → Vj p l e R s m args below meth c Q D cl A nL kc ks ws pc' lv st) : Vj p l e R s m args below meth c Q D cl A nL kc ks ws pc lv (.int y :: .int x :: st) := by
  subst hp; exact fun H locs ls hP hD hS hh => lv_icmp_lt g.1 g.2.1 hdg ht (fun h => kt h H locs ls hP hD hS hh) (fun h => kf h H locs ls hP hD hS hh)
theorem v_if_lt (g : CallFix p m c cc nL s args Ts own) {x : Int32} {off : Int} {tgt : Nat} (hdg : decode cc pc = .ok (.ifCond .lt off, 3)) (ht : (pc : Int) + off = (tgt : Int)) (hp : pc + 3 = pc') (kt : x < 0 → Vj p l e R s m args below meth c Q D cl A nL kc ks ws tgt lv st) (kf : ¬ x < 0 → Vj p l e R s m args below meth c Q D cl A nL kc ks ws pc' lv st) : Vj p l e R s m args below meth c Q D cl A nL kc ks ws pc lv (.int x :: st) := by
  subst hp; exact fun H locs ls hP hD hS hh => lv_if_lt g.1 g.2.1 hdg ht (fun h => kt h H locs ls hP hD hS hh) (fun h => kf h H locs ls hP hD hS hh)
theorem v_icmp_ge (g : CallFix p m c cc nL s args Ts own) {x y : Int32} {off : Int} {tgt : Nat} (hdg : decode cc pc = .ok (.if_icmp .ge off, 3)) (ht : (pc : Int) + off = (tgt : Int)) (hp : pc + 3 = pc') (kt : y ≤ x → Vj p l e R s m args below meth c Q D cl A nL kc ks ws tgt lv st) (kf : ¬ y ≤ x → Vj p l e R s m args below meth c Q D cl A nL kc ks ws pc' lv st) : Vj p l e R s m args below meth c Q D cl A nL kc ks ws pc lv (.int y :: .int x :: st) := by
  subst hp; exact fun H locs ls hP hD hS hh => lv_icmp_ge g.1 g.2.1 hdg ht (fun h => kt h H locs ls hP hD hS hh) (fun h => kf h H locs ls hP hD hS hh)
theorem v_if_ge (g : CallFix p m c cc nL s args Ts own) {x : Int32} {off : Int} {tgt : Nat} (hdg : decode cc pc = .ok (.ifCond .ge off, 3)) (ht : (pc : Int) + off = (tgt : Int)) (hp : pc + 3 = pc') (kt : 0 ≤ x → Vj p l e R s m args below meth c Q D cl A nL kc ks ws tgt lv st) (kf : ¬ 0 ≤ x → Vj p l e R s m args below meth c Q D cl A nL kc ks ws pc' lv st) : Vj p l e R s m args below meth c Q D cl A nL kc ks ws pc lv (.int x :: st) := by
  subst hp; exact fun H locs ls hP hD hS hh => lv_if_ge g.1 g.2.1 hdg ht (fun h => kt h H locs ls hP hD hS hh) (fun h => kf h H locs ls hP hD hS hh)
theorem v_icmp_gt (g : CallFix p m c cc nL s args Ts own) {x y : Int32} {off : Int} {tgt : Nat} (hdg : decode cc pc = .ok (.if_icmp .gt off, 3)) (ht : (pc : Int) + off = (tgt : Int)) (hp : pc + 3 = pc') (kt : y < x → Vj p l e R s m args below meth c Q D cl A nL kc ks ws tgt lv st) (kf : ¬ y < x → Vj p l e R s m args below meth c Q D cl A nL kc ks ws pc' lv st) : Vj p l e R s m args below meth c Q D cl A nL kc ks ws pc lv (.int y :: .int x :: st) := by
  subst hp; exact fun H locs ls hP hD hS hh => lv_icmp_gt g.1 g.2.1 hdg ht (fun h => kt h H locs ls hP hD hS hh) (fun h => kf h H locs ls hP hD hS hh)
theorem v_if_gt (g : CallFix p m c cc nL s args Ts own) {x : Int32} {off : Int} {tgt : Nat} (hdg : decode cc pc = .ok (.ifCond .gt off, 3)) (ht : (pc : Int) + off = (tgt : Int)) (hp : pc + 3 = pc') (kt : 0 < x → Vj p l e R s m args below meth c Q D cl A nL kc ks ws tgt lv st) (kf : ¬ 0 < x → Vj p l e R s m args below meth c Q D cl A nL kc ks ws pc' lv st) : Vj p l e R s m args below meth c Q D cl A nL kc ks ws pc lv (.int x :: st) := by
  subst hp; exact fun H locs ls hP hD hS hh => lv_if_gt g.1 g.2.1 hdg ht (fun h => kt h H locs ls hP hD hS hh) (fun h => kf h H locs ls hP hD hS hh)
theorem v_icmp_le (g : CallFix p m c cc nL s args Ts own) {x y : Int32} {off : Int} {tgt : Nat} (hdg : decode cc pc = .ok (.if_icmp .le off, 3)) (ht : (pc : Int) + off = (tgt : Int)) (hp : pc + 3 = pc') (kt : x ≤ y → Vj p l e R s m args below meth c Q D cl A nL kc ks ws tgt lv st) (kf : ¬ x ≤ y → Vj p l e R s m args below meth c Q D cl A nL kc ks ws pc' lv st) : Vj p l e R s m args below meth c Q D cl A nL kc ks ws pc lv (.int y :: .int x :: st) := by
  subst hp; exact fun H locs ls hP hD hS hh => lv_icmp_le g.1 g.2.1 hdg ht (fun h => kt h H locs ls hP hD hS hh) (fun h => kf h H locs ls hP hD hS hh)
theorem v_if_le (g : CallFix p m c cc nL s args Ts own) {x : Int32} {off : Int} {tgt : Nat} (hdg : decode cc pc = .ok (.ifCond .le off, 3)) (ht : (pc : Int) + off = (tgt : Int)) (hp : pc + 3 = pc') (kt : x ≤ 0 → Vj p l e R s m args below meth c Q D cl A nL kc ks ws tgt lv st) (kf : ¬ x ≤ 0 → Vj p l e R s m args below meth c Q D cl A nL kc ks ws pc' lv st) : Vj p l e R s m args below meth c Q D cl A nL kc ks ws pc lv (.int x :: st) := by
  subst hp; exact fun H locs ls hP hD hS hh => lv_if_le g.1 g.2.1 hdg ht (fun h => kt h H locs ls hP hD hS hh) (fun h => kf h H locs ls hP hD hS hh)
theorem v_tableIn (g : CallFix p m c cc nL s args Ts own) {dflt lo hi : Int} {offs : Array Int} {len : Nat} {x : Int32} {off : Int} {tgt : Nat} (hdg : decode cc pc = .ok (.tableswitch dflt lo hi offs, len)) (h1 : ¬ x.toInt < lo) (h2 : ¬ hi < x.toInt) (ho : offs[(x.toInt - lo).toNat]? = some off) (ht : (pc : Int) + off = (tgt : Int)) (k : Vj p l e R s m args below meth c Q D cl A nL kc ks ws tgt lv st) : Vj p l e R s m args below meth c Q D cl A nL kc ks ws pc lv (.int x :: st) := fun H locs ls hP hD hS hh => lv_tableIn g.1 g.2.1 hdg h1 h2 ho ht (k H locs ls hP hD hS hh)
theorem v_tableOut (g : CallFix p m c cc nL s args Ts own) {dflt lo hi : Int} {offs : Array Int} {len : Nat} {x : Int32} {tgt : Nat} (hdg : decode cc pc = .ok (.tableswitch dflt lo hi offs, len)) (h : x.toInt < lo ∨ hi < x.toInt) (ht : (pc : Int) + dflt = (tgt : Int)) (k : Vj p l e R s m args below meth c Q D cl A nL kc ks ws tgt lv st) : Vj p l e R s m args below meth c Q D cl A nL kc ks ws pc lv (.int x :: st) := fun H locs ls hP hD hS hh => lv_tableOut g.1 g.2.1 hdg h ht (k H locs ls hP hD hS hh)
theorem v_ldc (g : CallFix p m c cc nL s args Ts own) {index : Nat} {v : Int32} (hdg : decode cc pc = .ok (.ldc index, 2)) (hw : Cond.constant own index v ∈ Ts) (hp : pc + 2 = pc') (k : Vj p l e R s m args below meth c Q D cl A nL kc ks ws pc' lv (.int v :: st)) : Vj p l e R s m args below meth c Q D cl A nL kc ks ws pc lv (st) := by
  subst hp; exact fun H locs ls hP hD hS hh => lv_ldc g.1 g.2.1 g.2.2.2.1 (g.2.2.2.2 _ hw) hdg (k H locs ls hP hD hS hh)
theorem v_ldcw (g : CallFix p m c cc nL s args Ts own) {index : Nat} {v : Int32} (hdg : decode cc pc = .ok (.ldc_w index, 3)) (hw : Cond.constant own index v ∈ Ts) (hp : pc + 3 = pc') (k : Vj p l e R s m args below meth c Q D cl A nL kc ks ws pc' lv (.int v :: st)) : Vj p l e R s m args below meth c Q D cl A nL kc ks ws pc lv (st) := by
  subst hp; exact fun H locs ls hP hD hS hh => lv_ldcw g.1 g.2.1 g.2.2.2.1 (g.2.2.2.2 _ hw) hdg (k H locs ls hP hD hS hh)
theorem v_ldc2 (g : CallFix p m c cc nL s args Ts own) {index : Nat} {v : Int64} (hdg : decode cc pc = .ok (.ldc2_w index, 3)) (hw : Cond.constantLong own index v ∈ Ts) (hp : pc + 3 = pc') (k : Vj p l e R s m args below meth c Q D cl A nL kc ks ws pc' lv (.long v :: st)) : Vj p l e R s m args below meth c Q D cl A nL kc ks ws pc lv (st) := by
  subst hp; exact fun H locs ls hP hD hS hh => lv_ldc2 g.1 g.2.1 g.2.2.2.1 (g.2.2.2.2 _ hw) hdg (k H locs ls hP hD hS hh)
theorem v_sub (is : List Nat) (h : lv_pick lv is = lv') (k : Vj p l e R s m args below meth c Q D cl A nL kc ks ws pc lv' st) : Vj p l e R s m args below meth c Q D cl A nL kc ks ws pc lv st := fun H locs ls hP hD hS hh => k H locs ls hP hD hS (lv_sub hh is h)
theorem v_lv (h : lv = lv') (k : Vj p l e R s m args below meth c Q D cl A nL kc ks ws pc lv' st) : Vj p l e R s m args below meth c Q D cl A nL kc ks ws pc lv st := h ▸ k
theorem v_ws {ws' : va_W} (h : ws = ws') (k : Vj p l e R s m args below meth c Q D cl A nL kc ks ws' pc lv st) : Vj p l e R s m args below meth c Q D cl A nL kc ks ws pc lv st := h ▸ k
theorem v_widen {k' n' : Nat} (h1 : kc ≤ k') (h2 : ks ≤ n') (k : Vj p l e R s m args below meth c Q D cl A nL k' n' ws pc lv st) : Vj p l e R s m args below meth c Q D cl A nL kc ks ws pc lv st := fun H locs ls hP hD hS hh => W.widen h1 h2 (k H locs ls hP hD hS hh)
theorem v_get (g : CallFix p m c cc nL s args Ts own) (hK : va_K D cl tys s) {C : String} {T : u_T} {N ci index a : Nat} (hin : ∀ w ∈ u_ws C T N, w ∈ Ts) (q0 : Nat) {fs : List Value} (he : ws[q0]? = some (a, .inr (ci, fs))) (hc : cl[ci]? = some (C, T, N)) (k : Nat) (hk : k < N) (hlink : Cond.fieldLink own index (T k).1 (T k).2.1 (T k).2.2.1 ∈ Ts) {v : Value} (hv : fs[k]? = some v) (hdg : decode cc pc = .ok (.getfield index, 3)) (hp : pc + 3 = pc') (kk : Vj p l e R s m args below meth c Q D cl A nL kc ks ws pc' lv (v :: st)) : Vj p l e R s m args below meth c Q D cl A nL kc ks ws pc lv (.ref a :: st) := by
  subst hp; exact fun H locs ls hP hD hS hh => va_get g.1 g.2.1 g.2.2.2.2 hin g.2.2.2.1 hK hP q0 he hc k hk (g.2.2.2.2 _ hlink) (fun _ h9 => h9) hv hdg (kk H locs ls hP hD hS hh)
theorem v_put (g : CallFix p m c cc nL s args Ts own) (hK : va_K D cl tys s) {C : String} {T : u_T} {N ci index a : Nat} (hin : ∀ w ∈ u_ws C T N, w ∈ Ts) (ty0 : Nat → FieldType) (hty : ∀ k, k < N → parseFieldDescriptor (T k).2.2.1 = some (ty0 k)) (hnm : ∀ a, a < N → ∀ b, b < N → a ≠ b → (T a).2.1 ≠ (T b).2.1) (q0 : Nat) {fs : List Value} (he : ws[q0]? = some (a, .inr (ci, fs))) (hc : cl[ci]? = some (C, T, N)) (k : Nat) (hk : k < N) (hlink : Cond.fieldLink own index (T k).1 (T k).2.1 (T k).2.2.1 ∈ Ts) (hfin : (T k).2.2.2 = false) {ty : FieldType} {v : Value} (hd : parseFieldDescriptor (T k).2.2.1 = some ty) (hn : narrow ty v = v) (hfit : fits ty v = true) (hl : k < fs.length) {ws' : va_W} (hws : ws.set q0 (a, .inr (ci, fs.set k v)) = ws') (hdg : decode cc pc = .ok (.putfield index, 3)) (hp : pc + 3 = pc') (kk : Vj p l e R s m args below meth c Q D cl A nL kc ks ws' pc' lv st) : Vj p l e R s m args below meth c Q D cl A nL kc ks ws pc lv (v :: .ref a :: st) := by
  subst hp; subst hws; exact fun H locs ls hP hD hS hh => va_put g.1 g.2.1 g.2.2.2.2 hin ty0 hty hnm g.2.2.2.1 hK hP hD hS q0 he hc k hk (g.2.2.2.2 _ hlink) (fun _ h9 => h9) hfin hd hn hfit hl hdg (fun H1 locs1 hP1 hD1 hS1 => kk H1 locs1 ls hP1 hD1 hS1 hh)
/-- an index in range, as a Bool -/
def inb (i : Int32) (n : Nat) : Bool := decide (¬ (i < 0 ∨ n ≤ i.toNatClampNeg))
theorem inb_vp {i : Int32} {n : Nat} (h : inb i n = true) : vp_in i n := by
  have h' : ¬ (i < 0 ∨ n ≤ i.toNatClampNeg) := of_decide_eq_true h
  exact h'
theorem v_iald (g : CallFix p m c cc nL s args Ts own) (hK : va_K D cl tys s) (q0 t0 : Nat) {cA : ClassId} {n a : Nat} {f : Nat → Int32} (ha : ws[q0]? = some (a, .inl (cA, n, .inl f))) (ht : tys[t0]? = some (cA, .int)) {i : Int32} (hin : inb i n = true) (hdg : decode cc pc = .ok (.iaload, 1)) (hp : pc + 1 = pc') (kk : Vj p l e R s m args below meth c Q D cl A nL kc ks ws pc' lv (.int (f i.toNatClampNeg) :: st)) : Vj p l e R s m args below meth c Q D cl A nL kc ks ws pc lv (.int i :: .ref a :: st) := by
  subst hp; exact fun H locs ls hP hD hS hh => va_iald g.1 g.2.1 hK hP q0 t0 ha ht (inb_vp hin) hdg (kk H locs ls hP hD hS hh)
theorem v_zald (g : CallFix p m c cc nL s args Ts own) (hK : va_K D cl tys s) (q0 t0 : Nat) {cA : ClassId} {n a : Nat} {f : Nat → Int32} (ha : ws[q0]? = some (a, .inl (cA, n, .inl f))) (ht : tys[t0]? = some (cA, .boolean)) {i : Int32} (hin : inb i n = true) (hdg : decode cc pc = .ok (.baload, 1)) (hp : pc + 1 = pc') (kk : Vj p l e R s m args below meth c Q D cl A nL kc ks ws pc' lv (.int (f i.toNatClampNeg) :: st)) : Vj p l e R s m args below meth c Q D cl A nL kc ks ws pc lv (.int i :: .ref a :: st) := by
  subst hp; exact fun H locs ls hP hD hS hh => va_zald g.1 g.2.1 hK hP q0 t0 ha ht (inb_vp hin) hdg (kk H locs ls hP hD hS hh)
theorem v_bald (g : CallFix p m c cc nL s args Ts own) (hK : va_K D cl tys s) (q0 t0 : Nat) {cA : ClassId} {n a : Nat} {f : Nat → Int32} (ha : ws[q0]? = some (a, .inl (cA, n, .inl f))) (ht : tys[t0]? = some (cA, .byte)) {i : Int32} (hin : inb i n = true) (hdg : decode cc pc = .ok (.baload, 1)) (hp : pc + 1 = pc') (kk : Vj p l e R s m args below meth c Q D cl A nL kc ks ws pc' lv (.int (f i.toNatClampNeg) :: st)) : Vj p l e R s m args below meth c Q D cl A nL kc ks ws pc lv (.int i :: .ref a :: st) := by
  subst hp; exact fun H locs ls hP hD hS hh => va_bald g.1 g.2.1 hK hP q0 t0 ha ht (inb_vp hin) hdg (kk H locs ls hP hD hS hh)
theorem v_lald (g : CallFix p m c cc nL s args Ts own) (hK : va_K D cl tys s) (q0 t0 : Nat) {cA : ClassId} {n a : Nat} {f : Nat → Int64} (ha : ws[q0]? = some (a, .inl (cA, n, .inr (.inl f)))) (ht : tys[t0]? = some (cA, .long)) {i : Int32} (hin : inb i n = true) (hdg : decode cc pc = .ok (.laload, 1)) (hp : pc + 1 = pc') (kk : Vj p l e R s m args below meth c Q D cl A nL kc ks ws pc' lv (.long (f i.toNatClampNeg) :: st)) : Vj p l e R s m args below meth c Q D cl A nL kc ks ws pc lv (.int i :: .ref a :: st) := by
  subst hp; exact fun H locs ls hP hD hS hh => va_lald g.1 g.2.1 hK hP q0 t0 ha ht (inb_vp hin) hdg (kk H locs ls hP hD hS hh)
theorem v_iast (g : CallFix p m c cc nL s args Ts own) (hK : va_K D cl tys s) (q0 t0 : Nat) {cA : ClassId} {n a : Nat} {f : Nat → Int32} (ha : ws[q0]? = some (a, .inl (cA, n, .inl f))) (ht : tys[t0]? = some (cA, .int)) {i : Int32} {x : Int32} (hin : inb i n = true) {ws' : va_W} (hws : ws.set q0 (a, .inl (cA, n, .inl (upd f i.toNatClampNeg x))) = ws') (hdg : decode cc pc = .ok (.iastore, 1)) (hp : pc + 1 = pc') (kk : Vj p l e R s m args below meth c Q D cl A nL kc ks ws' pc' lv st) : Vj p l e R s m args below meth c Q D cl A nL kc ks ws pc lv (.int x :: .int i :: .ref a :: st) := by
  subst hp; subst hws; exact fun H locs ls hP hD hS hh => va_iast g.1 g.2.1 hK hP hD hS q0 t0 ha ht (inb_vp hin) hdg (fun H1 locs1 hP1 hD1 hS1 => kk H1 locs1 ls hP1 hD1 hS1 hh)
theorem v_zast (g : CallFix p m c cc nL s args Ts own) (hK : va_K D cl tys s) (q0 t0 : Nat) {cA : ClassId} {n a : Nat} {f : Nat → Int32} (ha : ws[q0]? = some (a, .inl (cA, n, .inl f))) (ht : tys[t0]? = some (cA, .boolean)) {i : Int32} {x : Int32} (hin : inb i n = true) {ws' : va_W} (hws : ws.set q0 (a, .inl (cA, n, .inl (upd f i.toNatClampNeg (vp_nar .boolean x)))) = ws') (hdg : decode cc pc = .ok (.bastore, 1)) (hp : pc + 1 = pc') (kk : Vj p l e R s m args below meth c Q D cl A nL kc ks ws' pc' lv st) : Vj p l e R s m args below meth c Q D cl A nL kc ks ws pc lv (.int x :: .int i :: .ref a :: st) := by
  subst hp; subst hws; exact fun H locs ls hP hD hS hh => va_zast g.1 g.2.1 hK hP hD hS q0 t0 ha ht (inb_vp hin) hdg (fun H1 locs1 hP1 hD1 hS1 => kk H1 locs1 ls hP1 hD1 hS1 hh)
theorem v_bast (g : CallFix p m c cc nL s args Ts own) (hK : va_K D cl tys s) (q0 t0 : Nat) {cA : ClassId} {n a : Nat} {f : Nat → Int32} (ha : ws[q0]? = some (a, .inl (cA, n, .inl f))) (ht : tys[t0]? = some (cA, .byte)) {i : Int32} {x : Int32} (hin : inb i n = true) {ws' : va_W} (hws : ws.set q0 (a, .inl (cA, n, .inl (upd f i.toNatClampNeg (vp_nar .byte x)))) = ws') (hdg : decode cc pc = .ok (.bastore, 1)) (hp : pc + 1 = pc') (kk : Vj p l e R s m args below meth c Q D cl A nL kc ks ws' pc' lv st) : Vj p l e R s m args below meth c Q D cl A nL kc ks ws pc lv (.int x :: .int i :: .ref a :: st) := by
  subst hp; subst hws; exact fun H locs ls hP hD hS hh => va_bast g.1 g.2.1 hK hP hD hS q0 t0 ha ht (inb_vp hin) hdg (fun H1 locs1 hP1 hD1 hS1 => kk H1 locs1 ls hP1 hD1 hS1 hh)
theorem v_last (g : CallFix p m c cc nL s args Ts own) (hK : va_K D cl tys s) (q0 t0 : Nat) {cA : ClassId} {n a : Nat} {f : Nat → Int64} (ha : ws[q0]? = some (a, .inl (cA, n, .inr (.inl f)))) (ht : tys[t0]? = some (cA, .long)) {i : Int32} {x : Int64} (hin : inb i n = true) {ws' : va_W} (hws : ws.set q0 (a, .inl (cA, n, .inr (.inl (vp_updL f i.toNatClampNeg x)))) = ws') (hdg : decode cc pc = .ok (.lastore, 1)) (hp : pc + 1 = pc') (kk : Vj p l e R s m args below meth c Q D cl A nL kc ks ws' pc' lv st) : Vj p l e R s m args below meth c Q D cl A nL kc ks ws pc lv (.long x :: .int i :: .ref a :: st) := by
  subst hp; subst hws; exact fun H locs ls hP hD hS hh => va_last g.1 g.2.1 hK hP hD hS q0 t0 ha ht (inb_vp hin) hdg (fun H1 locs1 hP1 hD1 hS1 => kk H1 locs1 ls hP1 hD1 hS1 hh)
theorem v_alen (g : CallFix p m c cc nL s args Ts own) (hK : va_K D cl tys s) (q0 t0 : Nat) {cA : ClassId} {a : Nat} {x : vp_A} (ha : ws[q0]? = some (a, .inl (cA, x))) {ty : FieldType} (ht : tys[t0]? = some (cA, ty)) {v : Int32} (hv : Int32.ofNat x.1 = v) (hdg : decode cc pc = .ok (.arraylength, 1)) (hp : pc + 1 = pc') (kk : Vj p l e R s m args below meth c Q D cl A nL kc ks ws pc' lv (.int v :: st)) : Vj p l e R s m args below meth c Q D cl A nL kc ks ws pc lv (.ref a :: st) := by
  subst hp; exact fun H locs ls hP hD hS hh => va_alen g.1 g.2.1 hK hP q0 t0 ha ht hv hdg (kk H locs ls hP hD hS hh)
end VJ
section VC
variable {p : Program} {l : Launch} {e : Env} {R : Room} {s : State} {m : MethodId} {args : Array Value} {below : List Frame} {meth : Method} {c : Code} {Q : State → Prop} {D : va_G} {cl : List vw_C} {tys : List (ClassId × FieldType)} {A : Nat → Prop} {nL kc ks : Nat} {pc pc' : Nat} {lv : List (Nat × Value)} {cc bytes : ByteArray} {Ts wy : List Cond} {own C : String} {y : MethodName} {maxL index n mc ms b : Nat} {ret : Option FieldType} {rm : Room} {As av rest st : List Value} {σ : Type} {w : σ → va_W} {S : σ}
/-- a contract's start: the world is w0 -/
def pcC (D : va_G) (cl : List vw_C) (tys : List (ClassId × FieldType)) (w0 : va_W) (sz : Nat) (av : List Value) : Array Value → State → Prop := va_Pc av (fun U => U.heap.size = sz ∧ va_P D cl w0 U.heap ∧ va_K D cl tys U ∧ va_D (fun _ => True) w0)
/-- the world behind it -/
def qB {σ : Type} (D : va_G) (cl : List vw_C) (tys : List (ClassId × FieldType)) (w : σ → va_W) (A : Nat → Prop) : σ → State → Prop := fun S' t => va_P D cl (w S') t.heap ∧ va_K D cl tys t ∧ va_D A (w S')
def qI {σ : Type} (D : va_G) (cl : List vw_C) (tys : List (ClassId × FieldType)) (w : σ → va_W) (A : Nat → Prop) (Rm : Int32 × σ) := va_Qi (fun r S' => (r, S') = Rm) (qB D cl tys w A) A
def qL {σ : Type} (D : va_G) (cl : List vw_C) (tys : List (ClassId × FieldType)) (w : σ → va_W) (A : Nat → Prop) (Rm : Int64 × σ) := va_Ql (fun r S' => (r, S') = Rm) (qB D cl tys w A) A
def qV {σ : Type} (D : va_G) (cl : List vw_C) (tys : List (ClassId × FieldType)) (w : σ → va_W) (A : Nat → Prop) (Rm : σ) := va_Qv (fun S' => S' = Rm) (qB D cl tys w A) A
theorem pcC_blind {w0 : va_W} {sz : Nat} : FrameBlind (pcC D cl tys w0 sz av) := fun a U g mk q => by
  obtain ⟨q0, q1, qP, qK, qD⟩ := q
  exact ⟨q0, q1, qP, va_K.moved (u := U) (U := U.calling g mk a) (Vm.Alike.refl U.vm) qK, qD⟩
theorem idx_map {α : Type} (l : List α) : (List.range l.length).map (fun i => l[i]?) = l.map some := by
  apply List.ext_getElem?
  intro i
  simp only [List.getElem?_map, List.getElem?_range]
  by_cases h : i < l.length
  · simp [h, List.getElem?_range]
  · have : l.length ≤ i := Nat.le_of_not_lt h
    simp [List.getElem?_eq_none, this]
/-- a contract out of a walk -/
theorem met_i {Rm : Int32 × σ} (hy : plainName y.cls = true) (hlen : (lg_sl av).length ≤ maxL)
    (body : ∀ (p : Program) (e : Env) (s : State) (m : MethodId) (below : List Frame) (meth : Method) (c : Code) (A : Nat → Prop), CallFix p m c cc maxL s av.toArray Ts y.cls → meth.sig.returnType = some .int → meth.locks = false → va_K D cl tys s → (∀ q, s.heap.size ≤ q → A q) →
      Vj p l e rm s m av.toArray below meth c (MQ below (qI D cl tys w A Rm) av.toArray s mc ms A) D cl A maxL 0 0 (w S) 0 (lv_args 0 av) []) (sz : Nat) :
    Met l y (.code y cc maxL (some .int) :: Ts) rm (pcC D cl tys (w S) sz av) (qI D cl tys w (va_A (w S) sz) Rm) mc ms (va_A (w S) sz) := by
  refine Met.ofW (cc := cc) (maxL := maxL) (ret := (some .int)) hy rfl ?_
  intro p e s m args below meth c s₁ B hml hv
  obtain ⟨rfl, hsz, hP, hK, hD0⟩ := hv
  subst hsz
  have hD := hD0.self (sz := s.heap.size)
  have hts := atoms_spec (ws := .code y cc maxL (some .int) :: Ts) B.pre
  have g : CallFix p m c cc maxL s av.toArray Ts y.cls := ⟨B.exec, B.bytes, hml, findClass_of_methodNamed B.named, fun w hw => hts w (List.mem_cons_of_mem _ hw)⟩
  have hl := lv_entry av (n := maxL) hlen
  rw [lg_entry_eq]
  exact body p e s m below meth c (va_A (w S) s.heap.size) g B.returns B.notSynchronized hK (fun q h => Or.inr h) s.heap [] _ hP hD va_S.rf hl
/-- a contract out of a walk -/
theorem met_z {Rm : Int32 × σ} (hy : plainName y.cls = true) (hlen : (lg_sl av).length ≤ maxL)
    (body : ∀ (p : Program) (e : Env) (s : State) (m : MethodId) (below : List Frame) (meth : Method) (c : Code) (A : Nat → Prop), CallFix p m c cc maxL s av.toArray Ts y.cls → meth.sig.returnType = some .boolean → meth.locks = false → va_K D cl tys s → (∀ q, s.heap.size ≤ q → A q) →
      Vj p l e rm s m av.toArray below meth c (MQ below (qI D cl tys w A Rm) av.toArray s mc ms A) D cl A maxL 0 0 (w S) 0 (lv_args 0 av) []) (sz : Nat) :
    Met l y (.code y cc maxL (some .boolean) :: Ts) rm (pcC D cl tys (w S) sz av) (qI D cl tys w (va_A (w S) sz) Rm) mc ms (va_A (w S) sz) := by
  refine Met.ofW (cc := cc) (maxL := maxL) (ret := (some .boolean)) hy rfl ?_
  intro p e s m args below meth c s₁ B hml hv
  obtain ⟨rfl, hsz, hP, hK, hD0⟩ := hv
  subst hsz
  have hD := hD0.self (sz := s.heap.size)
  have hts := atoms_spec (ws := .code y cc maxL (some .boolean) :: Ts) B.pre
  have g : CallFix p m c cc maxL s av.toArray Ts y.cls := ⟨B.exec, B.bytes, hml, findClass_of_methodNamed B.named, fun w hw => hts w (List.mem_cons_of_mem _ hw)⟩
  have hl := lv_entry av (n := maxL) hlen
  rw [lg_entry_eq]
  exact body p e s m below meth c (va_A (w S) s.heap.size) g B.returns B.notSynchronized hK (fun q h => Or.inr h) s.heap [] _ hP hD va_S.rf hl
/-- a contract out of a walk -/
theorem met_l {Rm : Int64 × σ} (hy : plainName y.cls = true) (hlen : (lg_sl av).length ≤ maxL)
    (body : ∀ (p : Program) (e : Env) (s : State) (m : MethodId) (below : List Frame) (meth : Method) (c : Code) (A : Nat → Prop), CallFix p m c cc maxL s av.toArray Ts y.cls → meth.sig.returnType = some .long → meth.locks = false → va_K D cl tys s → (∀ q, s.heap.size ≤ q → A q) →
      Vj p l e rm s m av.toArray below meth c (MQ below (qL D cl tys w A Rm) av.toArray s mc ms A) D cl A maxL 0 0 (w S) 0 (lv_args 0 av) []) (sz : Nat) :
    Met l y (.code y cc maxL (some .long) :: Ts) rm (pcC D cl tys (w S) sz av) (qL D cl tys w (va_A (w S) sz) Rm) mc ms (va_A (w S) sz) := by
  refine Met.ofW (cc := cc) (maxL := maxL) (ret := (some .long)) hy rfl ?_
  intro p e s m args below meth c s₁ B hml hv
  obtain ⟨rfl, hsz, hP, hK, hD0⟩ := hv
  subst hsz
  have hD := hD0.self (sz := s.heap.size)
  have hts := atoms_spec (ws := .code y cc maxL (some .long) :: Ts) B.pre
  have g : CallFix p m c cc maxL s av.toArray Ts y.cls := ⟨B.exec, B.bytes, hml, findClass_of_methodNamed B.named, fun w hw => hts w (List.mem_cons_of_mem _ hw)⟩
  have hl := lv_entry av (n := maxL) hlen
  rw [lg_entry_eq]
  exact body p e s m below meth c (va_A (w S) s.heap.size) g B.returns B.notSynchronized hK (fun q h => Or.inr h) s.heap [] _ hP hD va_S.rf hl
/-- a contract out of a walk -/
theorem met_v {Rm : σ} (hy : plainName y.cls = true) (hlen : (lg_sl av).length ≤ maxL)
    (body : ∀ (p : Program) (e : Env) (s : State) (m : MethodId) (below : List Frame) (meth : Method) (c : Code) (A : Nat → Prop), CallFix p m c cc maxL s av.toArray Ts y.cls → meth.sig.returnType = none → meth.locks = false → va_K D cl tys s → (∀ q, s.heap.size ≤ q → A q) →
      Vj p l e rm s m av.toArray below meth c (MQ below (qV D cl tys w A Rm) av.toArray s mc ms A) D cl A maxL 0 0 (w S) 0 (lv_args 0 av) []) (sz : Nat) :
    Met l y (.code y cc maxL (none) :: Ts) rm (pcC D cl tys (w S) sz av) (qV D cl tys w (va_A (w S) sz) Rm) mc ms (va_A (w S) sz) := by
  refine Met.ofW (cc := cc) (maxL := maxL) (ret := none) hy rfl ?_
  intro p e s m args below meth c s₁ B hml hv
  obtain ⟨rfl, hsz, hP, hK, hD0⟩ := hv
  subst hsz
  have hD := hD0.self (sz := s.heap.size)
  have hts := atoms_spec (ws := .code y cc maxL (none) :: Ts) B.pre
  have g : CallFix p m c cc maxL s av.toArray Ts y.cls := ⟨B.exec, B.bytes, hml, findClass_of_methodNamed B.named, fun w hw => hts w (List.mem_cons_of_mem _ hw)⟩
  have hl := lv_entry av (n := maxL) hlen
  rw [lg_entry_eq]
  exact body p e s m below meth c (va_A (w S) s.heap.size) g B.returns B.notSynchronized hK (fun q h => Or.inr h) s.heap [] _ hP hD va_S.rf hl
theorem v_iret {v : Int32} {Rm : Int32 × σ} (g : CallFix p m c cc nL s args Ts own) (hr : meth.sig.returnType = some .int) (hlk : meth.locks = false) (hK : va_K D cl tys s) (hf : (v, S) = Rm) (hdg : decode cc pc = .ok (.ireturn, 1)) : Vj p l e R s m args below meth c (MQ below (qI D cl tys w A Rm) args s kc ks A) D cl A nL kc ks (w S) pc lv [.int v] := fun H locs ls hP hD hS hh => W.iret g.1 g.2.1 hr (fun t ht hW => ⟨⟨v, S, rfl, hf, by rw [ht]; exact hP, va_K.moved hW.alike hK, hD⟩, hS.F ht⟩) hS.2.2 hdg hlk
theorem v_lret {v : Int64} {Rm : Int64 × σ} (g : CallFix p m c cc nL s args Ts own) (hr : meth.sig.returnType = some .long) (hlk : meth.locks = false) (hK : va_K D cl tys s) (hf : (v, S) = Rm) (hdg : decode cc pc = .ok (.lreturn, 1)) : Vj p l e R s m args below meth c (MQ below (qL D cl tys w A Rm) args s kc ks A) D cl A nL kc ks (w S) pc lv [.long v] := fun H locs ls hP hD hS hh => W.lret g.1 g.2.1 hr (fun t ht hW => ⟨⟨v, S, rfl, hf, by rw [ht]; exact hP, va_K.moved hW.alike hK, hD⟩, hS.F ht⟩) hS.2.2 hdg hlk
/-- a boolean's word -/
def isB (v : Int32) : Bool := v == 0 || v == 1
theorem isB_nar {v : Int32} (h : isB v = true) : narrow .boolean (.int v) = .int v := by
  have h' : v = 0 ∨ v = 1 := by simpa [isB] using h
  rcases h' with rfl | rfl <;> rfl
theorem v_zret {v : Int32} {Rm : Int32 × σ} (g : CallFix p m c cc nL s args Ts own) (hr : meth.sig.returnType = some .boolean) (hlk : meth.locks = false) (hK : va_K D cl tys s) (hv : isB v = true) (hf : (v, S) = Rm) (hdg : decode cc pc = .ok (.ireturn, 1)) : Vj p l e R s m args below meth c (MQ below (qI D cl tys w A Rm) args s kc ks A) D cl A nL kc ks (w S) pc lv [.int v] := fun H locs ls hP hD hS hh => W.zret g.1 g.2.1 hr (isB_nar hv) (fun t ht hW => ⟨⟨v, S, rfl, hf, by rw [ht]; exact hP, va_K.moved hW.alike hK, hD⟩, hS.F ht⟩) hS.2.2 hdg hlk
theorem v_vret {Rm : σ} (g : CallFix p m c cc nL s args Ts own) (hr : meth.sig.returnType = none) (hlk : meth.locks = false) (hK : va_K D cl tys s) (hf : S = Rm) (hdg : decode cc pc = .ok (.return_, 1)) : Vj p l e R s m args below meth c (MQ below (qV D cl tys w A Rm) args s kc ks A) D cl A nL kc ks (w S) pc lv [] := fun H locs ls hP hD hS hh => W.vret g.1 g.2.1 hr (fun t ht hW => ⟨⟨S, rfl, hf, by rw [ht]; exact hP, va_K.moved hW.alike hK, hD⟩, hS.F ht⟩) hS.2.2 hdg hlk
theorem v_callV_i {r : Int32} {S1 : σ} (g : CallFix p m c cc nL s args Ts own) (hK : va_K D cl tys s) (hA : ∀ q, s.heap.size ≤ q → A q) (hM : ∀ sz, Met l y wy rm (pcC D cl tys (w S) sz (.ref b :: As)) (qI D cl tys w (va_A (w S) sz) (r, S1)) 0 0 (va_A (w S) sz)) (cw : CallW R s args own C index y bytes maxL ret wy rm 0 0 n) {q0 ci : Nat} {qc : vw_C} {fs : List Value} (hc : cl[ci]? = some qc) (hC : qc.1 = C) (he : (w S)[q0]? = some (b, .inr (ci, fs))) (hn : As.length = n) (hst : st = As.reverse ++ .ref b :: rest) (hrm : (rest.map fun v => v.category).sum ≤ 8) (hdg : decode cc pc = .ok (.invokevirtual index, 3)) (hcell : kc + 0 ≤ R.cells) (hslot : ks + 0 ≤ R.slots) (hp : pc + 3 = pc')
    (kk : Vj p l e R s m args below meth c Q D cl A nL kc ks (w S1) pc' lv (.int r :: rest)) : Vj p l e R s m args below meth c Q D cl A nL kc ks (w S) pc lv st := by
  subst hp
  subst hst
  intro H locs ls hP hD hS hh
  have hidx := idx_map (w S)
  have hFc := va_free (wc := w S) hD hS hA (List.range (w S).length) hidx
  refine va_calli (va_runV (As := As) (rest := rest) g (hM H.size) cw ⟨pcC_blind, hC ▸ va_recv hK hP hc he, fun U hU hW => ⟨rfl, by rw [hU], by rw [hU]; exact hP, va_K.moved hW.alike hK, hD.weaken (fun _ _ _ _ => trivial)⟩⟩ rfl hn hh.1 rfl (lv_room hrm) hdg ⟨hcell, hslot⟩) hS (fun q _ h => hFc q h) hFc (fun r9 u t H1 locs1 ht hvm hw hB hz1 hk1 hS1 => ?_)
  obtain ⟨hP1, hK1, hD1⟩ := hB
  rw [ht] at hP1
  obtain ⟨hP2, hD2⟩ := va_join (wr := []) hP hD (List.range (w S).length) [] hidx rfl rfl (fun i hi => by cases hi) hk1 hFc hP1 hD1
  cases hw
  exact kk H1 locs1 ls hP2 hD2 hS1 hh
theorem v_callV_l {r : Int64} {S1 : σ} (g : CallFix p m c cc nL s args Ts own) (hK : va_K D cl tys s) (hA : ∀ q, s.heap.size ≤ q → A q) (hM : ∀ sz, Met l y wy rm (pcC D cl tys (w S) sz (.ref b :: As)) (qL D cl tys w (va_A (w S) sz) (r, S1)) 0 0 (va_A (w S) sz)) (cw : CallW R s args own C index y bytes maxL ret wy rm 0 0 n) {q0 ci : Nat} {qc : vw_C} {fs : List Value} (hc : cl[ci]? = some qc) (hC : qc.1 = C) (he : (w S)[q0]? = some (b, .inr (ci, fs))) (hn : As.length = n) (hst : st = As.reverse ++ .ref b :: rest) (hrm : (rest.map fun v => v.category).sum ≤ 8) (hdg : decode cc pc = .ok (.invokevirtual index, 3)) (hcell : kc + 0 ≤ R.cells) (hslot : ks + 0 ≤ R.slots) (hp : pc + 3 = pc')
    (kk : Vj p l e R s m args below meth c Q D cl A nL kc ks (w S1) pc' lv (.long r :: rest)) : Vj p l e R s m args below meth c Q D cl A nL kc ks (w S) pc lv st := by
  subst hp
  subst hst
  intro H locs ls hP hD hS hh
  have hidx := idx_map (w S)
  have hFc := va_free (wc := w S) hD hS hA (List.range (w S).length) hidx
  refine va_calll (va_runV (As := As) (rest := rest) g (hM H.size) cw ⟨pcC_blind, hC ▸ va_recv hK hP hc he, fun U hU hW => ⟨rfl, by rw [hU], by rw [hU]; exact hP, va_K.moved hW.alike hK, hD.weaken (fun _ _ _ _ => trivial)⟩⟩ rfl hn hh.1 rfl (lv_room hrm) hdg ⟨hcell, hslot⟩) hS (fun q _ h => hFc q h) hFc (fun r9 u t H1 locs1 ht hvm hw hB hz1 hk1 hS1 => ?_)
  obtain ⟨hP1, hK1, hD1⟩ := hB
  rw [ht] at hP1
  obtain ⟨hP2, hD2⟩ := va_join (wr := []) hP hD (List.range (w S).length) [] hidx rfl rfl (fun i hi => by cases hi) hk1 hFc hP1 hD1
  cases hw
  exact kk H1 locs1 ls hP2 hD2 hS1 hh
theorem v_callV_v {S1 : σ} (g : CallFix p m c cc nL s args Ts own) (hK : va_K D cl tys s) (hA : ∀ q, s.heap.size ≤ q → A q) (hM : ∀ sz, Met l y wy rm (pcC D cl tys (w S) sz (.ref b :: As)) (qV D cl tys w (va_A (w S) sz) S1) 0 0 (va_A (w S) sz)) (cw : CallW R s args own C index y bytes maxL ret wy rm 0 0 n) {q0 ci : Nat} {qc : vw_C} {fs : List Value} (hc : cl[ci]? = some qc) (hC : qc.1 = C) (he : (w S)[q0]? = some (b, .inr (ci, fs))) (hn : As.length = n) (hst : st = As.reverse ++ .ref b :: rest) (hrm : (rest.map fun v => v.category).sum ≤ 8) (hdg : decode cc pc = .ok (.invokevirtual index, 3)) (hcell : kc + 0 ≤ R.cells) (hslot : ks + 0 ≤ R.slots) (hp : pc + 3 = pc')
    (kk : Vj p l e R s m args below meth c Q D cl A nL kc ks (w S1) pc' lv rest) : Vj p l e R s m args below meth c Q D cl A nL kc ks (w S) pc lv st := by
  subst hp
  subst hst
  intro H locs ls hP hD hS hh
  have hidx := idx_map (w S)
  have hFc := va_free (wc := w S) hD hS hA (List.range (w S).length) hidx
  refine va_callv (va_runV (As := As) (rest := rest) g (hM H.size) cw ⟨pcC_blind, hC ▸ va_recv hK hP hc he, fun U hU hW => ⟨rfl, by rw [hU], by rw [hU]; exact hP, va_K.moved hW.alike hK, hD.weaken (fun _ _ _ _ => trivial)⟩⟩ rfl hn hh.1 rfl (lv_room hrm) hdg ⟨hcell, hslot⟩) hS (fun q _ h => hFc q h) hFc (fun u t H1 locs1 ht hvm hw hB hz1 hk1 hS1 => ?_)
  obtain ⟨hP1, hK1, hD1⟩ := hB
  rw [ht] at hP1
  obtain ⟨hP2, hD2⟩ := va_join (wr := []) hP hD (List.range (w S).length) [] hidx rfl rfl (fun i hi => by cases hi) hk1 hFc hP1 hD1
  cases hw
  exact kk H1 locs1 ls hP2 hD2 hS1 hh
theorem v_callS_i {r : Int32} {S1 : σ} (g : CallFix p m c cc nL s args Ts own) (hK : va_K D cl tys s) (hA : ∀ q, s.heap.size ≤ q → A q) (hM : ∀ sz, Met l y wy rm (pcC D cl tys (w S) sz As) (qI D cl tys w (va_A (w S) sz) (r, S1)) 0 0 (va_A (w S) sz)) (cw : CallB R s args own index y bytes maxL ret wy rm 0 0 n ∧ (Cond.static y).before args s = true)  (hn : As.length = n) (hst : st = As.reverse ++ rest) (hrm : (rest.map fun v => v.category).sum ≤ 8) (hdg : decode cc pc = .ok (.invokestatic index, 3)) (hcell : kc + 0 ≤ R.cells) (hslot : ks + 0 ≤ R.slots) (hp : pc + 3 = pc')
    (kk : Vj p l e R s m args below meth c Q D cl A nL kc ks (w S1) pc' lv (.int r :: rest)) : Vj p l e R s m args below meth c Q D cl A nL kc ks (w S) pc lv st := by
  subst hp
  subst hst
  intro H locs ls hP hD hS hh
  have hidx := idx_map (w S)
  have hFc := va_free (wc := w S) hD hS hA (List.range (w S).length) hidx
  refine va_calli (va_runS (As := As) (rest := rest) g (hM H.size) cw ⟨pcC_blind, fun U hU hW => ⟨rfl, by rw [hU], by rw [hU]; exact hP, va_K.moved hW.alike hK, hD.weaken (fun _ _ _ _ => trivial)⟩⟩ rfl hn hh.1 rfl (lv_room hrm) hdg ⟨hcell, hslot⟩) hS (fun q _ h => hFc q h) hFc (fun r9 u t H1 locs1 ht hvm hw hB hz1 hk1 hS1 => ?_)
  obtain ⟨hP1, hK1, hD1⟩ := hB
  rw [ht] at hP1
  obtain ⟨hP2, hD2⟩ := va_join (wr := []) hP hD (List.range (w S).length) [] hidx rfl rfl (fun i hi => by cases hi) hk1 hFc hP1 hD1
  cases hw
  exact kk H1 locs1 ls hP2 hD2 hS1 hh
theorem v_callS_l {r : Int64} {S1 : σ} (g : CallFix p m c cc nL s args Ts own) (hK : va_K D cl tys s) (hA : ∀ q, s.heap.size ≤ q → A q) (hM : ∀ sz, Met l y wy rm (pcC D cl tys (w S) sz As) (qL D cl tys w (va_A (w S) sz) (r, S1)) 0 0 (va_A (w S) sz)) (cw : CallB R s args own index y bytes maxL ret wy rm 0 0 n ∧ (Cond.static y).before args s = true)  (hn : As.length = n) (hst : st = As.reverse ++ rest) (hrm : (rest.map fun v => v.category).sum ≤ 8) (hdg : decode cc pc = .ok (.invokestatic index, 3)) (hcell : kc + 0 ≤ R.cells) (hslot : ks + 0 ≤ R.slots) (hp : pc + 3 = pc')
    (kk : Vj p l e R s m args below meth c Q D cl A nL kc ks (w S1) pc' lv (.long r :: rest)) : Vj p l e R s m args below meth c Q D cl A nL kc ks (w S) pc lv st := by
  subst hp
  subst hst
  intro H locs ls hP hD hS hh
  have hidx := idx_map (w S)
  have hFc := va_free (wc := w S) hD hS hA (List.range (w S).length) hidx
  refine va_calll (va_runS (As := As) (rest := rest) g (hM H.size) cw ⟨pcC_blind, fun U hU hW => ⟨rfl, by rw [hU], by rw [hU]; exact hP, va_K.moved hW.alike hK, hD.weaken (fun _ _ _ _ => trivial)⟩⟩ rfl hn hh.1 rfl (lv_room hrm) hdg ⟨hcell, hslot⟩) hS (fun q _ h => hFc q h) hFc (fun r9 u t H1 locs1 ht hvm hw hB hz1 hk1 hS1 => ?_)
  obtain ⟨hP1, hK1, hD1⟩ := hB
  rw [ht] at hP1
  obtain ⟨hP2, hD2⟩ := va_join (wr := []) hP hD (List.range (w S).length) [] hidx rfl rfl (fun i hi => by cases hi) hk1 hFc hP1 hD1
  cases hw
  exact kk H1 locs1 ls hP2 hD2 hS1 hh
theorem v_callS_v {S1 : σ} (g : CallFix p m c cc nL s args Ts own) (hK : va_K D cl tys s) (hA : ∀ q, s.heap.size ≤ q → A q) (hM : ∀ sz, Met l y wy rm (pcC D cl tys (w S) sz As) (qV D cl tys w (va_A (w S) sz) S1) 0 0 (va_A (w S) sz)) (cw : CallB R s args own index y bytes maxL ret wy rm 0 0 n ∧ (Cond.static y).before args s = true)  (hn : As.length = n) (hst : st = As.reverse ++ rest) (hrm : (rest.map fun v => v.category).sum ≤ 8) (hdg : decode cc pc = .ok (.invokestatic index, 3)) (hcell : kc + 0 ≤ R.cells) (hslot : ks + 0 ≤ R.slots) (hp : pc + 3 = pc')
    (kk : Vj p l e R s m args below meth c Q D cl A nL kc ks (w S1) pc' lv rest) : Vj p l e R s m args below meth c Q D cl A nL kc ks (w S) pc lv st := by
  subst hp
  subst hst
  intro H locs ls hP hD hS hh
  have hidx := idx_map (w S)
  have hFc := va_free (wc := w S) hD hS hA (List.range (w S).length) hidx
  refine va_callv (va_runS (As := As) (rest := rest) g (hM H.size) cw ⟨pcC_blind, fun U hU hW => ⟨rfl, by rw [hU], by rw [hU]; exact hP, va_K.moved hW.alike hK, hD.weaken (fun _ _ _ _ => trivial)⟩⟩ rfl hn hh.1 rfl (lv_room hrm) hdg ⟨hcell, hslot⟩) hS (fun q _ h => hFc q h) hFc (fun u t H1 locs1 ht hvm hw hB hz1 hk1 hS1 => ?_)
  obtain ⟨hP1, hK1, hD1⟩ := hB
  rw [ht] at hP1
  obtain ⟨hP2, hD2⟩ := va_join (wr := []) hP hD (List.range (w S).length) [] hidx rfl rfl (fun i hi => by cases hi) hk1 hFc hP1 hD1
  cases hw
  exact kk H1 locs1 ls hP2 hD2 hS1 hh
theorem ifT {α : Type} {c : Prop} {h : Decidable c} {a b : Option α} {r : α} (hc : c) (hf : (@ite _ c h a b) = some r) : a = some r := (if_pos hc).symm.trans hf
theorem ifF {α : Type} {c : Prop} {h : Decidable c} {a b : Option α} {r : α} (hc : ¬ c) (hf : (@ite _ c h a b) = some r) : b = some r := (if_neg hc).symm.trans hf
theorem grd {α : Type} {c : Bool} {a : Option α} {r : α} (hf : (if c = true then a else none) = some r) : c = true ∧ a = some r := by
  cases c with
  | true => exact ⟨rfl, hf⟩
  | false => cases hf
theorem grn {α : Type} {c : Prop} {h : Decidable c} {a : Option α} {r : α} (hf : (@ite _ c h none a) = some r) : ¬ c ∧ a = some r := by
  by_cases hc : c
  · rw [if_pos hc] at hf; cases hf
  · exact ⟨hc, (if_neg hc).symm.trans hf⟩
theorem bnd {α β : Type} {o : Option α} {k : α → Option β} {r : β} (hf : o.bind k = some r) : ∃ q, o = some q ∧ k q = some r := by
  cases o with
  | none => cases hf
  | some q => exact ⟨q, rfl, hf⟩
/-- behind a loop that may return: it left (.inl) or returned (.inr) -/
def exK {α ρ : Type} (o : α ⊕ ρ) (k : α → Option ρ) : Option ρ := match o with
  | .inl a => k a
  | .inr q => some q
/-- the same within a loop -/
def exL {α ρ β : Type} (o : α ⊕ ρ) (k : α → Option (β ⊕ ρ)) : Option (β ⊕ ρ) := match o with
  | .inl a => k a
  | .inr q => some (.inr q)
theorem exKl {α ρ : Type} {y : α} {k : α → Option ρ} {r : ρ} (h : exK (.inl y) k = some r) : k y = some r := h
theorem exLl {α ρ β : Type} {y : α} {k : α → Option (β ⊕ ρ)} {r : β ⊕ ρ} (h : exL (.inl y) k = some r) : k y = some r := h
theorem pinj {α σ' : Type} {v r : α} {S' : σ'} (h : some v = some r) : (v, S') = (r, S') := by rw [Option.some.inj h]
theorem tsOut3 {x : Int32} (h0 : ¬ x = 0) (h1 : ¬ x = 1) (h2 : ¬ x = 2) : x.toInt < 0 ∨ 2 < x.toInt := by
  have a0 := lv_neT (a := 0) h0 rfl
  have a1 := lv_neT (a := 1) h1 rfl
  have a2 := lv_neT (a := 2) h2 rfl
  omega
end VC
abbrev St9 : Type := (Nat → Int32) × (Nat → Int64) × (Nat → Nat → Int32) × (Nat → Nat → Int64)
def gI (S : St9) (k : Nat) : Int32 := S.1 k
def gL (S : St9) (k : Nat) : Int64 := S.2.1 k
def gA (S : St9) (k : Nat) : Nat → Int32 := S.2.2.1 k
def gB (S : St9) (k : Nat) : Nat → Int64 := S.2.2.2 k
def sI (S : St9) (k : Nat) (v : Int32) : St9 := (va_up S.1 k v, S.2)
def sL (S : St9) (k : Nat) (v : Int64) : St9 := (S.1, va_up S.2.1 k v, S.2.2)
def tA (S : St9) (k : Nat) (i v : Int32) : St9 := (S.1, S.2.1, va_up S.2.2.1 k (upd (S.2.2.1 k) i.toNatClampNeg v), S.2.2.2)
def tB (S : St9) (k : Nat) (i : Int32) (v : Int64) : St9 := (S.1, S.2.1, S.2.2.1, va_up S.2.2.2 k (vp_updL (S.2.2.2 k) i.toNatClampNeg v))
def St0 : St9 := (fun _ => 0, fun _ => 0, fun _ _ => 0, fun _ _ => 0)
end
section
section VN
variable {p : Program} {l : Launch} {e : Env} {R : Room} {s : State} {m : MethodId} {args : Array Value} {below : List Frame} {meth : Method} {c : Code} {Q : State → Prop} {D : va_G} {cl : List vw_C} {tys : List (ClassId × FieldType)} {A : Nat → Prop} {nL kc ks : Nat} {ws : va_W} {pc pc' : Nat} {lv : List (Nat × Value)} {st rest : List Value} {cc bytes : ByteArray} {Ts wy : List Cond} {own host : String} {y : MethodName} {maxL index mc ms b : Nat} {rm : Room}
theorem v_newa (g : CallFix p m c cc nL s args Ts own) {atype : ArrayType} (harr : Cond.arrayClass (newarray.typeOf atype) ∈ Ts) {ty : FieldType} (hty : newarray.typeOf atype = ty) (hK : va_K D cl tys s) (hA : ∀ q, s.heap.size ≤ q → A q) {n : Int32} {N' : Nat} {a0 : vp_A} (ha : ∀ cA : ClassId, vp_cell cA a0 = arrV cA N' (fun _ => defaultValue ty)) (hn : ¬ n < 0) (hN : n.toNatClampNeg = N') (hbytes : N' * componentBytes ty ≤ 536870912) (hcells : kc + 1 ≤ R.cells) (hslots : ks + N' ≤ R.slots) (hdg : decode cc pc = .ok (.newarray atype, 2)) (hp : pc + 2 = pc')
    (kk : ∀ (q : Nat) (cA : ClassId), va_K D cl (tys ++ [(cA, ty)]) s → Vj p l e R s m args below meth c Q D cl A nL (kc + 1) (ks + N') (ws ++ [(q, .inl (cA, a0))]) pc' lv (.ref q :: st)) : Vj p l e R s m args below meth c Q D cl A nL kc ks ws pc lv (.int n :: st) := by
  subst hp
  exact fun H locs ls hP hD hS hh => va_newa g.1 g.2.1 (g.2.2.2.2 _ harr) hty hK hP hD hS hA ha hn hN hbytes hcells hslots hdg (fun q cA H1 hK1 hP1 hD1 hS1 => kk q cA hK1 H1 locs ls hP1 hD1 hS1 hh)
theorem v_new (g : CallFix p m c cc nL s args Ts own) {C : String} {T : u_T} {N ci : Nat} (hin : ∀ w ∈ u_ws C T N, w ∈ Ts) (ty : Nat → FieldType) (hty : ∀ k, k < N → parseFieldDescriptor (T k).2.2.1 = some (ty k)) (hcl : Cond.classLink own index C ∈ Ts) (hinst : Cond.instantiable C N ∈ Ts) (hini : Cond.initialized C ∈ Ts) (hK : va_K D cl tys s) (hA : ∀ q, s.heap.size ≤ q → A q) (hc : cl[ci]? = some (C, T, N)) {fs : List Value} (hfs : ∀ j, j < N → defaultValue (ty j) = vp_V fs j) (hcells : kc + 1 ≤ R.cells) (hslots : ks + N ≤ R.slots) (hdg : decode cc pc = .ok (.new index, 3)) (hp : pc + 3 = pc')
    (kk : ∀ (q : Nat), Vj p l e R s m args below meth c Q D cl A nL (kc + 1) (ks + N) (ws ++ [(q, .inr (ci, fs))]) pc' lv (.ref q :: st)) : Vj p l e R s m args below meth c Q D cl A nL kc ks ws pc lv st := by
  subst hp
  exact fun H locs ls hP hD hS hh => va_new g.1 g.2.1 g.2.2.2.2 hin ty hty g.2.2.2.1 (g.2.2.2.2 _ hcl) (g.2.2.2.2 _ hinst) (g.2.2.2.2 _ hini) hK hP hD hS hA hc hfs hcells hslots hdg (fun q H1 hP1 hD1 hS1 => kk q H1 locs ls hP1 hD1 hS1 hh)
theorem v_putF (g : CallFix p m c cc nL s args Ts own) (hin2 : meth.name = "<init>") (hK : va_K D cl tys s) {C : String} {T : u_T} {N ci a : Nat} (hin : ∀ w ∈ u_ws C T N, w ∈ Ts) (ty0 : Nat → FieldType) (hty : ∀ k, k < N → parseFieldDescriptor (T k).2.2.1 = some (ty0 k)) (hnm : ∀ a, a < N → ∀ b, b < N → a ≠ b → (T a).2.1 ≠ (T b).2.1) (q0 : Nat) {fs : List Value} (he : ws[q0]? = some (a, .inr (ci, fs))) (hc : cl[ci]? = some (C, T, N)) (k : Nat) (hk : k < N) (hlink : Cond.fieldLink own index (T k).1 (T k).2.1 (T k).2.2.1 ∈ Ts) (hfin : (T k).2.2.2 = true) (hdecl : (T k).1 = own) {ty : FieldType} {v : Value} (hd : parseFieldDescriptor (T k).2.2.1 = some ty) (hn : narrow ty v = v) (hfit : fits ty v = true) (hl : k < fs.length) {ws' : va_W} (hws : ws.set q0 (a, .inr (ci, fs.set k v)) = ws') (hdg : decode cc pc = .ok (.putfield index, 3)) (hp : pc + 3 = pc') (kk : Vj p l e R s m args below meth c Q D cl A nL kc ks ws' pc' lv st) : Vj p l e R s m args below meth c Q D cl A nL kc ks ws pc lv (v :: .ref a :: st) := by
  subst hp; subst hws
  exact fun H locs ls hP hD hS hh => va_putF g.1 g.2.1 g.2.2.2.2 hin ty0 hty hnm g.2.2.2.1 hK hP hD hS q0 he hc k hk (g.2.2.2.2 _ hlink) (fun _ h9 => h9) hfin hin2 hdecl hd hn hfit hl hdg (fun H1 locs1 hP1 hD1 hS1 => kk H1 locs1 ls hP1 hD1 hS1 hh)
theorem v_objInit (g : CallFix p m c cc nL s args Ts own) {a : Nat} (h1 : Cond.methodLink own index objectInit ∈ Ts) (h2 : Cond.instanceMethod objectInit ∈ Ts) (h3 : Cond.code objectInit ⟨#[0xb1]⟩ 1 none ∈ Ts) (hdg : decode cc pc = .ok (.invokespecial index, 3)) (hfr : 1 ≤ R.frames) (hlo : (rest.map fun v => v.category).sum + 12 ≤ R.locals) (hp : pc + 3 = pc') (kk : Vj p l e R s m args below meth c Q D cl A nL kc ks ws pc' lv rest) : Vj p l e R s m args below meth c Q D cl A nL kc ks ws pc lv (.ref a :: rest) := by
  subst hp
  intro H locs ls hP hD hS hh
  refine W.objInit g.1 g.2.1 g.2.2.2.1 (g.2.2.2.2 _ h1) (g.2.2.2.2 _ h2) (g.2.2.2.2 _ h3) rfl (by rw [g.2.2.1]; exact hh.1) rfl hdg hfr (by simpa [JFrame.monitorRoom] using hlo) ?_
  exact kk H locs ls hP hD hS hh
/-- a constructor's end: some world wx u comes out -/
def qN {υ : Type} (D : va_G) (cl : List vw_C) (wx : υ → va_W) (tx : υ → List (ClassId × FieldType)) (A : Nat → Prop) := va_Qv (fun _ : υ => True) (fun u t => va_P D cl (wx u) t.heap ∧ va_K D cl (tx u) t ∧ va_D A (wx u)) A
variable {υ : Type} {wx : υ → va_W} {tx : υ → List (ClassId × FieldType)} {e0 : va_E}
theorem met_n {Pn : State → Prop} (hy : plainName y.cls = true) (hlen : 1 ≤ maxL)
    (body : ∀ (p : Program) (e : Env) (s : State) (m : MethodId) (below : List Frame) (meth : Method) (c : Code) (A : Nat → Prop), CallFix p m c cc maxL s #[.ref b] Ts y.cls → meth.sig.returnType = none → meth.locks = false → meth.name = "<init>" → va_K D cl [] s → (∀ q, s.heap.size ≤ q → A q) → Pn s →
      Vj p l e rm s m #[.ref b] below meth c (MQ below (qN D cl wx tx A) #[.ref b] s mc ms A) D cl A maxL 0 0 [(b, e0)] 0 [(0, .ref b)] []) (hin : y.name = "<init>") (sz : Nat) :
    Met l y (.code y cc maxL none :: Ts) rm (va_Pc [.ref b] (fun U => U.heap.size = sz ∧ va_P D cl [(b, e0)] U.heap ∧ va_K D cl [] U ∧ va_D (fun _ => True) [(b, e0)] ∧ Pn U)) (qN D cl wx tx (va_A [(b, e0)] sz)) mc ms (va_A [(b, e0)] sz) := by
  refine Met.ofW (cc := cc) (maxL := maxL) (ret := none) hy rfl ?_
  intro p e s m args below meth c s₁ B hml hv
  obtain ⟨rfl, hsz, hP, hK, hD0, hPn⟩ := hv
  subst hsz
  have hD := hD0.self (sz := s.heap.size)
  have hts := atoms_spec (ws := .code y cc maxL none :: Ts) B.pre
  have g : CallFix p m c cc maxL s #[.ref b] Ts y.cls := ⟨B.exec, B.bytes, hml, findClass_of_methodNamed B.named, fun w hw => hts w (List.mem_cons_of_mem _ hw)⟩
  have hl := lv_entry [Value.ref b] (n := maxL) hlen
  have hnm : meth.name = "<init>" := (name_of_methodNamed B.named B.method).1.trans hin
  rw [lg_entry_eq]
  exact body p e s m below meth c (va_A [(b, e0)] s.heap.size) g B.returns B.notSynchronized hnm hK (fun q h => Or.inr h) hPn s.heap [] _ hP hD va_S.rf hl
theorem v_nret {u : υ} (g : CallFix p m c cc nL s args Ts own) (hr : meth.sig.returnType = none) (hlk : meth.locks = false) (hK : va_K D cl (tx u) s) (hdg : decode cc pc = .ok (.return_, 1)) : Vj p l e R s m args below meth c (MQ below (qN D cl wx tx A) args s kc ks A) D cl A nL kc ks (wx u) pc lv [] := fun H locs ls hP hD hS hh => W.vret g.1 g.2.1 hr (fun t ht hW => ⟨⟨u, rfl, trivial, by rw [ht]; exact hP, va_K.moved hW.alike hK, hD⟩, hS.F ht⟩) hS.2.2 hdg hlk
theorem v_ctor {Pn : State → Prop} {wr : va_W} (g : CallFix p m c cc nL s args Ts own) (hK : va_K D cl tys s) (hA : ∀ q, s.heap.size ≤ q → A q) (hM : ∀ sz, Met l y wy rm (va_Pc [.ref b] (fun U => U.heap.size = sz ∧ va_P D cl [(b, e0)] U.heap ∧ va_K D cl [] U ∧ va_D (fun _ => True) [(b, e0)] ∧ Pn U)) (qN D cl wx tx (va_A [(b, e0)] sz)) mc ms (va_A [(b, e0)] sz)) (cw : CallB R s args own index y bytes maxL none wy rm mc ms 0 ∧ y.name = "<init>" ∧ (Cond.instanceMethod y).before args s = true) (hPb : ∀ (U : State) g mk (a : Array Value), Pn U → Pn (U.calling g mk a)) (hPs : ∀ U : State, s.WarmedH U.vm → Pn U) (k0 : Nat) (isR : List Nat) (he : ws[k0]? = some (b, e0)) (hR : isR.map (fun i => ws[i]?) = wr.map some) (hnd : va_nd isR = true) (hdis : ∀ i ∈ isR, i ∉ [k0]) (hrm : (rest.map fun v => v.category).sum ≤ 8) (hdg : decode cc pc = .ok (.invokespecial index, 3)) (hcell : kc + mc ≤ R.cells) (hslot : ks + ms ≤ R.slots) (hp : pc + 3 = pc')
    (kk : ∀ u : υ, va_K D cl (tys ++ tx u) s → Vj p l e R s m args below meth c Q D cl A nL (kc + mc) (ks + ms) (wr ++ wx u) pc' lv rest) : Vj p l e R s m args below meth c Q D cl A nL kc ks ws pc lv (.ref b :: rest) := by
  subst hp
  intro H locs ls hP hD hS hh
  have hC : [k0].map (fun i => ws[i]?) = [(b, e0)].map some := by simp [he]
  have hPc : va_P D cl [(b, e0)] H := hP.sub [k0] (by simp [he])
  have hDc : va_D A [(b, e0)] := hD.sub [k0] rfl hC
  have hFc := va_free (wc := [(b, e0)]) hD hS hA [k0] hC
  refine va_callv (va_runI (As := []) (rest := rest) g (hM H.size) cw ⟨fun a U g mk q => by obtain ⟨q0, q1, qP, qK, qD, qN⟩ := q; exact ⟨q0, q1, qP, va_K.moved (u := U) (U := U.calling g mk a) (Vm.Alike.refl U.vm) qK, qD, hPb U g mk a qN⟩, fun U hU hW => ⟨rfl, by rw [hU], by rw [hU]; exact hPc, va_K.moved hW.alike (hK.sub (tys' := []) [] rfl), hDc.weaken (fun _ _ _ _ => trivial), hPs U hW⟩⟩ rfl rfl hh.1 rfl (lv_room hrm) hdg ⟨hcell, hslot⟩) hS (fun q _ h => hFc q h) hFc (fun u t H1 locs1 ht hvm hw hB hz1 hk1 hS1 => ?_)
  obtain ⟨hP1, hK1, hD1⟩ := hB
  rw [ht] at hP1
  have hK1 := va_K.moved hvm.symm hK1
  obtain ⟨hP2, hD2⟩ := va_join (wr := wr) hP hD [k0] isR hC hR hnd hdis hk1 hFc hP1 hD1
  exact kk u (hK.app hK1) H1 locs1 ls hP2 hD2 hS1 hh
theorem v_ctorN {Pn : State → Prop} {wr : va_W} (g : CallFix p m c cc nL s args Ts own) (hK : va_K D cl tys s) (hA : ∀ q, s.heap.size ≤ q → A q) (hM : ∀ sz, Met l y wy rm (va_Pc [.ref b] (fun U => U.heap.size = sz ∧ va_P D cl [(b, e0)] U.heap ∧ va_K D cl [] U ∧ va_D (fun _ => True) [(b, e0)] ∧ Pn U)) (qN D cl wx tx (va_A [(b, e0)] sz)) mc ms (va_A [(b, e0)] sz)) (cw : va_CN R s args own index y host bytes maxL none wy rm mc ms 0 ∧ y.name = "<init>" ∧ (Cond.instanceMethod y).before args s = true) (hPb : ∀ (U : State) g mk (a : Array Value), Pn U → Pn (U.calling g mk a)) (hPs : ∀ U : State, s.WarmedH U.vm → Pn U) (k0 : Nat) (isR : List Nat) (he : ws[k0]? = some (b, e0)) (hR : isR.map (fun i => ws[i]?) = wr.map some) (hnd : va_nd isR = true) (hdis : ∀ i ∈ isR, i ∉ [k0]) (hrm : (rest.map fun v => v.category).sum ≤ 8) (hdg : decode cc pc = .ok (.invokespecial index, 3)) (hcell : kc + mc ≤ R.cells) (hslot : ks + ms ≤ R.slots) (hp : pc + 3 = pc')
    (kk : ∀ u : υ, va_K D cl (tys ++ tx u) s → Vj p l e R s m args below meth c Q D cl A nL (kc + mc) (ks + ms) (wr ++ wx u) pc' lv rest) : Vj p l e R s m args below meth c Q D cl A nL kc ks ws pc lv (.ref b :: rest) := by
  subst hp
  intro H locs ls hP hD hS hh
  have hC : [k0].map (fun i => ws[i]?) = [(b, e0)].map some := by simp [he]
  have hPc : va_P D cl [(b, e0)] H := hP.sub [k0] (by simp [he])
  have hDc : va_D A [(b, e0)] := hD.sub [k0] rfl hC
  have hFc := va_free (wc := [(b, e0)]) hD hS hA [k0] hC
  refine va_callv (va_runIN (As := []) (rest := rest) g (hM H.size) cw ⟨fun a U g mk q => by obtain ⟨q0, q1, qP, qK, qD, qN⟩ := q; exact ⟨q0, q1, qP, va_K.moved (u := U) (U := U.calling g mk a) (Vm.Alike.refl U.vm) qK, qD, hPb U g mk a qN⟩, fun U hU hW => ⟨rfl, by rw [hU], by rw [hU]; exact hPc, va_K.moved hW.alike (hK.sub (tys' := []) [] rfl), hDc.weaken (fun _ _ _ _ => trivial), hPs U hW⟩⟩ rfl rfl hh.1 rfl (lv_room hrm) hdg ⟨hcell, hslot⟩) hS (fun q _ h => hFc q h) hFc (fun u t H1 locs1 ht hvm hw hB hz1 hk1 hS1 => ?_)
  obtain ⟨hP1, hK1, hD1⟩ := hB
  rw [ht] at hP1
  have hK1 := va_K.moved hvm.symm hK1
  obtain ⟨hP2, hD2⟩ := va_join (wr := wr) hP hD [k0] isR hC hR hnd hdis hk1 hFc hP1 hD1
  exact kk u (hK.app hK1) H1 locs1 ls hP2 hD2 hS1 hh
end VN
end
