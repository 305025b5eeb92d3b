-- ===== PART A: goes FIRST, ahead of the names: the tables' words, and 'selects' of the private methods out of them =====
/-- a private method of a class that the tables say can be made, by its rows of tables_1 -/
def lw_okq (q : MethodName × Nat) : Prop := (q.1.cls ≠ "java/lang/invoke/MethodHandle" ∧ q.1.cls ≠ "java/lang/invoke/VarHandle") ∧ Cond.instantiable q.1.cls q.2 ∈ tables_1 ∧ Cond.privateMethod q.1 ∈ tables_1 ∧ Cond.instanceMethod q.1 ∈ tables_1
theorem lw_p0 : lw_okq (⟨"WageHats$Reader", "aimAt", "(LWageHats$Town;)V"⟩, 10) := ⟨⟨by decide +kernel, by decide +kernel⟩, List.mem_of_getElem? (i := 400) (by decide +kernel), List.mem_of_getElem? (i := 491) (by decide +kernel), List.mem_of_getElem? (i := 492) (by decide +kernel)⟩
theorem lw_p1 : lw_okq (⟨"WageHats", "lay", "(I)V"⟩, 9) := ⟨⟨by decide +kernel, by decide +kernel⟩, List.mem_of_getElem? (i := 20) (by decide +kernel), List.mem_of_getElem? (i := 561) (by decide +kernel), List.mem_of_getElem? (i := 562) (by decide +kernel)⟩
theorem lw_p2 : lw_okq (⟨"WageHats$Tokens", "add", "([III)V"⟩, 6) := ⟨⟨by decide +kernel, by decide +kernel⟩, List.mem_of_getElem? (i := 406) (by decide +kernel), List.mem_of_getElem? (i := 601) (by decide +kernel), List.mem_of_getElem? (i := 602) (by decide +kernel)⟩
theorem lw_p3 : lw_okq (⟨"WageHats$Tokens", "isStuck", "(I)Z"⟩, 6) := ⟨⟨by decide +kernel, by decide +kernel⟩, List.mem_of_getElem? (i := 406) (by decide +kernel), List.mem_of_getElem? (i := 605) (by decide +kernel), List.mem_of_getElem? (i := 606) (by decide +kernel)⟩
theorem lw_p4 : lw_okq (⟨"WageHats$Reader", "ahead", "()I"⟩, 10) := ⟨⟨by decide +kernel, by decide +kernel⟩, List.mem_of_getElem? (i := 400) (by decide +kernel), List.mem_of_getElem? (i := 623) (by decide +kernel), List.mem_of_getElem? (i := 624) (by decide +kernel)⟩
theorem lw_p5 : lw_okq (⟨"WageHats$Reader", "isFull", "(I)Z"⟩, 10) := ⟨⟨by decide +kernel, by decide +kernel⟩, List.mem_of_getElem? (i := 400) (by decide +kernel), List.mem_of_getElem? (i := 632) (by decide +kernel), List.mem_of_getElem? (i := 633) (by decide +kernel)⟩
theorem lw_p6 : lw_okq (⟨"WageHats$Reader", "fail", "(II)V"⟩, 10) := ⟨⟨by decide +kernel, by decide +kernel⟩, List.mem_of_getElem? (i := 400) (by decide +kernel), List.mem_of_getElem? (i := 636) (by decide +kernel), List.mem_of_getElem? (i := 637) (by decide +kernel)⟩
theorem lw_p7 : lw_okq (⟨"WageHats$Reader", "readNumber", "(II)I"⟩, 10) := ⟨⟨by decide +kernel, by decide +kernel⟩, List.mem_of_getElem? (i := 400) (by decide +kernel), List.mem_of_getElem? (i := 647) (by decide +kernel), List.mem_of_getElem? (i := 648) (by decide +kernel)⟩
theorem lw_p8 : lw_okq (⟨"WageHats$Reader", "readSort", "()V"⟩, 10) := ⟨⟨by decide +kernel, by decide +kernel⟩, List.mem_of_getElem? (i := 400) (by decide +kernel), List.mem_of_getElem? (i := 651) (by decide +kernel), List.mem_of_getElem? (i := 652) (by decide +kernel)⟩
theorem lw_p9 : lw_okq (⟨"WageHats$Reader", "readNewName", "()I"⟩, 10) := ⟨⟨by decide +kernel, by decide +kernel⟩, List.mem_of_getElem? (i := 400) (by decide +kernel), List.mem_of_getElem? (i := 655) (by decide +kernel), List.mem_of_getElem? (i := 656) (by decide +kernel)⟩
theorem lw_p10 : lw_okq (⟨"WageHats$Reader", "isNameNext", "()Z"⟩, 10) := ⟨⟨by decide +kernel, by decide +kernel⟩, List.mem_of_getElem? (i := 400) (by decide +kernel), List.mem_of_getElem? (i := 659) (by decide +kernel), List.mem_of_getElem? (i := 660) (by decide +kernel)⟩
theorem lw_p11 : lw_okq (⟨"WageHats$Reader", "isGiven", "(I)Z"⟩, 10) := ⟨⟨by decide +kernel, by decide +kernel⟩, List.mem_of_getElem? (i := 400) (by decide +kernel), List.mem_of_getElem? (i := 663) (by decide +kernel), List.mem_of_getElem? (i := 664) (by decide +kernel)⟩
theorem lw_p12 : lw_okq (⟨"WageHats$Reader", "numberAfter", "(III)I"⟩, 10) := ⟨⟨by decide +kernel, by decide +kernel⟩, List.mem_of_getElem? (i := 400) (by decide +kernel), List.mem_of_getElem? (i := 669) (by decide +kernel), List.mem_of_getElem? (i := 670) (by decide +kernel)⟩
theorem lw_p13 : lw_okq (⟨"WageHats$Reader", "need", "(I)V"⟩, 10) := ⟨⟨by decide +kernel, by decide +kernel⟩, List.mem_of_getElem? (i := 400) (by decide +kernel), List.mem_of_getElem? (i := 673) (by decide +kernel), List.mem_of_getElem? (i := 674) (by decide +kernel)⟩
theorem lw_p14 : lw_okq (⟨"WageHats$Reader", "readHat", "()V"⟩, 10) := ⟨⟨by decide +kernel, by decide +kernel⟩, List.mem_of_getElem? (i := 400) (by decide +kernel), List.mem_of_getElem? (i := 677) (by decide +kernel), List.mem_of_getElem? (i := 678) (by decide +kernel)⟩
theorem lw_p15 : lw_okq (⟨"WageHats$Reader", "readPerson", "()V"⟩, 10) := ⟨⟨by decide +kernel, by decide +kernel⟩, List.mem_of_getElem? (i := 400) (by decide +kernel), List.mem_of_getElem? (i := 681) (by decide +kernel), List.mem_of_getElem? (i := 682) (by decide +kernel)⟩
def lw_privs_1 : List (MethodName × Nat) := [(⟨"WageHats$Reader", "aimAt", "(LWageHats$Town;)V"⟩, 10), (⟨"WageHats", "lay", "(I)V"⟩, 9), (⟨"WageHats$Tokens", "add", "([III)V"⟩, 6), (⟨"WageHats$Tokens", "isStuck", "(I)Z"⟩, 6), (⟨"WageHats$Reader", "ahead", "()I"⟩, 10), (⟨"WageHats$Reader", "isFull", "(I)Z"⟩, 10), (⟨"WageHats$Reader", "fail", "(II)V"⟩, 10), (⟨"WageHats$Reader", "readNumber", "(II)I"⟩, 10), (⟨"WageHats$Reader", "readSort", "()V"⟩, 10), (⟨"WageHats$Reader", "readNewName", "()I"⟩, 10), (⟨"WageHats$Reader", "isNameNext", "()Z"⟩, 10), (⟨"WageHats$Reader", "isGiven", "(I)Z"⟩, 10), (⟨"WageHats$Reader", "numberAfter", "(III)I"⟩, 10), (⟨"WageHats$Reader", "need", "(I)V"⟩, 10), (⟨"WageHats$Reader", "readHat", "()V"⟩, 10), (⟨"WageHats$Reader", "readPerson", "()V"⟩, 10)]
theorem lw_r1 : ∀ q ∈ lw_privs_1, lw_okq q := List.forall_mem_cons.mpr ⟨lw_p0, List.forall_mem_cons.mpr ⟨lw_p1, List.forall_mem_cons.mpr ⟨lw_p2, List.forall_mem_cons.mpr ⟨lw_p3, List.forall_mem_cons.mpr ⟨lw_p4, List.forall_mem_cons.mpr ⟨lw_p5, List.forall_mem_cons.mpr ⟨lw_p6, List.forall_mem_cons.mpr ⟨lw_p7, List.forall_mem_cons.mpr ⟨lw_p8, List.forall_mem_cons.mpr ⟨lw_p9, List.forall_mem_cons.mpr ⟨lw_p10, List.forall_mem_cons.mpr ⟨lw_p11, List.forall_mem_cons.mpr ⟨lw_p12, List.forall_mem_cons.mpr ⟨lw_p13, List.forall_mem_cons.mpr ⟨lw_p14, List.forall_mem_cons.mpr ⟨lw_p15, fun _ h => absurd h List.not_mem_nil⟩⟩⟩⟩⟩⟩⟩⟩⟩⟩⟩⟩⟩⟩⟩⟩
theorem lw_p16 : lw_okq (⟨"WageHats$Reader", "readKnown", "([II)I"⟩, 10) := ⟨⟨by decide +kernel, by decide +kernel⟩, List.mem_of_getElem? (i := 400) (by decide +kernel), List.mem_of_getElem? (i := 685) (by decide +kernel), List.mem_of_getElem? (i := 686) (by decide +kernel)⟩
theorem lw_p17 : lw_okq (⟨"WageHats$Reader", "readIn", "()V"⟩, 10) := ⟨⟨by decide +kernel, by decide +kernel⟩, List.mem_of_getElem? (i := 400) (by decide +kernel), List.mem_of_getElem? (i := 689) (by decide +kernel), List.mem_of_getElem? (i := 690) (by decide +kernel)⟩
theorem lw_p18 : lw_okq (⟨"WageHats$Reader", "readPair", "()V"⟩, 10) := ⟨⟨by decide +kernel, by decide +kernel⟩, List.mem_of_getElem? (i := 400) (by decide +kernel), List.mem_of_getElem? (i := 693) (by decide +kernel), List.mem_of_getElem? (i := 694) (by decide +kernel)⟩
theorem lw_p19 : lw_okq (⟨"WageHats$Reader", "readUnpaired", "(I)I"⟩, 10) := ⟨⟨by decide +kernel, by decide +kernel⟩, List.mem_of_getElem? (i := 400) (by decide +kernel), List.mem_of_getElem? (i := 697) (by decide +kernel), List.mem_of_getElem? (i := 698) (by decide +kernel)⟩
theorem lw_p20 : lw_okq (⟨"WageHats$Reader", "readWorks", "()V"⟩, 10) := ⟨⟨by decide +kernel, by decide +kernel⟩, List.mem_of_getElem? (i := 400) (by decide +kernel), List.mem_of_getElem? (i := 701) (by decide +kernel), List.mem_of_getElem? (i := 702) (by decide +kernel)⟩
theorem lw_p21 : lw_okq (⟨"WageHats$Reader", "readSum", "(I)V"⟩, 10) := ⟨⟨by decide +kernel, by decide +kernel⟩, List.mem_of_getElem? (i := 400) (by decide +kernel), List.mem_of_getElem? (i := 705) (by decide +kernel), List.mem_of_getElem? (i := 706) (by decide +kernel)⟩
theorem lw_p22 : lw_okq (⟨"WageHats$Reader", "readProduct", "(I)V"⟩, 10) := ⟨⟨by decide +kernel, by decide +kernel⟩, List.mem_of_getElem? (i := 400) (by decide +kernel), List.mem_of_getElem? (i := 709) (by decide +kernel), List.mem_of_getElem? (i := 710) (by decide +kernel)⟩
theorem lw_p23 : lw_okq (⟨"WageHats$Reader", "readPiece", "(I)V"⟩, 10) := ⟨⟨by decide +kernel, by decide +kernel⟩, List.mem_of_getElem? (i := 400) (by decide +kernel), List.mem_of_getElem? (i := 713) (by decide +kernel), List.mem_of_getElem? (i := 714) (by decide +kernel)⟩
theorem lw_p24 : lw_okq (⟨"WageHats$Reader", "takes", "(I)Z"⟩, 10) := ⟨⟨by decide +kernel, by decide +kernel⟩, List.mem_of_getElem? (i := 400) (by decide +kernel), List.mem_of_getElem? (i := 720) (by decide +kernel), List.mem_of_getElem? (i := 721) (by decide +kernel)⟩
theorem lw_p25 : lw_okq (⟨"WageHats$Reader", "readOfTwo", "(II)V"⟩, 10) := ⟨⟨by decide +kernel, by decide +kernel⟩, List.mem_of_getElem? (i := 400) (by decide +kernel), List.mem_of_getElem? (i := 724) (by decide +kernel), List.mem_of_getElem? (i := 725) (by decide +kernel)⟩
theorem lw_p26 : lw_okq (⟨"WageHats$Reader", "opens", "(I)Z"⟩, 10) := ⟨⟨by decide +kernel, by decide +kernel⟩, List.mem_of_getElem? (i := 400) (by decide +kernel), List.mem_of_getElem? (i := 728) (by decide +kernel), List.mem_of_getElem? (i := 729) (by decide +kernel)⟩
theorem lw_p27 : lw_okq (⟨"WageHats$Reader", "readTest", "(I)V"⟩, 10) := ⟨⟨by decide +kernel, by decide +kernel⟩, List.mem_of_getElem? (i := 400) (by decide +kernel), List.mem_of_getElem? (i := 736) (by decide +kernel), List.mem_of_getElem? (i := 737) (by decide +kernel)⟩
theorem lw_p28 : lw_okq (⟨"WageHats$Reader", "readBoth", "(I)V"⟩, 10) := ⟨⟨by decide +kernel, by decide +kernel⟩, List.mem_of_getElem? (i := 400) (by decide +kernel), List.mem_of_getElem? (i := 740) (by decide +kernel), List.mem_of_getElem? (i := 741) (by decide +kernel)⟩
theorem lw_p29 : lw_okq (⟨"WageHats$Reader", "readFact", "(I)V"⟩, 10) := ⟨⟨by decide +kernel, by decide +kernel⟩, List.mem_of_getElem? (i := 400) (by decide +kernel), List.mem_of_getElem? (i := 744) (by decide +kernel), List.mem_of_getElem? (i := 745) (by decide +kernel)⟩
theorem lw_p30 : lw_okq (⟨"WageHats$Reader", "readCompare", "()I"⟩, 10) := ⟨⟨by decide +kernel, by decide +kernel⟩, List.mem_of_getElem? (i := 400) (by decide +kernel), List.mem_of_getElem? (i := 748) (by decide +kernel), List.mem_of_getElem? (i := 749) (by decide +kernel)⟩
theorem lw_p31 : lw_okq (⟨"WageHats$Company", "gatherOwn", "(LWageHats$Sorts;I)V"⟩, 16) := ⟨⟨by decide +kernel, by decide +kernel⟩, List.mem_of_getElem? (i := 128) (by decide +kernel), List.mem_of_getElem? (i := 819) (by decide +kernel), List.mem_of_getElem? (i := 820) (by decide +kernel)⟩
def lw_privs_2 : List (MethodName × Nat) := [(⟨"WageHats$Reader", "readKnown", "([II)I"⟩, 10), (⟨"WageHats$Reader", "readIn", "()V"⟩, 10), (⟨"WageHats$Reader", "readPair", "()V"⟩, 10), (⟨"WageHats$Reader", "readUnpaired", "(I)I"⟩, 10), (⟨"WageHats$Reader", "readWorks", "()V"⟩, 10), (⟨"WageHats$Reader", "readSum", "(I)V"⟩, 10), (⟨"WageHats$Reader", "readProduct", "(I)V"⟩, 10), (⟨"WageHats$Reader", "readPiece", "(I)V"⟩, 10), (⟨"WageHats$Reader", "takes", "(I)Z"⟩, 10), (⟨"WageHats$Reader", "readOfTwo", "(II)V"⟩, 10), (⟨"WageHats$Reader", "opens", "(I)Z"⟩, 10), (⟨"WageHats$Reader", "readTest", "(I)V"⟩, 10), (⟨"WageHats$Reader", "readBoth", "(I)V"⟩, 10), (⟨"WageHats$Reader", "readFact", "(I)V"⟩, 10), (⟨"WageHats$Reader", "readCompare", "()I"⟩, 10), (⟨"WageHats$Company", "gatherOwn", "(LWageHats$Sorts;I)V"⟩, 16)]
theorem lw_r2 : ∀ q ∈ lw_privs_2, lw_okq q := List.forall_mem_cons.mpr ⟨lw_p16, List.forall_mem_cons.mpr ⟨lw_p17, List.forall_mem_cons.mpr ⟨lw_p18, List.forall_mem_cons.mpr ⟨lw_p19, List.forall_mem_cons.mpr ⟨lw_p20, List.forall_mem_cons.mpr ⟨lw_p21, List.forall_mem_cons.mpr ⟨lw_p22, List.forall_mem_cons.mpr ⟨lw_p23, List.forall_mem_cons.mpr ⟨lw_p24, List.forall_mem_cons.mpr ⟨lw_p25, List.forall_mem_cons.mpr ⟨lw_p26, List.forall_mem_cons.mpr ⟨lw_p27, List.forall_mem_cons.mpr ⟨lw_p28, List.forall_mem_cons.mpr ⟨lw_p29, List.forall_mem_cons.mpr ⟨lw_p30, List.forall_mem_cons.mpr ⟨lw_p31, fun _ h => absurd h List.not_mem_nil⟩⟩⟩⟩⟩⟩⟩⟩⟩⟩⟩⟩⟩⟩⟩⟩
theorem lw_p32 : lw_okq (⟨"WageHats$Company", "gatherHat", "(LWageHats$Hats;I)V"⟩, 16) := ⟨⟨by decide +kernel, by decide +kernel⟩, List.mem_of_getElem? (i := 128) (by decide +kernel), List.mem_of_getElem? (i := 823) (by decide +kernel), List.mem_of_getElem? (i := 824) (by decide +kernel)⟩
theorem lw_p33 : lw_okq (⟨"WageHats$Scene", "noteTrail", "(I)V"⟩, 7) := ⟨⟨by decide +kernel, by decide +kernel⟩, List.mem_of_getElem? (i := 73) (by decide +kernel), List.mem_of_getElem? (i := 950) (by decide +kernel), List.mem_of_getElem? (i := 951) (by decide +kernel)⟩
theorem lw_p34 : lw_okq (⟨"WageHats$Scene", "firstOfTrail", "(I)I"⟩, 7) := ⟨⟨by decide +kernel, by decide +kernel⟩, List.mem_of_getElem? (i := 73) (by decide +kernel), List.mem_of_getElem? (i := 955) (by decide +kernel), List.mem_of_getElem? (i := 956) (by decide +kernel)⟩
theorem lw_p35 : lw_okq (⟨"WageHats$Scene", "isOnTrail", "(I)Z"⟩, 7) := ⟨⟨by decide +kernel, by decide +kernel⟩, List.mem_of_getElem? (i := 73) (by decide +kernel), List.mem_of_getElem? (i := 959) (by decide +kernel), List.mem_of_getElem? (i := 960) (by decide +kernel)⟩
theorem lw_p36 : lw_okq (⟨"WageHats", "canCrowd", "(II)Z"⟩, 9) := ⟨⟨by decide +kernel, by decide +kernel⟩, List.mem_of_getElem? (i := 20) (by decide +kernel), List.mem_of_getElem? (i := 975) (by decide +kernel), List.mem_of_getElem? (i := 976) (by decide +kernel)⟩
theorem lw_p37 : lw_okq (⟨"WageHats", "crowdTrial", "(III)V"⟩, 9) := ⟨⟨by decide +kernel, by decide +kernel⟩, List.mem_of_getElem? (i := 20) (by decide +kernel), List.mem_of_getElem? (i := 979) (by decide +kernel), List.mem_of_getElem? (i := 980) (by decide +kernel)⟩
theorem lw_p38 : lw_okq (⟨"WageHats", "settleTrialFrom", "(I)V"⟩, 9) := ⟨⟨by decide +kernel, by decide +kernel⟩, List.mem_of_getElem? (i := 20) (by decide +kernel), List.mem_of_getElem? (i := 1003) (by decide +kernel), List.mem_of_getElem? (i := 1004) (by decide +kernel)⟩
theorem lw_p39 : lw_okq (⟨"WageHats$Weeks", "drawFrom", "(LWageHats$Scene;I)V"⟩, 10) := ⟨⟨by decide +kernel, by decide +kernel⟩, List.mem_of_getElem? (i := 28) (by decide +kernel), List.mem_of_getElem? (i := 1080) (by decide +kernel), List.mem_of_getElem? (i := 1081) (by decide +kernel)⟩
theorem lw_p40 : lw_okq (⟨"WageHats$Weeks", "drawHat", "(LWageHats$People;I)V"⟩, 10) := ⟨⟨by decide +kernel, by decide +kernel⟩, List.mem_of_getElem? (i := 28) (by decide +kernel), List.mem_of_getElem? (i := 1085) (by decide +kernel), List.mem_of_getElem? (i := 1086) (by decide +kernel)⟩
theorem lw_p41 : lw_okq (⟨"WageHats$Weeks", "draw", "(I)I"⟩, 10) := ⟨⟨by decide +kernel, by decide +kernel⟩, List.mem_of_getElem? (i := 28) (by decide +kernel), List.mem_of_getElem? (i := 1090) (by decide +kernel), List.mem_of_getElem? (i := 1091) (by decide +kernel)⟩
theorem lw_p42 : lw_okq (⟨"WageHats$Weeks", "takeHours", "(LWageHats$Town;)V"⟩, 10) := ⟨⟨by decide +kernel, by decide +kernel⟩, List.mem_of_getElem? (i := 28) (by decide +kernel), List.mem_of_getElem? (i := 1097) (by decide +kernel), List.mem_of_getElem? (i := 1098) (by decide +kernel)⟩
theorem lw_p43 : lw_okq (⟨"WageHats$Weeks", "gatherFacts", "(LWageHats$Scene;I)V"⟩, 10) := ⟨⟨by decide +kernel, by decide +kernel⟩, List.mem_of_getElem? (i := 28) (by decide +kernel), List.mem_of_getElem? (i := 1101) (by decide +kernel), List.mem_of_getElem? (i := 1102) (by decide +kernel)⟩
theorem lw_p44 : lw_okq (⟨"WageHats$Rules", "valueOf", "(II[I)I"⟩, 8) := ⟨⟨by decide +kernel, by decide +kernel⟩, List.mem_of_getElem? (i := 349) (by decide +kernel), List.mem_of_getElem? (i := 1115) (by decide +kernel), List.mem_of_getElem? (i := 1116) (by decide +kernel)⟩
theorem lw_p45 : lw_okq (⟨"WageHats$Weeks", "handOut", "(LWageHats$Scene;)V"⟩, 10) := ⟨⟨by decide +kernel, by decide +kernel⟩, List.mem_of_getElem? (i := 28) (by decide +kernel), List.mem_of_getElem? (i := 1145) (by decide +kernel), List.mem_of_getElem? (i := 1146) (by decide +kernel)⟩
theorem lw_p46 : lw_okq (⟨"WageHats$Weeks", "handed", "(LWageHats$Scene;I)I"⟩, 10) := ⟨⟨by decide +kernel, by decide +kernel⟩, List.mem_of_getElem? (i := 28) (by decide +kernel), List.mem_of_getElem? (i := 1149) (by decide +kernel), List.mem_of_getElem? (i := 1150) (by decide +kernel)⟩
theorem lw_p47 : lw_okq (⟨"WageHats$Weeks", "lookAtAll", "(LWageHats$Scene;)V"⟩, 10) := ⟨⟨by decide +kernel, by decide +kernel⟩, List.mem_of_getElem? (i := 28) (by decide +kernel), List.mem_of_getElem? (i := 1161) (by decide +kernel), List.mem_of_getElem? (i := 1162) (by decide +kernel)⟩
def lw_privs_3 : List (MethodName × Nat) := [(⟨"WageHats$Company", "gatherHat", "(LWageHats$Hats;I)V"⟩, 16), (⟨"WageHats$Scene", "noteTrail", "(I)V"⟩, 7), (⟨"WageHats$Scene", "firstOfTrail", "(I)I"⟩, 7), (⟨"WageHats$Scene", "isOnTrail", "(I)Z"⟩, 7), (⟨"WageHats", "canCrowd", "(II)Z"⟩, 9), (⟨"WageHats", "crowdTrial", "(III)V"⟩, 9), (⟨"WageHats", "settleTrialFrom", "(I)V"⟩, 9), (⟨"WageHats$Weeks", "drawFrom", "(LWageHats$Scene;I)V"⟩, 10), (⟨"WageHats$Weeks", "drawHat", "(LWageHats$People;I)V"⟩, 10), (⟨"WageHats$Weeks", "draw", "(I)I"⟩, 10), (⟨"WageHats$Weeks", "takeHours", "(LWageHats$Town;)V"⟩, 10), (⟨"WageHats$Weeks", "gatherFacts", "(LWageHats$Scene;I)V"⟩, 10), (⟨"WageHats$Rules", "valueOf", "(II[I)I"⟩, 8), (⟨"WageHats$Weeks", "handOut", "(LWageHats$Scene;)V"⟩, 10), (⟨"WageHats$Weeks", "handed", "(LWageHats$Scene;I)I"⟩, 10), (⟨"WageHats$Weeks", "lookAtAll", "(LWageHats$Scene;)V"⟩, 10)]
theorem lw_r3 : ∀ q ∈ lw_privs_3, lw_okq q := List.forall_mem_cons.mpr ⟨lw_p32, List.forall_mem_cons.mpr ⟨lw_p33, List.forall_mem_cons.mpr ⟨lw_p34, List.forall_mem_cons.mpr ⟨lw_p35, List.forall_mem_cons.mpr ⟨lw_p36, List.forall_mem_cons.mpr ⟨lw_p37, List.forall_mem_cons.mpr ⟨lw_p38, List.forall_mem_cons.mpr ⟨lw_p39, List.forall_mem_cons.mpr ⟨lw_p40, List.forall_mem_cons.mpr ⟨lw_p41, List.forall_mem_cons.mpr ⟨lw_p42, List.forall_mem_cons.mpr ⟨lw_p43, List.forall_mem_cons.mpr ⟨lw_p44, List.forall_mem_cons.mpr ⟨lw_p45, List.forall_mem_cons.mpr ⟨lw_p46, List.forall_mem_cons.mpr ⟨lw_p47, fun _ h => absurd h List.not_mem_nil⟩⟩⟩⟩⟩⟩⟩⟩⟩⟩⟩⟩⟩⟩⟩⟩
theorem lw_p48 : lw_okq (⟨"WageHats$Weeks", "halvePairs", "(LWageHats$People;)V"⟩, 10) := ⟨⟨by decide +kernel, by decide +kernel⟩, List.mem_of_getElem? (i := 28) (by decide +kernel), List.mem_of_getElem? (i := 1166) (by decide +kernel), List.mem_of_getElem? (i := 1167) (by decide +kernel)⟩
theorem lw_p49 : lw_okq (⟨"WageHats$Weeks", "payAll", "(LWageHats$Scene;)I"⟩, 10) := ⟨⟨by decide +kernel, by decide +kernel⟩, List.mem_of_getElem? (i := 28) (by decide +kernel), List.mem_of_getElem? (i := 1170) (by decide +kernel), List.mem_of_getElem? (i := 1171) (by decide +kernel)⟩
theorem lw_p50 : lw_okq (⟨"WageHats", "paint", "(I)V"⟩, 9) := ⟨⟨by decide +kernel, by decide +kernel⟩, List.mem_of_getElem? (i := 20) (by decide +kernel), List.mem_of_getElem? (i := 1191) (by decide +kernel), List.mem_of_getElem? (i := 1192) (by decide +kernel)⟩
theorem lw_p51 : lw_okq (⟨"WageHats", "paintTwo", "(I)V"⟩, 9) := ⟨⟨by decide +kernel, by decide +kernel⟩, List.mem_of_getElem? (i := 20) (by decide +kernel), List.mem_of_getElem? (i := 1195) (by decide +kernel), List.mem_of_getElem? (i := 1196) (by decide +kernel)⟩
theorem lw_p52 : lw_okq (⟨"WageHats", "isImage", "(I)Z"⟩, 9) := ⟨⟨by decide +kernel, by decide +kernel⟩, List.mem_of_getElem? (i := 20) (by decide +kernel), List.mem_of_getElem? (i := 1210) (by decide +kernel), List.mem_of_getElem? (i := 1211) (by decide +kernel)⟩
theorem lw_p53 : lw_okq (⟨"WageHats", "twoOfTape", "(I)I"⟩, 9) := ⟨⟨by decide +kernel, by decide +kernel⟩, List.mem_of_getElem? (i := 20) (by decide +kernel), List.mem_of_getElem? (i := 1214) (by decide +kernel), List.mem_of_getElem? (i := 1215) (by decide +kernel)⟩
theorem lw_p54 : lw_okq (⟨"WageHatsModel", "begins", "()V"⟩, 94) := ⟨⟨by decide +kernel, by decide +kernel⟩, List.mem_of_getElem? (i := 1219) (by decide +kernel), List.mem_of_getElem? (i := 1522) (by decide +kernel), List.mem_of_getElem? (i := 1523) (by decide +kernel)⟩
theorem lw_p55 : lw_okq (⟨"WageHatsModel", "look", "()I"⟩, 94) := ⟨⟨by decide +kernel, by decide +kernel⟩, List.mem_of_getElem? (i := 1219) (by decide +kernel), List.mem_of_getElem? (i := 1526) (by decide +kernel), List.mem_of_getElem? (i := 1527) (by decide +kernel)⟩
theorem lw_p56 : lw_okq (⟨"WageHatsModel", "townTold", "()V"⟩, 94) := ⟨⟨by decide +kernel, by decide +kernel⟩, List.mem_of_getElem? (i := 1219) (by decide +kernel), List.mem_of_getElem? (i := 1530) (by decide +kernel), List.mem_of_getElem? (i := 1531) (by decide +kernel)⟩
theorem lw_p57 : lw_okq (⟨"WageHatsModel", "fail", "(II)V"⟩, 94) := ⟨⟨by decide +kernel, by decide +kernel⟩, List.mem_of_getElem? (i := 1219) (by decide +kernel), List.mem_of_getElem? (i := 1534) (by decide +kernel), List.mem_of_getElem? (i := 1535) (by decide +kernel)⟩
theorem lw_p58 : lw_okq (⟨"WageHatsModel", "takes", "([C)Z"⟩, 94) := ⟨⟨by decide +kernel, by decide +kernel⟩, List.mem_of_getElem? (i := 1219) (by decide +kernel), List.mem_of_getElem? (i := 1538) (by decide +kernel), List.mem_of_getElem? (i := 1539) (by decide +kernel)⟩
theorem lw_p59 : lw_okq (⟨"WageHatsModel", "isHere", "([C)Z"⟩, 94) := ⟨⟨by decide +kernel, by decide +kernel⟩, List.mem_of_getElem? (i := 1219) (by decide +kernel), List.mem_of_getElem? (i := 1542) (by decide +kernel), List.mem_of_getElem? (i := 1543) (by decide +kernel)⟩
theorem lw_p60 : lw_okq (⟨"WageHatsModel", "number", "(II)I"⟩, 94) := ⟨⟨by decide +kernel, by decide +kernel⟩, List.mem_of_getElem? (i := 1219) (by decide +kernel), List.mem_of_getElem? (i := 1549) (by decide +kernel), List.mem_of_getElem? (i := 1550) (by decide +kernel)⟩
theorem lw_p61 : lw_okq (⟨"WageHatsModel", "sortTold", "(I)V"⟩, 94) := ⟨⟨by decide +kernel, by decide +kernel⟩, List.mem_of_getElem? (i := 1219) (by decide +kernel), List.mem_of_getElem? (i := 1559) (by decide +kernel), List.mem_of_getElem? (i := 1560) (by decide +kernel)⟩
theorem lw_p62 : lw_okq (⟨"WageHatsModel", "isFull", "(III)Z"⟩, 94) := ⟨⟨by decide +kernel, by decide +kernel⟩, List.mem_of_getElem? (i := 1219) (by decide +kernel), List.mem_of_getElem? (i := 1563) (by decide +kernel), List.mem_of_getElem? (i := 1564) (by decide +kernel)⟩
theorem lw_p63 : lw_okq (⟨"WageHatsModel", "newName", "(I)I"⟩, 94) := ⟨⟨by decide +kernel, by decide +kernel⟩, List.mem_of_getElem? (i := 1219) (by decide +kernel), List.mem_of_getElem? (i := 1567) (by decide +kernel), List.mem_of_getElem? (i := 1568) (by decide +kernel)⟩
def lw_privs_4 : List (MethodName × Nat) := [(⟨"WageHats$Weeks", "halvePairs", "(LWageHats$People;)V"⟩, 10), (⟨"WageHats$Weeks", "payAll", "(LWageHats$Scene;)I"⟩, 10), (⟨"WageHats", "paint", "(I)V"⟩, 9), (⟨"WageHats", "paintTwo", "(I)V"⟩, 9), (⟨"WageHats", "isImage", "(I)Z"⟩, 9), (⟨"WageHats", "twoOfTape", "(I)I"⟩, 9), (⟨"WageHatsModel", "begins", "()V"⟩, 94), (⟨"WageHatsModel", "look", "()I"⟩, 94), (⟨"WageHatsModel", "townTold", "()V"⟩, 94), (⟨"WageHatsModel", "fail", "(II)V"⟩, 94), (⟨"WageHatsModel", "takes", "([C)Z"⟩, 94), (⟨"WageHatsModel", "isHere", "([C)Z"⟩, 94), (⟨"WageHatsModel", "number", "(II)I"⟩, 94), (⟨"WageHatsModel", "sortTold", "(I)V"⟩, 94), (⟨"WageHatsModel", "isFull", "(III)Z"⟩, 94), (⟨"WageHatsModel", "newName", "(I)I"⟩, 94)]
theorem lw_r4 : ∀ q ∈ lw_privs_4, lw_okq q := List.forall_mem_cons.mpr ⟨lw_p48, List.forall_mem_cons.mpr ⟨lw_p49, List.forall_mem_cons.mpr ⟨lw_p50, List.forall_mem_cons.mpr ⟨lw_p51, List.forall_mem_cons.mpr ⟨lw_p52, List.forall_mem_cons.mpr ⟨lw_p53, List.forall_mem_cons.mpr ⟨lw_p54, List.forall_mem_cons.mpr ⟨lw_p55, List.forall_mem_cons.mpr ⟨lw_p56, List.forall_mem_cons.mpr ⟨lw_p57, List.forall_mem_cons.mpr ⟨lw_p58, List.forall_mem_cons.mpr ⟨lw_p59, List.forall_mem_cons.mpr ⟨lw_p60, List.forall_mem_cons.mpr ⟨lw_p61, List.forall_mem_cons.mpr ⟨lw_p62, List.forall_mem_cons.mpr ⟨lw_p63, fun _ h => absurd h List.not_mem_nil⟩⟩⟩⟩⟩⟩⟩⟩⟩⟩⟩⟩⟩⟩⟩⟩
theorem lw_p64 : lw_okq (⟨"WageHatsModel", "name", "()J"⟩, 94) := ⟨⟨by decide +kernel, by decide +kernel⟩, List.mem_of_getElem? (i := 1219) (by decide +kernel), List.mem_of_getElem? (i := 1571) (by decide +kernel), List.mem_of_getElem? (i := 1572) (by decide +kernel)⟩
theorem lw_p65 : lw_okq (⟨"WageHatsModel", "isOwnHere", "()Z"⟩, 94) := ⟨⟨by decide +kernel, by decide +kernel⟩, List.mem_of_getElem? (i := 1219) (by decide +kernel), List.mem_of_getElem? (i := 1575) (by decide +kernel), List.mem_of_getElem? (i := 1576) (by decide +kernel)⟩
theorem lw_p66 : lw_okq (⟨"WageHatsModel", "nameOf", "(IJ)I"⟩, 94) := ⟨⟨by decide +kernel, by decide +kernel⟩, List.mem_of_getElem? (i := 1219) (by decide +kernel), List.mem_of_getElem? (i := 1581) (by decide +kernel), List.mem_of_getElem? (i := 1582) (by decide +kernel)⟩
theorem lw_p67 : lw_okq (⟨"WageHatsModel", "asks", "([C)V"⟩, 94) := ⟨⟨by decide +kernel, by decide +kernel⟩, List.mem_of_getElem? (i := 1219) (by decide +kernel), List.mem_of_getElem? (i := 1585) (by decide +kernel), List.mem_of_getElem? (i := 1586) (by decide +kernel)⟩
theorem lw_p68 : lw_okq (⟨"WageHatsModel", "hatTold", "(I)V"⟩, 94) := ⟨⟨by decide +kernel, by decide +kernel⟩, List.mem_of_getElem? (i := 1219) (by decide +kernel), List.mem_of_getElem? (i := 1589) (by decide +kernel), List.mem_of_getElem? (i := 1590) (by decide +kernel)⟩
theorem lw_p69 : lw_okq (⟨"WageHatsModel", "personTold", "(I)V"⟩, 94) := ⟨⟨by decide +kernel, by decide +kernel⟩, List.mem_of_getElem? (i := 1219) (by decide +kernel), List.mem_of_getElem? (i := 1593) (by decide +kernel), List.mem_of_getElem? (i := 1594) (by decide +kernel)⟩
theorem lw_p70 : lw_okq (⟨"WageHatsModel", "oneOf", "(I)I"⟩, 94) := ⟨⟨by decide +kernel, by decide +kernel⟩, List.mem_of_getElem? (i := 1219) (by decide +kernel), List.mem_of_getElem? (i := 1597) (by decide +kernel), List.mem_of_getElem? (i := 1598) (by decide +kernel)⟩
theorem lw_p71 : lw_okq (⟨"WageHatsModel", "inTold", "()V"⟩, 94) := ⟨⟨by decide +kernel, by decide +kernel⟩, List.mem_of_getElem? (i := 1219) (by decide +kernel), List.mem_of_getElem? (i := 1601) (by decide +kernel), List.mem_of_getElem? (i := 1602) (by decide +kernel)⟩
theorem lw_p72 : lw_okq (⟨"WageHatsModel", "pairTold", "()V"⟩, 94) := ⟨⟨by decide +kernel, by decide +kernel⟩, List.mem_of_getElem? (i := 1219) (by decide +kernel), List.mem_of_getElem? (i := 1605) (by decide +kernel), List.mem_of_getElem? (i := 1606) (by decide +kernel)⟩
theorem lw_p73 : lw_okq (⟨"WageHatsModel", "unpaired", "(I)I"⟩, 94) := ⟨⟨by decide +kernel, by decide +kernel⟩, List.mem_of_getElem? (i := 1219) (by decide +kernel), List.mem_of_getElem? (i := 1609) (by decide +kernel), List.mem_of_getElem? (i := 1610) (by decide +kernel)⟩
theorem lw_p74 : lw_okq (⟨"WageHatsModel", "worksTold", "(I)V"⟩, 94) := ⟨⟨by decide +kernel, by decide +kernel⟩, List.mem_of_getElem? (i := 1219) (by decide +kernel), List.mem_of_getElem? (i := 1613) (by decide +kernel), List.mem_of_getElem? (i := 1614) (by decide +kernel)⟩
theorem lw_p75 : lw_okq (⟨"WageHatsModel", "sums", "()V"⟩, 94) := ⟨⟨by decide +kernel, by decide +kernel⟩, List.mem_of_getElem? (i := 1219) (by decide +kernel), List.mem_of_getElem? (i := 1617) (by decide +kernel), List.mem_of_getElem? (i := 1618) (by decide +kernel)⟩
theorem lw_p76 : lw_okq (⟨"WageHatsModel", "onePart", "()V"⟩, 94) := ⟨⟨by decide +kernel, by decide +kernel⟩, List.mem_of_getElem? (i := 1219) (by decide +kernel), List.mem_of_getElem? (i := 1621) (by decide +kernel), List.mem_of_getElem? (i := 1622) (by decide +kernel)⟩
theorem lw_p77 : lw_okq (⟨"WageHatsModel", "opens", "(II)V"⟩, 94) := ⟨⟨by decide +kernel, by decide +kernel⟩, List.mem_of_getElem? (i := 1219) (by decide +kernel), List.mem_of_getElem? (i := 1625) (by decide +kernel), List.mem_of_getElem? (i := 1626) (by decide +kernel)⟩
theorem lw_p78 : lw_okq (⟨"WageHatsModel", "asksSign", "(I)V"⟩, 94) := ⟨⟨by decide +kernel, by decide +kernel⟩, List.mem_of_getElem? (i := 1219) (by decide +kernel), List.mem_of_getElem? (i := 1629) (by decide +kernel), List.mem_of_getElem? (i := 1630) (by decide +kernel)⟩
theorem lw_p79 : lw_okq (⟨"WageHatsModel", "takesSign", "(I)Z"⟩, 94) := ⟨⟨by decide +kernel, by decide +kernel⟩, List.mem_of_getElem? (i := 1219) (by decide +kernel), List.mem_of_getElem? (i := 1633) (by decide +kernel), List.mem_of_getElem? (i := 1634) (by decide +kernel)⟩
def lw_privs_5 : List (MethodName × Nat) := [(⟨"WageHatsModel", "name", "()J"⟩, 94), (⟨"WageHatsModel", "isOwnHere", "()Z"⟩, 94), (⟨"WageHatsModel", "nameOf", "(IJ)I"⟩, 94), (⟨"WageHatsModel", "asks", "([C)V"⟩, 94), (⟨"WageHatsModel", "hatTold", "(I)V"⟩, 94), (⟨"WageHatsModel", "personTold", "(I)V"⟩, 94), (⟨"WageHatsModel", "oneOf", "(I)I"⟩, 94), (⟨"WageHatsModel", "inTold", "()V"⟩, 94), (⟨"WageHatsModel", "pairTold", "()V"⟩, 94), (⟨"WageHatsModel", "unpaired", "(I)I"⟩, 94), (⟨"WageHatsModel", "worksTold", "(I)V"⟩, 94), (⟨"WageHatsModel", "sums", "()V"⟩, 94), (⟨"WageHatsModel", "onePart", "()V"⟩, 94), (⟨"WageHatsModel", "opens", "(II)V"⟩, 94), (⟨"WageHatsModel", "asksSign", "(I)V"⟩, 94), (⟨"WageHatsModel", "takesSign", "(I)Z"⟩, 94)]
theorem lw_r5 : ∀ q ∈ lw_privs_5, lw_okq q := List.forall_mem_cons.mpr ⟨lw_p64, List.forall_mem_cons.mpr ⟨lw_p65, List.forall_mem_cons.mpr ⟨lw_p66, List.forall_mem_cons.mpr ⟨lw_p67, List.forall_mem_cons.mpr ⟨lw_p68, List.forall_mem_cons.mpr ⟨lw_p69, List.forall_mem_cons.mpr ⟨lw_p70, List.forall_mem_cons.mpr ⟨lw_p71, List.forall_mem_cons.mpr ⟨lw_p72, List.forall_mem_cons.mpr ⟨lw_p73, List.forall_mem_cons.mpr ⟨lw_p74, List.forall_mem_cons.mpr ⟨lw_p75, List.forall_mem_cons.mpr ⟨lw_p76, List.forall_mem_cons.mpr ⟨lw_p77, List.forall_mem_cons.mpr ⟨lw_p78, List.forall_mem_cons.mpr ⟨lw_p79, fun _ h => absurd h List.not_mem_nil⟩⟩⟩⟩⟩⟩⟩⟩⟩⟩⟩⟩⟩⟩⟩⟩
theorem lw_p80 : lw_okq (⟨"WageHatsModel", "code", "(I)V"⟩, 94) := ⟨⟨by decide +kernel, by decide +kernel⟩, List.mem_of_getElem? (i := 1219) (by decide +kernel), List.mem_of_getElem? (i := 1637) (by decide +kernel), List.mem_of_getElem? (i := 1638) (by decide +kernel)⟩
theorem lw_p81 : lw_okq (⟨"WageHatsModel", "goesOn", "()Z"⟩, 94) := ⟨⟨by decide +kernel, by decide +kernel⟩, List.mem_of_getElem? (i := 1219) (by decide +kernel), List.mem_of_getElem? (i := 1641) (by decide +kernel), List.mem_of_getElem? (i := 1642) (by decide +kernel)⟩
theorem lw_p82 : lw_okq (⟨"WageHatsModel", "mark", "()I"⟩, 94) := ⟨⟨by decide +kernel, by decide +kernel⟩, List.mem_of_getElem? (i := 1219) (by decide +kernel), List.mem_of_getElem? (i := 1645) (by decide +kernel), List.mem_of_getElem? (i := 1646) (by decide +kernel)⟩
theorem lw_p83 : lw_okq (⟨"WageHatsModel", "isMark", "(I)Z"⟩, 94) := ⟨⟨by decide +kernel, by decide +kernel⟩, List.mem_of_getElem? (i := 1219) (by decide +kernel), List.mem_of_getElem? (i := 1649) (by decide +kernel), List.mem_of_getElem? (i := 1650) (by decide +kernel)⟩
theorem lw_p84 : lw_okq (⟨"WageHatsModel", "dropsToMark", "()V"⟩, 94) := ⟨⟨by decide +kernel, by decide +kernel⟩, List.mem_of_getElem? (i := 1219) (by decide +kernel), List.mem_of_getElem? (i := 1653) (by decide +kernel), List.mem_of_getElem? (i := 1654) (by decide +kernel)⟩
theorem lw_p85 : lw_okq (⟨"WageHatsModel", "drops", "()V"⟩, 94) := ⟨⟨by decide +kernel, by decide +kernel⟩, List.mem_of_getElem? (i := 1219) (by decide +kernel), List.mem_of_getElem? (i := 1657) (by decide +kernel), List.mem_of_getElem? (i := 1658) (by decide +kernel)⟩
theorem lw_p86 : lw_okq (⟨"WageHatsModel", "isOn", "(I)Z"⟩, 94) := ⟨⟨by decide +kernel, by decide +kernel⟩, List.mem_of_getElem? (i := 1219) (by decide +kernel), List.mem_of_getElem? (i := 1661) (by decide +kernel), List.mem_of_getElem? (i := 1662) (by decide +kernel)⟩
theorem lw_p87 : lw_okq (⟨"WageHatsModel", "test", "()V"⟩, 94) := ⟨⟨by decide +kernel, by decide +kernel⟩, List.mem_of_getElem? (i := 1219) (by decide +kernel), List.mem_of_getElem? (i := 1665) (by decide +kernel), List.mem_of_getElem? (i := 1666) (by decide +kernel)⟩
theorem lw_p88 : lw_okq (⟨"WageHatsModel", "fact", "()V"⟩, 94) := ⟨⟨by decide +kernel, by decide +kernel⟩, List.mem_of_getElem? (i := 1219) (by decide +kernel), List.mem_of_getElem? (i := 1669) (by decide +kernel), List.mem_of_getElem? (i := 1670) (by decide +kernel)⟩
theorem lw_p89 : lw_okq (⟨"WageHatsModel", "dropsNots", "()V"⟩, 94) := ⟨⟨by decide +kernel, by decide +kernel⟩, List.mem_of_getElem? (i := 1219) (by decide +kernel), List.mem_of_getElem? (i := 1673) (by decide +kernel), List.mem_of_getElem? (i := 1674) (by decide +kernel)⟩
theorem lw_p90 : lw_okq (⟨"WageHatsModel", "goesOnTest", "()Z"⟩, 94) := ⟨⟨by decide +kernel, by decide +kernel⟩, List.mem_of_getElem? (i := 1219) (by decide +kernel), List.mem_of_getElem? (i := 1677) (by decide +kernel), List.mem_of_getElem? (i := 1678) (by decide +kernel)⟩
theorem lw_p91 : lw_okq (⟨"WageHatsModel", "hasSquare", "()Z"⟩, 94) := ⟨⟨by decide +kernel, by decide +kernel⟩, List.mem_of_getElem? (i := 1219) (by decide +kernel), List.mem_of_getElem? (i := 1681) (by decide +kernel), List.mem_of_getElem? (i := 1682) (by decide +kernel)⟩
theorem lw_p92 : lw_okq (⟨"WageHatsModel", "stands", "()V"⟩, 94) := ⟨⟨by decide +kernel, by decide +kernel⟩, List.mem_of_getElem? (i := 1219) (by decide +kernel), List.mem_of_getElem? (i := 1685) (by decide +kernel), List.mem_of_getElem? (i := 1686) (by decide +kernel)⟩
theorem lw_p93 : lw_okq (⟨"WageHatsModel", "people", "()I"⟩, 94) := ⟨⟨by decide +kernel, by decide +kernel⟩, List.mem_of_getElem? (i := 1219) (by decide +kernel), List.mem_of_getElem? (i := 1697) (by decide +kernel), List.mem_of_getElem? (i := 1698) (by decide +kernel)⟩
theorem lw_p94 : lw_okq (⟨"WageHatsModel", "isPerson", "(I)Z"⟩, 94) := ⟨⟨by decide +kernel, by decide +kernel⟩, List.mem_of_getElem? (i := 1219) (by decide +kernel), List.mem_of_getElem? (i := 1711) (by decide +kernel), List.mem_of_getElem? (i := 1712) (by decide +kernel)⟩
theorem lw_p95 : lw_okq (⟨"WageHatsModel", "earned", "(I)I"⟩, 94) := ⟨⟨by decide +kernel, by decide +kernel⟩, List.mem_of_getElem? (i := 1219) (by decide +kernel), List.mem_of_getElem? (i := 1715) (by decide +kernel), List.mem_of_getElem? (i := 1716) (by decide +kernel)⟩
def lw_privs_6 : List (MethodName × Nat) := [(⟨"WageHatsModel", "code", "(I)V"⟩, 94), (⟨"WageHatsModel", "goesOn", "()Z"⟩, 94), (⟨"WageHatsModel", "mark", "()I"⟩, 94), (⟨"WageHatsModel", "isMark", "(I)Z"⟩, 94), (⟨"WageHatsModel", "dropsToMark", "()V"⟩, 94), (⟨"WageHatsModel", "drops", "()V"⟩, 94), (⟨"WageHatsModel", "isOn", "(I)Z"⟩, 94), (⟨"WageHatsModel", "test", "()V"⟩, 94), (⟨"WageHatsModel", "fact", "()V"⟩, 94), (⟨"WageHatsModel", "dropsNots", "()V"⟩, 94), (⟨"WageHatsModel", "goesOnTest", "()Z"⟩, 94), (⟨"WageHatsModel", "hasSquare", "()Z"⟩, 94), (⟨"WageHatsModel", "stands", "()V"⟩, 94), (⟨"WageHatsModel", "people", "()I"⟩, 94), (⟨"WageHatsModel", "isPerson", "(I)Z"⟩, 94), (⟨"WageHatsModel", "earned", "(I)I"⟩, 94)]
theorem lw_r6 : ∀ q ∈ lw_privs_6, lw_okq q := List.forall_mem_cons.mpr ⟨lw_p80, List.forall_mem_cons.mpr ⟨lw_p81, List.forall_mem_cons.mpr ⟨lw_p82, List.forall_mem_cons.mpr ⟨lw_p83, List.forall_mem_cons.mpr ⟨lw_p84, List.forall_mem_cons.mpr ⟨lw_p85, List.forall_mem_cons.mpr ⟨lw_p86, List.forall_mem_cons.mpr ⟨lw_p87, List.forall_mem_cons.mpr ⟨lw_p88, List.forall_mem_cons.mpr ⟨lw_p89, List.forall_mem_cons.mpr ⟨lw_p90, List.forall_mem_cons.mpr ⟨lw_p91, List.forall_mem_cons.mpr ⟨lw_p92, List.forall_mem_cons.mpr ⟨lw_p93, List.forall_mem_cons.mpr ⟨lw_p94, List.forall_mem_cons.mpr ⟨lw_p95, fun _ h => absurd h List.not_mem_nil⟩⟩⟩⟩⟩⟩⟩⟩⟩⟩⟩⟩⟩⟩⟩⟩
theorem lw_p96 : lw_okq (⟨"WageHatsModel", "sort", "(II)I"⟩, 94) := ⟨⟨by decide +kernel, by decide +kernel⟩, List.mem_of_getElem? (i := 1219) (by decide +kernel), List.mem_of_getElem? (i := 1719) (by decide +kernel), List.mem_of_getElem? (i := 1720) (by decide +kernel)⟩
theorem lw_p97 : lw_okq (⟨"WageHatsModel", "slip", "(I)I"⟩, 94) := ⟨⟨by decide +kernel, by decide +kernel⟩, List.mem_of_getElem? (i := 1219) (by decide +kernel), List.mem_of_getElem? (i := 1723) (by decide +kernel), List.mem_of_getElem? (i := 1724) (by decide +kernel)⟩
theorem lw_p98 : lw_okq (⟨"WageHatsModel", "hatIs", "(II)I"⟩, 94) := ⟨⟨by decide +kernel, by decide +kernel⟩, List.mem_of_getElem? (i := 1219) (by decide +kernel), List.mem_of_getElem? (i := 1727) (by decide +kernel), List.mem_of_getElem? (i := 1728) (by decide +kernel)⟩
theorem lw_p99 : lw_okq (⟨"WageHatsModel", "keptOf", "(I)I"⟩, 94) := ⟨⟨by decide +kernel, by decide +kernel⟩, List.mem_of_getElem? (i := 1219) (by decide +kernel), List.mem_of_getElem? (i := 1731) (by decide +kernel), List.mem_of_getElem? (i := 1732) (by decide +kernel)⟩
theorem lw_p100 : lw_okq (⟨"WageHatsModel", "bestHours", "(I)I"⟩, 94) := ⟨⟨by decide +kernel, by decide +kernel⟩, List.mem_of_getElem? (i := 1219) (by decide +kernel), List.mem_of_getElem? (i := 1735) (by decide +kernel), List.mem_of_getElem? (i := 1736) (by decide +kernel)⟩
theorem lw_p101 : lw_okq (⟨"WageHatsModel", "worthWith", "(II)I"⟩, 94) := ⟨⟨by decide +kernel, by decide +kernel⟩, List.mem_of_getElem? (i := 1219) (by decide +kernel), List.mem_of_getElem? (i := 1739) (by decide +kernel), List.mem_of_getElem? (i := 1740) (by decide +kernel)⟩
theorem lw_p102 : lw_okq (⟨"WageHatsModel", "worthNow", "(I)I"⟩, 94) := ⟨⟨by decide +kernel, by decide +kernel⟩, List.mem_of_getElem? (i := 1219) (by decide +kernel), List.mem_of_getElem? (i := 1743) (by decide +kernel), List.mem_of_getElem? (i := 1744) (by decide +kernel)⟩
theorem lw_p103 : lw_okq (⟨"WageHatsModel", "mostOther", "(I)I"⟩, 94) := ⟨⟨by decide +kernel, by decide +kernel⟩, List.mem_of_getElem? (i := 1219) (by decide +kernel), List.mem_of_getElem? (i := 1747) (by decide +kernel), List.mem_of_getElem? (i := 1748) (by decide +kernel)⟩
theorem lw_p104 : lw_okq (⟨"WageHatsModel", "comes", "(I)I"⟩, 94) := ⟨⟨by decide +kernel, by decide +kernel⟩, List.mem_of_getElem? (i := 1219) (by decide +kernel), List.mem_of_getElem? (i := 1751) (by decide +kernel), List.mem_of_getElem? (i := 1752) (by decide +kernel)⟩
theorem lw_p105 : lw_okq (⟨"WageHatsModel", "meanOf", "(I)I"⟩, 94) := ⟨⟨by decide +kernel, by decide +kernel⟩, List.mem_of_getElem? (i := 1219) (by decide +kernel), List.mem_of_getElem? (i := 1755) (by decide +kernel), List.mem_of_getElem? (i := 1756) (by decide +kernel)⟩
theorem lw_p106 : lw_okq (⟨"WageHatsModel", "inHat", "(I)I"⟩, 94) := ⟨⟨by decide +kernel, by decide +kernel⟩, List.mem_of_getElem? (i := 1219) (by decide +kernel), List.mem_of_getElem? (i := 1759) (by decide +kernel), List.mem_of_getElem? (i := 1760) (by decide +kernel)⟩
theorem lw_p107 : lw_okq (⟨"WageHatsModel", "sumOf", "(I)I"⟩, 94) := ⟨⟨by decide +kernel, by decide +kernel⟩, List.mem_of_getElem? (i := 1219) (by decide +kernel), List.mem_of_getElem? (i := 1763) (by decide +kernel), List.mem_of_getElem? (i := 1764) (by decide +kernel)⟩
theorem lw_p108 : lw_okq (⟨"WageHatsModel", "spreadOf", "(I)I"⟩, 94) := ⟨⟨by decide +kernel, by decide +kernel⟩, List.mem_of_getElem? (i := 1219) (by decide +kernel), List.mem_of_getElem? (i := 1767) (by decide +kernel), List.mem_of_getElem? (i := 1768) (by decide +kernel)⟩
theorem lw_p109 : lw_okq (⟨"WageHatsModel", "needsOf", "(I)I"⟩, 94) := ⟨⟨by decide +kernel, by decide +kernel⟩, List.mem_of_getElem? (i := 1219) (by decide +kernel), List.mem_of_getElem? (i := 1772) (by decide +kernel), List.mem_of_getElem? (i := 1773) (by decide +kernel)⟩
theorem lw_p110 : lw_okq (⟨"WageHatsModel", "isHat", "(I)Z"⟩, 94) := ⟨⟨by decide +kernel, by decide +kernel⟩, List.mem_of_getElem? (i := 1219) (by decide +kernel), List.mem_of_getElem? (i := 1783) (by decide +kernel), List.mem_of_getElem? (i := 1784) (by decide +kernel)⟩
theorem lw_p111 : lw_okq (⟨"WageHatsModel", "hatMany", "()I"⟩, 94) := ⟨⟨by decide +kernel, by decide +kernel⟩, List.mem_of_getElem? (i := 1219) (by decide +kernel), List.mem_of_getElem? (i := 1787) (by decide +kernel), List.mem_of_getElem? (i := 1788) (by decide +kernel)⟩
def lw_privs_7 : List (MethodName × Nat) := [(⟨"WageHatsModel", "sort", "(II)I"⟩, 94), (⟨"WageHatsModel", "slip", "(I)I"⟩, 94), (⟨"WageHatsModel", "hatIs", "(II)I"⟩, 94), (⟨"WageHatsModel", "keptOf", "(I)I"⟩, 94), (⟨"WageHatsModel", "bestHours", "(I)I"⟩, 94), (⟨"WageHatsModel", "worthWith", "(II)I"⟩, 94), (⟨"WageHatsModel", "worthNow", "(I)I"⟩, 94), (⟨"WageHatsModel", "mostOther", "(I)I"⟩, 94), (⟨"WageHatsModel", "comes", "(I)I"⟩, 94), (⟨"WageHatsModel", "meanOf", "(I)I"⟩, 94), (⟨"WageHatsModel", "inHat", "(I)I"⟩, 94), (⟨"WageHatsModel", "sumOf", "(I)I"⟩, 94), (⟨"WageHatsModel", "spreadOf", "(I)I"⟩, 94), (⟨"WageHatsModel", "needsOf", "(I)I"⟩, 94), (⟨"WageHatsModel", "isHat", "(I)Z"⟩, 94), (⟨"WageHatsModel", "hatMany", "()I"⟩, 94)]
theorem lw_r7 : ∀ q ∈ lw_privs_7, lw_okq q := List.forall_mem_cons.mpr ⟨lw_p96, List.forall_mem_cons.mpr ⟨lw_p97, List.forall_mem_cons.mpr ⟨lw_p98, List.forall_mem_cons.mpr ⟨lw_p99, List.forall_mem_cons.mpr ⟨lw_p100, List.forall_mem_cons.mpr ⟨lw_p101, List.forall_mem_cons.mpr ⟨lw_p102, List.forall_mem_cons.mpr ⟨lw_p103, List.forall_mem_cons.mpr ⟨lw_p104, List.forall_mem_cons.mpr ⟨lw_p105, List.forall_mem_cons.mpr ⟨lw_p106, List.forall_mem_cons.mpr ⟨lw_p107, List.forall_mem_cons.mpr ⟨lw_p108, List.forall_mem_cons.mpr ⟨lw_p109, List.forall_mem_cons.mpr ⟨lw_p110, List.forall_mem_cons.mpr ⟨lw_p111, fun _ h => absurd h List.not_mem_nil⟩⟩⟩⟩⟩⟩⟩⟩⟩⟩⟩⟩⟩⟩⟩⟩
theorem lw_p112 : lw_okq (⟨"WageHatsModel", "allWorths", "()I"⟩, 94) := ⟨⟨by decide +kernel, by decide +kernel⟩, List.mem_of_getElem? (i := 1219) (by decide +kernel), List.mem_of_getElem? (i := 1812) (by decide +kernel), List.mem_of_getElem? (i := 1813) (by decide +kernel)⟩
theorem lw_p113 : lw_okq (⟨"WageHatsModel", "rounds", "(I)I"⟩, 94) := ⟨⟨by decide +kernel, by decide +kernel⟩, List.mem_of_getElem? (i := 1219) (by decide +kernel), List.mem_of_getElem? (i := 1821) (by decide +kernel), List.mem_of_getElem? (i := 1822) (by decide +kernel)⟩
theorem lw_p114 : lw_okq (⟨"WageHatsModel", "isRound", "()Z"⟩, 94) := ⟨⟨by decide +kernel, by decide +kernel⟩, List.mem_of_getElem? (i := 1219) (by decide +kernel), List.mem_of_getElem? (i := 1825) (by decide +kernel), List.mem_of_getElem? (i := 1826) (by decide +kernel)⟩
theorem lw_p115 : lw_okq (⟨"WageHatsModel", "putsAside", "()V"⟩, 94) := ⟨⟨by decide +kernel, by decide +kernel⟩, List.mem_of_getElem? (i := 1219) (by decide +kernel), List.mem_of_getElem? (i := 1837) (by decide +kernel), List.mem_of_getElem? (i := 1838) (by decide +kernel)⟩
theorem lw_p116 : lw_okq (⟨"WageHatsModel", "takesBack", "()V"⟩, 94) := ⟨⟨by decide +kernel, by decide +kernel⟩, List.mem_of_getElem? (i := 1219) (by decide +kernel), List.mem_of_getElem? (i := 1841) (by decide +kernel), List.mem_of_getElem? (i := 1842) (by decide +kernel)⟩
theorem lw_p117 : lw_okq (⟨"WageHatsModel", "isSort", "(I)Z"⟩, 94) := ⟨⟨by decide +kernel, by decide +kernel⟩, List.mem_of_getElem? (i := 1219) (by decide +kernel), List.mem_of_getElem? (i := 1853) (by decide +kernel), List.mem_of_getElem? (i := 1854) (by decide +kernel)⟩
theorem lw_p118 : lw_okq (⟨"WageHatsModel", "crowds", "(III)V"⟩, 94) := ⟨⟨by decide +kernel, by decide +kernel⟩, List.mem_of_getElem? (i := 1219) (by decide +kernel), List.mem_of_getElem? (i := 1858) (by decide +kernel), List.mem_of_getElem? (i := 1859) (by decide +kernel)⟩
theorem lw_p119 : lw_okq (⟨"WageHatsModel", "worthIn", "(II)I"⟩, 94) := ⟨⟨by decide +kernel, by decide +kernel⟩, List.mem_of_getElem? (i := 1219) (by decide +kernel), List.mem_of_getElem? (i := 1888) (by decide +kernel), List.mem_of_getElem? (i := 1889) (by decide +kernel)⟩
theorem lw_p120 : lw_okq (⟨"WageHatsModel", "wishOf", "(I)I"⟩, 94) := ⟨⟨by decide +kernel, by decide +kernel⟩, List.mem_of_getElem? (i := 1219) (by decide +kernel), List.mem_of_getElem? (i := 1896) (by decide +kernel), List.mem_of_getElem? (i := 1897) (by decide +kernel)⟩
theorem lw_p121 : lw_okq (⟨"WageHatsModel", "moreAlone", "(I)I"⟩, 94) := ⟨⟨by decide +kernel, by decide +kernel⟩, List.mem_of_getElem? (i := 1219) (by decide +kernel), List.mem_of_getElem? (i := 1916) (by decide +kernel), List.mem_of_getElem? (i := 1917) (by decide +kernel)⟩
theorem lw_p122 : lw_okq (⟨"WageHatsModel", "week", "()I"⟩, 94) := ⟨⟨by decide +kernel, by decide +kernel⟩, List.mem_of_getElem? (i := 1219) (by decide +kernel), List.mem_of_getElem? (i := 1928) (by decide +kernel), List.mem_of_getElem? (i := 1929) (by decide +kernel)⟩
theorem lw_p123 : lw_okq (⟨"WageHatsModel", "drawsAll", "(I)V"⟩, 94) := ⟨⟨by decide +kernel, by decide +kernel⟩, List.mem_of_getElem? (i := 1219) (by decide +kernel), List.mem_of_getElem? (i := 1932) (by decide +kernel), List.mem_of_getElem? (i := 1933) (by decide +kernel)⟩
theorem lw_p124 : lw_okq (⟨"WageHatsModel", "drawsFrom", "(I)V"⟩, 94) := ⟨⟨by decide +kernel, by decide +kernel⟩, List.mem_of_getElem? (i := 1219) (by decide +kernel), List.mem_of_getElem? (i := 1936) (by decide +kernel), List.mem_of_getElem? (i := 1937) (by decide +kernel)⟩
theorem lw_p125 : lw_okq (⟨"WageHatsModel", "draw", "(I)I"⟩, 94) := ⟨⟨by decide +kernel, by decide +kernel⟩, List.mem_of_getElem? (i := 1219) (by decide +kernel), List.mem_of_getElem? (i := 1940) (by decide +kernel), List.mem_of_getElem? (i := 1941) (by decide +kernel)⟩
theorem lw_p126 : lw_okq (⟨"WageHatsModel", "ruledHours", "(I)I"⟩, 94) := ⟨⟨by decide +kernel, by decide +kernel⟩, List.mem_of_getElem? (i := 1219) (by decide +kernel), List.mem_of_getElem? (i := 1948) (by decide +kernel), List.mem_of_getElem? (i := 1949) (by decide +kernel)⟩
theorem lw_p127 : lw_okq (⟨"WageHatsModel", "told", "(II)J"⟩, 94) := ⟨⟨by decide +kernel, by decide +kernel⟩, List.mem_of_getElem? (i := 1219) (by decide +kernel), List.mem_of_getElem? (i := 1952) (by decide +kernel), List.mem_of_getElem? (i := 1953) (by decide +kernel)⟩
def lw_privs_8 : List (MethodName × Nat) := [(⟨"WageHatsModel", "allWorths", "()I"⟩, 94), (⟨"WageHatsModel", "rounds", "(I)I"⟩, 94), (⟨"WageHatsModel", "isRound", "()Z"⟩, 94), (⟨"WageHatsModel", "putsAside", "()V"⟩, 94), (⟨"WageHatsModel", "takesBack", "()V"⟩, 94), (⟨"WageHatsModel", "isSort", "(I)Z"⟩, 94), (⟨"WageHatsModel", "crowds", "(III)V"⟩, 94), (⟨"WageHatsModel", "worthIn", "(II)I"⟩, 94), (⟨"WageHatsModel", "wishOf", "(I)I"⟩, 94), (⟨"WageHatsModel", "moreAlone", "(I)I"⟩, 94), (⟨"WageHatsModel", "week", "()I"⟩, 94), (⟨"WageHatsModel", "drawsAll", "(I)V"⟩, 94), (⟨"WageHatsModel", "drawsFrom", "(I)V"⟩, 94), (⟨"WageHatsModel", "draw", "(I)I"⟩, 94), (⟨"WageHatsModel", "ruledHours", "(I)I"⟩, 94), (⟨"WageHatsModel", "told", "(II)J"⟩, 94)]
theorem lw_r8 : ∀ q ∈ lw_privs_8, lw_okq q := List.forall_mem_cons.mpr ⟨lw_p112, List.forall_mem_cons.mpr ⟨lw_p113, List.forall_mem_cons.mpr ⟨lw_p114, List.forall_mem_cons.mpr ⟨lw_p115, List.forall_mem_cons.mpr ⟨lw_p116, List.forall_mem_cons.mpr ⟨lw_p117, List.forall_mem_cons.mpr ⟨lw_p118, List.forall_mem_cons.mpr ⟨lw_p119, List.forall_mem_cons.mpr ⟨lw_p120, List.forall_mem_cons.mpr ⟨lw_p121, List.forall_mem_cons.mpr ⟨lw_p122, List.forall_mem_cons.mpr ⟨lw_p123, List.forall_mem_cons.mpr ⟨lw_p124, List.forall_mem_cons.mpr ⟨lw_p125, List.forall_mem_cons.mpr ⟨lw_p126, List.forall_mem_cons.mpr ⟨lw_p127, fun _ h => absurd h List.not_mem_nil⟩⟩⟩⟩⟩⟩⟩⟩⟩⟩⟩⟩⟩⟩⟩⟩
theorem lw_p128 : lw_okq (⟨"WageHatsModel", "puts", "(J)V"⟩, 94) := ⟨⟨by decide +kernel, by decide +kernel⟩, List.mem_of_getElem? (i := 1219) (by decide +kernel), List.mem_of_getElem? (i := 1956) (by decide +kernel), List.mem_of_getElem? (i := 1957) (by decide +kernel)⟩
theorem lw_p129 : lw_okq (⟨"WageHatsModel", "asked", "(I)I"⟩, 94) := ⟨⟨by decide +kernel, by decide +kernel⟩, List.mem_of_getElem? (i := 1219) (by decide +kernel), List.mem_of_getElem? (i := 1964) (by decide +kernel), List.mem_of_getElem? (i := 1965) (by decide +kernel)⟩
theorem lw_p130 : lw_okq (⟨"WageHatsModel", "joins", "(I)V"⟩, 94) := ⟨⟨by decide +kernel, by decide +kernel⟩, List.mem_of_getElem? (i := 1219) (by decide +kernel), List.mem_of_getElem? (i := 1968) (by decide +kernel), List.mem_of_getElem? (i := 1969) (by decide +kernel)⟩
theorem lw_p131 : lw_okq (⟨"WageHatsModel", "drawnBy", "(I)I"⟩, 94) := ⟨⟨by decide +kernel, by decide +kernel⟩, List.mem_of_getElem? (i := 1219) (by decide +kernel), List.mem_of_getElem? (i := 1980) (by decide +kernel), List.mem_of_getElem? (i := 1981) (by decide +kernel)⟩
theorem lw_p132 : lw_okq (⟨"WageHatsModel", "writes", "(I)V"⟩, 94) := ⟨⟨by decide +kernel, by decide +kernel⟩, List.mem_of_getElem? (i := 1219) (by decide +kernel), List.mem_of_getElem? (i := 2005) (by decide +kernel), List.mem_of_getElem? (i := 2006) (by decide +kernel)⟩
theorem lw_p133 : lw_okq (⟨"WageHatsModel", "writesTwo", "(I)V"⟩, 94) := ⟨⟨by decide +kernel, by decide +kernel⟩, List.mem_of_getElem? (i := 1219) (by decide +kernel), List.mem_of_getElem? (i := 2009) (by decide +kernel), List.mem_of_getElem? (i := 2010) (by decide +kernel)⟩
theorem lw_p134 : lw_okq (⟨"WageHatsModel", "isTold", "(I)Z"⟩, 94) := ⟨⟨by decide +kernel, by decide +kernel⟩, List.mem_of_getElem? (i := 1219) (by decide +kernel), List.mem_of_getElem? (i := 2024) (by decide +kernel), List.mem_of_getElem? (i := 2025) (by decide +kernel)⟩
theorem lw_p135 : lw_okq (⟨"WageHatsModel", "twoAt", "(I)I"⟩, 94) := ⟨⟨by decide +kernel, by decide +kernel⟩, List.mem_of_getElem? (i := 1219) (by decide +kernel), List.mem_of_getElem? (i := 2028) (by decide +kernel), List.mem_of_getElem? (i := 2029) (by decide +kernel)⟩
def lw_privs_9 : List (MethodName × Nat) := [(⟨"WageHatsModel", "puts", "(J)V"⟩, 94), (⟨"WageHatsModel", "asked", "(I)I"⟩, 94), (⟨"WageHatsModel", "joins", "(I)V"⟩, 94), (⟨"WageHatsModel", "drawnBy", "(I)I"⟩, 94), (⟨"WageHatsModel", "writes", "(I)V"⟩, 94), (⟨"WageHatsModel", "writesTwo", "(I)V"⟩, 94), (⟨"WageHatsModel", "isTold", "(I)Z"⟩, 94), (⟨"WageHatsModel", "twoAt", "(I)I"⟩, 94)]
theorem lw_r9 : ∀ q ∈ lw_privs_9, lw_okq q := List.forall_mem_cons.mpr ⟨lw_p128, List.forall_mem_cons.mpr ⟨lw_p129, List.forall_mem_cons.mpr ⟨lw_p130, List.forall_mem_cons.mpr ⟨lw_p131, List.forall_mem_cons.mpr ⟨lw_p132, List.forall_mem_cons.mpr ⟨lw_p133, List.forall_mem_cons.mpr ⟨lw_p134, List.forall_mem_cons.mpr ⟨lw_p135, fun _ h => absurd h List.not_mem_nil⟩⟩⟩⟩⟩⟩⟩⟩
def lw_privs : List (MethodName × Nat) := lw_privs_1 ++ (lw_privs_2 ++ (lw_privs_3 ++ (lw_privs_4 ++ (lw_privs_5 ++ (lw_privs_6 ++ (lw_privs_7 ++ (lw_privs_8 ++ (lw_privs_9))))))))
def lw_tbl : List Cond := k2_sels lw_privs ++ tables_1
theorem lw_privs_ok : ∀ q ∈ lw_privs, lw_okq q := by
  show ∀ q ∈ lw_privs_1 ++ (lw_privs_2 ++ (lw_privs_3 ++ (lw_privs_4 ++ (lw_privs_5 ++ (lw_privs_6 ++ (lw_privs_7 ++ (lw_privs_8 ++ (lw_privs_9)))))))), lw_okq q
  exact List.forall_mem_append.mpr ⟨lw_r1, List.forall_mem_append.mpr ⟨lw_r2, List.forall_mem_append.mpr ⟨lw_r3, List.forall_mem_append.mpr ⟨lw_r4, List.forall_mem_append.mpr ⟨lw_r5, List.forall_mem_append.mpr ⟨lw_r6, List.forall_mem_append.mpr ⟨lw_r7, List.forall_mem_append.mpr ⟨lw_r8, lw_r9⟩⟩⟩⟩⟩⟩⟩⟩
-- ===== end of PART A; then your names; then what follows =====
def RX0 : String := "WageHats$Company"
def TX0 : u_T := fun k => match k with
  | 0 => ("WageHats$Company", "slips", "[I", true)
  | 1 => ("WageHats$Company", "alone", "Z", false)
  | 2 => ("WageHats$Company", "mateThere", "Z", false)
  | 3 => ("WageHats$Company", "others", "I", false)
  | 4 => ("WageHats$Company", "sum", "I", false)
  | 5 => ("WageHats$Company", "needs", "I", false)
  | 6 => ("WageHats$Company", "top", "I", false)
  | 7 => ("WageHats$Company", "keeps", "I", false)
  | 8 => ("WageHats$Company", "least", "I", false)
  | 9 => ("WageHats$Company", "looks", "I", false)
  | 10 => ("WageHats$Company", "kind", "I", false)
  | 11 => ("WageHats$Company", "brings", "I", false)
  | 12 => ("WageHats$Company", "tires", "I", false)
  | 13 => ("WageHats$Company", "mind", "I", false)
  | 14 => ("WageHats$Company", "pride", "I", false)
  | _ => ("WageHats$Company", "need", "I", false)
def tyX0 : Nat → FieldType := fun k => match k with
  | 0 => .array .int
  | 1 => .boolean
  | 2 => .boolean
  | 3 => .int
  | 4 => .int
  | 5 => .int
  | 6 => .int
  | 7 => .int
  | 8 => .int
  | 9 => .int
  | 10 => .int
  | 11 => .int
  | 12 => .int
  | 13 => .int
  | 14 => .int
  | _ => .int
abbrev wsX00 : List Cond := u_ws RX0 TX0 16
theorem nmX0 : ∀ a, a < 16 → ∀ b, b < 16 → a ≠ b → (TX0 a).2.1 ≠ (TX0 b).2.1 := by decide +kernel
theorem tyX0_ok : ∀ k, k < 16 → parseFieldDescriptor (TX0 k).2.2.1 = some (tyX0 k) := by decide +kernel
abbrev cX0_init : ByteArray := prog_2_method_1_code
def yX0_init : MethodName := ⟨RX0, "<init>", "()V"⟩
abbrev cX0_gather : ByteArray := prog_2_method_2_code
def yX0_gather : MethodName := ⟨RX0, "gather", "(LWageHats$Scene;II)V"⟩
abbrev cX0_gatherOwn : ByteArray := prog_2_method_3_code
def yX0_gatherOwn : MethodName := ⟨RX0, "gatherOwn", "(LWageHats$Sorts;I)V"⟩
abbrev cX0_gatherHat : ByteArray := prog_2_method_4_code
def yX0_gatherHat : MethodName := ⟨RX0, "gatherHat", "(LWageHats$Hats;I)V"⟩
abbrev cX0_worthWith : ByteArray := prog_2_method_5_code
def yX0_worthWith : MethodName := ⟨RX0, "worthWith", "(I)I"⟩
def RX1 : String := "WageHats$Hats"
def TX1 : u_T := fun k => match k with
  | 0 => ("WageHats$Hats", "name", "[I", true)
  | 1 => ("WageHats$Hats", "keeps", "[I", true)
  | 2 => ("WageHats$Hats", "least", "[I", true)
  | 3 => ("WageHats$Hats", "looks", "[I", true)
  | 4 => ("WageHats$Hats", "kind", "[I", true)
  | _ => ("WageHats$Hats", "count", "I", false)
def tyX1 : Nat → FieldType := fun k => match k with
  | 0 => .array .int
  | 1 => .array .int
  | 2 => .array .int
  | 3 => .array .int
  | 4 => .array .int
  | _ => .int
abbrev wsX10 : List Cond := u_ws RX1 TX1 6
theorem nmX1 : ∀ a, a < 6 → ∀ b, b < 6 → a ≠ b → (TX1 a).2.1 ≠ (TX1 b).2.1 := by decide +kernel
theorem tyX1_ok : ∀ k, k < 6 → parseFieldDescriptor (TX1 k).2.2.1 = some (tyX1 k) := by decide +kernel
abbrev cX1_init : ByteArray := prog_3_method_1_code
def yX1_init : MethodName := ⟨RX1, "<init>", "()V"⟩
abbrev cX1_copyOf : ByteArray := prog_3_method_2_code
def yX1_copyOf : MethodName := ⟨RX1, "copyOf", "(LWageHats$Hats;)V"⟩
def RX2 : String := "WageHats$People"
def TX2 : u_T := fun k => match k with
  | 0 => ("WageHats$People", "name", "[I", true)
  | 1 => ("WageHats$People", "sort", "[I", true)
  | 2 => ("WageHats$People", "hat", "[I", true)
  | 3 => ("WageHats$People", "hours", "[I", true)
  | 4 => ("WageHats$People", "noted", "[I", true)
  | 5 => ("WageHats$People", "mate", "[I", true)
  | 6 => ("WageHats$People", "pairFirst", "[I", true)
  | 7 => ("WageHats$People", "pairSecond", "[I", true)
  | 8 => ("WageHats$People", "count", "I", false)
  | _ => ("WageHats$People", "pairs", "I", false)
def tyX2 : Nat → FieldType := fun k => match k with
  | 0 => .array .int
  | 1 => .array .int
  | 2 => .array .int
  | 3 => .array .int
  | 4 => .array .int
  | 5 => .array .int
  | 6 => .array .int
  | 7 => .array .int
  | 8 => .int
  | _ => .int
abbrev wsX20 : List Cond := u_ws RX2 TX2 10
theorem nmX2 : ∀ a, a < 10 → ∀ b, b < 10 → a ≠ b → (TX2 a).2.1 ≠ (TX2 b).2.1 := by decide +kernel
theorem tyX2_ok : ∀ k, k < 10 → parseFieldDescriptor (TX2 k).2.2.1 = some (tyX2 k) := by decide +kernel
abbrev cX2_init : ByteArray := prog_4_method_1_code
def yX2_init : MethodName := ⟨RX2, "<init>", "(I)V"⟩
abbrev cX2_copyOf : ByteArray := prog_4_method_2_code
def yX2_copyOf : MethodName := ⟨RX2, "copyOf", "(LWageHats$People;)V"⟩
abbrev cX2_becomeAlike : ByteArray := prog_4_method_3_code
def yX2_becomeAlike : MethodName := ⟨RX2, "becomeAlike", "(III)V"⟩
abbrev cX2_countIn : ByteArray := prog_4_method_4_code
def yX2_countIn : MethodName := ⟨RX2, "countIn", "(I)I"⟩
abbrev cX2_mostOfOthers : ByteArray := prog_4_method_5_code
def yX2_mostOfOthers : MethodName := ⟨RX2, "mostOfOthers", "(II)I"⟩
abbrev cX2_workAll : ByteArray := prog_4_method_6_code
def yX2_workAll : MethodName := ⟨RX2, "workAll", "(I)V"⟩
abbrev cX2_noteHours : ByteArray := prog_4_method_7_code
def yX2_noteHours : MethodName := ⟨RX2, "noteHours", "()V"⟩
abbrev cX2_workAsNoted : ByteArray := prog_4_method_8_code
def yX2_workAsNoted : MethodName := ⟨RX2, "workAsNoted", "()Z"⟩
def RX3 : String := "WageHats$Reader"
def TX3 : u_T := fun k => match k with
  | 0 => ("WageHats$Reader", "tokens", "LWageHats$Tokens;", true)
  | 1 => ("WageHats$Reader", "scene", "LWageHats$Scene;", false)
  | 2 => ("WageHats$Reader", "sorts", "LWageHats$Sorts;", false)
  | 3 => ("WageHats$Reader", "hats", "LWageHats$Hats;", false)
  | 4 => ("WageHats$Reader", "people", "LWageHats$People;", false)
  | 5 => ("WageHats$Reader", "rules", "LWageHats$Rules;", false)
  | 6 => ("WageHats$Reader", "next", "I", false)
  | 7 => ("WageHats$Reader", "statements", "I", false)
  | 8 => ("WageHats$Reader", "faultKind", "I", false)
  | _ => ("WageHats$Reader", "faultPlace", "I", false)
def tyX3 : Nat → FieldType := fun k => match k with
  | 0 => .object "WageHats$Tokens"
  | 1 => .object "WageHats$Scene"
  | 2 => .object "WageHats$Sorts"
  | 3 => .object "WageHats$Hats"
  | 4 => .object "WageHats$People"
  | 5 => .object "WageHats$Rules"
  | 6 => .int
  | 7 => .int
  | 8 => .int
  | _ => .int
abbrev wsX30 : List Cond := u_ws RX3 TX3 10
theorem nmX3 : ∀ a, a < 10 → ∀ b, b < 10 → a ≠ b → (TX3 a).2.1 ≠ (TX3 b).2.1 := by decide +kernel
theorem tyX3_ok : ∀ k, k < 10 → parseFieldDescriptor (TX3 k).2.2.1 = some (tyX3 k) := by decide +kernel
abbrev cX3_init : ByteArray := prog_5_method_1_code
def yX3_init : MethodName := ⟨RX3, "<init>", "(LWageHats$Town;)V"⟩
abbrev cX3_aimAt : ByteArray := prog_5_method_2_code
def yX3_aimAt : MethodName := ⟨RX3, "aimAt", "(LWageHats$Town;)V"⟩
abbrev cX3_begin : ByteArray := prog_5_method_3_code
def yX3_begin : MethodName := ⟨RX3, "begin", "([IILWageHats$Town;)V"⟩
abbrev cX3_isGood : ByteArray := prog_5_method_4_code
def yX3_isGood : MethodName := ⟨RX3, "isGood", "()Z"⟩
abbrev cX3_hasMore : ByteArray := prog_5_method_5_code
def yX3_hasMore : MethodName := ⟨RX3, "hasMore", "()Z"⟩
abbrev cX3_ahead : ByteArray := prog_5_method_6_code
def yX3_ahead : MethodName := ⟨RX3, "ahead", "()I"⟩
abbrev cX3_fail : ByteArray := prog_5_method_7_code
def yX3_fail : MethodName := ⟨RX3, "fail", "(II)V"⟩
abbrev cX3_takes : ByteArray := prog_5_method_8_code
def yX3_takes : MethodName := ⟨RX3, "takes", "(I)Z"⟩
abbrev cX3_need : ByteArray := prog_5_method_9_code
def yX3_need : MethodName := ⟨RX3, "need", "(I)V"⟩
abbrev cX3_readNumber : ByteArray := prog_5_method_10_code
def yX3_readNumber : MethodName := ⟨RX3, "readNumber", "(II)I"⟩
abbrev cX3_numberAfter : ByteArray := prog_5_method_11_code
def yX3_numberAfter : MethodName := ⟨RX3, "numberAfter", "(III)I"⟩
abbrev cX3_isNameNext : ByteArray := prog_5_method_12_code
def yX3_isNameNext : MethodName := ⟨RX3, "isNameNext", "()Z"⟩
abbrev cX3_readNewName : ByteArray := prog_5_method_13_code
def yX3_readNewName : MethodName := ⟨RX3, "readNewName", "()I"⟩
abbrev cX3_isGiven : ByteArray := prog_5_method_14_code
def yX3_isGiven : MethodName := ⟨RX3, "isGiven", "(I)Z"⟩
abbrev cX3_readKnown : ByteArray := prog_5_method_15_code
def yX3_readKnown : MethodName := ⟨RX3, "readKnown", "([II)I"⟩
abbrev cX3_readUnpaired : ByteArray := prog_5_method_16_code
def yX3_readUnpaired : MethodName := ⟨RX3, "readUnpaired", "(I)I"⟩
abbrev cX3_readStatement : ByteArray := prog_5_method_17_code
def yX3_readStatement : MethodName := ⟨RX3, "readStatement", "()V"⟩
abbrev cX3_isFull : ByteArray := prog_5_method_18_code
def yX3_isFull : MethodName := ⟨RX3, "isFull", "(I)Z"⟩
abbrev cX3_starts : ByteArray := prog_5_method_19_code
def yX3_starts : MethodName := ⟨RX3, "starts", "(I)Z"⟩
abbrev cX3_readSort : ByteArray := prog_5_method_20_code
def yX3_readSort : MethodName := ⟨RX3, "readSort", "()V"⟩
abbrev cX3_readHat : ByteArray := prog_5_method_21_code
def yX3_readHat : MethodName := ⟨RX3, "readHat", "()V"⟩
abbrev cX3_readPerson : ByteArray := prog_5_method_22_code
def yX3_readPerson : MethodName := ⟨RX3, "readPerson", "()V"⟩
abbrev cX3_readIn : ByteArray := prog_5_method_23_code
def yX3_readIn : MethodName := ⟨RX3, "readIn", "()V"⟩
abbrev cX3_readPair : ByteArray := prog_5_method_24_code
def yX3_readPair : MethodName := ⟨RX3, "readPair", "()V"⟩
abbrev cX3_readWorks : ByteArray := prog_5_method_25_code
def yX3_readWorks : MethodName := ⟨RX3, "readWorks", "()V"⟩
abbrev cX3_readTest : ByteArray := prog_5_method_26_code
def yX3_readTest : MethodName := ⟨RX3, "readTest", "(I)V"⟩
abbrev cX3_readBoth : ByteArray := prog_5_method_27_code
def yX3_readBoth : MethodName := ⟨RX3, "readBoth", "(I)V"⟩
abbrev cX3_readFact : ByteArray := prog_5_method_28_code
def yX3_readFact : MethodName := ⟨RX3, "readFact", "(I)V"⟩
abbrev cX3_readCompare : ByteArray := prog_5_method_29_code
def yX3_readCompare : MethodName := ⟨RX3, "readCompare", "()I"⟩
abbrev cX3_opens : ByteArray := prog_5_method_30_code
def yX3_opens : MethodName := ⟨RX3, "opens", "(I)Z"⟩
abbrev cX3_readSum : ByteArray := prog_5_method_31_code
def yX3_readSum : MethodName := ⟨RX3, "readSum", "(I)V"⟩
abbrev cX3_readProduct : ByteArray := prog_5_method_32_code
def yX3_readProduct : MethodName := ⟨RX3, "readProduct", "(I)V"⟩
abbrev cX3_readPiece : ByteArray := prog_5_method_33_code
def yX3_readPiece : MethodName := ⟨RX3, "readPiece", "(I)V"⟩
abbrev cX3_readOfTwo : ByteArray := prog_5_method_34_code
def yX3_readOfTwo : MethodName := ⟨RX3, "readOfTwo", "(II)V"⟩
abbrev cX3_factOf : ByteArray := prog_5_method_35_code
def yX3_factOf : MethodName := ⟨RX3, "factOf", "(I)I"⟩
def RX4 : String := "WageHats$Rules"
def TX4 : u_T := fun k => match k with
  | 0 => ("WageHats$Rules", "sort", "[I", true)
  | 1 => ("WageHats$Rules", "sumFrom", "[I", true)
  | 2 => ("WageHats$Rules", "testFrom", "[I", true)
  | 3 => ("WageHats$Rules", "testTo", "[I", true)
  | 4 => ("WageHats$Rules", "steps", "[I", true)
  | 5 => ("WageHats$Rules", "stack", "[I", true)
  | 6 => ("WageHats$Rules", "count", "I", false)
  | _ => ("WageHats$Rules", "length", "I", false)
def tyX4 : Nat → FieldType := fun k => match k with
  | 0 => .array .int
  | 1 => .array .int
  | 2 => .array .int
  | 3 => .array .int
  | 4 => .array .int
  | 5 => .array .int
  | 6 => .int
  | _ => .int
abbrev wsX40 : List Cond := u_ws RX4 TX4 8
theorem nmX4 : ∀ a, a < 8 → ∀ b, b < 8 → a ≠ b → (TX4 a).2.1 ≠ (TX4 b).2.1 := by decide +kernel
theorem tyX4_ok : ∀ k, k < 8 → parseFieldDescriptor (TX4 k).2.2.1 = some (tyX4 k) := by decide +kernel
abbrev cX4_init : ByteArray := prog_6_method_1_code
def yX4_init : MethodName := ⟨RX4, "<init>", "()V"⟩
abbrev cX4_clear : ByteArray := prog_6_method_2_code
def yX4_clear : MethodName := ⟨RX4, "clear", "()V"⟩
abbrev cX4_add : ByteArray := prog_6_method_3_code
def yX4_add : MethodName := ⟨RX4, "add", "(I)V"⟩
abbrev cX4_ruleFor : ByteArray := prog_6_method_4_code
def yX4_ruleFor : MethodName := ⟨RX4, "ruleFor", "(I[I)I"⟩
abbrev cX4_hoursOf : ByteArray := prog_6_method_5_code
def yX4_hoursOf : MethodName := ⟨RX4, "hoursOf", "(I[I)I"⟩
abbrev cX4_valueOf : ByteArray := prog_6_method_6_code
def yX4_valueOf : MethodName := ⟨RX4, "valueOf", "(II[I)I"⟩
abbrev cX4_joined : ByteArray := prog_6_method_7_code
def yX4_joined : MethodName := ⟨RX4, "joined", "(III)I"⟩
abbrev cX4_within : ByteArray := prog_6_method_8_code
def yX4_within : MethodName := ⟨RX4, "within", "(J)I"⟩
def RX5 : String := "WageHats$Scene"
def TX5 : u_T := fun k => match k with
  | 0 => ("WageHats$Scene", "hats", "LWageHats$Hats;", true)
  | 1 => ("WageHats$Scene", "people", "LWageHats$People;", true)
  | 2 => ("WageHats$Scene", "company", "LWageHats$Company;", true)
  | 3 => ("WageHats$Scene", "trail", "[I", true)
  | 4 => ("WageHats$Scene", "width", "I", true)
  | 5 => ("WageHats$Scene", "sorts", "LWageHats$Sorts;", false)
  | _ => ("WageHats$Scene", "most", "I", false)
def tyX5 : Nat → FieldType := fun k => match k with
  | 0 => .object "WageHats$Hats"
  | 1 => .object "WageHats$People"
  | 2 => .object "WageHats$Company"
  | 3 => .array .int
  | 4 => .int
  | 5 => .object "WageHats$Sorts"
  | _ => .int
abbrev wsX50 : List Cond := u_ws RX5 TX5 7
theorem nmX5 : ∀ a, a < 7 → ∀ b, b < 7 → a ≠ b → (TX5 a).2.1 ≠ (TX5 b).2.1 := by decide +kernel
theorem tyX5_ok : ∀ k, k < 7 → parseFieldDescriptor (TX5 k).2.2.1 = some (tyX5 k) := by decide +kernel
abbrev cX5_init : ByteArray := prog_7_method_1_code
def yX5_init : MethodName := ⟨RX5, "<init>", "(I)V"⟩
abbrev cX5_clear : ByteArray := prog_7_method_2_code
def yX5_clear : MethodName := ⟨RX5, "clear", "()V"⟩
abbrev cX5_copyOf : ByteArray := prog_7_method_3_code
def yX5_copyOf : MethodName := ⟨RX5, "copyOf", "(LWageHats$Scene;)V"⟩
abbrev cX5_hasPerson : ByteArray := prog_7_method_4_code
def yX5_hasPerson : MethodName := ⟨RX5, "hasPerson", "(I)Z"⟩
abbrev cX5_canWork : ByteArray := prog_7_method_5_code
def yX5_canWork : MethodName := ⟨RX5, "canWork", "(I)Z"⟩
abbrev cX5_isPlace : ByteArray := prog_7_method_6_code
def yX5_isPlace : MethodName := ⟨RX5, "isPlace", "(I)Z"⟩
abbrev cX5_earned : ByteArray := prog_7_method_7_code
def yX5_earned : MethodName := ⟨RX5, "earned", "(I)I"⟩
abbrev cX5_needOf : ByteArray := prog_7_method_8_code
def yX5_needOf : MethodName := ⟨RX5, "needOf", "(I)I"⟩
abbrev cX5_slip : ByteArray := prog_7_method_9_code
def yX5_slip : MethodName := ⟨RX5, "slip", "(I)I"⟩
abbrev cX5_sumIn : ByteArray := prog_7_method_10_code
def yX5_sumIn : MethodName := ⟨RX5, "sumIn", "(I)I"⟩
abbrev cX5_needsIn : ByteArray := prog_7_method_11_code
def yX5_needsIn : MethodName := ⟨RX5, "needsIn", "(I)I"⟩
abbrev cX5_meanIn : ByteArray := prog_7_method_12_code
def yX5_meanIn : MethodName := ⟨RX5, "meanIn", "(I)I"⟩
abbrev cX5_spreadIn : ByteArray := prog_7_method_13_code
def yX5_spreadIn : MethodName := ⟨RX5, "spreadIn", "(I)I"⟩
abbrev cX5_worthIn : ByteArray := prog_7_method_14_code
def yX5_worthIn : MethodName := ⟨RX5, "worthIn", "(III)I"⟩
abbrev cX5_worthNow : ByteArray := prog_7_method_15_code
def yX5_worthNow : MethodName := ⟨RX5, "worthNow", "(I)I"⟩
abbrev cX5_allWorths : ByteArray := prog_7_method_16_code
def yX5_allWorths : MethodName := ⟨RX5, "allWorths", "()I"⟩
abbrev cX5_allHours : ByteArray := prog_7_method_17_code
def yX5_allHours : MethodName := ⟨RX5, "allHours", "()I"⟩
abbrev cX5_hoursIn : ByteArray := prog_7_method_18_code
def yX5_hoursIn : MethodName := ⟨RX5, "hoursIn", "(I)I"⟩
abbrev cX5_allWorkLeast : ByteArray := prog_7_method_19_code
def yX5_allWorkLeast : MethodName := ⟨RX5, "allWorkLeast", "(I)Z"⟩
abbrev cX5_bestHours : ByteArray := prog_7_method_20_code
def yX5_bestHours : MethodName := ⟨RX5, "bestHours", "(II)I"⟩
abbrev cX5_changesInRound : ByteArray := prog_7_method_21_code
def yX5_changesInRound : MethodName := ⟨RX5, "changesInRound", "()Z"⟩
abbrev cX5_settle : ByteArray := prog_7_method_22_code
def yX5_settle : MethodName := ⟨RX5, "settle", "()V"⟩
abbrev cX5_noteTrail : ByteArray := prog_7_method_23_code
def yX5_noteTrail : MethodName := ⟨RX5, "noteTrail", "(I)V"⟩
abbrev cX5_firstOfTrail : ByteArray := prog_7_method_24_code
def yX5_firstOfTrail : MethodName := ⟨RX5, "firstOfTrail", "(I)I"⟩
abbrev cX5_isOnTrail : ByteArray := prog_7_method_25_code
def yX5_isOnTrail : MethodName := ⟨RX5, "isOnTrail", "(I)Z"⟩
abbrev cX5_wishOf : ByteArray := prog_7_method_26_code
def yX5_wishOf : MethodName := ⟨RX5, "wishOf", "(I)I"⟩
abbrev cX5_goesInRound : ByteArray := prog_7_method_27_code
def yX5_goesInRound : MethodName := ⟨RX5, "goesInRound", "()Z"⟩
abbrev cX5_nextToLeave : ByteArray := prog_7_method_28_code
def yX5_nextToLeave : MethodName := ⟨RX5, "nextToLeave", "(I)I"⟩
def RX6 : String := "WageHats$Sorts"
def TX6 : u_T := fun k => match k with
  | 0 => ("WageHats$Sorts", "name", "[I", true)
  | 1 => ("WageHats$Sorts", "brings", "[I", true)
  | 2 => ("WageHats$Sorts", "tires", "[I", true)
  | 3 => ("WageHats$Sorts", "mind", "[I", true)
  | 4 => ("WageHats$Sorts", "pride", "[I", true)
  | 5 => ("WageHats$Sorts", "need", "[I", true)
  | _ => ("WageHats$Sorts", "count", "I", false)
def tyX6 : Nat → FieldType := fun k => match k with
  | 0 => .array .int
  | 1 => .array .int
  | 2 => .array .int
  | 3 => .array .int
  | 4 => .array .int
  | 5 => .array .int
  | _ => .int
abbrev wsX60 : List Cond := u_ws RX6 TX6 7
theorem nmX6 : ∀ a, a < 7 → ∀ b, b < 7 → a ≠ b → (TX6 a).2.1 ≠ (TX6 b).2.1 := by decide +kernel
theorem tyX6_ok : ∀ k, k < 7 → parseFieldDescriptor (TX6 k).2.2.1 = some (tyX6 k) := by decide +kernel
abbrev cX6_init : ByteArray := prog_8_method_1_code
def yX6_init : MethodName := ⟨RX6, "<init>", "()V"⟩
def RX7 : String := "WageHats$Tokens"
def TX7 : u_T := fun k => match k with
  | 0 => ("WageHats$Tokens", "ownNames", "[I", true)
  | 1 => ("WageHats$Tokens", "what", "[I", true)
  | 2 => ("WageHats$Tokens", "from", "[I", true)
  | 3 => ("WageHats$Tokens", "span", "[I", true)
  | 4 => ("WageHats$Tokens", "value", "[I", true)
  | _ => ("WageHats$Tokens", "count", "I", false)
def tyX7 : Nat → FieldType := fun k => match k with
  | 0 => .array .int
  | 1 => .array .int
  | 2 => .array .int
  | 3 => .array .int
  | 4 => .array .int
  | _ => .int
abbrev wsX70 : List Cond := u_ws RX7 TX7 6
theorem nmX7 : ∀ a, a < 6 → ∀ b, b < 6 → a ≠ b → (TX7 a).2.1 ≠ (TX7 b).2.1 := by decide +kernel
theorem tyX7_ok : ∀ k, k < 6 → parseFieldDescriptor (TX7 k).2.2.1 = some (tyX7 k) := by decide +kernel
abbrev cX7_init : ByteArray := prog_9_method_1_code
def yX7_init : MethodName := ⟨RX7, "<init>", "()V"⟩
abbrev cX7_ownNameOf : ByteArray := prog_9_method_2_code
def yX7_ownNameOf : MethodName := ⟨RX7, "ownNameOf", "(II)I"⟩
abbrev cX7_cut : ByteArray := prog_9_method_3_code
def yX7_cut : MethodName := ⟨RX7, "cut", "([II)V"⟩
abbrev cX7_isLetter : ByteArray := prog_9_method_4_code
def yX7_isLetter : MethodName := ⟨RX7, "isLetter", "(I)Z"⟩
abbrev cX7_isDigit : ByteArray := prog_9_method_5_code
def yX7_isDigit : MethodName := ⟨RX7, "isDigit", "(I)Z"⟩
abbrev cX7_spanAt : ByteArray := prog_9_method_6_code
def yX7_spanAt : MethodName := ⟨RX7, "spanAt", "([III)I"⟩
abbrev cX7_add : ByteArray := prog_9_method_7_code
def yX7_add : MethodName := ⟨RX7, "add", "([III)V"⟩
abbrev cX7_isStuck : ByteArray := prog_9_method_8_code
def yX7_isStuck : MethodName := ⟨RX7, "isStuck", "(I)Z"⟩
abbrev cX7_nameAt : ByteArray := prog_9_method_9_code
def yX7_nameAt : MethodName := ⟨RX7, "nameAt", "([III)I"⟩
abbrev cX7_numberAt : ByteArray := prog_9_method_10_code
def yX7_numberAt : MethodName := ⟨RX7, "numberAt", "([III)I"⟩
def RX8 : String := "WageHats$Town"
def TX8 : u_T := fun k => match k with
  | 0 => ("WageHats$Town", "scene", "LWageHats$Scene;", true)
  | _ => ("WageHats$Town", "rules", "LWageHats$Rules;", true)
def tyX8 : Nat → FieldType := fun k => match k with
  | 0 => .object "WageHats$Scene"
  | _ => .object "WageHats$Rules"
abbrev wsX80 : List Cond := u_ws RX8 TX8 2
theorem nmX8 : ∀ a, a < 2 → ∀ b, b < 2 → a ≠ b → (TX8 a).2.1 ≠ (TX8 b).2.1 := by decide +kernel
theorem tyX8_ok : ∀ k, k < 2 → parseFieldDescriptor (TX8 k).2.2.1 = some (tyX8 k) := by decide +kernel
abbrev cX8_init : ByteArray := prog_10_method_1_code
def yX8_init : MethodName := ⟨RX8, "<init>", "()V"⟩
def RX9 : String := "WageHats$Weeks"
def TX9 : u_T := fun k => match k with
  | 0 => ("WageHats$Weeks", "drawn", "[I", true)
  | 1 => ("WageHats$Weeks", "paid", "[I", true)
  | 2 => ("WageHats$Weeks", "drew", "[I", true)
  | 3 => ("WageHats$Weeks", "said", "[I", true)
  | 4 => ("WageHats$Weeks", "slipsLeft", "[I", true)
  | 5 => ("WageHats$Weeks", "nextHours", "[I", true)
  | 6 => ("WageHats$Weeks", "facts", "[I", true)
  | 7 => ("WageHats$Weeks", "past", "I", false)
  | 8 => ("WageHats$Weeks", "lost", "I", false)
  | _ => ("WageHats$Weeks", "chance", "I", false)
def tyX9 : Nat → FieldType := fun k => match k with
  | 0 => .array .int
  | 1 => .array .int
  | 2 => .array .int
  | 3 => .array .int
  | 4 => .array .int
  | 5 => .array .int
  | 6 => .array .int
  | 7 => .int
  | 8 => .int
  | _ => .int
abbrev wsX90 : List Cond := u_ws RX9 TX9 10
theorem nmX9 : ∀ a, a < 10 → ∀ b, b < 10 → a ≠ b → (TX9 a).2.1 ≠ (TX9 b).2.1 := by decide +kernel
theorem tyX9_ok : ∀ k, k < 10 → parseFieldDescriptor (TX9 k).2.2.1 = some (tyX9 k) := by decide +kernel
abbrev cX9_init : ByteArray := prog_11_method_1_code
def yX9_init : MethodName := ⟨RX9, "<init>", "()V"⟩
abbrev cX9_startAnew : ByteArray := prog_11_method_2_code
def yX9_startAnew : MethodName := ⟨RX9, "startAnew", "()V"⟩
abbrev cX9_forgetSlips : ByteArray := prog_11_method_3_code
def yX9_forgetSlips : MethodName := ⟨RX9, "forgetSlips", "()V"⟩
abbrev cX9_pass : ByteArray := prog_11_method_4_code
def yX9_pass : MethodName := ⟨RX9, "pass", "(LWageHats$Town;)I"⟩
abbrev cX9_draw : ByteArray := prog_11_method_5_code
def yX9_draw : MethodName := ⟨RX9, "draw", "(I)I"⟩
abbrev cX9_drawFrom : ByteArray := prog_11_method_6_code
def yX9_drawFrom : MethodName := ⟨RX9, "drawFrom", "(LWageHats$Scene;I)V"⟩
abbrev cX9_drawHat : ByteArray := prog_11_method_7_code
def yX9_drawHat : MethodName := ⟨RX9, "drawHat", "(LWageHats$People;I)V"⟩
abbrev cX9_takeHours : ByteArray := prog_11_method_8_code
def yX9_takeHours : MethodName := ⟨RX9, "takeHours", "(LWageHats$Town;)V"⟩
abbrev cX9_gatherFacts : ByteArray := prog_11_method_9_code
def yX9_gatherFacts : MethodName := ⟨RX9, "gatherFacts", "(LWageHats$Scene;I)V"⟩
abbrev cX9_handOut : ByteArray := prog_11_method_10_code
def yX9_handOut : MethodName := ⟨RX9, "handOut", "(LWageHats$Scene;)V"⟩
abbrev cX9_handed : ByteArray := prog_11_method_11_code
def yX9_handed : MethodName := ⟨RX9, "handed", "(LWageHats$Scene;I)I"⟩
abbrev cX9_lookAtAll : ByteArray := prog_11_method_12_code
def yX9_lookAtAll : MethodName := ⟨RX9, "lookAtAll", "(LWageHats$Scene;)V"⟩
abbrev cX9_halvePairs : ByteArray := prog_11_method_13_code
def yX9_halvePairs : MethodName := ⟨RX9, "halvePairs", "(LWageHats$People;)V"⟩
abbrev cX9_payAll : ByteArray := prog_11_method_14_code
def yX9_payAll : MethodName := ⟨RX9, "payAll", "(LWageHats$Scene;)I"⟩
def RX10 : String := "WageHats"
def TX10 : u_T := fun k => match k with
  | 0 => ("WageHats", "tape", "[I", true)
  | 1 => ("WageHats", "picture", "[I", true)
  | 2 => ("WageHats", "weeks", "LWageHats$Weeks;", true)
  | 3 => ("WageHats", "trial", "LWageHats$Scene;", true)
  | 4 => ("WageHats", "now", "LWageHats$Town;", false)
  | 5 => ("WageHats", "spare", "LWageHats$Town;", false)
  | 6 => ("WageHats", "reader", "LWageHats$Reader;", true)
  | 7 => ("WageHats", "fed", "I", false)
  | _ => ("WageHats", "pictured", "I", false)
def tyX10 : Nat → FieldType := fun k => match k with
  | 0 => .array .int
  | 1 => .array .int
  | 2 => .object "WageHats$Weeks"
  | 3 => .object "WageHats$Scene"
  | 4 => .object "WageHats$Town"
  | 5 => .object "WageHats$Town"
  | 6 => .object "WageHats$Reader"
  | 7 => .int
  | _ => .int
abbrev wsX100 : List Cond := u_ws RX10 TX10 9
theorem nmX10 : ∀ a, a < 9 → ∀ b, b < 9 → a ≠ b → (TX10 a).2.1 ≠ (TX10 b).2.1 := by decide +kernel
theorem tyX10_ok : ∀ k, k < 9 → parseFieldDescriptor (TX10 k).2.2.1 = some (tyX10 k) := by decide +kernel
abbrev cX10_init : ByteArray := prog_1_method_1_code
def yX10_init : MethodName := ⟨RX10, "<init>", "()V"⟩
abbrev cX10_feed : ByteArray := prog_1_method_2_code
def yX10_feed : MethodName := ⟨RX10, "feed", "(IIIII)I"⟩
abbrev cX10_lay : ByteArray := prog_1_method_3_code
def yX10_lay : MethodName := ⟨RX10, "lay", "(I)V"⟩
abbrev cX10_end : ByteArray := prog_1_method_4_code
def yX10_end : MethodName := ⟨RX10, "end", "(I)Z"⟩
abbrev cX10_town : ByteArray := prog_1_method_5_code
def yX10_town : MethodName := ⟨RX10, "town", "()I"⟩
abbrev cX10_fault : ByteArray := prog_1_method_6_code
def yX10_fault : MethodName := ⟨RX10, "fault", "(I)I"⟩
abbrev cX10_has : ByteArray := prog_1_method_7_code
def yX10_has : MethodName := ⟨RX10, "has", "(I)I"⟩
abbrev cX10_letter : ByteArray := prog_1_method_8_code
def yX10_letter : MethodName := ⟨RX10, "letter", "(III)I"⟩
abbrev cX10_person : ByteArray := prog_1_method_9_code
def yX10_person : MethodName := ⟨RX10, "person", "(II)I"⟩
abbrev cX10_hat : ByteArray := prog_1_method_10_code
def yX10_hat : MethodName := ⟨RX10, "hat", "(II)I"⟩
abbrev cX10_put : ByteArray := prog_1_method_11_code
def yX10_put : MethodName := ⟨RX10, "put", "(II)I"⟩
abbrev cX10_move : ByteArray := prog_1_method_12_code
def yX10_move : MethodName := ⟨RX10, "move", "(II)Z"⟩
abbrev cX10_keep : ByteArray := prog_1_method_13_code
def yX10_keep : MethodName := ⟨RX10, "keep", "(II)I"⟩
abbrev cX10_worth : ByteArray := prog_1_method_14_code
def yX10_worth : MethodName := ⟨RX10, "worth", "(II)I"⟩
abbrev cX10_all : ByteArray := prog_1_method_15_code
def yX10_all : MethodName := ⟨RX10, "all", "()I"⟩
abbrev cX10_rest : ByteArray := prog_1_method_16_code
def yX10_rest : MethodName := ⟨RX10, "rest", "(I)I"⟩
abbrev cX10_proof : ByteArray := prog_1_method_17_code
def yX10_proof : MethodName := ⟨RX10, "proof", "()I"⟩
abbrev cX10_part : ByteArray := prog_1_method_18_code
def yX10_part : MethodName := ⟨RX10, "part", "(II)I"⟩
abbrev cX10_look : ByteArray := prog_1_method_19_code
def yX10_look : MethodName := ⟨RX10, "look", "(I)I"⟩
abbrev cX10_size : ByteArray := prog_1_method_20_code
def yX10_size : MethodName := ⟨RX10, "size", "(IIII)I"⟩
abbrev cX10_many : ByteArray := prog_1_method_21_code
def yX10_many : MethodName := ⟨RX10, "many", "(II)I"⟩
abbrev cX10_canCrowd : ByteArray := prog_1_method_22_code
def yX10_canCrowd : MethodName := ⟨RX10, "canCrowd", "(II)Z"⟩
abbrev cX10_crowdTrial : ByteArray := prog_1_method_23_code
def yX10_crowdTrial : MethodName := ⟨RX10, "crowdTrial", "(III)V"⟩
abbrev cX10_under : ByteArray := prog_1_method_24_code
def yX10_under : MethodName := ⟨RX10, "under", "(III)I"⟩
abbrev cX10_ends : ByteArray := prog_1_method_25_code
def yX10_ends : MethodName := ⟨RX10, "ends", "(I)I"⟩
abbrev cX10_settleTrialFrom : ByteArray := prog_1_method_26_code
def yX10_settleTrialFrom : MethodName := ⟨RX10, "settleTrialFrom", "(I)V"⟩
abbrev cX10_alike : ByteArray := prog_1_method_27_code
def yX10_alike : MethodName := ⟨RX10, "alike", "(I)I"⟩
abbrev cX10_pair : ByteArray := prog_1_method_28_code
def yX10_pair : MethodName := ⟨RX10, "pair", "(II)I"⟩
abbrev cX10_would : ByteArray := prog_1_method_29_code
def yX10_would : MethodName := ⟨RX10, "would", "(II)I"⟩
abbrev cX10_wish : ByteArray := prog_1_method_30_code
def yX10_wish : MethodName := ⟨RX10, "wish", "(I)I"⟩
abbrev cX10_choose : ByteArray := prog_1_method_31_code
def yX10_choose : MethodName := ⟨RX10, "choose", "(I)I"⟩
abbrev cX10_stable : ByteArray := prog_1_method_32_code
def yX10_stable : MethodName := ⟨RX10, "stable", "()I"⟩
abbrev cX10_gap : ByteArray := prog_1_method_33_code
def yX10_gap : MethodName := ⟨RX10, "gap", "(I)I"⟩
abbrev cX10_rings : ByteArray := prog_1_method_34_code
def yX10_rings : MethodName := ⟨RX10, "rings", "(II)I"⟩
abbrev cX10_seed : ByteArray := prog_1_method_35_code
def yX10_seed : MethodName := ⟨RX10, "seed", "(I)Z"⟩
abbrev cX10_run : ByteArray := prog_1_method_36_code
def yX10_run : MethodName := ⟨RX10, "run", "(I)I"⟩
abbrev cX10_drew : ByteArray := prog_1_method_37_code
def yX10_drew : MethodName := ⟨RX10, "drew", "(I)I"⟩
abbrev cX10_said : ByteArray := prog_1_method_38_code
def yX10_said : MethodName := ⟨RX10, "said", "(II)Z"⟩
abbrev cX10_less : ByteArray := prog_1_method_39_code
def yX10_less : MethodName := ⟨RX10, "less", "()I"⟩
abbrev cX10_image : ByteArray := prog_1_method_40_code
def yX10_image : MethodName := ⟨RX10, "image", "()I"⟩
abbrev cX10_paint : ByteArray := prog_1_method_41_code
def yX10_paint : MethodName := ⟨RX10, "paint", "(I)V"⟩
abbrev cX10_paintTwo : ByteArray := prog_1_method_42_code
def yX10_paintTwo : MethodName := ⟨RX10, "paintTwo", "(I)V"⟩
abbrev cX10_octet : ByteArray := prog_1_method_43_code
def yX10_octet : MethodName := ⟨RX10, "octet", "(I)I"⟩
abbrev cX10_on : ByteArray := prog_1_method_44_code
def yX10_on : MethodName := ⟨RX10, "on", "()Z"⟩
abbrev cX10_isImage : ByteArray := prog_1_method_45_code
def yX10_isImage : MethodName := ⟨RX10, "isImage", "(I)Z"⟩
abbrev cX10_twoOfTape : ByteArray := prog_1_method_46_code
def yX10_twoOfTape : MethodName := ⟨RX10, "twoOfTape", "(I)I"⟩
abbrev cX10_checkOf : ByteArray := prog_1_method_47_code
def yX10_checkOf : MethodName := ⟨RX10, "checkOf", "([II)I"⟩
abbrev cX10_isIn : ByteArray := prog_1_method_48_code
def yX10_isIn : MethodName := ⟨RX10, "isIn", "(II)Z"⟩
abbrev cX10_at : ByteArray := prog_1_method_49_code
def yX10_at : MethodName := ⟨RX10, "at", "([II)I"⟩
abbrev cX10_set : ByteArray := prog_1_method_50_code
def yX10_set : MethodName := ⟨RX10, "set", "([III)V"⟩
abbrev cX10_letterOf : ByteArray := prog_1_method_51_code
def yX10_letterOf : MethodName := ⟨RX10, "letterOf", "(II)I"⟩
abbrev cX10_slipOf : ByteArray := prog_1_method_52_code
def yX10_slipOf : MethodName := ⟨RX10, "slipOf", "(II)I"⟩
abbrev cX10_spreadOf : ByteArray := prog_1_method_53_code
def yX10_spreadOf : MethodName := ⟨RX10, "spreadOf", "([III)I"⟩
abbrev cX10_indexOf : ByteArray := prog_1_method_54_code
def yX10_indexOf : MethodName := ⟨RX10, "indexOf", "([III)I"⟩
def RX11 : String := "WageHatsModel"
def TX11 : u_T := fun k => match k with
  | 0 => ("WageHatsModel", "tape", "[I", true)
  | 1 => ("WageHatsModel", "taped", "I", false)
  | 2 => ("WageHatsModel", "at", "I", false)
  | 3 => ("WageHatsModel", "end", "I", false)
  | 4 => ("WageHatsModel", "ended", "I", false)
  | 5 => ("WageHatsModel", "bad", "I", false)
  | 6 => ("WageHatsModel", "badPlace", "I", false)
  | 7 => ("WageHatsModel", "fault", "I", false)
  | 8 => ("WageHatsModel", "faultPlace", "I", false)
  | 9 => ("WageHatsModel", "hoursWord", "[C", true)
  | 10 => ("WageHatsModel", "sortWord", "[C", true)
  | 11 => ("WageHatsModel", "bringsWord", "[C", true)
  | 12 => ("WageHatsModel", "tiresWord", "[C", true)
  | 13 => ("WageHatsModel", "mindWord", "[C", true)
  | 14 => ("WageHatsModel", "prideWord", "[C", true)
  | 15 => ("WageHatsModel", "needWord", "[C", true)
  | 16 => ("WageHatsModel", "hatWord", "[C", true)
  | 17 => ("WageHatsModel", "keepsWord", "[C", true)
  | 18 => ("WageHatsModel", "leastWord", "[C", true)
  | 19 => ("WageHatsModel", "looksWord", "[C", true)
  | 20 => ("WageHatsModel", "afterWord", "[C", true)
  | 21 => ("WageHatsModel", "beforeWord", "[C", true)
  | 22 => ("WageHatsModel", "evenWord", "[C", true)
  | 23 => ("WageHatsModel", "shareWord", "[C", true)
  | 24 => ("WageHatsModel", "personWord", "[C", true)
  | 25 => ("WageHatsModel", "inWord", "[C", true)
  | 26 => ("WageHatsModel", "pairWord", "[C", true)
  | 27 => ("WageHatsModel", "worksWord", "[C", true)
  | 28 => ("WageHatsModel", "whenWord", "[C", true)
  | 29 => ("WageHatsModel", "orWord", "[C", true)
  | 30 => ("WageHatsModel", "andWord", "[C", true)
  | 31 => ("WageHatsModel", "notWord", "[C", true)
  | 32 => ("WageHatsModel", "allWord", "[C", true)
  | 33 => ("WageHatsModel", "manyWord", "[C", true)
  | 34 => ("WageHatsModel", "weekWord", "[C", true)
  | 35 => ("WageHatsModel", "lastWord", "[C", true)
  | 36 => ("WageHatsModel", "mostWord", "[C", true)
  | 37 => ("WageHatsModel", "drawnWord", "[C", true)
  | 38 => ("WageHatsModel", "ownWord", "[C", true)
  | 39 => ("WageHatsModel", "keptWord", "[C", true)
  | 40 => ("WageHatsModel", "minWord", "[C", true)
  | 41 => ("WageHatsModel", "maxWord", "[C", true)
  | 42 => ("WageHatsModel", "namePlace", "I", false)
  | 43 => ("WageHatsModel", "names", "[J", true)
  | 44 => ("WageHatsModel", "many", "[I", true)
  | 45 => ("WageHatsModel", "sorts", "[I", true)
  | 46 => ("WageHatsModel", "hats", "[I", true)
  | 47 => ("WageHatsModel", "sortOf", "[I", true)
  | 48 => ("WageHatsModel", "hatOf", "[I", true)
  | 49 => ("WageHatsModel", "pairOf", "[I", true)
  | 50 => ("WageHatsModel", "pairsTold", "I", false)
  | 51 => ("WageHatsModel", "pairFirst", "[I", true)
  | 52 => ("WageHatsModel", "most", "I", false)
  | 53 => ("WageHatsModel", "statements", "I", false)
  | 54 => ("WageHatsModel", "mostTold", "I", false)
  | 55 => ("WageHatsModel", "codes", "[I", true)
  | 56 => ("WageHatsModel", "coded", "I", false)
  | 57 => ("WageHatsModel", "wait", "[I", true)
  | 58 => ("WageHatsModel", "waits", "I", false)
  | 59 => ("WageHatsModel", "open", "I", false)
  | 60 => ("WageHatsModel", "rules", "[I", true)
  | 61 => ("WageHatsModel", "ruleSort", "[I", true)
  | 62 => ("WageHatsModel", "sumFrom", "[I", true)
  | 63 => ("WageHatsModel", "sumEnd", "[I", true)
  | 64 => ("WageHatsModel", "testEnd", "[I", true)
  | 65 => ("WageHatsModel", "base", "I", false)
  | 66 => ("WageHatsModel", "sortNow", "[I", true)
  | 67 => ("WageHatsModel", "hatNow", "[I", true)
  | 68 => ("WageHatsModel", "pairNow", "[I", true)
  | 69 => ("WageHatsModel", "hours", "[I", true)
  | 70 => ("WageHatsModel", "drawn", "[I", true)
  | 71 => ("WageHatsModel", "paid", "[I", true)
  | 72 => ("WageHatsModel", "saidHours", "[I", true)
  | 73 => ("WageHatsModel", "slipOf", "[I", true)
  | 74 => ("WageHatsModel", "pairLed", "[I", true)
  | 75 => ("WageHatsModel", "pairs", "I", false)
  | 76 => ("WageHatsModel", "weeks", "I", false)
  | 77 => ("WageHatsModel", "lost", "I", false)
  | 78 => ("WageHatsModel", "front", "I", false)
  | 79 => ("WageHatsModel", "count", "I", false)
  | 80 => ("WageHatsModel", "aside", "[I", true)
  | 81 => ("WageHatsModel", "sizeHours", "I", false)
  | 82 => ("WageHatsModel", "sizeWorth", "I", false)
  | 83 => ("WageHatsModel", "belowHours", "[I", true)
  | 84 => ("WageHatsModel", "toldEnds", "[I", true)
  | 85 => ("WageHatsModel", "hatAside", "[I", true)
  | 86 => ("WageHatsModel", "pile", "[J", true)
  | 87 => ("WageHatsModel", "piled", "I", false)
  | 88 => ("WageHatsModel", "asker", "I", false)
  | 89 => ("WageHatsModel", "seed", "J", false)
  | 90 => ("WageHatsModel", "left", "[I", true)
  | 91 => ("WageHatsModel", "newHours", "[I", true)
  | 92 => ("WageHatsModel", "octet", "[I", true)
  | _ => ("WageHatsModel", "octets", "I", false)
def tyX11 : Nat → FieldType := fun k => match k with
  | 0 => .array .int
  | 1 => .int
  | 2 => .int
  | 3 => .int
  | 4 => .int
  | 5 => .int
  | 6 => .int
  | 7 => .int
  | 8 => .int
  | 9 => .array .char
  | 10 => .array .char
  | 11 => .array .char
  | 12 => .array .char
  | 13 => .array .char
  | 14 => .array .char
  | 15 => .array .char
  | 16 => .array .char
  | 17 => .array .char
  | 18 => .array .char
  | 19 => .array .char
  | 20 => .array .char
  | 21 => .array .char
  | 22 => .array .char
  | 23 => .array .char
  | 24 => .array .char
  | 25 => .array .char
  | 26 => .array .char
  | 27 => .array .char
  | 28 => .array .char
  | 29 => .array .char
  | 30 => .array .char
  | 31 => .array .char
  | 32 => .array .char
  | 33 => .array .char
  | 34 => .array .char
  | 35 => .array .char
  | 36 => .array .char
  | 37 => .array .char
  | 38 => .array .char
  | 39 => .array .char
  | 40 => .array .char
  | 41 => .array .char
  | 42 => .int
  | 43 => .array .long
  | 44 => .array .int
  | 45 => .array .int
  | 46 => .array .int
  | 47 => .array .int
  | 48 => .array .int
  | 49 => .array .int
  | 50 => .int
  | 51 => .array .int
  | 52 => .int
  | 53 => .int
  | 54 => .int
  | 55 => .array .int
  | 56 => .int
  | 57 => .array .int
  | 58 => .int
  | 59 => .int
  | 60 => .array .int
  | 61 => .array .int
  | 62 => .array .int
  | 63 => .array .int
  | 64 => .array .int
  | 65 => .int
  | 66 => .array .int
  | 67 => .array .int
  | 68 => .array .int
  | 69 => .array .int
  | 70 => .array .int
  | 71 => .array .int
  | 72 => .array .int
  | 73 => .array .int
  | 74 => .array .int
  | 75 => .int
  | 76 => .int
  | 77 => .int
  | 78 => .int
  | 79 => .int
  | 80 => .array .int
  | 81 => .int
  | 82 => .int
  | 83 => .array .int
  | 84 => .array .int
  | 85 => .array .int
  | 86 => .array .long
  | 87 => .int
  | 88 => .int
  | 89 => .long
  | 90 => .array .int
  | 91 => .array .int
  | 92 => .array .int
  | _ => .int
abbrev wsX110 : List Cond := u_ws RX11 TX11 94
theorem nmX11 : ∀ a, a < 94 → ∀ b, b < 94 → a ≠ b → (TX11 a).2.1 ≠ (TX11 b).2.1 := by decide +kernel
theorem tyX11_ok : ∀ k, k < 94 → parseFieldDescriptor (TX11 k).2.2.1 = some (tyX11 k) := by decide +kernel
abbrev cX11_init : ByteArray := prog_13_method_1_code
def yX11_init : MethodName := ⟨RX11, "<init>", "()V"⟩
abbrev cX11_isIn : ByteArray := prog_13_method_2_code
def yX11_isIn : MethodName := ⟨RX11, "isIn", "(JJJ)Z"⟩
abbrev cX11_feed : ByteArray := prog_13_method_3_code
def yX11_feed : MethodName := ⟨RX11, "feed", "(IIIII)I"⟩
abbrev cX11_end : ByteArray := prog_13_method_4_code
def yX11_end : MethodName := ⟨RX11, "end", "(I)Z"⟩
abbrev cX11_fail : ByteArray := prog_13_method_5_code
def yX11_fail : MethodName := ⟨RX11, "fail", "(II)V"⟩
abbrev cX11_isLetter : ByteArray := prog_13_method_6_code
def yX11_isLetter : MethodName := ⟨RX11, "isLetter", "(I)Z"⟩
abbrev cX11_isDigit : ByteArray := prog_13_method_7_code
def yX11_isDigit : MethodName := ⟨RX11, "isDigit", "(I)Z"⟩
abbrev cX11_look : ByteArray := prog_13_method_8_code
def yX11_look : MethodName := ⟨RX11, "look", "()I"⟩
abbrev cX11_isHere : ByteArray := prog_13_method_9_code
def yX11_isHere : MethodName := ⟨RX11, "isHere", "([C)Z"⟩
abbrev cX11_takes : ByteArray := prog_13_method_10_code
def yX11_takes : MethodName := ⟨RX11, "takes", "([C)Z"⟩
abbrev cX11_asks : ByteArray := prog_13_method_11_code
def yX11_asks : MethodName := ⟨RX11, "asks", "([C)V"⟩
abbrev cX11_takesSign : ByteArray := prog_13_method_12_code
def yX11_takesSign : MethodName := ⟨RX11, "takesSign", "(I)Z"⟩
abbrev cX11_asksSign : ByteArray := prog_13_method_13_code
def yX11_asksSign : MethodName := ⟨RX11, "asksSign", "(I)V"⟩
abbrev cX11_number : ByteArray := prog_13_method_14_code
def yX11_number : MethodName := ⟨RX11, "number", "(II)I"⟩
abbrev cX11_isOwnHere : ByteArray := prog_13_method_15_code
def yX11_isOwnHere : MethodName := ⟨RX11, "isOwnHere", "()Z"⟩
abbrev cX11_name : ByteArray := prog_13_method_16_code
def yX11_name : MethodName := ⟨RX11, "name", "()J"⟩
abbrev cX11_begins : ByteArray := prog_13_method_17_code
def yX11_begins : MethodName := ⟨RX11, "begins", "()V"⟩
abbrev cX11_nameOf : ByteArray := prog_13_method_18_code
def yX11_nameOf : MethodName := ⟨RX11, "nameOf", "(IJ)I"⟩
abbrev cX11_newName : ByteArray := prog_13_method_19_code
def yX11_newName : MethodName := ⟨RX11, "newName", "(I)I"⟩
abbrev cX11_oneOf : ByteArray := prog_13_method_20_code
def yX11_oneOf : MethodName := ⟨RX11, "oneOf", "(I)I"⟩
abbrev cX11_isFull : ByteArray := prog_13_method_21_code
def yX11_isFull : MethodName := ⟨RX11, "isFull", "(III)Z"⟩
abbrev cX11_sortTold : ByteArray := prog_13_method_22_code
def yX11_sortTold : MethodName := ⟨RX11, "sortTold", "(I)V"⟩
abbrev cX11_hatTold : ByteArray := prog_13_method_23_code
def yX11_hatTold : MethodName := ⟨RX11, "hatTold", "(I)V"⟩
abbrev cX11_personTold : ByteArray := prog_13_method_24_code
def yX11_personTold : MethodName := ⟨RX11, "personTold", "(I)V"⟩
abbrev cX11_inTold : ByteArray := prog_13_method_25_code
def yX11_inTold : MethodName := ⟨RX11, "inTold", "()V"⟩
abbrev cX11_unpaired : ByteArray := prog_13_method_26_code
def yX11_unpaired : MethodName := ⟨RX11, "unpaired", "(I)I"⟩
abbrev cX11_pairTold : ByteArray := prog_13_method_27_code
def yX11_pairTold : MethodName := ⟨RX11, "pairTold", "()V"⟩
abbrev cX11_townTold : ByteArray := prog_13_method_28_code
def yX11_townTold : MethodName := ⟨RX11, "townTold", "()V"⟩
abbrev cX11_town : ByteArray := prog_13_method_29_code
def yX11_town : MethodName := ⟨RX11, "town", "()I"⟩
abbrev cX11_stands : ByteArray := prog_13_method_30_code
def yX11_stands : MethodName := ⟨RX11, "stands", "()V"⟩
abbrev cX11_code : ByteArray := prog_13_method_31_code
def yX11_code : MethodName := ⟨RX11, "code", "(I)V"⟩
abbrev cX11_opens : ByteArray := prog_13_method_32_code
def yX11_opens : MethodName := ⟨RX11, "opens", "(II)V"⟩
abbrev cX11_isOn : ByteArray := prog_13_method_33_code
def yX11_isOn : MethodName := ⟨RX11, "isOn", "(I)Z"⟩
abbrev cX11_drops : ByteArray := prog_13_method_34_code
def yX11_drops : MethodName := ⟨RX11, "drops", "()V"⟩
abbrev cX11_isMark : ByteArray := prog_13_method_35_code
def yX11_isMark : MethodName := ⟨RX11, "isMark", "(I)Z"⟩
abbrev cX11_mark : ByteArray := prog_13_method_36_code
def yX11_mark : MethodName := ⟨RX11, "mark", "()I"⟩
abbrev cX11_dropsToMark : ByteArray := prog_13_method_37_code
def yX11_dropsToMark : MethodName := ⟨RX11, "dropsToMark", "()V"⟩
abbrev cX11_onePart : ByteArray := prog_13_method_38_code
def yX11_onePart : MethodName := ⟨RX11, "onePart", "()V"⟩
abbrev cX11_goesOn : ByteArray := prog_13_method_39_code
def yX11_goesOn : MethodName := ⟨RX11, "goesOn", "()Z"⟩
abbrev cX11_sums : ByteArray := prog_13_method_40_code
def yX11_sums : MethodName := ⟨RX11, "sums", "()V"⟩
abbrev cX11_fact : ByteArray := prog_13_method_41_code
def yX11_fact : MethodName := ⟨RX11, "fact", "()V"⟩
abbrev cX11_hasSquare : ByteArray := prog_13_method_42_code
def yX11_hasSquare : MethodName := ⟨RX11, "hasSquare", "()Z"⟩
abbrev cX11_dropsNots : ByteArray := prog_13_method_43_code
def yX11_dropsNots : MethodName := ⟨RX11, "dropsNots", "()V"⟩
abbrev cX11_test : ByteArray := prog_13_method_44_code
def yX11_test : MethodName := ⟨RX11, "test", "()V"⟩
abbrev cX11_goesOnTest : ByteArray := prog_13_method_45_code
def yX11_goesOnTest : MethodName := ⟨RX11, "goesOnTest", "()Z"⟩
abbrev cX11_worksTold : ByteArray := prog_13_method_46_code
def yX11_worksTold : MethodName := ⟨RX11, "worksTold", "(I)V"⟩
abbrev cX11_fault : ByteArray := prog_13_method_47_code
def yX11_fault : MethodName := ⟨RX11, "fault", "(I)I"⟩
abbrev cX11_people : ByteArray := prog_13_method_48_code
def yX11_people : MethodName := ⟨RX11, "people", "()I"⟩
abbrev cX11_hatMany : ByteArray := prog_13_method_49_code
def yX11_hatMany : MethodName := ⟨RX11, "hatMany", "()I"⟩
abbrev cX11_isPerson : ByteArray := prog_13_method_50_code
def yX11_isPerson : MethodName := ⟨RX11, "isPerson", "(I)Z"⟩
abbrev cX11_isHat : ByteArray := prog_13_method_51_code
def yX11_isHat : MethodName := ⟨RX11, "isHat", "(I)Z"⟩
abbrev cX11_has : ByteArray := prog_13_method_52_code
def yX11_has : MethodName := ⟨RX11, "has", "(I)I"⟩
abbrev cX11_letter : ByteArray := prog_13_method_53_code
def yX11_letter : MethodName := ⟨RX11, "letter", "(III)I"⟩
abbrev cX11_sort : ByteArray := prog_13_method_54_code
def yX11_sort : MethodName := ⟨RX11, "sort", "(II)I"⟩
abbrev cX11_hatIs : ByteArray := prog_13_method_55_code
def yX11_hatIs : MethodName := ⟨RX11, "hatIs", "(II)I"⟩
abbrev cX11_earned : ByteArray := prog_13_method_56_code
def yX11_earned : MethodName := ⟨RX11, "earned", "(I)I"⟩
abbrev cX11_slip : ByteArray := prog_13_method_57_code
def yX11_slip : MethodName := ⟨RX11, "slip", "(I)I"⟩
abbrev cX11_keptOf : ByteArray := prog_13_method_58_code
def yX11_keptOf : MethodName := ⟨RX11, "keptOf", "(I)I"⟩
abbrev cX11_inHat : ByteArray := prog_13_method_59_code
def yX11_inHat : MethodName := ⟨RX11, "inHat", "(I)I"⟩
abbrev cX11_sumOf : ByteArray := prog_13_method_60_code
def yX11_sumOf : MethodName := ⟨RX11, "sumOf", "(I)I"⟩
abbrev cX11_needsOf : ByteArray := prog_13_method_61_code
def yX11_needsOf : MethodName := ⟨RX11, "needsOf", "(I)I"⟩
abbrev cX11_meanOf : ByteArray := prog_13_method_62_code
def yX11_meanOf : MethodName := ⟨RX11, "meanOf", "(I)I"⟩
abbrev cX11_spreadOf : ByteArray := prog_13_method_63_code
def yX11_spreadOf : MethodName := ⟨RX11, "spreadOf", "(I)I"⟩
abbrev cX11_mostOther : ByteArray := prog_13_method_64_code
def yX11_mostOther : MethodName := ⟨RX11, "mostOther", "(I)I"⟩
abbrev cX11_floorOf : ByteArray := prog_13_method_65_code
def yX11_floorOf : MethodName := ⟨RX11, "floorOf", "(II)I"⟩
abbrev cX11_comes : ByteArray := prog_13_method_66_code
def yX11_comes : MethodName := ⟨RX11, "comes", "(I)I"⟩
abbrev cX11_worthNow : ByteArray := prog_13_method_67_code
def yX11_worthNow : MethodName := ⟨RX11, "worthNow", "(I)I"⟩
abbrev cX11_worthWith : ByteArray := prog_13_method_68_code
def yX11_worthWith : MethodName := ⟨RX11, "worthWith", "(II)I"⟩
abbrev cX11_bestHours : ByteArray := prog_13_method_69_code
def yX11_bestHours : MethodName := ⟨RX11, "bestHours", "(I)I"⟩
abbrev cX11_person : ByteArray := prog_13_method_70_code
def yX11_person : MethodName := ⟨RX11, "person", "(II)I"⟩
abbrev cX11_hat : ByteArray := prog_13_method_71_code
def yX11_hat : MethodName := ⟨RX11, "hat", "(II)I"⟩
abbrev cX11_put : ByteArray := prog_13_method_72_code
def yX11_put : MethodName := ⟨RX11, "put", "(II)I"⟩
abbrev cX11_move : ByteArray := prog_13_method_73_code
def yX11_move : MethodName := ⟨RX11, "move", "(II)Z"⟩
abbrev cX11_keep : ByteArray := prog_13_method_74_code
def yX11_keep : MethodName := ⟨RX11, "keep", "(II)I"⟩
abbrev cX11_worth : ByteArray := prog_13_method_75_code
def yX11_worth : MethodName := ⟨RX11, "worth", "(II)I"⟩
abbrev cX11_allWorths : ByteArray := prog_13_method_76_code
def yX11_allWorths : MethodName := ⟨RX11, "allWorths", "()I"⟩
abbrev cX11_all : ByteArray := prog_13_method_77_code
def yX11_all : MethodName := ⟨RX11, "all", "()I"⟩
abbrev cX11_isRound : ByteArray := prog_13_method_78_code
def yX11_isRound : MethodName := ⟨RX11, "isRound", "()Z"⟩
abbrev cX11_rounds : ByteArray := prog_13_method_79_code
def yX11_rounds : MethodName := ⟨RX11, "rounds", "(I)I"⟩
abbrev cX11_rest : ByteArray := prog_13_method_80_code
def yX11_rest : MethodName := ⟨RX11, "rest", "(I)I"⟩
abbrev cX11_proof : ByteArray := prog_13_method_81_code
def yX11_proof : MethodName := ⟨RX11, "proof", "()I"⟩
abbrev cX11_putsAside : ByteArray := prog_13_method_82_code
def yX11_putsAside : MethodName := ⟨RX11, "putsAside", "()V"⟩
abbrev cX11_takesBack : ByteArray := prog_13_method_83_code
def yX11_takesBack : MethodName := ⟨RX11, "takesBack", "()V"⟩
abbrev cX11_part : ByteArray := prog_13_method_84_code
def yX11_part : MethodName := ⟨RX11, "part", "(II)I"⟩
abbrev cX11_look_ : ByteArray := prog_13_method_85_code
def yX11_look_ : MethodName := ⟨RX11, "look", "(I)I"⟩
abbrev cX11_crowds : ByteArray := prog_13_method_86_code
def yX11_crowds : MethodName := ⟨RX11, "crowds", "(III)V"⟩
abbrev cX11_isSort : ByteArray := prog_13_method_87_code
def yX11_isSort : MethodName := ⟨RX11, "isSort", "(I)Z"⟩
abbrev cX11_size : ByteArray := prog_13_method_88_code
def yX11_size : MethodName := ⟨RX11, "size", "(IIII)I"⟩
abbrev cX11_many : ByteArray := prog_13_method_89_code
def yX11_many : MethodName := ⟨RX11, "many", "(II)I"⟩
abbrev cX11_under : ByteArray := prog_13_method_90_code
def yX11_under : MethodName := ⟨RX11, "under", "(III)I"⟩
abbrev cX11_ends : ByteArray := prog_13_method_91_code
def yX11_ends : MethodName := ⟨RX11, "ends", "(I)I"⟩
abbrev cX11_alike : ByteArray := prog_13_method_92_code
def yX11_alike : MethodName := ⟨RX11, "alike", "(I)I"⟩
abbrev cX11_pair : ByteArray := prog_13_method_93_code
def yX11_pair : MethodName := ⟨RX11, "pair", "(II)I"⟩
abbrev cX11_worthIn : ByteArray := prog_13_method_94_code
def yX11_worthIn : MethodName := ⟨RX11, "worthIn", "(II)I"⟩
abbrev cX11_would : ByteArray := prog_13_method_95_code
def yX11_would : MethodName := ⟨RX11, "would", "(II)I"⟩
abbrev cX11_wishOf : ByteArray := prog_13_method_96_code
def yX11_wishOf : MethodName := ⟨RX11, "wishOf", "(I)I"⟩
abbrev cX11_wish : ByteArray := prog_13_method_97_code
def yX11_wish : MethodName := ⟨RX11, "wish", "(I)I"⟩
abbrev cX11_choose : ByteArray := prog_13_method_98_code
def yX11_choose : MethodName := ⟨RX11, "choose", "(I)I"⟩
abbrev cX11_stable : ByteArray := prog_13_method_99_code
def yX11_stable : MethodName := ⟨RX11, "stable", "()I"⟩
abbrev cX11_gap : ByteArray := prog_13_method_100_code
def yX11_gap : MethodName := ⟨RX11, "gap", "(I)I"⟩
abbrev cX11_moreAlone : ByteArray := prog_13_method_101_code
def yX11_moreAlone : MethodName := ⟨RX11, "moreAlone", "(I)I"⟩
abbrev cX11_rings : ByteArray := prog_13_method_102_code
def yX11_rings : MethodName := ⟨RX11, "rings", "(II)I"⟩
abbrev cX11_clip : ByteArray := prog_13_method_103_code
def yX11_clip : MethodName := ⟨RX11, "clip", "(J)J"⟩
abbrev cX11_floor : ByteArray := prog_13_method_104_code
def yX11_floor : MethodName := ⟨RX11, "floor", "(JJ)J"⟩
abbrev cX11_puts : ByteArray := prog_13_method_105_code
def yX11_puts : MethodName := ⟨RX11, "puts", "(J)V"⟩
abbrev cX11_joins : ByteArray := prog_13_method_106_code
def yX11_joins : MethodName := ⟨RX11, "joins", "(I)V"⟩
abbrev cX11_told : ByteArray := prog_13_method_107_code
def yX11_told : MethodName := ⟨RX11, "told", "(II)J"⟩
abbrev cX11_asked : ByteArray := prog_13_method_108_code
def yX11_asked : MethodName := ⟨RX11, "asked", "(I)I"⟩
abbrev cX11_seed : ByteArray := prog_13_method_109_code
def yX11_seed : MethodName := ⟨RX11, "seed", "(I)Z"⟩
abbrev cX11_draw : ByteArray := prog_13_method_110_code
def yX11_draw : MethodName := ⟨RX11, "draw", "(I)I"⟩
abbrev cX11_drawsFrom : ByteArray := prog_13_method_111_code
def yX11_drawsFrom : MethodName := ⟨RX11, "drawsFrom", "(I)V"⟩
abbrev cX11_drawsAll : ByteArray := prog_13_method_112_code
def yX11_drawsAll : MethodName := ⟨RX11, "drawsAll", "(I)V"⟩
abbrev cX11_ruledHours : ByteArray := prog_13_method_113_code
def yX11_ruledHours : MethodName := ⟨RX11, "ruledHours", "(I)I"⟩
abbrev cX11_drawnBy : ByteArray := prog_13_method_114_code
def yX11_drawnBy : MethodName := ⟨RX11, "drawnBy", "(I)I"⟩
abbrev cX11_cut : ByteArray := prog_13_method_115_code
def yX11_cut : MethodName := ⟨RX11, "cut", "(J)I"⟩
abbrev cX11_week : ByteArray := prog_13_method_116_code
def yX11_week : MethodName := ⟨RX11, "week", "()I"⟩
abbrev cX11_run : ByteArray := prog_13_method_117_code
def yX11_run : MethodName := ⟨RX11, "run", "(I)I"⟩
abbrev cX11_drew : ByteArray := prog_13_method_118_code
def yX11_drew : MethodName := ⟨RX11, "drew", "(I)I"⟩
abbrev cX11_said : ByteArray := prog_13_method_119_code
def yX11_said : MethodName := ⟨RX11, "said", "(II)Z"⟩
abbrev cX11_less : ByteArray := prog_13_method_120_code
def yX11_less : MethodName := ⟨RX11, "less", "()I"⟩
abbrev cX11_writes : ByteArray := prog_13_method_121_code
def yX11_writes : MethodName := ⟨RX11, "writes", "(I)V"⟩
abbrev cX11_writesTwo : ByteArray := prog_13_method_122_code
def yX11_writesTwo : MethodName := ⟨RX11, "writesTwo", "(I)V"⟩
abbrev cX11_checked : ByteArray := prog_13_method_123_code
def yX11_checked : MethodName := ⟨RX11, "checked", "([II)I"⟩
abbrev cX11_image : ByteArray := prog_13_method_124_code
def yX11_image : MethodName := ⟨RX11, "image", "()I"⟩
abbrev cX11_octet : ByteArray := prog_13_method_125_code
def yX11_octet : MethodName := ⟨RX11, "octet", "(I)I"⟩
abbrev cX11_twoAt : ByteArray := prog_13_method_126_code
def yX11_twoAt : MethodName := ⟨RX11, "twoAt", "(I)I"⟩
abbrev cX11_isTold : ByteArray := prog_13_method_127_code
def yX11_isTold : MethodName := ⟨RX11, "isTold", "(I)Z"⟩
abbrev cX11_on : ByteArray := prog_13_method_128_code
def yX11_on : MethodName := ⟨RX11, "on", "()Z"⟩
def RJx145de : String := "java/io/Serializable"
def RJx9f9b0 : String := "java/lang/CharSequence"
def RJxb160c : String := "java/lang/Comparable"
def RJ9 : String := "java/lang/Math"
abbrev cJ9_floorDiv_7cf53 : ByteArray := prog_14_method_47_code
def yJ9_floorDiv_7cf53 : MethodName := ⟨RJ9, "floorDiv", "(II)I"⟩
abbrev cJ9_abs_0f7a4 : ByteArray := prog_14_method_59_code
def yJ9_abs_0f7a4 : MethodName := ⟨RJ9, "abs", "(I)I"⟩
abbrev cJ9_max_7cf53 : ByteArray := prog_14_method_65_code
def yJ9_max_7cf53 : MethodName := ⟨RJ9, "max", "(II)I"⟩
abbrev cJ9_max_f86c9 : ByteArray := prog_14_method_66_code
def yJ9_max_f86c9 : MethodName := ⟨RJ9, "max", "(JJ)J"⟩
abbrev cJ9_min_7cf53 : ByteArray := prog_14_method_69_code
def yJ9_min_7cf53 : MethodName := ⟨RJ9, "min", "(II)I"⟩
abbrev cJ9_min_f86c9 : ByteArray := prog_14_method_70_code
def yJ9_min_f86c9 : MethodName := ⟨RJ9, "min", "(JJ)J"⟩
def RJ0 : String := "java/lang/String"
abbrev cJ0_length_8abf5 : ByteArray := prog_15_method_54_code
def yJ0_length_8abf5 : MethodName := ⟨RJ0, "length", "()I"⟩
abbrev cJ0_charAt_5068e : ByteArray := prog_15_method_56_code
def yJ0_charAt_5068e : MethodName := ⟨RJ0, "charAt", "(I)C"⟩
abbrev cJ0_coder_7d493 : ByteArray := prog_15_method_152_code
def yJ0_coder_7d493 : MethodName := ⟨RJ0, "coder", "()B"⟩
abbrev cJ0_isLatin1_aae02 : ByteArray := prog_15_method_154_code
def yJ0_isLatin1_aae02 : MethodName := ⟨RJ0, "isLatin1", "()Z"⟩
abbrev cJ0_checkIndex_df160 : ByteArray := prog_15_method_155_code
def yJ0_checkIndex_df160 : MethodName := ⟨RJ0, "checkIndex", "(II)V"⟩
def RJ1 : String := "java/lang/StringLatin1"
abbrev cJ1_charAt_3b067 : ByteArray := prog_16_method_2_code
def yJ1_charAt_3b067 : MethodName := ⟨RJ1, "charAt", "([BI)C"⟩
def RJ2 : String := "java/lang/StringUTF16"
abbrev cJ2_getChar_3b067 : ByteArray := prog_17_method_5_code
def yJ2_getChar_3b067 : MethodName := ⟨RJ2, "getChar", "([BI)C"⟩
abbrev cJ2_length_9d52b : ByteArray := prog_17_method_6_code
def yJ2_length_9d52b : MethodName := ⟨RJ2, "length", "([B)I"⟩
abbrev cJ2_charAt_3b067 : ByteArray := prog_17_method_83_code
def yJ2_charAt_3b067 : MethodName := ⟨RJ2, "charAt", "([BI)C"⟩
abbrev cJ2_checkIndex_2214a : ByteArray := prog_17_method_91_code
def yJ2_checkIndex_2214a : MethodName := ⟨RJ2, "checkIndex", "(I[B)V"⟩
def RJxfd54e : String := "java/lang/constant/Constable"
def RJx3cf43 : String := "java/lang/constant/ConstantDesc"
def RJ7 : String := "java/util/Arrays"
abbrev cJ7_fill_53178 : ByteArray := prog_18_method_103_code
def yJ7_fill_53178 : MethodName := ⟨RJ7, "fill", "([II)V"⟩
def RJ3 : String := "jdk/internal/util/Preconditions"
abbrev cJ3_checkIndex_8e157 : ByteArray := prog_19_method_11_code
def yJ3_checkIndex_8e157 : MethodName := ⟨RJ3, "checkIndex", "(IILjava/util/function/BiFunction;)I"⟩
def RL : String := "WageHatsLaw"
abbrev cL_law : ByteArray := code
def yL_law : MethodName := ⟨RL, "law", "([I)Z"⟩
abbrev vwCl : List vw_C := [(RX0, TX0, 16), (RX1, TX1, 6), (RX2, TX2, 10), (RX3, TX3, 10), (RX4, TX4, 8), (RX5, TX5, 7), (RX6, TX6, 7), (RX7, TX7, 6), (RX8, TX8, 2), (RX9, TX9, 10), (RX10, TX10, 9), (RX11, TX11, 94)]
